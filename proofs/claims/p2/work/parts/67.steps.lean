/-! The reference's rows of drawn: steps and digits -/
def stp (x : Nat → Nat) : Nat → Nat
  | 0 => 1
  | k + 1 => stp x k * (x k + 1)
def dg (x : Nat → Nat) (n k : Nat) : Nat := n / stp x k % (x k + 1)
section STS
variable {x y : Nat → Nat}
theorem stp_pos (x : Nat → Nat) : ∀ k, 0 < stp x k
  | 0 => Nat.one_pos
  | k + 1 => Nat.mul_pos (stp_pos x k) (Nat.succ_pos _)
theorem stp_mono (x : Nat → Nat) : ∀ a b, a ≤ b → stp x a ≤ stp x b := by
  intro a b h
  induction b with
  | zero => have : a = 0 := by omega
            rw [this]; exact Nat.le_refl _
  | succ b ih =>
    by_cases q : a = b + 1
    · rw [q]; exact Nat.le_refl _
    · exact Nat.le_trans (ih (by omega)) (Nat.le_mul_of_pos_right _ (Nat.succ_pos _))
theorem r1_le : ∀ r, r ≤ 18 → (r + 1) * 225 * 11 ^ r ≤ 363 * 15 ^ r := by decide
theorem stp_pow : ∀ n, (∀ k, k < n → x k ≤ 18) → stp x n * 225 ^ n * 11 ^ (sumN x n) ≤ 363 ^ n * 15 ^ (sumN x n)
  | 0, _ => by
    show 1 * 225 ^ 0 * 11 ^ 0 ≤ 363 ^ 0 * 15 ^ 0
    decide
  | n + 1, h => by
    have h1 := stp_pow n (fun k hk => h k (by omega))
    have h2 := r1_le (x n) (h n (by omega))
    show stp x n * (x n + 1) * 225 ^ (n + 1) * 11 ^ (sumN x n + x n) ≤ 363 ^ (n + 1) * 15 ^ (sumN x n + x n)
    rw [Nat.pow_succ, Nat.pow_succ, Nat.pow_add, Nat.pow_add]
    calc stp x n * (x n + 1) * (225 ^ n * 225) * (11 ^ sumN x n * 11 ^ x n) = (stp x n * 225 ^ n * 11 ^ sumN x n) * ((x n + 1) * 225 * 11 ^ x n) := by
          simp only [Nat.mul_assoc, Nat.mul_left_comm, Nat.mul_comm]
      _ ≤ (363 ^ n * 15 ^ sumN x n) * (363 * 15 ^ x n) := Nat.mul_le_mul h1 h2
      _ = 363 ^ n * 363 * (15 ^ sumN x n * 15 ^ x n) := by simp only [Nat.mul_assoc, Nat.mul_left_comm, Nat.mul_comm]
theorem num_lt : ∀ s, s ≤ 18 → 363 ^ 8 * 15 ^ s < 20000 * (225 ^ 8 * 11 ^ s) := by decide
theorem stp_lt (h : sumN x 8 ≤ 18) : stp x 8 < 20000 := by
  have h1 := stp_pow (x := x) 8 (fun k hk => Nat.le_trans (sumN_mem 8 k hk) h)
  have h2 := num_lt _ h
  rw [Nat.mul_assoc] at h1
  have h3 : stp x 8 * (225 ^ 8 * 11 ^ sumN x 8) < 20000 * (225 ^ 8 * 11 ^ sumN x 8) := Nat.lt_of_le_of_lt h1 h2
  exact Nat.lt_of_mul_lt_mul_right h3
theorem stp_le (h : sumN x 8 ≤ 18) {k : Nat} (hk : k ≤ 8) : stp x k < 20000 := Nat.lt_of_le_of_lt (stp_mono x k 8 hk) (stp_lt h)
theorem dg_le {n k : Nat} : dg x n k ≤ x k := by
  have := Nat.mod_lt (n / stp x k) (Nat.succ_pos (x k))
  unfold dg
  show n / stp x k % (x k + 1) ≤ x k
  have e : n / stp x k % (x k + 1) < x k + 1 := this
  omega
theorem dg_pos {n k : Nat} (h : 0 < dg x n k) : stp x k ≤ n := by
  rcases Nat.lt_or_ge n (stp x k) with q | q
  · unfold dg at h
    rw [Nat.div_eq_of_lt q, Nat.zero_mod] at h
    exact absurd h (Nat.lt_irrefl 0)
  · exact q
end STS
def STP (m : Nat) (x : Nat → Nat) (S : PS) : Prop := ∀ k, k ≤ 8 → sA S (m + 40) k = nI (stp x k)
theorem stpStep {m i idx : Nat} {x : Nat → Nat} {v : Int32} {T : PS} (h : ∀ j, j ≤ i → sA T (m + 40) j = nI (stp x j)) (ei : idx = i + 1) (ev : v = nI (stp x (i + 1))) : ∀ j, j ≤ i + 1 → sA (uA T (m + 40) idx v) (m + 40) j = nI (stp x j) := fun j hj => by
  subst ei ev
  exact up2_cases2 (fun _ q => by rw [q]) (fun q => h j (by have : ¬ j = i + 1 := fun z => q ⟨rfl, z⟩; omega))
theorem stpB {x : Nat → Nat} {i : Nat} (h : x i = 0) : nI (stp x i) * 1 = nI (stp x (i + 1)) := by
  rw [eqMul (Eq.refl (nI (stp x i))) (show (1 : Int32) = nI 1 from rfl)]
  show nI (stp x i * 1) = nI (stp x i * (x i + 1))
  rw [h]
theorem neN {x : Int32} {a : Nat} (e : x = nI a) (h : 0 < a) (h2 : a < 2 ^ 31) : ¬ x = 0 := by rw [e]; exact nI_ne0 h h2
set_option maxRecDepth 100000 in
set_option maxHeartbeats 8000000 in
theorem s_mfillsSteps (l : Launch) (Γ : GC) (S : PS) {m : Nat} {g : MG} (F : isL lyModel Γ.2.2.2.2.1 S m) (h : TXT m g S) (x y : Nat → Nat) (hr : ROW (m + 38) 0 x y S) (hz : ∀ k, k < 8 → gK g ≤ k → x k = 0) (hs : sumN x 8 ≤ 18) : CT l Γ yX12_fillsSteps cX12_fillsSteps 2 none (0) (0) (0) [.ref m] S (RV (fun S' => FZ [m + 40] [] S S' ∧ STP m x S')) := by
  refine CT.of RX12 "fillsSteps" [some (.ref m), none] (by decide +kernel) rfl rfl (Nat.le_of_ble_eq_true rfl) rfl (fun M hM => ?_)
  subst hM
  have hK := h.k8
  have hl := h.l2
  refine V_aload_0 0 dX12_fillsSteps_0 ?_
  refine V_getR 1 (c := 12) 59 (F.r 0 59 40 rfl) dX12_fillsSteps_1 fl_RX12_137 (F.m 0 (Nat.le_of_ble_eq_true rfl)) (F.k 0 12 rfl) (Nat.le_of_ble_eq_true rfl) (Nat.le_of_ble_eq_true rfl) rfl ?_
  refine V_iconst 4 (0) dX12_fillsSteps_4 (by decide) ?_
  refine V_iconst 5 (1) dX12_fillsSteps_5 (by decide) ?_
  refine V_iastore2 6 dX12_fillsSteps_6 (F.m 40 (Nat.le_of_ble_eq_true rfl)) (F.k 40 14 rfl) (F.l 40 9 rfl) ?_ ?_
  · exact (by unfold vp_in; decide)
  refine V_abs (fun T9 => FZ [m + 40] [] S T9 ∧ ((fun T => ∀ j, j ≤ 0 → sA T (m + 40) j = nI (stp x j)) T9)) ⟨(FZ.rf (X := [m + 40]) (Y := []) (S := S)).uA (by simp), by (intro j hj; have : j = 0 := (by omega); subst this; exact up2_s _ _ _ _)⟩ (fun S1 hh4 => ?_)
  obtain ⟨h2, p3⟩ := hh4
  refine V_iconst 7 (0) dX12_fillsSteps_7 (by decide) ?_
  refine V_istore_1 8 dX12_fillsSteps_8 rfl (Nat.le_of_ble_eq_true rfl) ?_
  refine V_lvw (by repeat (first | exact trivial | refine ⟨rfl, ?_⟩)) (V_while (α := Nat × PS) (fun z5 => 8 - z5.1) (fun z5 => z5.1 ≤ 8 ∧ FZ [m + 40] [] S z5.2 ∧ ((fun T => ∀ j, j ≤ z5.1 → sA T (m + 40) j = nI (stp x j)) z5.2)) (fun z5 => z5.2) (fun z5 => [some (.ref m), some (.int (nI z5.1))]) (0, _) ⟨Nat.zero_le _, h2, p3⟩ (fun z5 hx11 ih10 => ?b12))
  obtain ⟨i6, S7⟩ := z5
  obtain ⟨hi8, h9, p14⟩ := hx11
  dsimp only at hi8 h9 p14 ih10 ⊢
  refine V_iload_1 9 dX12_fillsSteps_9 ?_
  refine V_bipush 10 (8) dX12_fillsSteps_10 (by decide) ?_
  refine V_icmp_ge 12 61 dX12_fillsSteps_12 (by decide) (fun c15 => ?_) (fun c15 => ?_)
  ·
    try have nf16 := (nI_leE (show (8 : Int32) = nI 8 from rfl) (Eq.refl (nI i6)) (by omega) (by omega)).mp c15
    refine V_vret 61 dX12_fillsSteps_61 rfl (Nat.le_of_ble_eq_true rfl) (Nat.le_of_ble_eq_true rfl) (RV.mk ⟨h9, fun k hk => p14 k (by omega)⟩)
  ·
    try have nf17 := mt (nI_leE (show (8 : Int32) = nI 8 from rfl) (Eq.refl (nI i6)) (by omega) (by omega)).mpr c15
    have lt18 := nI_lt8 (by decide) hi8 c15
    have hi8 : i6 < 8 := by omega
    have hst := stp_le hs (show i6 ≤ 8 by omega)
    have hst2 := stp_le hs (show i6 + 1 ≤ 8 by omega)
    have hx18 := Nat.le_trans (sumN_mem (f := x) 8 i6 (by omega)) hs
    refine V_aload_0 15 dX12_fillsSteps_15 ?_
    refine V_getR 16 (c := 12) 59 ((F.ss h9.1).r 0 59 40 rfl) dX12_fillsSteps_16 fl_RX12_137 ((F.ss h9.1).m 0 (Nat.le_of_ble_eq_true rfl)) ((F.ss h9.1).k 0 12 rfl) (Nat.le_of_ble_eq_true rfl) (Nat.le_of_ble_eq_true rfl) rfl ?_
    refine V_iload_1 19 dX12_fillsSteps_19 ?_
    refine V_iconst 20 (1) dX12_fillsSteps_20 (by decide) ?_
    refine V_iadd 21 dX12_fillsSteps_21 ?_
    refine V_aload_0 22 dX12_fillsSteps_22 ?_
    refine V_getR 23 (c := 12) 59 ((F.ss h9.1).r 0 59 40 rfl) dX12_fillsSteps_23 fl_RX12_137 ((F.ss h9.1).m 0 (Nat.le_of_ble_eq_true rfl)) ((F.ss h9.1).k 0 12 rfl) (Nat.le_of_ble_eq_true rfl) (Nat.le_of_ble_eq_true rfl) rfl ?_
    refine V_iload_1 26 dX12_fillsSteps_26 ?_
    refine V_iaload2 27 dX12_fillsSteps_27 ((F.ss h9.1).m 40 (Nat.le_of_ble_eq_true rfl)) ((F.ss h9.1).k 40 14 rfl) ((F.ss h9.1).l 40 9 rfl) ?_ ?_
    · exact vp_in_nI (by omega) (by decide)
    rw [clN (Eq.refl (nI i6)) (by omega)]
    rw [p14 _ (Nat.le_refl _)]
    refine V_iload_1 28 dX12_fillsSteps_28 ?_
    refine V_aload_0 29 dX12_fillsSteps_29 ?_
    refine V_getR 30 (c := 12) 23 ((F.ss h9.1).r 0 23 11 rfl) dX12_fillsSteps_30 fl_RX12_49 ((F.ss h9.1).m 0 (Nat.le_of_ble_eq_true rfl)) ((F.ss h9.1).k 0 12 rfl) (Nat.le_of_ble_eq_true rfl) (Nat.le_of_ble_eq_true rfl) rfl ?_
    refine V_aload_0 33 dX12_fillsSteps_33 ?_
    refine V_getI 34 (c := 12) 18 dX12_fillsSteps_34 fl_RX12_264 ((F.ss h9.1).m 0 (Nat.le_of_ble_eq_true rfl)) ((F.ss h9.1).k 0 12 rfl) (Nat.le_of_ble_eq_true rfl) (Nat.le_of_ble_eq_true rfl) rfl ?_
    rw [(h.z [40] [] h9 rfl rfl rfl rfl).lv]
    refine V_iaload2 37 dX12_fillsSteps_37 ((F.ss h9.1).m 11 (Nat.le_of_ble_eq_true rfl)) ((F.ss h9.1).k 11 14 rfl) ((F.ss h9.1).l 11 2 rfl) ?_ ?_
    · exact vpN (Eq.refl (nI (gl g))) (by omega) (by decide)
    rw [clN (Eq.refl (nI (gl g))) (by omega)]
    rw [(h.z [40] [] h9 rfl rfl rfl rfl).ki]
    refine V_icmp_ge 38 52 dX12_fillsSteps_38 (by decide) (fun c19 => ?_) (fun c19 => ?_)
    ·
      try have nf20 := (nI_leE (Eq.refl (nI (gK g))) (Eq.refl (nI i6)) (by omega) (by omega)).mp c19
      refine V_iconst 52 (1) dX12_fillsSteps_52 (by decide) ?_
      refine V_imul 53 dX12_fillsSteps_53 ?_
      refine V_iastore2 54 dX12_fillsSteps_54 ((F.ss h9.1).m 40 (Nat.le_of_ble_eq_true rfl)) ((F.ss h9.1).k 40 14 rfl) ((F.ss h9.1).l 40 9 rfl) ?_ ?_
      · exact vpN (eqAdd (Eq.refl (nI i6)) (show (1 : Int32) = nI 1 from rfl)) (by omega) (by decide)
      refine V_abs (fun T9 => FZ [m + 40] [] S T9 ∧ ((fun T => ∀ j, j ≤ i6 + 1 → sA T (m + 40) j = nI (stp x j)) T9)) ⟨h9.uA (by simp), by first | exact stpStep p14 (clN (nI_1 _) (by omega)) (eqMul (Eq.refl _) (nI_1 _)) | exact stpStep p14 (clN (nI_1 _) (by omega)) (stpB (hz _ hi8 (by omega)))⟩ (fun S21 hh24 => ?_)
      obtain ⟨h22, p23⟩ := hh24
      refine V_iinc_1 55 (1) dX12_fillsSteps_55 (by decide) rfl (Nat.le_of_ble_eq_true rfl) ?_
      refine V_goto 58 9 dX12_fillsSteps_58 (by decide) ?_
      rw [← nI_succ]
      refine V_lvw (by repeat (first | exact trivial | refine ⟨rfl, ?_⟩)) (ih10 (i6 + 1, _) ⟨by dsimp only; omega, h22, p23⟩ (by dsimp only; omega))
    ·
      try have nf25 := mt (nI_leE (Eq.refl (nI (gK g))) (Eq.refl (nI i6)) (by omega) (by omega)).mpr c19
      refine V_aload_0 41 dX12_fillsSteps_41 ?_
      refine V_getR 42 (c := 12) 54 ((F.ss h9.1).r 0 54 38 rfl) dX12_fillsSteps_42 fl_RX12_131 ((F.ss h9.1).m 0 (Nat.le_of_ble_eq_true rfl)) ((F.ss h9.1).k 0 12 rfl) (Nat.le_of_ble_eq_true rfl) (Nat.le_of_ble_eq_true rfl) rfl ?_
      refine V_iload_1 45 dX12_fillsSteps_45 ?_
      refine V_iaload2 46 dX12_fillsSteps_46 ((F.ss h9.1).m 38 (Nat.le_of_ble_eq_true rfl)) ((F.ss h9.1).k 38 14 rfl) ((F.ss h9.1).l 38 30 rfl) ?_ ?_
      · exact vp_in_nI (by omega) (by decide)
      rw [clN (Eq.refl (nI i6)) (by omega)]
      rw [(hr.fz h9 (by simp)).gx hi8]
      refine V_iconst 47 (1) dX12_fillsSteps_47 (by decide) ?_
      refine V_iadd 48 dX12_fillsSteps_48 ?_
      refine V_goto 49 53 dX12_fillsSteps_49 (by decide) ?_
      refine V_imul 53 dX12_fillsSteps_53 ?_
      refine V_iastore2 54 dX12_fillsSteps_54 ((F.ss h9.1).m 40 (Nat.le_of_ble_eq_true rfl)) ((F.ss h9.1).k 40 14 rfl) ((F.ss h9.1).l 40 9 rfl) ?_ ?_
      · exact vpN (eqAdd (Eq.refl (nI i6)) (show (1 : Int32) = nI 1 from rfl)) (by omega) (by decide)
      refine V_abs (fun T9 => FZ [m + 40] [] S T9 ∧ ((fun T => ∀ j, j ≤ i6 + 1 → sA T (m + 40) j = nI (stp x j)) T9)) ⟨h9.uA (by simp), by first | exact stpStep p14 (clN (nI_1 _) (by omega)) (eqMul (Eq.refl _) (nI_1 _)) | exact stpStep p14 (clN (nI_1 _) (by omega)) (stpB (hz _ hi8 (by omega)))⟩ (fun S26 hh29 => ?_)
      obtain ⟨h27, p28⟩ := hh29
      refine V_iinc_1 55 (1) dX12_fillsSteps_55 (by decide) rfl (Nat.le_of_ble_eq_true rfl) ?_
      refine V_goto 58 9 dX12_fillsSteps_58 (by decide) ?_
      rw [← nI_succ]
      refine V_lvw (by repeat (first | exact trivial | refine ⟨rfl, ?_⟩)) (ih10 (i6 + 1, _) ⟨by dsimp only; omega, h27, p28⟩ (by dsimp only; omega))
theorem dgStep {m i idx n : Nat} {x : Nat → Nat} {v : Int32} {T : PS} (h : ∀ j, j < i → sA T (m + 42) j = nI (dg x n j)) (ei : idx = i) (ev : v = nI (dg x n i)) : ∀ j, j < i + 1 → sA (uA T (m + 42) idx v) (m + 42) j = nI (dg x n j) := fun j hj => by
  subst ei ev
  exact up2_cases2 (fun _ q => by rw [q]) (fun q => h j (by have : ¬ j = idx := fun z => q ⟨rfl, z⟩; omega))
theorem dg0 {x : Nat → Nat} {n k : Nat} (h : x k = 0) : (0 : Int32) = nI (dg x n k) := by
  unfold dg; rw [h, Nat.mod_one]; rfl
theorem stp_at {m : Nat} {x : Nat → Nat} {S T : PS} {X : List Nat} {Y : List (Nat × Nat)} (hp : STP m x S) (e : FZ X Y S T) (hx : m + 40 ∉ X) {k : Nat} (hk : k ≤ 8) : sA T (m + 40) k = nI (stp x k) := by rw [e.2.1 _ hx]; exact hp k hk
set_option maxRecDepth 100000 in
set_option maxHeartbeats 8000000 in
theorem s_mtakes (l : Launch) (Γ : GC) (S : PS) {m : Nat} {g : MG} (F : isL lyModel Γ.2.2.2.2.1 S m) (h : TXT m g S) (x y : Nat → Nat) (hr : ROW (m + 38) 0 x y S) (hz : ∀ k, k < 8 → gK g ≤ k → x k = 0) (hs : sumN x 8 ≤ 18) (hp : STP m x S) {n : Nat} (hn : n < 20000) : CT l Γ yX12_takesNumber cX12_takesNumber 3 none (0) (0) (0) [.ref m, .int (nI n)] S (RV (fun S' => FZ [m + 42] [] S S' ∧ ∀ k, k < 8 → sA S' (m + 42) k = nI (dg x n k))) := by
  refine CT.of RX12 "takesNumber" [some (.ref m), some (.int (nI n)), none] (by decide +kernel) rfl rfl (Nat.le_of_ble_eq_true rfl) rfl (fun M hM => ?_)
  subst hM
  have hK := h.k8
  have hl := h.l2
  have p1 : ((fun T => ∀ j, j < 0 → sA T (m + 42) j = nI (dg x n j)) S) := fun j hj => absurd hj (Nat.not_lt_zero _)
  refine V_iconst 0 (0) dX12_takesNumber_0 (by decide) ?_
  refine V_istore_2 1 dX12_takesNumber_1 rfl (Nat.le_of_ble_eq_true rfl) ?_
  refine V_lvw (by repeat (first | exact trivial | refine ⟨rfl, ?_⟩)) (V_while (α := Nat × PS) (fun z2 => 8 - z2.1) (fun z2 => z2.1 ≤ 8 ∧ FZ [m + 42] [] S z2.2 ∧ ((fun T => ∀ j, j < z2.1 → sA T (m + 42) j = nI (dg x n j)) z2.2)) (fun z2 => z2.2) (fun z2 => [some (.ref m), some (.int (nI n)), some (.int (nI z2.1))]) (0, _) ⟨Nat.zero_le _, FZ.rf, p1⟩ (fun z2 hx8 ih7 => ?b9))
  obtain ⟨i3, S4⟩ := z2
  obtain ⟨hi5, h6, p11⟩ := hx8
  dsimp only at hi5 h6 p11 ih7 ⊢
  refine V_iload_2 2 dX12_takesNumber_2 ?_
  refine V_bipush 3 (8) dX12_takesNumber_3 (by decide) ?_
  refine V_icmp_ge 5 54 dX12_takesNumber_5 (by decide) (fun c12 => ?_) (fun c12 => ?_)
  ·
    try have nf13 := (nI_leE (show (8 : Int32) = nI 8 from rfl) (Eq.refl (nI i3)) (by omega) (by omega)).mp c12
    refine V_vret 54 dX12_takesNumber_54 rfl (Nat.le_of_ble_eq_true rfl) (Nat.le_of_ble_eq_true rfl) (RV.mk ⟨h6, fun k hk => p11 k (by omega)⟩)
  ·
    try have nf14 := mt (nI_leE (show (8 : Int32) = nI 8 from rfl) (Eq.refl (nI i3)) (by omega) (by omega)).mpr c12
    have lt15 := nI_lt8 (by decide) hi5 c12
    have hi8 : i3 < 8 := by omega
    have hst := stp_le hs (show i3 ≤ 8 by omega)
    have hsp := stp_pos x i3
    have hx18 := Nat.le_trans (sumN_mem (f := x) 8 i3 (by omega)) hs
    have hdv : n / stp x i3 ≤ n := Nat.div_le_self _ _
    refine V_aload_0 8 dX12_takesNumber_8 ?_
    refine V_getR 9 (c := 12) 61 ((F.ss h6.1).r 0 61 42 rfl) dX12_takesNumber_9 fl_RX12_143 ((F.ss h6.1).m 0 (Nat.le_of_ble_eq_true rfl)) ((F.ss h6.1).k 0 12 rfl) (Nat.le_of_ble_eq_true rfl) (Nat.le_of_ble_eq_true rfl) rfl ?_
    refine V_iload_2 12 dX12_takesNumber_12 ?_
    refine V_iload_2 13 dX12_takesNumber_13 ?_
    refine V_aload_0 14 dX12_takesNumber_14 ?_
    refine V_getR 15 (c := 12) 23 ((F.ss h6.1).r 0 23 11 rfl) dX12_takesNumber_15 fl_RX12_49 ((F.ss h6.1).m 0 (Nat.le_of_ble_eq_true rfl)) ((F.ss h6.1).k 0 12 rfl) (Nat.le_of_ble_eq_true rfl) (Nat.le_of_ble_eq_true rfl) rfl ?_
    refine V_aload_0 18 dX12_takesNumber_18 ?_
    refine V_getI 19 (c := 12) 18 dX12_takesNumber_19 fl_RX12_264 ((F.ss h6.1).m 0 (Nat.le_of_ble_eq_true rfl)) ((F.ss h6.1).k 0 12 rfl) (Nat.le_of_ble_eq_true rfl) (Nat.le_of_ble_eq_true rfl) rfl ?_
    rw [(h.z [42] [] h6 rfl rfl rfl rfl).lv]
    refine V_iaload2 22 dX12_takesNumber_22 ((F.ss h6.1).m 11 (Nat.le_of_ble_eq_true rfl)) ((F.ss h6.1).k 11 14 rfl) ((F.ss h6.1).l 11 2 rfl) ?_ ?_
    · exact vpN (Eq.refl (nI (gl g))) (by omega) (by decide)
    rw [clN (Eq.refl (nI (gl g))) (by omega)]
    rw [(h.z [42] [] h6 rfl rfl rfl rfl).ki]
    refine V_icmp_ge 23 46 dX12_takesNumber_23 (by decide) (fun c16 => ?_) (fun c16 => ?_)
    ·
      try have nf17 := (nI_leE (Eq.refl (nI (gK g))) (Eq.refl (nI i3)) (by omega) (by omega)).mp c16
      refine V_iconst 46 (0) dX12_takesNumber_46 (by decide) ?_
      refine V_iastore2 47 dX12_takesNumber_47 ((F.ss h6.1).m 42 (Nat.le_of_ble_eq_true rfl)) ((F.ss h6.1).k 42 14 rfl) ((F.ss h6.1).l 42 8 rfl) ?_ ?_
      · exact vp_in_nI (by omega) (by decide)
      refine V_abs (fun T9 => FZ [m + 42] [] S T9 ∧ ((fun T => ∀ j, j < i3 + 1 → sA T (m + 42) j = nI (dg x n j)) T9)) ⟨h6.uA (by simp), by first | exact dgStep p11 (nI_clamp (by omega)) (eqRem (eqDiv (Eq.refl _) (Eq.refl _) (by omega) (by omega) (by omega)) (nI_1 _) (by omega) (by omega) (by omega)) | exact dgStep p11 (nI_clamp (by omega)) (dg0 (hz _ hi8 (by omega)))⟩ (fun S18 hh21 => ?_)
      obtain ⟨h19, p20⟩ := hh21
      refine V_iinc_2 48 (1) dX12_takesNumber_48 (by decide) rfl (Nat.le_of_ble_eq_true rfl) ?_
      refine V_goto 51 2 dX12_takesNumber_51 (by decide) ?_
      rw [← nI_succ]
      refine V_lvw (by repeat (first | exact trivial | refine ⟨rfl, ?_⟩)) (ih7 (i3 + 1, _) ⟨by dsimp only; omega, h19, p20⟩ (by dsimp only; omega))
    ·
      try have nf22 := mt (nI_leE (Eq.refl (nI (gK g))) (Eq.refl (nI i3)) (by omega) (by omega)).mpr c16
      refine V_iload_1 26 dX12_takesNumber_26 ?_
      refine V_aload_0 27 dX12_takesNumber_27 ?_
      refine V_getR 28 (c := 12) 59 ((F.ss h6.1).r 0 59 40 rfl) dX12_takesNumber_28 fl_RX12_137 ((F.ss h6.1).m 0 (Nat.le_of_ble_eq_true rfl)) ((F.ss h6.1).k 0 12 rfl) (Nat.le_of_ble_eq_true rfl) (Nat.le_of_ble_eq_true rfl) rfl ?_
      refine V_iload_2 31 dX12_takesNumber_31 ?_
      refine V_iaload2 32 dX12_takesNumber_32 ((F.ss h6.1).m 40 (Nat.le_of_ble_eq_true rfl)) ((F.ss h6.1).k 40 14 rfl) ((F.ss h6.1).l 40 9 rfl) ?_ ?_
      · exact vp_in_nI (by omega) (by decide)
      rw [clN (Eq.refl (nI i3)) (by omega)]
      rw [(stp_at hp h6 (by simp) (k := i3) (by omega))]
      refine V_idiv 33 dX12_takesNumber_33 (nI_ne0 hsp (by omega)) ?_
      refine V_aload_0 34 dX12_takesNumber_34 ?_
      refine V_getR 35 (c := 12) 54 ((F.ss h6.1).r 0 54 38 rfl) dX12_takesNumber_35 fl_RX12_131 ((F.ss h6.1).m 0 (Nat.le_of_ble_eq_true rfl)) ((F.ss h6.1).k 0 12 rfl) (Nat.le_of_ble_eq_true rfl) (Nat.le_of_ble_eq_true rfl) rfl ?_
      refine V_iload_2 38 dX12_takesNumber_38 ?_
      refine V_iaload2 39 dX12_takesNumber_39 ((F.ss h6.1).m 38 (Nat.le_of_ble_eq_true rfl)) ((F.ss h6.1).k 38 14 rfl) ((F.ss h6.1).l 38 30 rfl) ?_ ?_
      · exact vp_in_nI (by omega) (by decide)
      rw [clN (Eq.refl (nI i3)) (by omega)]
      rw [(hr.fz h6 (by simp)).gx hi8]
      refine V_iconst 40 (1) dX12_takesNumber_40 (by decide) ?_
      refine V_iadd 41 dX12_takesNumber_41 ?_
      refine V_irem 42 dX12_takesNumber_42 (neN (nI_1 _) (by omega) (by omega)) ?_
      refine V_goto 43 47 dX12_takesNumber_43 (by decide) ?_
      refine V_iastore2 47 dX12_takesNumber_47 ((F.ss h6.1).m 42 (Nat.le_of_ble_eq_true rfl)) ((F.ss h6.1).k 42 14 rfl) ((F.ss h6.1).l 42 8 rfl) ?_ ?_
      · exact vp_in_nI (by omega) (by decide)
      refine V_abs (fun T9 => FZ [m + 42] [] S T9 ∧ ((fun T => ∀ j, j < i3 + 1 → sA T (m + 42) j = nI (dg x n j)) T9)) ⟨h6.uA (by simp), by first | exact dgStep p11 (nI_clamp (by omega)) (eqRem (eqDiv (Eq.refl _) (Eq.refl _) (by omega) (by omega) (by omega)) (nI_1 _) (by omega) (by omega) (by omega)) | exact dgStep p11 (nI_clamp (by omega)) (dg0 (hz _ hi8 (by omega)))⟩ (fun S23 hh26 => ?_)
      obtain ⟨h24, p25⟩ := hh26
      refine V_iinc_2 48 (1) dX12_takesNumber_48 (by decide) rfl (Nat.le_of_ble_eq_true rfl) ?_
      refine V_goto 51 2 dX12_takesNumber_51 (by decide) ?_
      rw [← nI_succ]
      refine V_lvw (by repeat (first | exact trivial | refine ⟨rfl, ?_⟩)) (ih7 (i3 + 1, _) ⟨by dsimp only; omega, h24, p25⟩ (by dsimp only; omega))

