section HLP
theorem V_while {α : Type} {M : MC} {Γ : GC} {μ : MI} {cc : ByteArray} {Q : State → Prop} {k sl pc : Nat} {st : List Value} (m : α → Nat) (I : α → Prop) (Sx : α → PS) (lvx : α → List (Option Value)) (x0 : α) (h0 : I x0)
    (step : ∀ x, I x → (∀ y, I y → m y < m x → V M Γ μ cc Q k sl (Sx y) pc (lvx y) st) → V M Γ μ cc Q k sl (Sx x) pc (lvx x) st) : V M Γ μ cc Q k sl (Sx x0) pc (lvx x0) st := by
  have key : ∀ (n : Nat) (x : α), m x < n → I x → V M Γ μ cc Q k sl (Sx x) pc (lvx x) st := by
    intro n
    induction n with
    | zero => intro x h; exact absurd h (Nat.not_lt_zero _)
    | succ n ih => intro x h hx; exact step x hx (fun y hy hm => ih y (by omega) hy)
  exact key (m x0 + 1) x0 (Nat.lt_succ_self _) h0
section MX
variable {M : MC} {Γ : GC} {μ : MI} {cc : ByteArray} {Q : State → Prop} {k sl : Nat} {S : PS} {lv : List (Option Value)} {st : List Value}
theorem V_mmin (pc : Nat) {i : Nat} {x y : Int32} (d : decode cc pc = .ok (.invokestatic i, 3)) (hl : Cond.methodLink μ.2.1 i yJ9_min_7cf53 ∈ lwG) (hf : 1 ≤ μ.2.2.2.2.frames) (hk : k ≤ μ.2.2.2.2.cells) (hs2 : sl ≤ μ.2.2.2.2.slots) (hlo : (st.map fun v => v.category).sum + 13 ≤ μ.2.2.2.2.locals) (h : V M Γ μ cc Q k sl S (pc + 3) lv (.int (if y < x then y else x) :: st)) : V M Γ μ cc Q k sl S pc lv (.int y :: .int x :: st) := fun C H locs ls hr hs hl2 =>
  va_mmin C.1.1 C.1.2.1 (C.1.2.2.1.trans hl2.1.symm) C.1.2.2.2.1 (C.1.2.2.2.2 _ hl) (C.1.2.2.2.2 _ sm_yJ9_min_7cf53) (C.1.2.2.2.2 _ in_RJ9) (C.1.2.2.2.2 _ co_yJ9_min_7cf53) (by rw [C.2.2.2.2.2.2.2]; exact hf) (by rw [C.2.2.2.2.2.2.2]; exact hlo) (by rw [C.2.2.2.2.2.2.2]; exact hk) (by rw [C.2.2.2.2.2.2.2]; exact hs2) d (h C H locs ls hr hs hl2)
theorem V_mmax (pc : Nat) {i : Nat} {x y : Int32} (d : decode cc pc = .ok (.invokestatic i, 3)) (hl : Cond.methodLink μ.2.1 i yJ9_max_7cf53 ∈ lwG) (hf : 1 ≤ μ.2.2.2.2.frames) (hk : k ≤ μ.2.2.2.2.cells) (hs2 : sl ≤ μ.2.2.2.2.slots) (hlo : (st.map fun v => v.category).sum + 13 ≤ μ.2.2.2.2.locals) (h : V M Γ μ cc Q k sl S (pc + 3) lv (.int (if x < y then y else x) :: st)) : V M Γ μ cc Q k sl S pc lv (.int y :: .int x :: st) := fun C H locs ls hr hs hl2 =>
  va_mmax C.1.1 C.1.2.1 (C.1.2.2.1.trans hl2.1.symm) C.1.2.2.2.1 (C.1.2.2.2.2 _ hl) (C.1.2.2.2.2 _ sm_yJ9_max_7cf53) (C.1.2.2.2.2 _ in_RJ9) (C.1.2.2.2.2 _ co_yJ9_max_7cf53) (by rw [C.2.2.2.2.2.2.2]; exact hf) (by rw [C.2.2.2.2.2.2.2]; exact hlo) (by rw [C.2.2.2.2.2.2.2]; exact hk) (by rw [C.2.2.2.2.2.2.2]; exact hs2) d (h C H locs ls hr hs hl2)
end MX
/-- a guarded read of an int row, of a long row; a guarded write -/
def aAt (S : PS) (a : Nat) (i : Int32) : Int32 := if i < 0 ∨ sL S a ≤ i.toNatClampNeg then 0 else sA S a i.toNatClampNeg
def jAt (S : PS) (a : Nat) (i : Int32) : Int64 := if i < 0 ∨ sL S a ≤ i.toNatClampNeg then 0 else sJ S a i.toNatClampNeg
def aPut (S : PS) (a : Nat) (i v : Int32) : PS := if i < 0 ∨ sL S a ≤ i.toNatClampNeg then S else uA S a i.toNatClampNeg v
theorem in_of {i : Int32} {n : Nat} (hn : n < 2 ^ 31) (h0 : ¬ i < 0) (h1 : ¬ nI n ≤ i) : vp_in i n := by
  rcases pk_ix i hn with h | h | ⟨j, hj, rfl⟩
  · exact absurd h h0
  · exact absurd h h1
  · exact vp_in_nI hj hn
theorem out_of {i : Int32} {n : Nat} (hn : n < 2 ^ 31) (h1 : nI n ≤ i) : n ≤ i.toNatClampNeg := by
  rcases pk_ix i hn with h | h | ⟨j, hj, rfl⟩
  · have h2 : (nI n).toInt = n := nI_toInt hn
    have h3 : i.toInt < 0 := by simpa using Int32.lt_iff_toInt_lt.mp h
    have h4 := Int32.le_iff_toInt_le.mp h1
    omega
  · have h4 := Int32.le_iff_toInt_le.mp h
    rw [nI_toInt hn] at h4
    show n ≤ i.toInt.toNat
    omega
  · rw [nI_clamp (by omega)]
    have h4 := Int32.le_iff_toInt_le.mp h1
    rw [nI_toInt hn, nI_toInt (by omega)] at h4
    omega
set_option maxRecDepth 100000 in
set_option maxHeartbeats 8000000 in
theorem c_at (l : Launch) (Γ : GC) (S : PS) {a : Nat} (ha : a ∈ PL Γ.2.2.2.2.1 S) (hk : sK S a = 14) (hn : sL S a < 2 ^ 31) (i : Int32) : CT l Γ yX11_at cX11_at 2 (some .int) (0) (0) (0) [.ref a, .int i] S (RI (fun r S' => r = aAt S a i ∧ S' = S)) := by
  refine CT.of RX11 "at" [some (.ref a), some (.int i)] (by decide +kernel) rfl rfl (Nat.le_of_ble_eq_true rfl) rfl (fun M hM => ?_)
  subst hM
  refine V_iload_1 0 dX11_at_0 ?_
  refine V_if_lt 1 16 dX11_at_1 (by decide) (fun c => ?_) (fun c => ?_)
  ·
    refine V_iconst 16 (0) dX11_at_16 (by decide) ?_
    refine V_iret 17 .int dX11_at_17 rfl rfl (Nat.le_of_ble_eq_true rfl) (Nat.le_of_ble_eq_true rfl) (RI.mk ⟨by unfold aAt; rw [if_pos (Or.inl c)], rfl⟩)
  ·
    refine V_iload_1 4 dX11_at_4 ?_
    refine V_aload_0 5 dX11_at_5 ?_
    refine V_alen 6 (nI (sL S a)) dX11_at_6 ha (by rw [hk]; decide) (by rw [hk]; decide) rfl ?_
    refine V_icmp_ge 7 16 dX11_at_7 (by decide) (fun c2 => ?_) (fun c2 => ?_)
    ·
      refine V_iconst 16 (0) dX11_at_16 (by decide) ?_
      refine V_iret 17 .int dX11_at_17 rfl rfl (Nat.le_of_ble_eq_true rfl) (Nat.le_of_ble_eq_true rfl) (RI.mk ⟨by unfold aAt; rw [if_pos (Or.inr (out_of hn c2))], rfl⟩)
    ·
      refine V_aload_0 10 dX11_at_10 ?_
      refine V_iload_1 11 dX11_at_11 ?_
      refine V_iaload 12 dX11_at_12 ha hk (in_of hn c c2) ?_
      refine V_goto 13 17 dX11_at_13 (by decide) ?_
      refine V_iret 17 .int dX11_at_17 rfl rfl (Nat.le_of_ble_eq_true rfl) (Nat.le_of_ble_eq_true rfl) (RI.mk ⟨by unfold aAt; rw [if_neg (in_of hn c c2)], rfl⟩)
set_option maxRecDepth 100000 in
set_option maxHeartbeats 8000000 in
theorem c_longAt (l : Launch) (Γ : GC) (S : PS) {a : Nat} (ha : a ∈ PL Γ.2.2.2.2.1 S) (hk : sK S a = 15) (hn : sL S a < 2 ^ 31) (i : Int32) : CT l Γ yX11_longAt cX11_longAt 2 (some .long) (0) (0) (0) [.ref a, .int i] S (RLg (fun r S' => r = jAt S a i ∧ S' = S)) := by
  refine CT.of RX11 "longAt" [some (.ref a), some (.int i)] (by decide +kernel) rfl rfl (Nat.le_of_ble_eq_true rfl) rfl (fun M hM => ?_)
  subst hM
  refine V_iload_1 0 dX11_longAt_0 ?_
  refine V_if_lt 1 16 dX11_longAt_1 (by decide) (fun c => ?_) (fun c => ?_)
  ·
    refine V_lconst 16 0 dX11_longAt_16 (by decide) ?_
    refine V_lret 17 dX11_longAt_17 rfl (Nat.le_of_ble_eq_true rfl) (Nat.le_of_ble_eq_true rfl) (RLg.mk ⟨by unfold jAt; rw [if_pos (Or.inl c)], rfl⟩)
  ·
    refine V_iload_1 4 dX11_longAt_4 ?_
    refine V_aload_0 5 dX11_longAt_5 ?_
    refine V_alen 6 (nI (sL S a)) dX11_longAt_6 ha (by rw [hk]; decide) (by rw [hk]; decide) rfl ?_
    refine V_icmp_ge 7 16 dX11_longAt_7 (by decide) (fun c2 => ?_) (fun c2 => ?_)
    ·
      refine V_lconst 16 0 dX11_longAt_16 (by decide) ?_
      refine V_lret 17 dX11_longAt_17 rfl (Nat.le_of_ble_eq_true rfl) (Nat.le_of_ble_eq_true rfl) (RLg.mk ⟨by unfold jAt; rw [if_pos (Or.inr (out_of hn c2))], rfl⟩)
    ·
      refine V_aload_0 10 dX11_longAt_10 ?_
      refine V_iload_1 11 dX11_longAt_11 ?_
      refine V_laload 12 dX11_longAt_12 ha hk (in_of hn c c2) ?_
      refine V_goto 13 17 dX11_longAt_13 (by decide) ?_
      refine V_lret 17 dX11_longAt_17 rfl (Nat.le_of_ble_eq_true rfl) (Nat.le_of_ble_eq_true rfl) (RLg.mk ⟨by unfold jAt; rw [if_neg (in_of hn c c2)], rfl⟩)
set_option maxRecDepth 100000 in
set_option maxHeartbeats 8000000 in
theorem c_put (l : Launch) (Γ : GC) (S : PS) {a : Nat} (ha : a ∈ PL Γ.2.2.2.2.1 S) (hk : sK S a = 14) (hn : sL S a < 2 ^ 31) (i v : Int32) : CT l Γ yX11_put cX11_put 3 none (0) (0) (0) [.ref a, .int i, .int v] S (RV (fun S' => S' = aPut S a i v)) := by
  refine CT.of RX11 "put" [some (.ref a), some (.int i), some (.int v)] (by decide +kernel) rfl rfl (Nat.le_of_ble_eq_true rfl) rfl (fun M hM => ?_)
  subst hM
  refine V_iload_1 0 dX11_put_0 ?_
  refine V_if_lt 1 14 dX11_put_1 (by decide) (fun c => ?_) (fun c => ?_)
  ·
    refine V_vret 14 dX11_put_14 rfl (Nat.le_of_ble_eq_true rfl) (Nat.le_of_ble_eq_true rfl) (RV.mk (by unfold aPut; rw [if_pos (Or.inl c)]))
  ·
    refine V_iload_1 4 dX11_put_4 ?_
    refine V_aload_0 5 dX11_put_5 ?_
    refine V_alen 6 (nI (sL S a)) dX11_put_6 ha (by rw [hk]; decide) (by rw [hk]; decide) rfl ?_
    refine V_icmp_ge 7 14 dX11_put_7 (by decide) (fun c2 => ?_) (fun c2 => ?_)
    ·
      refine V_vret 14 dX11_put_14 rfl (Nat.le_of_ble_eq_true rfl) (Nat.le_of_ble_eq_true rfl) (RV.mk (by unfold aPut; rw [if_pos (Or.inr (out_of hn c2))]))
    ·
      refine V_aload_0 10 dX11_put_10 ?_
      refine V_iload_1 11 dX11_put_11 ?_
      refine V_iload_2 12 dX11_put_12 ?_
      refine V_iastore 13 dX11_put_13 ha hk (in_of hn c c2) ?_
      refine V_vret 14 dX11_put_14 rfl (Nat.le_of_ble_eq_true rfl) (Nat.le_of_ble_eq_true rfl) (RV.mk (by unfold aPut; rw [if_neg (in_of hn c c2)]))
def aSum (f : Nat → Int32) : Nat → Int32
  | 0 => 0
  | n + 1 => aSum f n + f n
set_option maxRecDepth 100000 in
set_option maxHeartbeats 8000000 in
theorem c_total (l : Launch) (Γ : GC) (S : PS) {a : Nat} (ha : a ∈ PL Γ.2.2.2.2.1 S) (hk : sK S a = 14) (hn : sL S a < 2 ^ 31) : CT l Γ yX11_total cX11_total 3 (some .int) (0) (0) (0) [.ref a] S (RI (fun r S' => r = aSum (sA S a) (sL S a) ∧ S' = S)) := by
  refine CT.of RX11 "total" [some (.ref a), none, none] (by decide +kernel) rfl rfl (Nat.le_of_ble_eq_true rfl) rfl (fun M hM => ?_)
  subst hM
  refine V_iconst 0 (0) dX11_total_0 (by decide) ?_
  refine V_istore_1 1 dX11_total_1 rfl (Nat.le_of_ble_eq_true rfl) ?_
  refine V_iconst 2 (0) dX11_total_2 (by decide) ?_
  refine V_istore_2 3 dX11_total_3 rfl (Nat.le_of_ble_eq_true rfl) ?_
  refine V_while (α := Nat) (fun i => sL S a - i) (fun i => i ≤ sL S a) (fun _ => S) (fun i => [some (.ref a), some (.int (aSum (sA S a) i)), some (.int (nI i))]) 0 (Nat.zero_le _) (fun i hi ih => ?_)
  refine V_iload_2 4 dX11_total_4 ?_
  refine V_aload_0 5 dX11_total_5 ?_
  refine V_alen 6 (nI (sL S a)) dX11_total_6 ha (by rw [hk]; decide) (by rw [hk]; decide) rfl ?_
  refine V_icmp_ge 7 22 dX11_total_7 (by decide) (fun c => ?_) (fun c => ?_)
  ·
    have hi2 : i = sL S a := by
      rcases Nat.lt_or_ge i (sL S a) with q | q
      · exact absurd c (nI_ge q hn)
      · omega
    subst hi2
    refine V_iload_1 22 dX11_total_22 ?_
    refine V_iret 23 .int dX11_total_23 rfl rfl (Nat.le_of_ble_eq_true rfl) (Nat.le_of_ble_eq_true rfl) (RI.mk ⟨rfl, rfl⟩)
  ·
    have hi2 : i < sL S a := Nat.lt_of_not_le (fun q => c (nI_le q (by omega)))
    refine V_iload_1 10 dX11_total_10 ?_
    refine V_aload_0 11 dX11_total_11 ?_
    refine V_iload_2 12 dX11_total_12 ?_
    refine V_iaload 13 dX11_total_13 ha hk (vp_in_nI hi2 hn) ?_
    rw [nI_clamp (by omega)]
    refine V_iadd 14 dX11_total_14 ?_
    refine V_istore_1 15 dX11_total_15 rfl (Nat.le_of_ble_eq_true rfl) ?_
    refine V_iinc_2 16 (1) dX11_total_16 (by decide) rfl (Nat.le_of_ble_eq_true rfl) ?_
    refine V_goto 19 4 dX11_total_19 (by decide) ?_
    rw [← nI_succ]
    exact ih (i + 1) (by omega) (by omega)
/-- the first n places of row a go into row b -/
def cpA (S : PS) (a b n : Nat) : PS := (sN S, sK S, sR S, sL S, sP S, sI S, (fun c j => if c = b ∧ j < n then sA S a j else sA S c j), sJ S)
theorem cpA_0 (S : PS) (a b : Nat) : cpA S a b 0 = S := by
  have e : (fun c j => if c = b ∧ j < 0 then sA S a j else sA S c j) = sA S := by funext c j; simp
  unfold cpA; rw [e]; rfl
theorem cpA_s (S : PS) (a b n : Nat) : uA (cpA S a b n) b n (sA (cpA S a b n) a n) = cpA S a b (n + 1) := by
  have e1 : sA (cpA S a b n) a n = sA S a n := by show (if a = b ∧ n < n then sA S a n else sA S a n) = _; simp
  have e : up2 (sA (cpA S a b n)) b n (sA (cpA S a b n) a n) = (fun c j => if c = b ∧ j < n + 1 then sA S a j else sA S c j) := by
    rw [e1]; funext c j
    show (if c = b ∧ j = n then sA S a n else if c = b ∧ j < n then sA S a j else sA S c j) = _
    by_cases hc : c = b
    · by_cases hj : j = n
      · subst hj; simp [hc]
      · by_cases h2 : j < n
        · rw [if_neg (by simp [hj]), if_pos ⟨hc, h2⟩, if_pos ⟨hc, by omega⟩]
        · rw [if_neg (by simp [hj]), if_neg (by simp [h2]), if_neg (by omega)]
    · simp [hc]
  unfold uA; rw [e]; rfl
set_option maxRecDepth 100000 in
set_option maxHeartbeats 8000000 in
theorem c_copyRow (l : Launch) (Γ : GC) (S : PS) {a b : Nat} (ha : a ∈ PL Γ.2.2.2.2.1 S) (hk : sK S a = 14) (hn : sL S a < 2 ^ 31) (hb : b ∈ PL Γ.2.2.2.2.1 S) (hkb : sK S b = 14) (hl : sL S b = sL S a) : CT l Γ yX11_copyRow cX11_copyRow 3 none (0) (0) (0) [.ref a, .ref b] S (RV (fun S' => S' = cpA S a b (sL S a))) := by
  refine CT.of RX11 "copyRow" [some (.ref a), some (.ref b), none] (by decide +kernel) rfl rfl (Nat.le_of_ble_eq_true rfl) rfl (fun M hM => ?_)
  subst hM
  refine V_iconst 0 (0) dX11_copyRow_0 (by decide) ?_
  refine V_istore_2 1 dX11_copyRow_1 rfl (Nat.le_of_ble_eq_true rfl) ?_
  refine V.to (cpA_0 S a b).symm ?_
  refine V_while (α := Nat) (fun i => sL S a - i) (fun i => i ≤ sL S a) (fun i => cpA S a b i) (fun i => [some (.ref a), some (.ref b), some (.int (nI i))]) 0 (Nat.zero_le _) (fun i hi ih => ?_)
  refine V_iload_2 2 dX11_copyRow_2 ?_
  refine V_aload_0 3 dX11_copyRow_3 ?_
  refine V_alen 4 (nI (sL S a)) dX11_copyRow_4 ha (by show 13 ≤ sK S a; rw [hk]; decide) (by show sK S a ≤ 17; rw [hk]; decide) rfl ?_
  refine V_icmp_ge 5 26 dX11_copyRow_5 (by decide) (fun c => ?_) (fun c => ?_)
  ·
    have hi2 : i = sL S a := by
      rcases Nat.lt_or_ge i (sL S a) with q | q
      · exact absurd c (nI_ge q hn)
      · omega
    subst hi2
    refine V_vret 26 dX11_copyRow_26 rfl (Nat.le_of_ble_eq_true rfl) (Nat.le_of_ble_eq_true rfl) (RV.mk rfl)
  ·
    have hi2 : i < sL S a := Nat.lt_of_not_le (fun q => c (nI_le q (by omega)))
    refine V_iload_2 8 dX11_copyRow_8 ?_
    refine V_aload_1 9 dX11_copyRow_9 ?_
    refine V_alen 10 (nI (sL S a)) dX11_copyRow_10 hb (by show 13 ≤ sK S b; rw [hkb]; decide) (by show sK S b ≤ 17; rw [hkb]; decide) (by show Int32.ofNat (sL S b) = _; rw [hl]; rfl) ?_
    refine V_icmp_ge 11 26 dX11_copyRow_11 (by decide) (fun q => absurd q c) (fun _ => ?_)
    refine V_aload_1 14 dX11_copyRow_14 ?_
    refine V_iload_2 15 dX11_copyRow_15 ?_
    refine V_aload_0 16 dX11_copyRow_16 ?_
    refine V_iload_2 17 dX11_copyRow_17 ?_
    refine V_iaload 18 dX11_copyRow_18 ha hk (vp_in_nI hi2 hn) ?_
    refine V_iastore 19 dX11_copyRow_19 hb hkb (by show vp_in _ (sL S b); rw [hl]; exact vp_in_nI hi2 hn) ?_
    rw [nI_clamp (by omega)]
    refine V.to (cpA_s S a b i) ?_
    refine V_iinc_2 20 (1) dX11_copyRow_20 (by decide) rfl (Nat.le_of_ble_eq_true rfl) ?_
    refine V_goto 23 2 dX11_copyRow_23 (by decide) ?_
    rw [← nI_succ]
    exact ih (i + 1) (by omega) (by omega)
end HLP

