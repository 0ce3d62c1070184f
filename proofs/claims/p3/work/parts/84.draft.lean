/-! The reference's reading: the side not live, and known -/
/-- how much of a row is one side's -/
def wd (o : Nat) : Nat := if o = 8 ∨ o = 11 ∨ o = 19 ∨ o = 21 ∨ o = 25 ∨ o = 26 then 1 else if o = 12 ∨ o = 13 ∨ o = 14 then 8 else if o = 22 then 18 else if 27 ≤ o ∧ o ≤ 31 then 130 else if o = 32 ∨ o = 33 then 420 else 0
/-- outside side s nothing of a text has changed -/
def OUT (m s : Nat) (S S2 : PS) : Prop := sI S2 m 18 = sI S m 18 ∧ ∀ o i, ¬ wd o = 0 → (i < wd o * s ∨ wd o * s + wd o ≤ i) → sA S2 (m + o) i = sA S (m + o) i
section OTS
variable {lo m s tp : Nat} {g : MG} {S S2 S3 : PS} {X : List Nat} {Y : List (Nat × Nat)}
theorem OUT.rf : OUT m s S S := ⟨rfl, fun _ _ _ _ => rfl⟩
theorem OUT.tr (h : OUT m s S S2) (k : OUT m s S2 S3) : OUT m s S S3 := ⟨k.1.trans h.1, fun o i a b => (k.2 o i a b).trans (h.2 o i a b)⟩
theorem OUT.fz (e : FZ X Y S S2) (hy : (m, 18) ∉ Y) (hx : ∀ o, ¬ wd o = 0 → m + o ∉ X) : OUT m s S S2 := ⟨e.2.2 _ _ hy, fun o i h _ => by rw [e.2.1 _ (hx o h)]⟩
theorem OUT.fz2 (e : FZ X Y S S2) (hy : (m, 18) ∉ Y) (hx : ∀ o, ¬ wd o = 0 → m + o ∈ X → ∀ i, (i < wd o * s ∨ wd o * s + wd o ≤ i) → sA S2 (m + o) i = sA S (m + o) i) : OUT m s S S2 := ⟨e.2.2 _ _ hy, fun o i h q => by
  by_cases c : m + o ∈ X
  · exact hx o h c i q
  · rw [e.2.1 _ c]⟩
theorem OUT.wr {o i w : Nat} {v : Int32} (hw : wd o = w) (h1 : w * s ≤ i) (h2 : i < w * s + w) : OUT m s S (uA S (m + o) i v) := ⟨rfl, fun o2 i2 a b => by
  by_cases c : o2 = o
  · subst c; rw [hw] at b; exact up2_k _ _ (by omega)
  · exact up2_a _ _ (by omega)⟩
theorem OUT.wr0 {o i : Nat} {v : Int32} (hw : wd o = 0) : OUT m s S (uA S (m + o) i v) := ⟨rfl, fun o2 i2 a b => by
  by_cases c : o2 = o
  · subst c; exact absurd hw a
  · exact up2_a _ _ (by omega)⟩
theorem RP.fr {c : Nat} : ∀ n h, RP m c S n h → (∀ i, c ≤ i → i < c + n → sA S2 (m + 32) i = sA S (m + 32) i ∧ sA S2 (m + 33) i = sA S (m + 33) i) → RP m c S2 n h
  | 0, h, q, _ => q
  | n + 1, h, q, e => by
    obtain ⟨k, q1, q2⟩ := q
    refine ⟨k, RP.fr n k q1 (fun i h1 h2 => e i h1 (by omega)), ?_⟩
    rw [(e (c + n) (by omega) (by omega)).1, (e (c + n) (by omega) (by omega)).2]; exact q2
theorem OUT.ot (h : OUT m s S S2) {o w l : Nat} (hw : wd o = w) (w0 : 0 < w) (hl : s + l = 1) {i : Nat} (h1 : w * l ≤ i) (h2 : i < w * l + w) : sA S2 (m + o) i = sA S (m + o) i := h.2 o i (by omega) (by
  rw [hw]
  rcases (show s = 0 ∨ s = 1 by omega) with rfl | rfl
  · have : l = 1 := by omega
    subst this; omega
  · have : l = 0 := by omega
    subst this; omega)
theorem TXT.out (h : TXT m g S) (e : OUT m s S S2) (hl : s + gl g = 1) : TXT m g S2 := by
  obtain ⟨h1, h2, h3, h4, h5, h6, h7, h8, h9, h10, h11, h12, h13, h14⟩ := h
  have l2 := h1.2
  have one : ∀ o, wd o = 1 → sA S2 (m + o) (gl g) = sA S (m + o) (gl g) := fun o ho => e.ot ho (by omega) hl (by omega) (by omega)
  refine ⟨⟨e.1.trans h1.1, l2⟩, by rw [one 11 rfl]; exact h2, by rw [one 8 rfl]; exact h3, fun k hk => ?_, fun k hk => ?_, fun k hk => ?_, h7, by rw [one 19 rfl]; exact h8, by rw [one 21 rfl]; exact h9, fun i hi => ?_, by rw [one 25 rfl]; exact h11, by rw [one 26 rfl]; exact h12, h13, fun i hi1 hi2 => ?_⟩
  · rw [e.ot (o := 13) (w := 8) rfl (by omega) hl (by omega) (by have := h2.2; omega)]; exact h4 k hk
  · rw [e.ot (o := 12) (w := 8) rfl (by omega) hl (by omega) (by have := h2.2; omega)]; exact h5 k hk
  · rw [e.ot (o := 14) (w := 8) rfl (by omega) hl (by omega) (by have := h2.2; omega)]; exact h6 k hk
  · rw [e.ot (o := 22) (w := 18) rfl (by omega) hl (by omega) (by have := h9.2; omega)]; exact h10 i hi
  · have h15 := h13.2.2 (by omega)
    have br : ∀ o, wd o = 130 → sA S2 (m + o) i = sA S (m + o) i := fun o ho => e.ot ho (by omega) hl (by omega) (by omega)
    have f : ∀ c d, RPN m (gl g) S c d → RPN m (gl g) S2 c d := fun c d q => ⟨q.1, q.2.1, q.2.2.1, q.2.2.2.1, RP.fr _ _ q.2.2.2.2 (fun i j1 j2 => by
      have q1 := q.1
      have q2 := q.2.1
      have q3 := q.2.2.1
      exact ⟨e.ot (o := 32) (w := 420) rfl (by omega) hl (by omega) (by omega), e.ot (o := 33) (w := 420) rfl (by omega) hl (by omega) (by omega)⟩)⟩
    obtain ⟨c0, c1, c2, c3, q1, q2, q3, q4⟩ := h14 i hi1 hi2
    refine ⟨c0, c1, c2, c3, fun n => ?_, by rw [br 30 rfl]; exact q2, by rw [br 31 rfl]; exact q3, f _ _ q4⟩
    rw [br 27 rfl] at n
    obtain ⟨r1, r2, r3, r4⟩ := q1 n
    exact ⟨by rw [br 28 rfl]; exact r1, by rw [br 29 rfl]; exact r2, f _ _ r3, f _ _ r4⟩
/-- rows and ints of the reference that no reading touches -/
def rdX (o : Nat) : Bool := o != 37 && o != 39 && o != 51 && o != 55 && o != 56
theorem rx_of {Xo : List Nat} {o : Nat} (hx : Xo.all rdX = true) (ho : rdX o = false) : m + o ∉ Xo.map (fun o => m + o) := fun q => by
  obtain ⟨o2, h1, h2⟩ := List.mem_map.mp q
  have h3 := List.all_eq_true.mp hx o2 h1
  have : o2 = o := by have := h2; omega
  rw [this, ho] at h3
  cases h3
theorem MV.out (I : MV lo m g tp S) (Xo : List Nat) (Yo : List (Nat × Nat)) (e : FZ X Y S S2) (o : OUT m s S S2) (hl : s + gl g = 1) (hX : X = Xo.map (fun o => m + o)) (hY : Y = Yo.map (fun p => (m + p.1, p.2))) (hx : Xo.all rdX = true) (hy : Yo.all miY = true) : MV lo m g tp S2 := by
  subst hX hY
  have a37 := e.2.1 _ (rx_of (m := m) hx (o := 37) rfl)
  have a39 := e.2.1 _ (rx_of (m := m) hx (o := 39) rfl)
  have a51 := e.2.1 _ (rx_of (m := m) hx (o := 51) rfl)
  have a55 := e.2.1 _ (rx_of (m := m) hx (o := 55) rfl)
  have a56 := e.2.1 _ (rx_of (m := m) hx (o := 56) rfl)
  refine ⟨I.f.ss e.1, I.t.out o hl, I.now.eq a37, ?_, ?_, fun s hs n => ?_, (e.2.2 _ _ (my_of hy (j := 2) rfl)).trans I.tape, I.tpl⟩
  · obtain ⟨u, h1, h2, h3⟩ := I.hist
    exact ⟨u, h1, (e.2.2 _ _ (my_of hy (j := 57) rfl)).trans h2, fun i hi => (h3 i hi).eq a39⟩
  · obtain ⟨u, h1, h2, h3⟩ := I.seen
    exact ⟨u, h1, (e.2.2 _ _ (my_of hy (j := 70) rfl)).trans h2, fun i hi => by rw [a51]; exact h3 i hi⟩
  · rw [a55] at n
    exact (I.held s hs n).eq a56
theorem WMN.rf : WMN m S S := ⟨id, id⟩
theorem WMN.tr (h : WMN m S S2) (k : WMN m S2 S3) : WMN m S S3 := ⟨fun q => k.1 (h.1 q), fun q => k.2 (h.2 q)⟩
theorem WMN.fz (e : FZ X Y S S2) (hy : (m, 15) ∉ Y) : WMN m S S2 := ⟨fun q => by rw [e.2.2 _ _ hy]; exact q, fun q => by rw [e.2.2 _ _ hy]; exact q⟩
end OTS
def KNW (m t M : Nat) (r : Int32) (S S2 : PS) : Prop := (FLT m S2 ∧ r = -1) ∨ (sI S m 13 = 0 ∧ sI S2 m 13 = 0 ∧ t < 400 ∧ sI S2 m 11 = nI (t + 1) ∧ ((r = -1 ∧ ¬ sI S2 m 15 = 0) ∨ ∃ i, i < M ∧ r = nI i))
set_option maxRecDepth 100000 in
set_option maxHeartbeats 8000000 in
theorem s_mknown (l : Launch) (Γ : GC) (S : PS) {m s u t : Nat} (F : isL lyModel Γ.2.2.2.2.1 S m) (es : sI S m 19 = nI s) (hs : s < 2) (eM : sA S (m + 8) s = nI u) (hM : u ≤ 8) (et : sI S m 11 = nI t) (ht : t ≤ 400) : CT l Γ yX12_known cX12_known 3 (some .int) (3) (0) (0) [.ref m] S (RI (fun r S' => FZ [] [(m, 11), (m, 13), (m, 14), (m, 15), (m, 16)] S S' ∧ WMN m S S' ∧ KNW m t u r S S')) := by
  refine CT.of RX12 "known" [some (.ref m), none, none] (by decide +kernel) rfl rfl (Nat.le_of_ble_eq_true rfl) rfl (fun M hM => ?_)
  subst hM
  refine V_aload_0 0 dX12_known_0 ?_
  refine V_getI 1 (c := 12) 11 dX12_known_1 fl_RX12_237 (F.m 0 (Nat.le_of_ble_eq_true rfl)) (F.k 0 12 rfl) (Nat.le_of_ble_eq_true rfl) (Nat.le_of_ble_eq_true rfl) rfl ?_
  rw [et]
  refine V_istore_1 4 dX12_known_4 rfl (Nat.le_of_ble_eq_true rfl) ?_
  refine V_aload_0 5 dX12_known_5 ?_
  refine V_iconst 6 (1) dX12_known_6 (by decide) ?_
  refine V_callV 7 (ci := 12) [.int _] _ (s_mmust M.2.1 Γ S F et ht _) dX12_known_7 cb_X12_must ml_RX12_295 im_yX12_must se_yX12_must (F.m 0 (Nat.le_of_ble_eq_true rfl)) (F.k 0 12 rfl) (Nat.le_of_ble_eq_true rfl) ⟨(Nat.le_of_ble_eq_true rfl), (Nat.le_of_ble_eq_true rfl)⟩ rfl rfl (Nat.le_of_ble_eq_true rfl) ⟨(Nat.le_of_ble_eq_true rfl), (Nat.le_of_ble_eq_true rfl)⟩ (RV.go (fun S1 h1 => ?_))
  have F19 := F.ss h1.1.1
  have e19 : sI S1 m 19 = nI s := (h1.1.2.2 m 19 (by simp)).trans es
  have e8 : sA S1 (m + 8) s = nI u := by rw [h1.1.2.1 (m + 8) (by simp)]; exact eM
  have W1 : WMN m S S1 := WMN.fz h1.1 (by simp)
  refine V_aload_0 10 dX12_known_10 ?_
  refine V_getI 11 (c := 12) 13 dX12_known_11 fl_RX12_234 (F19.m 0 (Nat.le_of_ble_eq_true rfl)) (F19.k 0 12 rfl) (Nat.le_of_ble_eq_true rfl) (Nat.le_of_ble_eq_true rfl) rfl ?_
  rcases h1.2 with qq | ⟨q1, q2, q3, q4, q5⟩
  ·
    refine V_if_le 14 19 dX12_known_14 (by decide) (fun q => absurd q (Int32.not_le.mpr qq.1)) (fun _ => ?_)
    refine V_iconst 17 (-1) dX12_known_17 (by decide) ?_
    refine V_iret 18 .int dX12_known_18 rfl rfl (Nat.le_of_ble_eq_true rfl) (Nat.le_of_ble_eq_true rfl) (RI.mk ⟨h1.1.sub (by simp) (by simp), W1, Or.inl ⟨⟨qq.1, t, ht, qq.2⟩, rfl⟩⟩)
  · rw [q2]
    refine V_if_le 14 19 dX12_known_14 (by decide) (fun _ => ?_) (fun q => absurd (by decide) q)
    refine V_iconst 19 (0) dX12_known_19 (by decide) ?_
    refine V_istore_2 20 dX12_known_20 rfl (Nat.le_of_ble_eq_true rfl) ?_
    refine V_while (α := Nat) (fun k => u - k) (fun k => k ≤ u) (fun _ => S1) (fun k => [some (.ref m), some (.int (nI t)), some (.int (nI k))]) 0 (Nat.zero_le _) (fun k hk ih => ?_)
    refine V_iload_2 21 dX12_known_21 ?_
    refine V_aload_0 22 dX12_known_22 ?_
    refine V_getR 23 (c := 12) 20 (F19.r 0 20 8 rfl) dX12_known_23 fl_RX12_40 (F19.m 0 (Nat.le_of_ble_eq_true rfl)) (F19.k 0 12 rfl) (Nat.le_of_ble_eq_true rfl) (Nat.le_of_ble_eq_true rfl) rfl ?_
    refine V_aload_0 26 dX12_known_26 ?_
    refine V_getI 27 (c := 12) 19 dX12_known_27 fl_RX12_267 (F19.m 0 (Nat.le_of_ble_eq_true rfl)) (F19.k 0 12 rfl) (Nat.le_of_ble_eq_true rfl) (Nat.le_of_ble_eq_true rfl) rfl ?_
    rw [e19]
    refine V_iaload2 30 dX12_known_30 (F19.m 8 (Nat.le_of_ble_eq_true rfl)) (F19.k 8 14 rfl) (F19.l 8 2 rfl) ?_ ?_
    · exact vp_in_nI (by omega) (by decide)
    rw [nI_clamp (by omega), e8]
    refine V_icmp_ge 31 58 dX12_known_31 (by decide) (fun k1 => ?_) (fun k1 => ?_)
    ·
      refine V_aload_0 58 dX12_known_58 ?_
      refine V_iconst 59 (4) dX12_known_59 (by decide) ?_
      refine V_iload_1 60 dX12_known_60 ?_
      refine V_callV 61 (ci := 12) [.int _, .int _] _ (s_mwrong M.2.1 Γ S1 F19 (k := t) (by omega) _ (by decide)) dX12_known_61 cb_X12_wrong ml_RX12_304 im_yX12_wrong se_yX12_wrong (F19.m 0 (Nat.le_of_ble_eq_true rfl)) (F19.k 0 12 rfl) (Nat.le_of_ble_eq_true rfl) ⟨(Nat.le_of_ble_eq_true rfl), (Nat.le_of_ble_eq_true rfl)⟩ rfl rfl (Nat.le_of_ble_eq_true rfl) ⟨(Nat.le_of_ble_eq_true rfl), (Nat.le_of_ble_eq_true rfl)⟩ (RV.go (fun S2 h2 => ?_))
      refine V_iconst 64 (-1) dX12_known_64 (by decide) ?_
      have e13 : sI S2 m 13 = 0 := (h2.1.2.2 m 13 (by simp)).trans q2
      refine V_iret 65 .int dX12_known_65 rfl rfl (Nat.le_of_ble_eq_true rfl) (Nat.le_of_ble_eq_true rfl) (RI.mk ⟨(h1.1.sub (by simp) (by simp)).tr (h2.1.sub (by simp) (by simp)), W1.tr h2.2.2, Or.inr ⟨q1, e13, q3, (h2.1.2.2 m 11 (by simp)).trans q4, Or.inl ⟨rfl, h2.2.1.resolve_right (fun q => by rw [q2] at q; exact absurd q (by decide))⟩⟩⟩)
    · have k2 := mt (nI_leE (Eq.refl (nI u)) (Eq.refl (nI k)) (by omega) (by omega)).mpr (fun q => k1 (by first | exact q | exact Int32.not_lt.mpr q))
      refine V_aload_0 34 dX12_known_34 ?_
      refine V_getR 35 (c := 12) 21 (F19.r 0 21 9 rfl) dX12_known_35 fl_RX12_43 (F19.m 0 (Nat.le_of_ble_eq_true rfl)) (F19.k 0 12 rfl) (Nat.le_of_ble_eq_true rfl) (Nat.le_of_ble_eq_true rfl) rfl ?_
      refine V_iload_2 38 dX12_known_38 ?_
      refine V_laload2 39 dX12_known_39 (F19.m 9 (Nat.le_of_ble_eq_true rfl)) (F19.k 9 15 rfl) (F19.l 9 8 rfl) ?_ ?_
      · exact vp_in_nI (by omega) (by decide)
      refine V_aload_0 40 dX12_known_40 ?_
      refine V_getR 41 (c := 12) 8 (F19.r 0 8 6 rfl) dX12_known_41 fl_RX12_30 (F19.m 0 (Nat.le_of_ble_eq_true rfl)) (F19.k 0 12 rfl) (Nat.le_of_ble_eq_true rfl) (Nat.le_of_ble_eq_true rfl) rfl ?_
      refine V_iload_1 44 dX12_known_44 ?_
      refine V_laload2 45 dX12_known_45 (F19.m 6 (Nat.le_of_ble_eq_true rfl)) (F19.k 6 15 rfl) (F19.l 6 403 rfl) ?_ ?_
      · exact vp_in_nI (by omega) (by decide)
      refine V_lcmp 46 dX12_known_46 ?_
      refine V_if_ne 47 52 dX12_known_47 (by decide) (fun k3 => ?_) (fun k3 => ?_)
      ·
        refine V_iinc_2 52 (1) dX12_known_52 (by decide) rfl (Nat.le_of_ble_eq_true rfl) ?_
        refine V_goto 55 21 dX12_known_55 (by decide) ?_
        rw [nI_1]
        exact ih (k + 1) (by omega) (by omega)
      ·
        refine V_iload_2 50 dX12_known_50 ?_
        refine V_iret 51 .int dX12_known_51 rfl rfl (Nat.le_of_ble_eq_true rfl) (Nat.le_of_ble_eq_true rfl) (RI.mk ⟨h1.1.sub (by simp) (by simp), W1, Or.inr ⟨q1, q2, q3, q4, Or.inr ⟨k, by omega, rfl⟩⟩⟩)

