/-! the model on a fresh state: what the methods call -/
theorem no_m1 {k : Int32} (h1 : ¬ k < 0) (h2 : ¬ (0 - 1 : Int32) < k) : False := absurd (Int32.le_trans (Int32.not_lt.mp h1) (Int32.not_lt.mp h2)) (by decide)
theorem eq0_of {k : Int32} (h1 : ¬ k < 0) (h2 : ¬ 0 < k) : k = 0 := Int32.le_antisymm (Int32.not_lt.mp h2) (Int32.not_lt.mp h1)
set_option maxRecDepth 100000 in
set_option maxHeartbeats 8000000 in
theorem c_in (l : Launch) (Γ : GC) (S : PS) (v a b : Int32) : CT l Γ yX12_in cX12_in 3 (some .boolean) (0) (0) (0) [.int v, .int a, .int b] S (RI (fun r S' => S' = S ∧ ((r = 1 ∧ ¬ v < a ∧ ¬ b < v) ∨ (r = 0 ∧ (v < a ∨ b < v))))) := by
  refine CT.of RX12 "in" [some (.int v), some (.int a), some (.int b)] (by decide +kernel) rfl rfl (Nat.le_of_ble_eq_true rfl) rfl (fun M hM => ?_)
  subst hM
  refine V_iload_0 0 dX12_in_0 ?_
  refine V_iload_1 1 dX12_in_1 ?_
  refine V_icmp_lt 2 14 dX12_in_2 (by decide) (fun c => ?_) (fun c => ?_)
  ·
    refine V_iconst 14 (0) dX12_in_14 (by decide) ?_
    refine V_iret 15 .boolean dX12_in_15 rfl (by rfl) (Nat.le_of_ble_eq_true rfl) (Nat.le_of_ble_eq_true rfl) (RI.mk ⟨rfl, Or.inr ⟨rfl, Or.inl c⟩⟩)
  ·
    refine V_iload_0 5 dX12_in_5 ?_
    refine V_iload_2 6 dX12_in_6 ?_
    refine V_icmp_gt 7 14 dX12_in_7 (by decide) (fun c2 => ?_) (fun c2 => ?_)
    ·
      refine V_iconst 14 (0) dX12_in_14 (by decide) ?_
      refine V_iret 15 .boolean dX12_in_15 rfl (by rfl) (Nat.le_of_ble_eq_true rfl) (Nat.le_of_ble_eq_true rfl) (RI.mk ⟨rfl, Or.inr ⟨rfl, Or.inr c2⟩⟩)
    ·
      refine V_iconst 10 (1) dX12_in_10 (by decide) ?_
      refine V_goto 11 15 dX12_in_11 (by decide) ?_
      refine V_iret 15 .boolean dX12_in_15 rfl (by rfl) (Nat.le_of_ble_eq_true rfl) (Nat.le_of_ble_eq_true rfl) (RI.mk ⟨rfl, Or.inl ⟨rfl, c, c2⟩⟩)
set_option maxRecDepth 100000 in
set_option maxHeartbeats 8000000 in
theorem c_isKindM (l : Launch) (Γ : GC) (S : PS) {m : Nat} (F : isL lyModel Γ.2.2.2.2.1 S m) (D : FM m S) (k : Int32) : CT l Γ yX12_isKind cX12_isKind 2 (some .boolean) (1) (0) (0) [.ref m, .int k] S (RI (fun r S' => r = 0 ∧ S' = S)) := by
  refine CT.of RX12 "isKind" [some (.ref m), some (.int k)] (by decide +kernel) rfl rfl (Nat.le_of_ble_eq_true rfl) rfl (fun M hM => ?_)
  subst hM
  refine V_iload_1 0 dX12_isKind_0 ?_
  refine V_iconst 1 (0) dX12_isKind_1 (by decide) ?_
  refine V_aload_0 2 dX12_isKind_2 ?_
  refine V_getR 3 (c := 12) 23 (F.r 0 23 11 rfl) dX12_isKind_3 fl_RX12_49 (F.m 0 (Nat.le_of_ble_eq_true rfl)) (F.k 0 12 rfl) (Nat.le_of_ble_eq_true rfl) (Nat.le_of_ble_eq_true rfl) rfl ?_
  refine V_aload_0 6 dX12_isKind_6 ?_
  refine V_getI 7 (c := 12) 18 dX12_isKind_7 fl_RX12_264 (F.m 0 (Nat.le_of_ble_eq_true rfl)) (F.k 0 12 rfl) (Nat.le_of_ble_eq_true rfl) (Nat.le_of_ble_eq_true rfl) rfl ?_
  rw [D.i 18 (by decide)]
  refine V_iaload2 10 dX12_isKind_10 (F.m 11 (Nat.le_of_ble_eq_true rfl)) (F.k 11 14 rfl) (F.l 11 2 rfl) ?_ ?_
  · exact (by unfold vp_in; decide)
  rw [D.o 11 (by decide)]
  refine V_iconst 11 (1) dX12_isKind_11 (by decide) ?_
  refine V_isub 12 dX12_isKind_12 ?_
  refine V_callS 13 [.int _, .int _, .int _] _ (c_in M.2.1 Γ _ _ _ _) dX12_isKind_13 cb_X12_in ml_RX12_335 sm_yX12_in ⟨(Nat.le_of_ble_eq_true rfl), (Nat.le_of_ble_eq_true rfl)⟩ rfl rfl (Nat.le_of_ble_eq_true rfl) ⟨(Nat.le_of_ble_eq_true rfl), (Nat.le_of_ble_eq_true rfl)⟩ (RI.go (fun r S1 hq => ?_))
  obtain ⟨rfl, hq⟩ := hq
  rcases hq with ⟨rfl, h1, h2⟩ | ⟨rfl, -⟩
  · exact absurd (no_m1 h1 h2) id
  ·
    refine V_iret 16 .boolean dX12_isKind_16 rfl (by rfl) (Nat.le_of_ble_eq_true rfl) (Nat.le_of_ble_eq_true rfl) (RI.mk ⟨rfl, rfl⟩)
set_option maxRecDepth 100000 in
set_option maxHeartbeats 8000000 in
theorem c_copies (l : Launch) (Γ : GC) (S : PS) {m : Nat} (F : isL lyModel Γ.2.2.2.2.1 S m) (D : FM m S) : CT l Γ yX12_copies cX12_copies 2 none (0) (0) (0) [.ref m] S (RV (fun S' => S' = uI (uI S m 55 1) m 56 0)) := by
  refine CT.of RX12 "copies" [some (.ref m), none] (by decide +kernel) rfl rfl (Nat.le_of_ble_eq_true rfl) rfl (fun M hM => ?_)
  subst hM
  refine V_iconst 0 (0) dX12_copies_0 (by decide) ?_
  refine V_istore_1 1 dX12_copies_1 rfl (Nat.le_of_ble_eq_true rfl) ?_
  refine V_while (α := Nat) (fun i => 30 - i) (fun i => i ≤ 30) (fun _ => S) (fun i => [some (.ref m), some (.int (nI i))]) 0 (Nat.zero_le _) (fun i hi ih => ?_)
  refine V_iload_1 2 dX12_copies_2 ?_
  refine V_bipush 3 (30) dX12_copies_3 (by decide) ?_
  refine V_icmp_ge 5 26 dX12_copies_5 (by decide) (fun c => ?_) (fun c => ?_)
  ·
    refine V_aload_0 26 dX12_copies_26 ?_
    refine V_aload_0 27 dX12_copies_27 ?_
    refine V_getR 28 (c := 12) 32 (F.r 0 32 20 rfl) dX12_copies_28 fl_RX12_76 (F.m 0 (Nat.le_of_ble_eq_true rfl)) (F.k 0 12 rfl) (Nat.le_of_ble_eq_true rfl) (Nat.le_of_ble_eq_true rfl) rfl ?_
    refine V_aload_0 31 dX12_copies_31 ?_
    refine V_getI 32 (c := 12) 18 dX12_copies_32 fl_RX12_264 (F.m 0 (Nat.le_of_ble_eq_true rfl)) (F.k 0 12 rfl) (Nat.le_of_ble_eq_true rfl) (Nat.le_of_ble_eq_true rfl) rfl ?_
    rw [D.i 18 (by decide)]
    refine V_iaload2 35 dX12_copies_35 (F.m 20 (Nat.le_of_ble_eq_true rfl)) (F.k 20 14 rfl) (F.l 20 2 rfl) ?_ ?_
    · exact (by unfold vp_in; decide)
    rw [D.full]
    refine V_putI 36 (c := 12) 55 dX12_copies_36 fl_RX12_339 (F.m 0 (Nat.le_of_ble_eq_true rfl)) (F.k 0 12 rfl) (Nat.le_of_ble_eq_true rfl) (Nat.le_of_ble_eq_true rfl) rfl (Or.inl rfl) ?_
    have D2 : FM m (uI S m 55 1) := D.uI (Or.inl rfl)
    refine V_aload_0 39 dX12_copies_39 ?_
    refine V_aload_0 40 dX12_copies_40 ?_
    refine V_getR 41 (c := 12) 36 (F.r 0 36 24 rfl) dX12_copies_41 fl_RX12_88 (F.m 0 (Nat.le_of_ble_eq_true rfl)) (F.k 0 12 rfl) (Nat.le_of_ble_eq_true rfl) (Nat.le_of_ble_eq_true rfl) rfl ?_
    refine V_aload_0 44 dX12_copies_44 ?_
    refine V_getI 45 (c := 12) 18 dX12_copies_45 fl_RX12_264 (F.m 0 (Nat.le_of_ble_eq_true rfl)) (F.k 0 12 rfl) (Nat.le_of_ble_eq_true rfl) (Nat.le_of_ble_eq_true rfl) rfl ?_
    rw [D2.i 18 (by decide)]
    refine V_iaload2 48 dX12_copies_48 (F.m 24 (Nat.le_of_ble_eq_true rfl)) (F.k 24 14 rfl) (F.l 24 2 rfl) ?_ ?_
    · exact (by unfold vp_in; decide)
    rw [D2.o 24 (by decide)]
    refine V_putI 49 (c := 12) 56 dX12_copies_49 fl_RX12_342 (F.m 0 (Nat.le_of_ble_eq_true rfl)) (F.k 0 12 rfl) (Nat.le_of_ble_eq_true rfl) (Nat.le_of_ble_eq_true rfl) rfl (Or.inl rfl) ?_
    refine V_vret 52 dX12_copies_52 rfl (Nat.le_of_ble_eq_true rfl) (Nat.le_of_ble_eq_true rfl) (RV.mk rfl)
  ·
    have hi2 := nI_lt8 (by decide) hi c
    refine V_aload_0 8 dX12_copies_8 ?_
    refine V_getR 9 (c := 12) 54 (F.r 0 54 38 rfl) dX12_copies_9 fl_RX12_131 (F.m 0 (Nat.le_of_ble_eq_true rfl)) (F.k 0 12 rfl) (Nat.le_of_ble_eq_true rfl) (Nat.le_of_ble_eq_true rfl) rfl ?_
    refine V_iload_1 12 dX12_copies_12 ?_
    refine V_aload_0 13 dX12_copies_13 ?_
    refine V_getR 14 (c := 12) 53 (F.r 0 53 37 rfl) dX12_copies_14 fl_RX12_128 (F.m 0 (Nat.le_of_ble_eq_true rfl)) (F.k 0 12 rfl) (Nat.le_of_ble_eq_true rfl) (Nat.le_of_ble_eq_true rfl) rfl ?_
    refine V_iload_1 17 dX12_copies_17 ?_
    refine V_iaload2 18 dX12_copies_18 (F.m 37 (Nat.le_of_ble_eq_true rfl)) (F.k 37 14 rfl) (F.l 37 30 rfl) ?_ ?_
    · exact vp_in_nI hi2 (by decide)
    rw [D.z 37 (by decide)]
    refine V_iastore2 19 dX12_copies_19 (F.m 38 (Nat.le_of_ble_eq_true rfl)) (F.k 38 14 rfl) (F.l 38 30 rfl) ?_ ?_
    · exact vp_in_nI hi2 (by decide)
    refine V.to (uA_id ((D.z 38 (by decide) _).trans (by decide))) ?_
    refine V_iinc_1 20 (1) dX12_copies_20 (by decide) rfl (Nat.le_of_ble_eq_true rfl) ?_
    refine V_goto 23 2 dX12_copies_23 (by decide) ?_
    rw [← nI_succ]
    exact ih (i + 1) (by omega) (by omega)
set_option maxRecDepth 100000 in
set_option maxHeartbeats 8000000 in
theorem c_sumOnM (l : Launch) (Γ : GC) (S : PS) {m : Nat} (F : isL lyModel Γ.2.2.2.2.1 S m) (D : FM m S) (x : Int32) (hx : x = 0 ∨ x = 8) : CT l Γ yX12_sumOn cX12_sumOn 4 (some .int) (0) (0) (0) [.ref m, .int x] S (RI (fun r S' => r = 0 ∧ S' = S)) := by
  refine CT.of RX12 "sumOn" [some (.ref m), some (.int x), none, none] (by decide +kernel) rfl rfl (Nat.le_of_ble_eq_true rfl) rfl (fun M hM => ?_)
  subst hM
  have hin : ∀ i, i < 8 → vp_in (x + nI i) 30 := fun i hi => by
    rcases hx with rfl | rfl
    · rw [show (0 : Int32) = nI 0 from by decide, nI_add]; exact vp_in_nI (by omega) (by decide)
    · rw [show (8 : Int32) = nI 8 from by decide, nI_add]; exact vp_in_nI (by omega) (by decide)
  refine V_iconst 0 (0) dX12_sumOn_0 (by decide) ?_
  refine V_istore_2 1 dX12_sumOn_1 rfl (Nat.le_of_ble_eq_true rfl) ?_
  refine V_iconst 2 (0) dX12_sumOn_2 (by decide) ?_
  refine V_istore_3 3 dX12_sumOn_3 rfl (Nat.le_of_ble_eq_true rfl) ?_
  refine V_while (α := Nat) (fun i => 8 - i) (fun i => i ≤ 8) (fun _ => S) (fun i => [some (.ref m), some (.int x), some (.int 0), some (.int (nI i))]) 0 (Nat.zero_le _) (fun i hi ih => ?_)
  refine V_iload_3 4 dX12_sumOn_4 ?_
  refine V_bipush 5 (8) dX12_sumOn_5 (by decide) ?_
  refine V_icmp_ge 7 27 dX12_sumOn_7 (by decide) (fun c => ?_) (fun c => ?_)
  ·
    refine V_iload_2 27 dX12_sumOn_27 ?_
    refine V_iret 28 .int dX12_sumOn_28 rfl rfl (Nat.le_of_ble_eq_true rfl) (Nat.le_of_ble_eq_true rfl) (RI.mk ⟨rfl, rfl⟩)
  ·
    have hi2 := nI_lt8 (by decide) hi c
    refine V_iload_2 10 dX12_sumOn_10 ?_
    refine V_aload_0 11 dX12_sumOn_11 ?_
    refine V_getR 12 (c := 12) 54 (F.r 0 54 38 rfl) dX12_sumOn_12 fl_RX12_131 (F.m 0 (Nat.le_of_ble_eq_true rfl)) (F.k 0 12 rfl) (Nat.le_of_ble_eq_true rfl) (Nat.le_of_ble_eq_true rfl) rfl ?_
    refine V_iload_1 15 dX12_sumOn_15 ?_
    refine V_iload_3 16 dX12_sumOn_16 ?_
    refine V_iadd 17 dX12_sumOn_17 ?_
    refine V_iaload2 18 dX12_sumOn_18 (F.m 38 (Nat.le_of_ble_eq_true rfl)) (F.k 38 14 rfl) (F.l 38 30 rfl) ?_ ?_
    · exact hin i hi2
    rw [D.z 38 (by decide)]
    refine V_iadd 19 dX12_sumOn_19 ?_
    rw [show (0 : Int32) + 0 = 0 from by decide]
    refine V_istore_2 20 dX12_sumOn_20 rfl (Nat.le_of_ble_eq_true rfl) ?_
    refine V_iinc_3 21 (1) dX12_sumOn_21 (by decide) rfl (Nat.le_of_ble_eq_true rfl) ?_
    refine V_goto 24 4 dX12_sumOn_24 (by decide) ?_
    rw [← nI_succ]
    exact ih (i + 1) (by omega) (by omega)
theorem FM.ro {m : Nat} {S S2 : PS} (h : FM m S) (hR : RO [m + 40] S S2) : FM m S2 := h.to (fun _ _ => by rw [hR.2.1]) (fun r hr => hR.2.2.2 (m + r) (by simp; omega))
set_option maxRecDepth 100000 in
set_option maxHeartbeats 8000000 in
theorem c_fillsSteps (l : Launch) (Γ : GC) (S : PS) {m : Nat} (F : isL lyModel Γ.2.2.2.2.1 S m) (D : FM m S) : CT l Γ yX12_fillsSteps cX12_fillsSteps 2 none (0) (0) (0) [.ref m] S (RV (fun S' => RO [m + 40] S S' ∧ ∀ j, j < 9 → sA S' (m + 40) j = 1)) := by
  refine CT.of RX12 "fillsSteps" [some (.ref m), none] (by decide +kernel) rfl rfl (Nat.le_of_ble_eq_true rfl) rfl (fun M hM => ?_)
  subst hM
  refine V_aload_0 0 dX12_fillsSteps_0 ?_
  refine V_getR 1 (c := 12) 59 (F.r 0 59 40 rfl) dX12_fillsSteps_1 fl_RX12_137 (F.m 0 (Nat.le_of_ble_eq_true rfl)) (F.k 0 12 rfl) (Nat.le_of_ble_eq_true rfl) (Nat.le_of_ble_eq_true rfl) rfl ?_
  refine V_iconst 4 (0) dX12_fillsSteps_4 (by decide) ?_
  refine V_iconst 5 (1) dX12_fillsSteps_5 (by decide) ?_
  refine V_iastore2 6 dX12_fillsSteps_6 (F.m 40 (Nat.le_of_ble_eq_true rfl)) (F.k 40 14 rfl) (F.l 40 9 rfl) ?_ ?_
  · exact (by unfold vp_in; decide)
  refine V_iconst 7 (0) dX12_fillsSteps_7 (by decide) ?_
  refine V_istore_1 8 dX12_fillsSteps_8 rfl (Nat.le_of_ble_eq_true rfl) ?_
  rw [cl0]
  refine V_while (α := Nat × PS) (fun x => 8 - x.1) (fun x => x.1 ≤ 8 ∧ RO [m + 40] S x.2 ∧ ∀ j, j ≤ x.1 → sA x.2 (m + 40) j = 1) (fun x => x.2) (fun x => [some (.ref m), some (.int (nI x.1))]) (0, uA S (m + 40) 0 1) ⟨Nat.zero_le _, RO.rf.uA (by simp), fun j hj => by rw [show j = 0 from Nat.le_zero.mp hj]; exact up2_s _ _ _ _⟩ (fun x hx ih => ?_)
  obtain ⟨i, S2⟩ := x
  obtain ⟨hi, hR, h1⟩ := hx
  dsimp only at hi hR h1 ih ⊢
  have F2 := F.ss hR.1
  have D2 := D.ro hR
  refine V_iload_1 9 dX12_fillsSteps_9 ?_
  refine V_bipush 10 (8) dX12_fillsSteps_10 (by decide) ?_
  refine V_icmp_ge 12 61 dX12_fillsSteps_12 (by decide) (fun c => ?_) (fun c => ?_)
  ·
    have hi2 := nI_ge8 (by decide) hi c
    subst hi2
    refine V_vret 61 dX12_fillsSteps_61 rfl (Nat.le_of_ble_eq_true rfl) (Nat.le_of_ble_eq_true rfl) (RV.mk ⟨hR, fun j hj => h1 j (by omega)⟩)
  ·
    have hi2 := nI_lt8 (by decide) hi c
    refine V_aload_0 15 dX12_fillsSteps_15 ?_
    refine V_getR 16 (c := 12) 59 (F2.r 0 59 40 rfl) dX12_fillsSteps_16 fl_RX12_137 (F2.m 0 (Nat.le_of_ble_eq_true rfl)) (F2.k 0 12 rfl) (Nat.le_of_ble_eq_true rfl) (Nat.le_of_ble_eq_true rfl) rfl ?_
    refine V_iload_1 19 dX12_fillsSteps_19 ?_
    refine V_iconst 20 (1) dX12_fillsSteps_20 (by decide) ?_
    refine V_iadd 21 dX12_fillsSteps_21 ?_
    refine V_aload_0 22 dX12_fillsSteps_22 ?_
    refine V_getR 23 (c := 12) 59 (F2.r 0 59 40 rfl) dX12_fillsSteps_23 fl_RX12_137 (F2.m 0 (Nat.le_of_ble_eq_true rfl)) (F2.k 0 12 rfl) (Nat.le_of_ble_eq_true rfl) (Nat.le_of_ble_eq_true rfl) rfl ?_
    refine V_iload_1 26 dX12_fillsSteps_26 ?_
    refine V_iaload2 27 dX12_fillsSteps_27 (F2.m 40 (Nat.le_of_ble_eq_true rfl)) (F2.k 40 14 rfl) (F2.l 40 9 rfl) ?_ ?_
    · exact vp_in_nI (by omega) (by decide)
    rw [nI_clamp (by omega), h1 i (Nat.le_refl _)]
    refine V_iload_1 28 dX12_fillsSteps_28 ?_
    refine V_aload_0 29 dX12_fillsSteps_29 ?_
    refine V_getR 30 (c := 12) 23 (F2.r 0 23 11 rfl) dX12_fillsSteps_30 fl_RX12_49 (F2.m 0 (Nat.le_of_ble_eq_true rfl)) (F2.k 0 12 rfl) (Nat.le_of_ble_eq_true rfl) (Nat.le_of_ble_eq_true rfl) rfl ?_
    refine V_aload_0 33 dX12_fillsSteps_33 ?_
    refine V_getI 34 (c := 12) 18 dX12_fillsSteps_34 fl_RX12_264 (F2.m 0 (Nat.le_of_ble_eq_true rfl)) (F2.k 0 12 rfl) (Nat.le_of_ble_eq_true rfl) (Nat.le_of_ble_eq_true rfl) rfl ?_
    rw [D2.i 18 (by decide)]
    refine V_iaload2 37 dX12_fillsSteps_37 (F2.m 11 (Nat.le_of_ble_eq_true rfl)) (F2.k 11 14 rfl) (F2.l 11 2 rfl) ?_ ?_
    · exact (by unfold vp_in; decide)
    rw [D2.o 11 (by decide)]
    refine V_icmp_ge 38 52 dX12_fillsSteps_38 (by decide) (fun _ => ?_) (fun q => absurd (nI_pos' (by omega)) q)
    refine V_iconst 52 (1) dX12_fillsSteps_52 (by decide) ?_
    refine V_imul 53 dX12_fillsSteps_53 ?_
    refine V_iastore2 54 dX12_fillsSteps_54 (F2.m 40 (Nat.le_of_ble_eq_true rfl)) (F2.k 40 14 rfl) (F2.l 40 9 rfl) ?_ ?_
    · exact (by rw [nI_1]; exact vp_in_nI (by omega) (by decide))
    refine V_iinc_1 55 (1) dX12_fillsSteps_55 (by decide) rfl (Nat.le_of_ble_eq_true rfl) ?_
    refine V_goto 58 9 dX12_fillsSteps_58 (by decide) ?_
    rw [nI_1, nI_clamp (by omega), show (1 : Int32) * 1 = 1 from by decide]
    refine ih (i + 1, _) ⟨by dsimp only; omega, hR.uA (by simp), fun j hj => ?_⟩ (by dsimp only; omega)
    dsimp only at hj
    show sA (uA S2 (m + 40) (i + 1) 1) (m + 40) j = 1
    by_cases q : j = i + 1
    · subst q; rw [sA_uA, up2_s]
    · rw [sA_uA, up2_k _ _ q]; exact h1 j (by omega)
set_option maxRecDepth 100000 in
set_option maxHeartbeats 8000000 in
theorem c_takesNumber (l : Launch) (Γ : GC) (S : PS) {m : Nat} (F : isL lyModel Γ.2.2.2.2.1 S m) (D : FM m S) (n : Int32) : CT l Γ yX12_takesNumber cX12_takesNumber 3 none (0) (0) (0) [.ref m, .int n] S (RV (fun S' => S' = S)) := by
  refine CT.of RX12 "takesNumber" [some (.ref m), some (.int n), none] (by decide +kernel) rfl rfl (Nat.le_of_ble_eq_true rfl) rfl (fun M hM => ?_)
  subst hM
  refine V_iconst 0 (0) dX12_takesNumber_0 (by decide) ?_
  refine V_istore_2 1 dX12_takesNumber_1 rfl (Nat.le_of_ble_eq_true rfl) ?_
  refine V_while (α := Nat) (fun i => 8 - i) (fun i => i ≤ 8) (fun _ => S) (fun i => [some (.ref m), some (.int n), some (.int (nI i))]) 0 (Nat.zero_le _) (fun i hi ih => ?_)
  refine V_iload_2 2 dX12_takesNumber_2 ?_
  refine V_bipush 3 (8) dX12_takesNumber_3 (by decide) ?_
  refine V_icmp_ge 5 54 dX12_takesNumber_5 (by decide) (fun c => ?_) (fun c => ?_)
  ·
    refine V_vret 54 dX12_takesNumber_54 rfl (Nat.le_of_ble_eq_true rfl) (Nat.le_of_ble_eq_true rfl) (RV.mk rfl)
  ·
    have hi2 := nI_lt8 (by decide) hi c
    refine V_aload_0 8 dX12_takesNumber_8 ?_
    refine V_getR 9 (c := 12) 61 (F.r 0 61 42 rfl) dX12_takesNumber_9 fl_RX12_143 (F.m 0 (Nat.le_of_ble_eq_true rfl)) (F.k 0 12 rfl) (Nat.le_of_ble_eq_true rfl) (Nat.le_of_ble_eq_true rfl) rfl ?_
    refine V_iload_2 12 dX12_takesNumber_12 ?_
    refine V_iload_2 13 dX12_takesNumber_13 ?_
    refine V_aload_0 14 dX12_takesNumber_14 ?_
    refine V_getR 15 (c := 12) 23 (F.r 0 23 11 rfl) dX12_takesNumber_15 fl_RX12_49 (F.m 0 (Nat.le_of_ble_eq_true rfl)) (F.k 0 12 rfl) (Nat.le_of_ble_eq_true rfl) (Nat.le_of_ble_eq_true rfl) rfl ?_
    refine V_aload_0 18 dX12_takesNumber_18 ?_
    refine V_getI 19 (c := 12) 18 dX12_takesNumber_19 fl_RX12_264 (F.m 0 (Nat.le_of_ble_eq_true rfl)) (F.k 0 12 rfl) (Nat.le_of_ble_eq_true rfl) (Nat.le_of_ble_eq_true rfl) rfl ?_
    rw [D.i 18 (by decide)]
    refine V_iaload2 22 dX12_takesNumber_22 (F.m 11 (Nat.le_of_ble_eq_true rfl)) (F.k 11 14 rfl) (F.l 11 2 rfl) ?_ ?_
    · exact (by unfold vp_in; decide)
    rw [D.o 11 (by decide)]
    refine V_icmp_ge 23 46 dX12_takesNumber_23 (by decide) (fun _ => ?_) (fun q => absurd (nI_pos' (by omega)) q)
    refine V_iconst 46 (0) dX12_takesNumber_46 (by decide) ?_
    refine V_iastore2 47 dX12_takesNumber_47 (F.m 42 (Nat.le_of_ble_eq_true rfl)) (F.k 42 14 rfl) (F.l 42 8 rfl) ?_ ?_
    · exact vp_in_nI hi2 (by decide)
    refine V.to (uA_id ((D.z 42 (by decide) _).trans (by decide))) ?_
    refine V_iinc_2 48 (1) dX12_takesNumber_48 (by decide) rfl (Nat.le_of_ble_eq_true rfl) ?_
    refine V_goto 51 2 dX12_takesNumber_51 (by decide) ?_
    rw [← nI_succ]
    exact ih (i + 1) (by omega) (by omega)
set_option maxRecDepth 100000 in
set_option maxHeartbeats 8000000 in
theorem c_drawnAll (l : Launch) (Γ : GC) (S : PS) {m : Nat} (F : isL lyModel Γ.2.2.2.2.1 S m) (D : FM m S) : CT l Γ yX12_drawnAll cX12_drawnAll 3 (some .int) (0) (0) (0) [.ref m] S (RI (fun r S' => r = 0 ∧ S' = S)) := by
  refine CT.of RX12 "drawnAll" [some (.ref m), none, none] (by decide +kernel) rfl rfl (Nat.le_of_ble_eq_true rfl) rfl (fun M hM => ?_)
  subst hM
  refine V_iconst 0 (0) dX12_drawnAll_0 (by decide) ?_
  refine V_istore_1 1 dX12_drawnAll_1 rfl (Nat.le_of_ble_eq_true rfl) ?_
  refine V_iconst 2 (0) dX12_drawnAll_2 (by decide) ?_
  refine V_istore_2 3 dX12_drawnAll_3 rfl (Nat.le_of_ble_eq_true rfl) ?_
  refine V_while (α := Nat) (fun i => 8 - i) (fun i => i ≤ 8) (fun _ => S) (fun i => [some (.ref m), some (.int 0), some (.int (nI i))]) 0 (Nat.zero_le _) (fun i hi ih => ?_)
  refine V_iload_2 4 dX12_drawnAll_4 ?_
  refine V_bipush 5 (8) dX12_drawnAll_5 (by decide) ?_
  refine V_icmp_ge 7 25 dX12_drawnAll_7 (by decide) (fun c => ?_) (fun c => ?_)
  ·
    refine V_iload_1 25 dX12_drawnAll_25 ?_
    refine V_iret 26 .int dX12_drawnAll_26 rfl rfl (Nat.le_of_ble_eq_true rfl) (Nat.le_of_ble_eq_true rfl) (RI.mk ⟨rfl, rfl⟩)
  ·
    have hi2 := nI_lt8 (by decide) hi c
    refine V_iload_1 10 dX12_drawnAll_10 ?_
    refine V_aload_0 11 dX12_drawnAll_11 ?_
    refine V_getR 12 (c := 12) 61 (F.r 0 61 42 rfl) dX12_drawnAll_12 fl_RX12_143 (F.m 0 (Nat.le_of_ble_eq_true rfl)) (F.k 0 12 rfl) (Nat.le_of_ble_eq_true rfl) (Nat.le_of_ble_eq_true rfl) rfl ?_
    refine V_iload_2 15 dX12_drawnAll_15 ?_
    refine V_iaload2 16 dX12_drawnAll_16 (F.m 42 (Nat.le_of_ble_eq_true rfl)) (F.k 42 14 rfl) (F.l 42 8 rfl) ?_ ?_
    · exact vp_in_nI hi2 (by decide)
    rw [D.z 42 (by decide)]
    refine V_iadd 17 dX12_drawnAll_17 ?_
    rw [show (0 : Int32) + 0 = 0 from by decide]
    refine V_istore_1 18 dX12_drawnAll_18 rfl (Nat.le_of_ble_eq_true rfl) ?_
    refine V_iinc_2 19 (1) dX12_drawnAll_19 (by decide) rfl (Nat.le_of_ble_eq_true rfl) ?_
    refine V_goto 22 4 dX12_drawnAll_22 (by decide) ?_
    rw [← nI_succ]
    exact ih (i + 1) (by omega) (by omega)
set_option maxRecDepth 100000 in
set_option maxHeartbeats 8000000 in
theorem c_lieOut (l : Launch) (Γ : GC) (S : PS) {m : Nat} (F : isL lyModel Γ.2.2.2.2.1 S m) (D : FM m S) : CT l Γ yX12_lieOut cX12_lieOut 5 (some .int) (0) (0) (0) [.ref m] S (RI (fun r S' => r = 0 ∧ S' = S)) := by
  refine CT.of RX12 "lieOut" [some (.ref m), none, none, none, none] (by decide +kernel) rfl rfl (Nat.le_of_ble_eq_true rfl) rfl (fun M hM => ?_)
  subst hM
  refine V_iconst 0 (0) dX12_lieOut_0 (by decide) ?_
  refine V_istore_1 1 dX12_lieOut_1 rfl (Nat.le_of_ble_eq_true rfl) ?_
  refine V_iconst 2 (0) dX12_lieOut_2 (by decide) ?_
  refine V_istore_2 3 dX12_lieOut_3 rfl (Nat.le_of_ble_eq_true rfl) ?_
  refine V_iload_2 4 dX12_lieOut_4 ?_
  refine V_aload_0 5 dX12_lieOut_5 ?_
  refine V_getR 6 (c := 12) 23 (F.r 0 23 11 rfl) dX12_lieOut_6 fl_RX12_49 (F.m 0 (Nat.le_of_ble_eq_true rfl)) (F.k 0 12 rfl) (Nat.le_of_ble_eq_true rfl) (Nat.le_of_ble_eq_true rfl) rfl ?_
  refine V_aload_0 9 dX12_lieOut_9 ?_
  refine V_getI 10 (c := 12) 18 dX12_lieOut_10 fl_RX12_264 (F.m 0 (Nat.le_of_ble_eq_true rfl)) (F.k 0 12 rfl) (Nat.le_of_ble_eq_true rfl) (Nat.le_of_ble_eq_true rfl) rfl ?_
  rw [D.i 18 (by decide)]
  refine V_iaload2 13 dX12_lieOut_13 (F.m 11 (Nat.le_of_ble_eq_true rfl)) (F.k 11 14 rfl) (F.l 11 2 rfl) ?_ ?_
  · exact (by unfold vp_in; decide)
  rw [D.o 11 (by decide)]
  refine V_icmp_ge 14 105 dX12_lieOut_14 (by decide) (fun _ => ?_) (fun q => absurd (by decide) q)
  refine V_iload_1 105 dX12_lieOut_105 ?_
  refine V_iret 106 .int dX12_lieOut_106 rfl rfl (Nat.le_of_ble_eq_true rfl) (Nat.le_of_ble_eq_true rfl) (RI.mk ⟨rfl, rfl⟩)
set_option maxRecDepth 100000 in
set_option maxHeartbeats 8000000 in
theorem c_rolledAll (l : Launch) (Γ : GC) (S : PS) {m : Nat} (F : isL lyModel Γ.2.2.2.2.1 S m) (D : FM m S) : CT l Γ yX12_rolledAll cX12_rolledAll 3 (some .int) (0) (0) (0) [.ref m] S (RI (fun r S' => r = 0 ∧ S' = S)) := by
  refine CT.of RX12 "rolledAll" [some (.ref m), none, none] (by decide +kernel) rfl rfl (Nat.le_of_ble_eq_true rfl) rfl (fun M hM => ?_)
  subst hM
  refine V_iconst 0 (0) dX12_rolledAll_0 (by decide) ?_
  refine V_istore_1 1 dX12_rolledAll_1 rfl (Nat.le_of_ble_eq_true rfl) ?_
  refine V_iconst 2 (0) dX12_rolledAll_2 (by decide) ?_
  refine V_istore_2 3 dX12_rolledAll_3 rfl (Nat.le_of_ble_eq_true rfl) ?_
  refine V_iload_2 4 dX12_rolledAll_4 ?_
  refine V_aload_0 5 dX12_rolledAll_5 ?_
  refine V_getR 6 (c := 12) 23 (F.r 0 23 11 rfl) dX12_rolledAll_6 fl_RX12_49 (F.m 0 (Nat.le_of_ble_eq_true rfl)) (F.k 0 12 rfl) (Nat.le_of_ble_eq_true rfl) (Nat.le_of_ble_eq_true rfl) rfl ?_
  refine V_aload_0 9 dX12_rolledAll_9 ?_
  refine V_getI 10 (c := 12) 18 dX12_rolledAll_10 fl_RX12_264 (F.m 0 (Nat.le_of_ble_eq_true rfl)) (F.k 0 12 rfl) (Nat.le_of_ble_eq_true rfl) (Nat.le_of_ble_eq_true rfl) rfl ?_
  rw [D.i 18 (by decide)]
  refine V_iaload2 13 dX12_rolledAll_13 (F.m 11 (Nat.le_of_ble_eq_true rfl)) (F.k 11 14 rfl) (F.l 11 2 rfl) ?_ ?_
  · exact (by unfold vp_in; decide)
  rw [D.o 11 (by decide)]
  refine V_icmp_ge 14 44 dX12_rolledAll_14 (by decide) (fun _ => ?_) (fun q => absurd (by decide) q)
  refine V_iload_1 44 dX12_rolledAll_44 ?_
  refine V_iret 45 .int dX12_rolledAll_45 rfl rfl (Nat.le_of_ble_eq_true rfl) (Nat.le_of_ble_eq_true rfl) (RI.mk ⟨rfl, rfl⟩)
/-- what holds behind fillsWays -/
def FW (m : Nat) (S S' : PS) : Prop := SSm S S' ∧ FM m S' ∧ (∀ j, j < 9 → sA S' (m + 40) j = 1) ∧ sJ S' (m + 41) 0 = 1
set_option maxRecDepth 100000 in
set_option maxHeartbeats 8000000 in
theorem c_fillsWays (l : Launch) (Γ : GC) (S : PS) {m : Nat} (F : isL lyModel Γ.2.2.2.2.1 S m) (D : FM m S) (n : Int32) : CT l Γ yX12_fillsWays cX12_fillsWays 6 none (1) (0) (0) [.ref m, .int n] S (RV (fun S' => FW m S S')) := by
  refine CT.of RX12 "fillsWays" [some (.ref m), some (.int n), none, none, none, none] (by decide +kernel) rfl rfl (Nat.le_of_ble_eq_true rfl) rfl (fun M hM => ?_)
  subst hM
  refine V_aload_0 0 dX12_fillsWays_0 ?_
  refine V_callV 1 (ci := 12) [] _ (c_copies M.2.1 Γ _ F D) dX12_fillsWays_1 cb_X12_copies ml_RX12_364 im_yX12_copies se_yX12_copies (F.m 0 (Nat.le_of_ble_eq_true rfl)) (F.k 0 12 rfl) (Nat.le_of_ble_eq_true rfl) ⟨(Nat.le_of_ble_eq_true rfl), (Nat.le_of_ble_eq_true rfl)⟩ rfl rfl (Nat.le_of_ble_eq_true rfl) ⟨(Nat.le_of_ble_eq_true rfl), (Nat.le_of_ble_eq_true rfl)⟩ (RV.go (fun S1 hq => ?_))
  have D1 : FM m S1 := by rw [hq]; exact (D.uI (Or.inl rfl)).uI (Or.inr rfl)
  have s1 : SSm S S1 := by rw [hq]; exact ⟨rfl, rfl, rfl, rfl, rfl⟩
  clear hq
  have F1 := F.ss s1
  refine V_aload_0 4 dX12_fillsWays_4 ?_
  refine V_callV 5 (ci := 12) [] _ (c_fillsSteps M.2.1 Γ _ F1 D1) dX12_fillsWays_5 cb_X12_fillsSteps ml_RX12_376 im_yX12_fillsSteps se_yX12_fillsSteps (F1.m 0 (Nat.le_of_ble_eq_true rfl)) (F1.k 0 12 rfl) (Nat.le_of_ble_eq_true rfl) ⟨(Nat.le_of_ble_eq_true rfl), (Nat.le_of_ble_eq_true rfl)⟩ rfl rfl (Nat.le_of_ble_eq_true rfl) ⟨(Nat.le_of_ble_eq_true rfl), (Nat.le_of_ble_eq_true rfl)⟩ (RV.go (fun S2 hq => ?_))
  have s2 := s1.tr hq.1.1
  have D2 := D1.ro hq.1
  have F2 := F.ss s2
  refine V_aload_0 8 dX12_fillsWays_8 ?_
  refine V_getR 9 (c := 12) 60 (F2.r 0 60 41 rfl) dX12_fillsWays_9 fl_RX12_140 (F2.m 0 (Nat.le_of_ble_eq_true rfl)) (F2.k 0 12 rfl) (Nat.le_of_ble_eq_true rfl) (Nat.le_of_ble_eq_true rfl) rfl ?_
  refine V_iconst 12 (0) dX12_fillsWays_12 (by decide) ?_
  refine V_lconst 13 1 dX12_fillsWays_13 (by decide) ?_
  refine V_lastore2 14 dX12_fillsWays_14 (F2.m 41 (Nat.le_of_ble_eq_true rfl)) (F2.k 41 15 rfl) (F2.l 41 20000 rfl) ?_ ?_
  · exact (by unfold vp_in; decide)
  refine V_abs (FW m S) ⟨s2.tr ⟨rfl, rfl, rfl, rfl, rfl⟩, D2.uJ, hq.2, by rw [sJ_uJ, cl0, up2_s]⟩ (fun S3 h3 => ?_)
  have F3 := F.ss h3.1
  refine V_iconst 15 (1) dX12_fillsWays_15 (by decide) ?_
  refine V_istore_2 16 dX12_fillsWays_16 rfl (Nat.le_of_ble_eq_true rfl) ?_
  refine V_iload_2 17 dX12_fillsWays_17 ?_
  refine V_aload_0 18 dX12_fillsWays_18 ?_
  refine V_getR 19 (c := 12) 59 (F3.r 0 59 40 rfl) dX12_fillsWays_19 fl_RX12_137 (F3.m 0 (Nat.le_of_ble_eq_true rfl)) (F3.k 0 12 rfl) (Nat.le_of_ble_eq_true rfl) (Nat.le_of_ble_eq_true rfl) rfl ?_
  refine V_bipush 22 (8) dX12_fillsWays_22 (by decide) ?_
  refine V_iaload2 24 dX12_fillsWays_24 (F3.m 40 (Nat.le_of_ble_eq_true rfl)) (F3.k 40 14 rfl) (F3.l 40 9 rfl) ?_ ?_
  · exact (by unfold vp_in; decide)
  rw [show ((8 : Int32)).toNatClampNeg = 8 from by decide, h3.2.2.1 8 (by decide)]
  refine V_icmp_ge 25 125 dX12_fillsWays_25 (by decide) (fun _ => ?_) (fun q => absurd (by decide) q)
  refine V_vret 125 dX12_fillsWays_125 rfl (Nat.le_of_ble_eq_true rfl) (Nat.le_of_ble_eq_true rfl) (RV.mk h3)
set_option maxRecDepth 100000 in
set_option maxHeartbeats 8000000 in
theorem c_withinOf (l : Launch) (Γ : GC) (S : PS) {m : Nat} (F : isL lyModel Γ.2.2.2.2.1 S m) (D : FM m S) (n : Int32) : CT l Γ yX12_withinOf cX12_withinOf 2 (some .long) (2) (0) (0) [.ref m, .int n] S (RLg (fun r S' => r = 1 ∧ SSm S S' ∧ FM m S')) := by
  refine CT.of RX12 "withinOf" [some (.ref m), some (.int n)] (by decide +kernel) rfl rfl (Nat.le_of_ble_eq_true rfl) rfl (fun M hM => ?_)
  subst hM
  refine V_aload_0 0 dX12_withinOf_0 ?_
  refine V_iload_1 1 dX12_withinOf_1 ?_
  refine V_callV 2 (ci := 12) [.int _] _ (c_fillsWays M.2.1 Γ _ F D _) dX12_withinOf_2 cb_X12_fillsWays ml_RX12_385 im_yX12_fillsWays se_yX12_fillsWays (F.m 0 (Nat.le_of_ble_eq_true rfl)) (F.k 0 12 rfl) (Nat.le_of_ble_eq_true rfl) ⟨(Nat.le_of_ble_eq_true rfl), (Nat.le_of_ble_eq_true rfl)⟩ rfl rfl (Nat.le_of_ble_eq_true rfl) ⟨(Nat.le_of_ble_eq_true rfl), (Nat.le_of_ble_eq_true rfl)⟩ (RV.go (fun S1 h1 => ?_))
  have F1 := F.ss h1.1
  refine V_aload_0 5 dX12_withinOf_5 ?_
  refine V_getR 6 (c := 12) 60 (F1.r 0 60 41 rfl) dX12_withinOf_6 fl_RX12_140 (F1.m 0 (Nat.le_of_ble_eq_true rfl)) (F1.k 0 12 rfl) (Nat.le_of_ble_eq_true rfl) (Nat.le_of_ble_eq_true rfl) rfl ?_
  refine V_aload_0 9 dX12_withinOf_9 ?_
  refine V_getR 10 (c := 12) 59 (F1.r 0 59 40 rfl) dX12_withinOf_10 fl_RX12_137 (F1.m 0 (Nat.le_of_ble_eq_true rfl)) (F1.k 0 12 rfl) (Nat.le_of_ble_eq_true rfl) (Nat.le_of_ble_eq_true rfl) rfl ?_
  refine V_bipush 13 (8) dX12_withinOf_13 (by decide) ?_
  refine V_iaload2 15 dX12_withinOf_15 (F1.m 40 (Nat.le_of_ble_eq_true rfl)) (F1.k 40 14 rfl) (F1.l 40 9 rfl) ?_ ?_
  · exact (by unfold vp_in; decide)
  rw [show ((8 : Int32)).toNatClampNeg = 8 from by decide, h1.2.2.1 8 (by decide)]
  refine V_iconst 16 (1) dX12_withinOf_16 (by decide) ?_
  refine V_isub 17 dX12_withinOf_17 ?_
  refine V_laload2 18 dX12_withinOf_18 (F1.m 41 (Nat.le_of_ble_eq_true rfl)) (F1.k 41 15 rfl) (F1.l 41 20000 rfl) ?_ ?_
  · exact (by unfold vp_in; decide)
  rw [i1m1, h1.2.2.2]
  refine V_lret 19 dX12_withinOf_19 rfl (Nat.le_of_ble_eq_true rfl) (Nat.le_of_ble_eq_true rfl) (RLg.mk ⟨rfl, h1.1, h1.2.1⟩)
set_option maxRecDepth 100000 in
set_option maxHeartbeats 8000000 in
theorem c_orders (l : Launch) (Γ : GC) (S : PS) (n : Int32) (hn : n = 0) : CT l Γ yX12_orders cX12_orders 4 (some .long) (0) (0) (0) [.int n] S (RLg (fun r S' => r = 1 ∧ S' = S)) := by
  refine CT.of RX12 "orders" [some (.int n), none, none, none] (by decide +kernel) rfl rfl (Nat.le_of_ble_eq_true rfl) rfl (fun M hM => ?_)
  subst hM
  subst hn
  refine V_lconst 0 1 dX12_orders_0 (by decide) ?_
  refine V_lstore_1 1 dX12_orders_1 rfl (Nat.le_of_ble_eq_true rfl) ?_
  refine V_iconst 2 (2) dX12_orders_2 (by decide) ?_
  refine V_istore_3 3 dX12_orders_3 rfl (Nat.le_of_ble_eq_true rfl) ?_
  refine V_iload_3 4 dX12_orders_4 ?_
  refine V_iload_0 5 dX12_orders_5 ?_
  refine V_icmp_gt 6 20 dX12_orders_6 (by decide) (fun _ => ?_) (fun q => absurd (by decide) q)
  refine V_lload_1 20 dX12_orders_20 ?_
  refine V_lret 21 dX12_orders_21 rfl (Nat.le_of_ble_eq_true rfl) (Nat.le_of_ble_eq_true rfl) (RLg.mk ⟨rfl, rfl⟩)
set_option maxRecDepth 100000 in
set_option maxHeartbeats 8000000 in
theorem c_drawsIn (l : Launch) (Γ : GC) (S : PS) {m : Nat} (F : isL lyModel Γ.2.2.2.2.1 S m) (D : FM m S) (n : Int32) : CT l Γ yX12_drawsIn cX12_drawsIn 3 (some .int) (1) (0) (0) [.ref m, .int n] S (RI (fun r S' => r = 0 ∧ S' = S)) := by
  refine CT.of RX12 "drawsIn" [some (.ref m), some (.int n), none] (by decide +kernel) rfl rfl (Nat.le_of_ble_eq_true rfl) rfl (fun M hM => ?_)
  subst hM
  refine V_iconst 0 (0) dX12_drawsIn_0 (by decide) ?_
  refine V_istore_2 1 dX12_drawsIn_1 rfl (Nat.le_of_ble_eq_true rfl) ?_
  refine V_iload_2 2 dX12_drawsIn_2 ?_
  refine V_iload_1 3 dX12_drawsIn_3 ?_
  refine V_icmp_ge 4 40 dX12_drawsIn_4 (by decide) (fun c => ?_) (fun c => ?_)
  ·
    refine V_iload_2 40 dX12_drawsIn_40 ?_
    refine V_iret 41 .int dX12_drawsIn_41 rfl rfl (Nat.le_of_ble_eq_true rfl) (Nat.le_of_ble_eq_true rfl) (RI.mk ⟨rfl, rfl⟩)
  ·
    refine V_aload_0 7 dX12_drawsIn_7 ?_
    refine V_iconst 8 (0) dX12_drawsIn_8 (by decide) ?_
    refine V_callV 9 (ci := 12) [.int _] _ (c_sumOnM M.2.1 Γ _ F D _ (Or.inl rfl)) dX12_drawsIn_9 cb_X12_sumOn ml_RX12_352 im_yX12_sumOn se_yX12_sumOn (F.m 0 (Nat.le_of_ble_eq_true rfl)) (F.k 0 12 rfl) (Nat.le_of_ble_eq_true rfl) ⟨(Nat.le_of_ble_eq_true rfl), (Nat.le_of_ble_eq_true rfl)⟩ rfl rfl (Nat.le_of_ble_eq_true rfl) ⟨(Nat.le_of_ble_eq_true rfl), (Nat.le_of_ble_eq_true rfl)⟩ (RI.go (fun r S1 hq => ?_))
    obtain ⟨rfl, rfl⟩ := hq
    refine V_if_le 12 40 dX12_drawsIn_12 (by decide) (fun _ => ?_) (fun q => absurd (by decide) q)
    refine V_iload_2 40 dX12_drawsIn_40 ?_
    refine V_iret 41 .int dX12_drawsIn_41 rfl rfl (Nat.le_of_ble_eq_true rfl) (Nat.le_of_ble_eq_true rfl) (RI.mk ⟨rfl, rfl⟩)
set_option maxRecDepth 100000 in
set_option maxHeartbeats 8000000 in
theorem c_hangs (l : Launch) (Γ : GC) (S : PS) {m : Nat} (F : isL lyModel Γ.2.2.2.2.1 S m) (D : FM m S) : CT l Γ yX12_hangs cX12_hangs 2 none (0) (0) (0) [.ref m] S (RV (fun S' => S' = S)) := by
  refine CT.of RX12 "hangs" [some (.ref m), none] (by decide +kernel) rfl rfl (Nat.le_of_ble_eq_true rfl) rfl (fun M hM => ?_)
  subst hM
  refine V_iconst 0 (0) dX12_hangs_0 (by decide) ?_
  refine V_istore_1 1 dX12_hangs_1 rfl (Nat.le_of_ble_eq_true rfl) ?_
  refine V_iload_1 2 dX12_hangs_2 ?_
  refine V_aload_0 3 dX12_hangs_3 ?_
  refine V_getR 4 (c := 12) 33 (F.r 0 33 21 rfl) dX12_hangs_4 fl_RX12_79 (F.m 0 (Nat.le_of_ble_eq_true rfl)) (F.k 0 12 rfl) (Nat.le_of_ble_eq_true rfl) (Nat.le_of_ble_eq_true rfl) rfl ?_
  refine V_aload_0 7 dX12_hangs_7 ?_
  refine V_getI 8 (c := 12) 18 dX12_hangs_8 fl_RX12_264 (F.m 0 (Nat.le_of_ble_eq_true rfl)) (F.k 0 12 rfl) (Nat.le_of_ble_eq_true rfl) (Nat.le_of_ble_eq_true rfl) rfl ?_
  rw [D.i 18 (by decide)]
  refine V_iaload2 11 dX12_hangs_11 (F.m 21 (Nat.le_of_ble_eq_true rfl)) (F.k 21 14 rfl) (F.l 21 2 rfl) ?_ ?_
  · exact (by unfold vp_in; decide)
  rw [D.o 21 (by decide)]
  refine V_icmp_ge 12 41 dX12_hangs_12 (by decide) (fun _ => ?_) (fun q => absurd (by decide) q)
  refine V_vret 41 dX12_hangs_41 rfl (Nat.le_of_ble_eq_true rfl) (Nat.le_of_ble_eq_true rfl) (RV.mk rfl)
set_option maxRecDepth 100000 in
set_option maxHeartbeats 8000000 in
theorem c_mostOutM (l : Launch) (Γ : GC) (S : PS) {m : Nat} (F : isL lyModel Γ.2.2.2.2.1 S m) (D : FM m S) : CT l Γ yX12_mostOut cX12_mostOut 5 (some .int) (0) (0) (0) [.ref m] S (RI (fun r S' => r = 0 ∧ S' = S)) := by
  refine CT.of RX12 "mostOut" [some (.ref m), none, none, none, none] (by decide +kernel) rfl rfl (Nat.le_of_ble_eq_true rfl) rfl (fun M hM => ?_)
  subst hM
  refine V_iconst 0 (0) dX12_mostOut_0 (by decide) ?_
  refine V_istore_1 1 dX12_mostOut_1 rfl (Nat.le_of_ble_eq_true rfl) ?_
  refine V_while (α := Nat) (fun i => 8 - i) (fun i => i ≤ 8) (fun _ => S) (fun i => [some (.ref m), some (.int (nI i)), none, none, none]) 0 (Nat.zero_le _) (fun i hi ih => ?_)
  refine V_iload_1 2 dX12_mostOut_2 ?_
  refine V_bipush 3 (8) dX12_mostOut_3 (by decide) ?_
  refine V_icmp_ge 5 21 dX12_mostOut_5 (by decide) (fun c => ?_) (fun c => ?_)
  ·
    refine V_iconst 21 (0) dX12_mostOut_21 (by decide) ?_
    refine V_istore_1 22 dX12_mostOut_22 rfl (Nat.le_of_ble_eq_true rfl) ?_
    refine V_iconst 23 (0) dX12_mostOut_23 (by decide) ?_
    refine V_istore_2 24 dX12_mostOut_24 rfl (Nat.le_of_ble_eq_true rfl) ?_
    refine V_aload_0 25 dX12_mostOut_25 ?_
    refine V_getR 26 (c := 12) 33 (F.r 0 33 21 rfl) dX12_mostOut_26 fl_RX12_79 (F.m 0 (Nat.le_of_ble_eq_true rfl)) (F.k 0 12 rfl) (Nat.le_of_ble_eq_true rfl) (Nat.le_of_ble_eq_true rfl) rfl ?_
    refine V_aload_0 29 dX12_mostOut_29 ?_
    refine V_getI 30 (c := 12) 18 dX12_mostOut_30 fl_RX12_264 (F.m 0 (Nat.le_of_ble_eq_true rfl)) (F.k 0 12 rfl) (Nat.le_of_ble_eq_true rfl) (Nat.le_of_ble_eq_true rfl) rfl ?_
    rw [D.i 18 (by decide)]
    refine V_iaload2 33 dX12_mostOut_33 (F.m 21 (Nat.le_of_ble_eq_true rfl)) (F.k 21 14 rfl) (F.l 21 2 rfl) ?_ ?_
    · exact (by unfold vp_in; decide)
    rw [D.o 21 (by decide)]
    refine V_iconst 34 (1) dX12_mostOut_34 (by decide) ?_
    refine V_isub 35 dX12_mostOut_35 ?_
    refine V_istore_3 36 dX12_mostOut_36 rfl (Nat.le_of_ble_eq_true rfl) ?_
    refine V_iload_3 37 dX12_mostOut_37 ?_
    refine V_if_lt 38 111 dX12_mostOut_38 (by decide) (fun _ => ?_) (fun q => absurd (by decide) q)
    refine V_iload_1 111 dX12_mostOut_111 ?_
    refine V_iret 112 .int dX12_mostOut_112 rfl rfl (Nat.le_of_ble_eq_true rfl) (Nat.le_of_ble_eq_true rfl) (RI.mk ⟨rfl, rfl⟩)
  ·
    have hi2 := nI_lt8 (by decide) hi c
    refine V_aload_0 8 dX12_mostOut_8 ?_
    refine V_getR 9 (c := 12) 63 (F.r 0 63 44 rfl) dX12_mostOut_9 fl_RX12_149 (F.m 0 (Nat.le_of_ble_eq_true rfl)) (F.k 0 12 rfl) (Nat.le_of_ble_eq_true rfl) (Nat.le_of_ble_eq_true rfl) rfl ?_
    refine V_iload_1 12 dX12_mostOut_12 ?_
    refine V_iconst 13 (0) dX12_mostOut_13 (by decide) ?_
    refine V_iastore2 14 dX12_mostOut_14 (F.m 44 (Nat.le_of_ble_eq_true rfl)) (F.k 44 14 rfl) (F.l 44 8 rfl) ?_ ?_
    · exact vp_in_nI hi2 (by decide)
    refine V.to (uA_id ((D.z 44 (by decide) _).trans (by decide))) ?_
    refine V_iinc_1 15 (1) dX12_mostOut_15 (by decide) rfl (Nat.le_of_ble_eq_true rfl) ?_
    refine V_goto 18 2 dX12_mostOut_18 (by decide) ?_
    rw [← nI_succ]
    exact ih (i + 1) (by omega) (by omega)

