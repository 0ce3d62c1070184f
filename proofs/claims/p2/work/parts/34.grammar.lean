/-! Grammar from any ints -/
set_option maxRecDepth 100000 in
set_option maxHeartbeats 8000000 in
theorem s_gfail (l : Launch) (Γ : GC) (S : PS) {g : Nat} (F : isL lyGrammar Γ.2.2.2.2.1 S g) (x : Int32) : CT l Γ yX0_fail cX0_fail 2 (some .boolean) (0) (0) (0) [.ref g, .int x] S (RI (fun r S' => (r = 0 ∨ r = 1) ∧ FZ [g + 8, g + 9] [(g, 2), (g, 3), (g, 4), (g, 5), (g, 6), (g, 7), (g + 7, 2)] S S')) := by
  refine CT.of RX0 "fail" [some (.ref g), some (.int x)] (by decide +kernel) rfl rfl (Nat.le_of_ble_eq_true rfl) rfl (fun M hM => ?_)
  subst hM
  refine V_aload_0 0 dX0_fail_0 ?_
  refine V_iload_1 1 dX0_fail_1 ?_
  refine V_putI 2 (c := 0) 4 dX0_fail_2 fl_RX0_39 (F.m 0 (Nat.le_of_ble_eq_true rfl)) (F.k 0 0 rfl) (Nat.le_of_ble_eq_true rfl) (Nat.le_of_ble_eq_true rfl) rfl (Or.inl rfl) ?_
  refine V_abs (FZ [g + 8, g + 9] [(g, 2), (g, 3), (g, 4), (g, 5), (g, 6), (g, 7), (g + 7, 2)] S) ((FZ.rf (X := [g + 8, g + 9]) (Y := [(g, 2), (g, 3), (g, 4), (g, 5), (g, 6), (g, 7), (g + 7, 2)]) (S := S)).uI (by simp)) (fun S1 h2 => ?_)
  refine V_iconst 5 (0) dX0_fail_5 (by decide) ?_
  refine V_iret 6 .boolean dX0_fail_6 rfl (nrwB (Or.inl rfl)) (Nat.le_of_ble_eq_true rfl) (Nat.le_of_ble_eq_true rfl) (RI.mk ⟨(Or.inl rfl), h2⟩)
set_option maxRecDepth 100000 in
set_option maxHeartbeats 8000000 in
theorem s_step (l : Launch) (Γ : GC) (S : PS) {g : Nat} (F : isL lyGrammar Γ.2.2.2.2.1 S g) (x : Int32) : CT l Γ yX0_step cX0_step 2 (some .boolean) (1) (0) (0) [.ref g, .int x] S (RI (fun r S' => (r = 0 ∨ r = 1) ∧ FZ [g + 8, g + 9] [(g, 2), (g, 3), (g, 4), (g, 5), (g, 6), (g, 7), (g + 7, 2)] S S')) := by
  refine CT.of RX0 "step" [some (.ref g), some (.int x)] (by decide +kernel) rfl rfl (Nat.le_of_ble_eq_true rfl) rfl (fun M hM => ?_)
  subst hM
  refine V_aload_0 0 dX0_step_0 ?_
  refine V_getI 1 (c := 0) 3 dX0_step_1 fl_RX0_36 (F.m 0 (Nat.le_of_ble_eq_true rfl)) (F.k 0 0 rfl) (Nat.le_of_ble_eq_true rfl) (Nat.le_of_ble_eq_true rfl) rfl ?_
  refine V_iload_1 4 dX0_step_4 ?_
  refine V_icmp_eq 5 14 dX0_step_5 (by decide) (fun c1 => ?_) (fun c1 => ?_)
  ·
    refine V_aload_0 14 dX0_step_14 ?_
    refine V_getI 15 (c := 0) 2 dX0_step_15 fl_RX0_28 (F.m 0 (Nat.le_of_ble_eq_true rfl)) (F.k 0 0 rfl) (Nat.le_of_ble_eq_true rfl) (Nat.le_of_ble_eq_true rfl) rfl ?_
    refine V_sipush 18 (400) dX0_step_18 (by decide) ?_
    refine V_icmp_lt 21 30 dX0_step_21 (by decide) (fun c2 => ?_) (fun c2 => ?_)
    ·
      refine V_aload_0 30 dX0_step_30 ?_
      refine V_dup 31 dX0_step_31 rfl ?_
      refine V_getI 32 (c := 0) 2 dX0_step_32 fl_RX0_28 (F.m 0 (Nat.le_of_ble_eq_true rfl)) (F.k 0 0 rfl) (Nat.le_of_ble_eq_true rfl) (Nat.le_of_ble_eq_true rfl) rfl ?_
      refine V_iconst 35 (1) dX0_step_35 (by decide) ?_
      refine V_iadd 36 dX0_step_36 ?_
      refine V_putI 37 (c := 0) 2 dX0_step_37 fl_RX0_28 (F.m 0 (Nat.le_of_ble_eq_true rfl)) (F.k 0 0 rfl) (Nat.le_of_ble_eq_true rfl) (Nat.le_of_ble_eq_true rfl) rfl (Or.inl rfl) ?_
      refine V_abs (FZ [g + 8, g + 9] [(g, 2), (g, 3), (g, 4), (g, 5), (g, 6), (g, 7), (g + 7, 2)] S) ((FZ.rf (X := [g + 8, g + 9]) (Y := [(g, 2), (g, 3), (g, 4), (g, 5), (g, 6), (g, 7), (g + 7, 2)]) (S := S)).uI (by simp)) (fun S3 h4 => ?_)
      refine V_aload_0 40 dX0_step_40 ?_
      refine V_aload_0 41 dX0_step_41 ?_
      refine V_getR 42 (c := 0) 0 ((F.ss h4.1).r 0 0 1 rfl) dX0_step_42 fl_RX0_12 ((F.ss h4.1).m 0 (Nat.le_of_ble_eq_true rfl)) ((F.ss h4.1).k 0 0 rfl) (Nat.le_of_ble_eq_true rfl) (Nat.le_of_ble_eq_true rfl) rfl ?_
      refine V_aload_0 45 dX0_step_45 ?_
      refine V_getI 46 (c := 0) 2 dX0_step_46 fl_RX0_28 ((F.ss h4.1).m 0 (Nat.le_of_ble_eq_true rfl)) ((F.ss h4.1).k 0 0 rfl) (Nat.le_of_ble_eq_true rfl) (Nat.le_of_ble_eq_true rfl) rfl ?_
      refine V_callV 49 (ci := 8) [.int _] _ (s_typeAt M.2.1 Γ S3 ((F.ss h4.1).sub 1 lyTape rfl (by decide)) _) dX0_step_49 cb_X8_typeAt ml_RX0_32 im_yX8_typeAt se_yX8_typeAt ((F.ss h4.1).m 1 (Nat.le_of_ble_eq_true rfl)) ((F.ss h4.1).k 1 8 rfl) (Nat.le_of_ble_eq_true rfl) ⟨(Nat.le_of_ble_eq_true rfl), (Nat.le_of_ble_eq_true rfl)⟩ rfl rfl (Nat.le_of_ble_eq_true rfl) ⟨(Nat.le_of_ble_eq_true rfl), (Nat.le_of_ble_eq_true rfl)⟩ (RI.go (fun r7 S5 q6 => ?_))
      have h8 : FZ [g + 8, g + 9] [(g, 2), (g, 3), (g, 4), (g, 5), (g, 6), (g, 7), (g + 7, 2)] S S5 := h4.tr (q6.sub (by simp) (by simp))
      refine V_putI 52 (c := 0) 3 dX0_step_52 fl_RX0_36 ((F.ss h8.1).m 0 (Nat.le_of_ble_eq_true rfl)) ((F.ss h8.1).k 0 0 rfl) (Nat.le_of_ble_eq_true rfl) (Nat.le_of_ble_eq_true rfl) rfl (Or.inl rfl) ?_
      refine V_abs (FZ [g + 8, g + 9] [(g, 2), (g, 3), (g, 4), (g, 5), (g, 6), (g, 7), (g + 7, 2)] S) (h8.uI (by simp)) (fun S9 h10 => ?_)
      refine V_iconst 55 (1) dX0_step_55 (by decide) ?_
      refine V_iret 56 .boolean dX0_step_56 rfl (nrwB (Or.inr rfl)) (Nat.le_of_ble_eq_true rfl) (Nat.le_of_ble_eq_true rfl) (RI.mk ⟨(Or.inr rfl), h10⟩)
    ·
      refine V_aload_0 24 dX0_step_24 ?_
      refine V_iconst 25 (2) dX0_step_25 (by decide) ?_
      refine V_callV 26 (ci := 0) [.int _] _ (s_gfail M.2.1 Γ S F _) dX0_step_26 cb_X0_fail ml_RX0_74 im_yX0_fail se_yX0_fail (F.m 0 (Nat.le_of_ble_eq_true rfl)) (F.k 0 0 rfl) (Nat.le_of_ble_eq_true rfl) ⟨(Nat.le_of_ble_eq_true rfl), (Nat.le_of_ble_eq_true rfl)⟩ rfl rfl (Nat.le_of_ble_eq_true rfl) ⟨(Nat.le_of_ble_eq_true rfl), (Nat.le_of_ble_eq_true rfl)⟩ (RI.go (fun r13 S11 q12 => ?_))
      have h14 : FZ [g + 8, g + 9] [(g, 2), (g, 3), (g, 4), (g, 5), (g, 6), (g, 7), (g + 7, 2)] S S11 := (FZ.rf (X := [g + 8, g + 9]) (Y := [(g, 2), (g, 3), (g, 4), (g, 5), (g, 6), (g, 7), (g + 7, 2)]) (S := S)).tr (q12.2.sub (by simp) (by simp))
      refine V_iret 29 .boolean dX0_step_29 rfl (nrwB q12.1) (Nat.le_of_ble_eq_true rfl) (Nat.le_of_ble_eq_true rfl) (RI.mk ⟨q12.1, h14⟩)
  ·
    refine V_aload_0 8 dX0_step_8 ?_
    refine V_iconst 9 (1) dX0_step_9 (by decide) ?_
    refine V_callV 10 (ci := 0) [.int _] _ (s_gfail M.2.1 Γ S F _) dX0_step_10 cb_X0_fail ml_RX0_74 im_yX0_fail se_yX0_fail (F.m 0 (Nat.le_of_ble_eq_true rfl)) (F.k 0 0 rfl) (Nat.le_of_ble_eq_true rfl) ⟨(Nat.le_of_ble_eq_true rfl), (Nat.le_of_ble_eq_true rfl)⟩ rfl rfl (Nat.le_of_ble_eq_true rfl) ⟨(Nat.le_of_ble_eq_true rfl), (Nat.le_of_ble_eq_true rfl)⟩ (RI.go (fun r17 S15 q16 => ?_))
    have h18 : FZ [g + 8, g + 9] [(g, 2), (g, 3), (g, 4), (g, 5), (g, 6), (g, 7), (g + 7, 2)] S S15 := (FZ.rf (X := [g + 8, g + 9]) (Y := [(g, 2), (g, 3), (g, 4), (g, 5), (g, 6), (g, 7), (g + 7, 2)]) (S := S)).tr (q16.2.sub (by simp) (by simp))
    refine V_iret 13 .boolean dX0_step_13 rfl (nrwB q16.1) (Nat.le_of_ble_eq_true rfl) (Nat.le_of_ble_eq_true rfl) (RI.mk ⟨q16.1, h18⟩)
set_option maxRecDepth 100000 in
set_option maxHeartbeats 8000000 in
theorem s_addKinds (l : Launch) (Γ : GC) (S : PS) {g : Nat} (F : isL lyGrammar Γ.2.2.2.2.1 S g) (x : Int32) : CT l Γ yX0_addKinds cX0_addKinds 2 (some .boolean) (1) (0) (0) [.ref g, .int x] S (RI (fun r S' => (r = 0 ∨ r = 1) ∧ FZ [g + 8, g + 9] [(g, 2), (g, 3), (g, 4), (g, 5), (g, 6), (g, 7), (g + 7, 2)] S S')) := by
  refine CT.of RX0 "addKinds" [some (.ref g), some (.int x)] (by decide +kernel) rfl rfl (Nat.le_of_ble_eq_true rfl) rfl (fun M hM => ?_)
  subst hM
  have J3 : ∀ (S1 : PS) , FZ [g + 8, g + 9] [(g, 2), (g, 3), (g, 4), (g, 5), (g, 6), (g, 7), (g + 7, 2)] S S1 → V M Γ (2, RX0, "addKinds", (some .boolean), RM (1) (0) (0)) cX0_addKinds (RQ M Γ (RI (fun r S' => (r = 0 ∨ r = 1) ∧ FZ [g + 8, g + 9] [(g, 2), (g, 3), (g, 4), (g, 5), (g, 6), (g, 7), (g + 7, 2)] S S')) (0) (0)) 0 0 S1 27 [some (.ref g), some (.int x)] [] := by
    intro S1  h2
    refine V_iconst 27 (1) dX0_addKinds_27 (by decide) ?_
    refine V_goto 28 32 dX0_addKinds_28 (by decide) ?_
    refine V_iret 32 .boolean dX0_addKinds_32 rfl (nrwB (Or.inr rfl)) (Nat.le_of_ble_eq_true rfl) (Nat.le_of_ble_eq_true rfl) (RI.mk ⟨(Or.inr rfl), h2⟩)
  refine V_aload_0 0 dX0_addKinds_0 ?_
  refine V_dup 1 dX0_addKinds_1 rfl ?_
  refine V_getI 2 (c := 0) 5 dX0_addKinds_2 fl_RX0_42 (F.m 0 (Nat.le_of_ble_eq_true rfl)) (F.k 0 0 rfl) (Nat.le_of_ble_eq_true rfl) (Nat.le_of_ble_eq_true rfl) rfl ?_
  refine V_iload_1 5 dX0_addKinds_5 ?_
  refine V_iadd 6 dX0_addKinds_6 ?_
  refine V_putI 7 (c := 0) 5 dX0_addKinds_7 fl_RX0_42 (F.m 0 (Nat.le_of_ble_eq_true rfl)) (F.k 0 0 rfl) (Nat.le_of_ble_eq_true rfl) (Nat.le_of_ble_eq_true rfl) rfl (Or.inl rfl) ?_
  refine V_abs (FZ [g + 8, g + 9] [(g, 2), (g, 3), (g, 4), (g, 5), (g, 6), (g, 7), (g + 7, 2)] S) ((FZ.rf (X := [g + 8, g + 9]) (Y := [(g, 2), (g, 3), (g, 4), (g, 5), (g, 6), (g, 7), (g + 7, 2)]) (S := S)).uI (by simp)) (fun S4 h5 => ?_)
  refine V_aload_0 10 dX0_addKinds_10 ?_
  refine V_getI 11 (c := 0) 5 dX0_addKinds_11 fl_RX0_42 ((F.ss h5.1).m 0 (Nat.le_of_ble_eq_true rfl)) ((F.ss h5.1).k 0 0 rfl) (Nat.le_of_ble_eq_true rfl) (Nat.le_of_ble_eq_true rfl) rfl ?_
  refine V_bipush 14 (8) dX0_addKinds_14 (by decide) ?_
  refine V_icmp_le 16 27 dX0_addKinds_16 (by decide) (fun c6 => ?_) (fun c6 => ?_)
  ·
    refine V_lvw (by repeat (first | exact trivial | refine ⟨rfl, ?_⟩)) (J3 _ h5)
  ·
    refine V_aload_0 19 dX0_addKinds_19 ?_
    refine V_iconst 20 (2) dX0_addKinds_20 (by decide) ?_
    refine V_callV 21 (ci := 0) [.int _] _ (s_gfail M.2.1 Γ S4 (F.ss h5.1) _) dX0_addKinds_21 cb_X0_fail ml_RX0_74 im_yX0_fail se_yX0_fail ((F.ss h5.1).m 0 (Nat.le_of_ble_eq_true rfl)) ((F.ss h5.1).k 0 0 rfl) (Nat.le_of_ble_eq_true rfl) ⟨(Nat.le_of_ble_eq_true rfl), (Nat.le_of_ble_eq_true rfl)⟩ rfl rfl (Nat.le_of_ble_eq_true rfl) ⟨(Nat.le_of_ble_eq_true rfl), (Nat.le_of_ble_eq_true rfl)⟩ (RI.go (fun r10 S8 q9 => ?_))
    have h11 : FZ [g + 8, g + 9] [(g, 2), (g, 3), (g, 4), (g, 5), (g, 6), (g, 7), (g + 7, 2)] S S8 := h5.tr (q9.2.sub (by simp) (by simp))
    refine V_if_eq 24 31 dX0_addKinds_24 (by decide) (fun c12 => ?_) (fun c12 => ?_)
    ·
      refine V_iconst 31 (0) dX0_addKinds_31 (by decide) ?_
      refine V_iret 32 .boolean dX0_addKinds_32 rfl (nrwB (Or.inl rfl)) (Nat.le_of_ble_eq_true rfl) (Nat.le_of_ble_eq_true rfl) (RI.mk ⟨(Or.inl rfl), h11⟩)
    ·
      refine V_lvw (by repeat (first | exact trivial | refine ⟨rfl, ?_⟩)) (J3 _ h11)
set_option maxRecDepth 100000 in
set_option maxHeartbeats 8000000 in
theorem s_addLike (l : Launch) (Γ : GC) (S : PS) {g : Nat} (F : isL lyGrammar Γ.2.2.2.2.1 S g) : CT l Γ yX0_addLike cX0_addLike 1 (some .boolean) (1) (0) (0) [.ref g] S (RI (fun r S' => (r = 0 ∨ r = 1) ∧ FZ [g + 8, g + 9] [(g, 2), (g, 3), (g, 4), (g, 5), (g, 6), (g, 7), (g + 7, 2)] S S')) := by
  refine CT.of RX0 "addLike" [some (.ref g)] (by decide +kernel) rfl rfl (Nat.le_of_ble_eq_true rfl) rfl (fun M hM => ?_)
  subst hM
  have J3 : ∀ (S1 : PS) , FZ [g + 8, g + 9] [(g, 2), (g, 3), (g, 4), (g, 5), (g, 6), (g, 7), (g + 7, 2)] S S1 → V M Γ (1, RX0, "addLike", (some .boolean), RM (1) (0) (0)) cX0_addLike (RQ M Γ (RI (fun r S' => (r = 0 ∨ r = 1) ∧ FZ [g + 8, g + 9] [(g, 2), (g, 3), (g, 4), (g, 5), (g, 6), (g, 7), (g + 7, 2)] S S')) (0) (0)) 0 0 S1 27 [some (.ref g)] [] := by
    intro S1  h2
    refine V_iconst 27 (1) dX0_addLike_27 (by decide) ?_
    refine V_goto 28 32 dX0_addLike_28 (by decide) ?_
    refine V_iret 32 .boolean dX0_addLike_32 rfl (nrwB (Or.inr rfl)) (Nat.le_of_ble_eq_true rfl) (Nat.le_of_ble_eq_true rfl) (RI.mk ⟨(Or.inr rfl), h2⟩)
  refine V_aload_0 0 dX0_addLike_0 ?_
  refine V_dup 1 dX0_addLike_1 rfl ?_
  refine V_getI 2 (c := 0) 6 dX0_addLike_2 fl_RX0_45 (F.m 0 (Nat.le_of_ble_eq_true rfl)) (F.k 0 0 rfl) (Nat.le_of_ble_eq_true rfl) (Nat.le_of_ble_eq_true rfl) rfl ?_
  refine V_iconst 5 (1) dX0_addLike_5 (by decide) ?_
  refine V_iadd 6 dX0_addLike_6 ?_
  refine V_putI 7 (c := 0) 6 dX0_addLike_7 fl_RX0_45 (F.m 0 (Nat.le_of_ble_eq_true rfl)) (F.k 0 0 rfl) (Nat.le_of_ble_eq_true rfl) (Nat.le_of_ble_eq_true rfl) rfl (Or.inl rfl) ?_
  refine V_abs (FZ [g + 8, g + 9] [(g, 2), (g, 3), (g, 4), (g, 5), (g, 6), (g, 7), (g + 7, 2)] S) ((FZ.rf (X := [g + 8, g + 9]) (Y := [(g, 2), (g, 3), (g, 4), (g, 5), (g, 6), (g, 7), (g + 7, 2)]) (S := S)).uI (by simp)) (fun S4 h5 => ?_)
  refine V_aload_0 10 dX0_addLike_10 ?_
  refine V_getI 11 (c := 0) 6 dX0_addLike_11 fl_RX0_45 ((F.ss h5.1).m 0 (Nat.le_of_ble_eq_true rfl)) ((F.ss h5.1).k 0 0 rfl) (Nat.le_of_ble_eq_true rfl) (Nat.le_of_ble_eq_true rfl) rfl ?_
  refine V_bipush 14 (15) dX0_addLike_14 (by decide) ?_
  refine V_icmp_le 16 27 dX0_addLike_16 (by decide) (fun c6 => ?_) (fun c6 => ?_)
  ·
    refine V_lvw (by repeat (first | exact trivial | refine ⟨rfl, ?_⟩)) (J3 _ h5)
  ·
    refine V_aload_0 19 dX0_addLike_19 ?_
    refine V_iconst 20 (2) dX0_addLike_20 (by decide) ?_
    refine V_callV 21 (ci := 0) [.int _] _ (s_gfail M.2.1 Γ S4 (F.ss h5.1) _) dX0_addLike_21 cb_X0_fail ml_RX0_74 im_yX0_fail se_yX0_fail ((F.ss h5.1).m 0 (Nat.le_of_ble_eq_true rfl)) ((F.ss h5.1).k 0 0 rfl) (Nat.le_of_ble_eq_true rfl) ⟨(Nat.le_of_ble_eq_true rfl), (Nat.le_of_ble_eq_true rfl)⟩ rfl rfl (Nat.le_of_ble_eq_true rfl) ⟨(Nat.le_of_ble_eq_true rfl), (Nat.le_of_ble_eq_true rfl)⟩ (RI.go (fun r10 S8 q9 => ?_))
    have h11 : FZ [g + 8, g + 9] [(g, 2), (g, 3), (g, 4), (g, 5), (g, 6), (g, 7), (g + 7, 2)] S S8 := h5.tr (q9.2.sub (by simp) (by simp))
    refine V_if_eq 24 31 dX0_addLike_24 (by decide) (fun c12 => ?_) (fun c12 => ?_)
    ·
      refine V_iconst 31 (0) dX0_addLike_31 (by decide) ?_
      refine V_iret 32 .boolean dX0_addLike_32 rfl (nrwB (Or.inl rfl)) (Nat.le_of_ble_eq_true rfl) (Nat.le_of_ble_eq_true rfl) (RI.mk ⟨(Or.inl rfl), h11⟩)
    ·
      refine V_lvw (by repeat (first | exact trivial | refine ⟨rfl, ?_⟩)) (J3 _ h11)
set_option maxRecDepth 100000 in
set_option maxHeartbeats 8000000 in
theorem s_addIf (l : Launch) (Γ : GC) (S : PS) {g : Nat} (F : isL lyGrammar Γ.2.2.2.2.1 S g) : CT l Γ yX0_addIf cX0_addIf 1 (some .boolean) (1) (0) (0) [.ref g] S (RI (fun r S' => (r = 0 ∨ r = 1) ∧ FZ [g + 8, g + 9] [(g, 2), (g, 3), (g, 4), (g, 5), (g, 6), (g, 7), (g + 7, 2)] S S')) := by
  refine CT.of RX0 "addIf" [some (.ref g)] (by decide +kernel) rfl rfl (Nat.le_of_ble_eq_true rfl) rfl (fun M hM => ?_)
  subst hM
  have J3 : ∀ (S1 : PS) , FZ [g + 8, g + 9] [(g, 2), (g, 3), (g, 4), (g, 5), (g, 6), (g, 7), (g + 7, 2)] S S1 → V M Γ (1, RX0, "addIf", (some .boolean), RM (1) (0) (0)) cX0_addIf (RQ M Γ (RI (fun r S' => (r = 0 ∨ r = 1) ∧ FZ [g + 8, g + 9] [(g, 2), (g, 3), (g, 4), (g, 5), (g, 6), (g, 7), (g + 7, 2)] S S')) (0) (0)) 0 0 S1 26 [some (.ref g)] [] := by
    intro S1  h2
    refine V_iconst 26 (1) dX0_addIf_26 (by decide) ?_
    refine V_goto 27 31 dX0_addIf_27 (by decide) ?_
    refine V_iret 31 .boolean dX0_addIf_31 rfl (nrwB (Or.inr rfl)) (Nat.le_of_ble_eq_true rfl) (Nat.le_of_ble_eq_true rfl) (RI.mk ⟨(Or.inr rfl), h2⟩)
  refine V_aload_0 0 dX0_addIf_0 ?_
  refine V_dup 1 dX0_addIf_1 rfl ?_
  refine V_getI 2 (c := 0) 7 dX0_addIf_2 fl_RX0_48 (F.m 0 (Nat.le_of_ble_eq_true rfl)) (F.k 0 0 rfl) (Nat.le_of_ble_eq_true rfl) (Nat.le_of_ble_eq_true rfl) rfl ?_
  refine V_iconst 5 (1) dX0_addIf_5 (by decide) ?_
  refine V_iadd 6 dX0_addIf_6 ?_
  refine V_putI 7 (c := 0) 7 dX0_addIf_7 fl_RX0_48 (F.m 0 (Nat.le_of_ble_eq_true rfl)) (F.k 0 0 rfl) (Nat.le_of_ble_eq_true rfl) (Nat.le_of_ble_eq_true rfl) rfl (Or.inl rfl) ?_
  refine V_abs (FZ [g + 8, g + 9] [(g, 2), (g, 3), (g, 4), (g, 5), (g, 6), (g, 7), (g + 7, 2)] S) ((FZ.rf (X := [g + 8, g + 9]) (Y := [(g, 2), (g, 3), (g, 4), (g, 5), (g, 6), (g, 7), (g + 7, 2)]) (S := S)).uI (by simp)) (fun S4 h5 => ?_)
  refine V_aload_0 10 dX0_addIf_10 ?_
  refine V_getI 11 (c := 0) 7 dX0_addIf_11 fl_RX0_48 ((F.ss h5.1).m 0 (Nat.le_of_ble_eq_true rfl)) ((F.ss h5.1).k 0 0 rfl) (Nat.le_of_ble_eq_true rfl) (Nat.le_of_ble_eq_true rfl) rfl ?_
  refine V_iconst 14 (4) dX0_addIf_14 (by decide) ?_
  refine V_icmp_le 15 26 dX0_addIf_15 (by decide) (fun c6 => ?_) (fun c6 => ?_)
  ·
    refine V_lvw (by repeat (first | exact trivial | refine ⟨rfl, ?_⟩)) (J3 _ h5)
  ·
    refine V_aload_0 18 dX0_addIf_18 ?_
    refine V_iconst 19 (2) dX0_addIf_19 (by decide) ?_
    refine V_callV 20 (ci := 0) [.int _] _ (s_gfail M.2.1 Γ S4 (F.ss h5.1) _) dX0_addIf_20 cb_X0_fail ml_RX0_74 im_yX0_fail se_yX0_fail ((F.ss h5.1).m 0 (Nat.le_of_ble_eq_true rfl)) ((F.ss h5.1).k 0 0 rfl) (Nat.le_of_ble_eq_true rfl) ⟨(Nat.le_of_ble_eq_true rfl), (Nat.le_of_ble_eq_true rfl)⟩ rfl rfl (Nat.le_of_ble_eq_true rfl) ⟨(Nat.le_of_ble_eq_true rfl), (Nat.le_of_ble_eq_true rfl)⟩ (RI.go (fun r10 S8 q9 => ?_))
    have h11 : FZ [g + 8, g + 9] [(g, 2), (g, 3), (g, 4), (g, 5), (g, 6), (g, 7), (g + 7, 2)] S S8 := h5.tr (q9.2.sub (by simp) (by simp))
    refine V_if_eq 23 30 dX0_addIf_23 (by decide) (fun c12 => ?_) (fun c12 => ?_)
    ·
      refine V_iconst 30 (0) dX0_addIf_30 (by decide) ?_
      refine V_iret 31 .boolean dX0_addIf_31 rfl (nrwB (Or.inl rfl)) (Nat.le_of_ble_eq_true rfl) (Nat.le_of_ble_eq_true rfl) (RI.mk ⟨(Or.inl rfl), h11⟩)
    ·
      refine V_lvw (by repeat (first | exact trivial | refine ⟨rfl, ?_⟩)) (J3 _ h11)
set_option maxRecDepth 100000 in
set_option maxHeartbeats 8000000 in
theorem s_wayOfFull (l : Launch) (Γ : GC) (S : PS) {g : Nat} (F : isL lyGrammar Γ.2.2.2.2.1 S g) : CT l Γ yX0_wayOfFull cX0_wayOfFull 1 (some .boolean) (2) (0) (0) [.ref g] S (RI (fun r S' => (r = 0 ∨ r = 1) ∧ FZ [g + 8, g + 9] [(g, 2), (g, 3), (g, 4), (g, 5), (g, 6), (g, 7), (g + 7, 2)] S S')) := by
  refine CT.of RX0 "wayOfFull" [some (.ref g)] (by decide +kernel) rfl rfl (Nat.le_of_ble_eq_true rfl) rfl (fun M hM => ?_)
  subst hM
  have J3 : ∀ (S1 : PS) , FZ [g + 8, g + 9] [(g, 2), (g, 3), (g, 4), (g, 5), (g, 6), (g, 7), (g + 7, 2)] S S1 → V M Γ (1, RX0, "wayOfFull", (some .boolean), RM (2) (0) (0)) cX0_wayOfFull (RQ M Γ (RI (fun r S' => (r = 0 ∨ r = 1) ∧ FZ [g + 8, g + 9] [(g, 2), (g, 3), (g, 4), (g, 5), (g, 6), (g, 7), (g + 7, 2)] S S')) (0) (0)) 0 0 S1 31 [some (.ref g)] [] := by
    intro S1  h2
    refine V_aload_0 31 dX0_wayOfFull_31 ?_
    refine V_iconst 32 (1) dX0_wayOfFull_32 (by decide) ?_
    refine V_callV 33 (ci := 0) [.int _] _ (s_gfail M.2.1 Γ S1 (F.ss h2.1) _) dX0_wayOfFull_33 cb_X0_fail ml_RX0_74 im_yX0_fail se_yX0_fail ((F.ss h2.1).m 0 (Nat.le_of_ble_eq_true rfl)) ((F.ss h2.1).k 0 0 rfl) (Nat.le_of_ble_eq_true rfl) ⟨(Nat.le_of_ble_eq_true rfl), (Nat.le_of_ble_eq_true rfl)⟩ rfl rfl (Nat.le_of_ble_eq_true rfl) ⟨(Nat.le_of_ble_eq_true rfl), (Nat.le_of_ble_eq_true rfl)⟩ (RI.go (fun r6 S4 q5 => ?_))
    have h7 : FZ [g + 8, g + 9] [(g, 2), (g, 3), (g, 4), (g, 5), (g, 6), (g, 7), (g + 7, 2)] S S4 := h2.tr (q5.2.sub (by simp) (by simp))
    refine V_iret 36 .boolean dX0_wayOfFull_36 rfl (nrwB q5.1) (Nat.le_of_ble_eq_true rfl) (Nat.le_of_ble_eq_true rfl) (RI.mk ⟨q5.1, h7⟩)
  refine V_aload_0 0 dX0_wayOfFull_0 ?_
  refine V_getI 1 (c := 0) 3 dX0_wayOfFull_1 fl_RX0_36 (F.m 0 (Nat.le_of_ble_eq_true rfl)) (F.k 0 0 rfl) (Nat.le_of_ble_eq_true rfl) (Nat.le_of_ble_eq_true rfl) rfl ?_
  refine V_sipush 4 (134) dX0_wayOfFull_4 (by decide) ?_
  refine V_icmp_lt 7 31 dX0_wayOfFull_7 (by decide) (fun c8 => ?_) (fun c8 => ?_)
  ·
    refine V_lvw (by repeat (first | exact trivial | refine ⟨rfl, ?_⟩)) (J3 _ FZ.rf)
  ·
    refine V_aload_0 10 dX0_wayOfFull_10 ?_
    refine V_getI 11 (c := 0) 3 dX0_wayOfFull_11 fl_RX0_36 (F.m 0 (Nat.le_of_ble_eq_true rfl)) (F.k 0 0 rfl) (Nat.le_of_ble_eq_true rfl) (Nat.le_of_ble_eq_true rfl) rfl ?_
    refine V_sipush 14 (137) dX0_wayOfFull_14 (by decide) ?_
    refine V_icmp_gt 17 31 dX0_wayOfFull_17 (by decide) (fun c10 => ?_) (fun c10 => ?_)
    ·
      refine V_lvw (by repeat (first | exact trivial | refine ⟨rfl, ?_⟩)) (J3 _ FZ.rf)
    ·
      refine V_aload_0 20 dX0_wayOfFull_20 ?_
      refine V_aload_0 21 dX0_wayOfFull_21 ?_
      refine V_getI 22 (c := 0) 3 dX0_wayOfFull_22 fl_RX0_36 (F.m 0 (Nat.le_of_ble_eq_true rfl)) (F.k 0 0 rfl) (Nat.le_of_ble_eq_true rfl) (Nat.le_of_ble_eq_true rfl) rfl ?_
      refine V_callV 25 (ci := 0) [.int _] _ (s_step M.2.1 Γ S F _) dX0_wayOfFull_25 cb_X0_step ml_RX0_51 im_yX0_step se_yX0_step (F.m 0 (Nat.le_of_ble_eq_true rfl)) (F.k 0 0 rfl) (Nat.le_of_ble_eq_true rfl) ⟨(Nat.le_of_ble_eq_true rfl), (Nat.le_of_ble_eq_true rfl)⟩ rfl rfl (Nat.le_of_ble_eq_true rfl) ⟨(Nat.le_of_ble_eq_true rfl), (Nat.le_of_ble_eq_true rfl)⟩ (RI.go (fun r14 S12 q13 => ?_))
      have h15 : FZ [g + 8, g + 9] [(g, 2), (g, 3), (g, 4), (g, 5), (g, 6), (g, 7), (g + 7, 2)] S S12 := (FZ.rf (X := [g + 8, g + 9]) (Y := [(g, 2), (g, 3), (g, 4), (g, 5), (g, 6), (g, 7), (g + 7, 2)]) (S := S)).tr (q13.2.sub (by simp) (by simp))
      refine V_goto 28 36 dX0_wayOfFull_28 (by decide) ?_
      refine V_iret 36 .boolean dX0_wayOfFull_36 rfl (nrwB q13.1) (Nat.le_of_ble_eq_true rfl) (Nat.le_of_ble_eq_true rfl) (RI.mk ⟨q13.1, h15⟩)

