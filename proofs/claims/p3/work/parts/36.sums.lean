/-! Grammar's unit, product and sum by depth, from any ints -/
set_option maxRecDepth 100000 in
set_option maxHeartbeats 8000000 in
theorem s_unit6 (l : Launch) (Γ : GC) (S : PS) {g : Nat} (F : isL lyGrammar Γ.2.2.2.2.1 S g) (x : Int32) (hx : x = 6) : CT l Γ yX0_unit cX0_unit 2 (some .boolean) (2) (0) (0) [.ref g, .int x] S (RI (fun r S' => (r = 0 ∨ r = 1) ∧ FZ [g + 8, g + 9] [(g, 2), (g, 3), (g, 4), (g, 5), (g, 6), (g, 7), (g + 7, 2)] S S')) := by
  refine CT.of RX0 "unit" [some (.ref g), some (.int x)] (by decide +kernel) rfl rfl (Nat.le_of_ble_eq_true rfl) rfl (fun M hM => ?_)
  subst hM
  have J3 : ∀ (S1 : PS) , FZ [g + 8, g + 9] [(g, 2), (g, 3), (g, 4), (g, 5), (g, 6), (g, 7), (g + 7, 2)] S S1 → V M Γ (2, RX0, "unit", (some .boolean), RM (2) (0) (0)) cX0_unit (RQ M Γ (RI (fun r S' => (r = 0 ∨ r = 1) ∧ FZ [g + 8, g + 9] [(g, 2), (g, 3), (g, 4), (g, 5), (g, 6), (g, 7), (g + 7, 2)] S S')) (0) (0)) 0 0 S1 139 [some (.ref g), some (.int x)] [] := by
    intro S1  h2
    refine V_iconst 139 (0) dX0_unit_139 (by decide) ?_
    refine V_iret 140 .boolean dX0_unit_140 rfl (nrwB (Or.inl rfl)) (Nat.le_of_ble_eq_true rfl) (Nat.le_of_ble_eq_true rfl) (RI.mk ⟨(Or.inl rfl), h2⟩)
  have J6 : ∀ (S4 : PS) , FZ [g + 8, g + 9] [(g, 2), (g, 3), (g, 4), (g, 5), (g, 6), (g, 7), (g + 7, 2)] S S4 → V M Γ (2, RX0, "unit", (some .boolean), RM (2) (0) (0)) cX0_unit (RQ M Γ (RI (fun r S' => (r = 0 ∨ r = 1) ∧ FZ [g + 8, g + 9] [(g, 2), (g, 3), (g, 4), (g, 5), (g, 6), (g, 7), (g + 7, 2)] S S')) (0) (0)) 0 0 S4 80 [some (.ref g), some (.int x)] [] := by
    intro S4  h5
    refine V_aload_0 80 dX0_unit_80 ?_
    refine V_getI 81 (c := 0) 3 dX0_unit_81 fl_RX0_36 ((F.ss h5.1).m 0 (Nat.le_of_ble_eq_true rfl)) ((F.ss h5.1).k 0 0 rfl) (Nat.le_of_ble_eq_true rfl) (Nat.le_of_ble_eq_true rfl) rfl ?_
    refine V_bipush 84 (40) dX0_unit_84 (by decide) ?_
    refine V_icmp_eq 86 95 dX0_unit_86 (by decide) (fun c7 => ?_) (fun c7 => ?_)
    ·
      refine V_iload_1 95 dX0_unit_95 ?_
      refine V_bipush 96 (6) dX0_unit_96 (by decide) ?_
      refine V_icmp_lt 98 107 dX0_unit_98 (by decide) (fun c8 => ?_) (fun c8 => ?_)
      ·
        exact absurd (show x < 6 by assumption) (by rw [hx]; decide)
      ·
        refine V_aload_0 101 dX0_unit_101 ?_
        refine V_iconst 102 (2) dX0_unit_102 (by decide) ?_
        refine V_callV 103 (ci := 0) [.int _] _ (s_gfail M.2.1 Γ S4 (F.ss h5.1) _) dX0_unit_103 cb_X0_fail ml_RX0_74 im_yX0_fail se_yX0_fail ((F.ss h5.1).m 0 (Nat.le_of_ble_eq_true rfl)) ((F.ss h5.1).k 0 0 rfl) (Nat.le_of_ble_eq_true rfl) ⟨(Nat.le_of_ble_eq_true rfl), (Nat.le_of_ble_eq_true rfl)⟩ rfl rfl (Nat.le_of_ble_eq_true rfl) ⟨(Nat.le_of_ble_eq_true rfl), (Nat.le_of_ble_eq_true rfl)⟩ (RI.go (fun r11 S9 q10 => ?_))
        have h12 : FZ [g + 8, g + 9] [(g, 2), (g, 3), (g, 4), (g, 5), (g, 6), (g, 7), (g + 7, 2)] S S9 := h5.tr (q10.2.sub (by simp) (by simp))
        refine V_iret 106 .boolean dX0_unit_106 rfl (nrwB q10.1) (Nat.le_of_ble_eq_true rfl) (Nat.le_of_ble_eq_true rfl) (RI.mk ⟨q10.1, h12⟩)
    ·
      refine V_aload_0 89 dX0_unit_89 ?_
      refine V_iconst 90 (1) dX0_unit_90 (by decide) ?_
      refine V_callV 91 (ci := 0) [.int _] _ (s_gfail M.2.1 Γ S4 (F.ss h5.1) _) dX0_unit_91 cb_X0_fail ml_RX0_74 im_yX0_fail se_yX0_fail ((F.ss h5.1).m 0 (Nat.le_of_ble_eq_true rfl)) ((F.ss h5.1).k 0 0 rfl) (Nat.le_of_ble_eq_true rfl) ⟨(Nat.le_of_ble_eq_true rfl), (Nat.le_of_ble_eq_true rfl)⟩ rfl rfl (Nat.le_of_ble_eq_true rfl) ⟨(Nat.le_of_ble_eq_true rfl), (Nat.le_of_ble_eq_true rfl)⟩ (RI.go (fun r15 S13 q14 => ?_))
      have h16 : FZ [g + 8, g + 9] [(g, 2), (g, 3), (g, 4), (g, 5), (g, 6), (g, 7), (g + 7, 2)] S S13 := h5.tr (q14.2.sub (by simp) (by simp))
      refine V_iret 94 .boolean dX0_unit_94 rfl (nrwB q14.1) (Nat.le_of_ble_eq_true rfl) (Nat.le_of_ble_eq_true rfl) (RI.mk ⟨q14.1, h16⟩)
  refine V_aload_0 0 dX0_unit_0 ?_
  refine V_getI 1 (c := 0) 3 dX0_unit_1 fl_RX0_36 (F.m 0 (Nat.le_of_ble_eq_true rfl)) (F.k 0 0 rfl) (Nat.le_of_ble_eq_true rfl) (Nat.le_of_ble_eq_true rfl) rfl ?_
  refine V_iconst 4 (2) dX0_unit_4 (by decide) ?_
  refine V_icmp_ne 5 34 dX0_unit_5 (by decide) (fun c17 => ?_) (fun c17 => ?_)
  ·
    refine V_aload_0 34 dX0_unit_34 ?_
    refine V_getI 35 (c := 0) 3 dX0_unit_35 fl_RX0_36 (F.m 0 (Nat.le_of_ble_eq_true rfl)) (F.k 0 0 rfl) (Nat.le_of_ble_eq_true rfl) (Nat.le_of_ble_eq_true rfl) rfl ?_
    refine V_sipush 38 (145) dX0_unit_38 (by decide) ?_
    refine V_icmp_lt 41 80 dX0_unit_41 (by decide) (fun c18 => ?_) (fun c18 => ?_)
    ·
      refine V_lvw (by repeat (first | exact trivial | refine ⟨rfl, ?_⟩)) (J6 _ FZ.rf)
    ·
      refine V_aload_0 44 dX0_unit_44 ?_
      refine V_getI 45 (c := 0) 3 dX0_unit_45 fl_RX0_36 (F.m 0 (Nat.le_of_ble_eq_true rfl)) (F.k 0 0 rfl) (Nat.le_of_ble_eq_true rfl) (Nat.le_of_ble_eq_true rfl) rfl ?_
      refine V_sipush 48 (149) dX0_unit_48 (by decide) ?_
      refine V_icmp_gt 51 80 dX0_unit_51 (by decide) (fun c20 => ?_) (fun c20 => ?_)
      ·
        refine V_lvw (by repeat (first | exact trivial | refine ⟨rfl, ?_⟩)) (J6 _ FZ.rf)
      ·
        refine V_aload_0 54 dX0_unit_54 ?_
        refine V_getR 55 (c := 0) 1 (F.r 0 1 7 rfl) dX0_unit_55 fl_RX0_21 (F.m 0 (Nat.le_of_ble_eq_true rfl)) (F.k 0 0 rfl) (Nat.le_of_ble_eq_true rfl) (Nat.le_of_ble_eq_true rfl) rfl ?_
        refine V_iconst 58 (1) dX0_unit_58 (by decide) ?_
        refine V_aload_0 59 dX0_unit_59 ?_
        refine V_getI 60 (c := 0) 3 dX0_unit_60 fl_RX0_36 (F.m 0 (Nat.le_of_ble_eq_true rfl)) (F.k 0 0 rfl) (Nat.le_of_ble_eq_true rfl) (Nat.le_of_ble_eq_true rfl) rfl ?_
        refine V_sipush 63 (145) dX0_unit_63 (by decide) ?_
        refine V_isub 66 dX0_unit_66 ?_
        refine V_callV 67 (ci := 2) [.int _, .int _] _ (s_write M.2.1 Γ S (F.sub 7 lyLaw rfl (by decide)) _ _) dX0_unit_67 cb_X2_write ml_RX0_83 im_yX2_write se_yX2_write (F.m 7 (Nat.le_of_ble_eq_true rfl)) (F.k 7 2 rfl) (Nat.le_of_ble_eq_true rfl) ⟨(Nat.le_of_ble_eq_true rfl), (Nat.le_of_ble_eq_true rfl)⟩ rfl rfl (Nat.le_of_ble_eq_true rfl) ⟨(Nat.le_of_ble_eq_true rfl), (Nat.le_of_ble_eq_true rfl)⟩ (RI.go (fun r24 S22 q23 => ?_))
        have h25 : FZ [g + 8, g + 9] [(g, 2), (g, 3), (g, 4), (g, 5), (g, 6), (g, 7), (g + 7, 2)] S S22 := (FZ.rf (X := [g + 8, g + 9]) (Y := [(g, 2), (g, 3), (g, 4), (g, 5), (g, 6), (g, 7), (g + 7, 2)]) (S := S)).tr (q23.sub (by simp) (by simp))
        refine V_pop 70 dX0_unit_70 rfl ?_
        refine V_aload_0 71 dX0_unit_71 ?_
        refine V_aload_0 72 dX0_unit_72 ?_
        refine V_getI 73 (c := 0) 3 dX0_unit_73 fl_RX0_36 ((F.ss h25.1).m 0 (Nat.le_of_ble_eq_true rfl)) ((F.ss h25.1).k 0 0 rfl) (Nat.le_of_ble_eq_true rfl) (Nat.le_of_ble_eq_true rfl) rfl ?_
        refine V_callV 76 (ci := 0) [.int _] _ (s_step M.2.1 Γ S22 (F.ss h25.1) _) dX0_unit_76 cb_X0_step ml_RX0_51 im_yX0_step se_yX0_step ((F.ss h25.1).m 0 (Nat.le_of_ble_eq_true rfl)) ((F.ss h25.1).k 0 0 rfl) (Nat.le_of_ble_eq_true rfl) ⟨(Nat.le_of_ble_eq_true rfl), (Nat.le_of_ble_eq_true rfl)⟩ rfl rfl (Nat.le_of_ble_eq_true rfl) ⟨(Nat.le_of_ble_eq_true rfl), (Nat.le_of_ble_eq_true rfl)⟩ (RI.go (fun r28 S26 q27 => ?_))
        have h29 : FZ [g + 8, g + 9] [(g, 2), (g, 3), (g, 4), (g, 5), (g, 6), (g, 7), (g + 7, 2)] S S26 := h25.tr (q27.2.sub (by simp) (by simp))
        refine V_iret 79 .boolean dX0_unit_79 rfl (nrwB q27.1) (Nat.le_of_ble_eq_true rfl) (Nat.le_of_ble_eq_true rfl) (RI.mk ⟨q27.1, h29⟩)
  ·
    refine V_aload_0 8 dX0_unit_8 ?_
    refine V_getR 9 (c := 0) 1 (F.r 0 1 7 rfl) dX0_unit_9 fl_RX0_21 (F.m 0 (Nat.le_of_ble_eq_true rfl)) (F.k 0 0 rfl) (Nat.le_of_ble_eq_true rfl) (Nat.le_of_ble_eq_true rfl) rfl ?_
    refine V_iconst 12 (2) dX0_unit_12 (by decide) ?_
    refine V_aload_0 13 dX0_unit_13 ?_
    refine V_getR 14 (c := 0) 0 (F.r 0 0 1 rfl) dX0_unit_14 fl_RX0_12 (F.m 0 (Nat.le_of_ble_eq_true rfl)) (F.k 0 0 rfl) (Nat.le_of_ble_eq_true rfl) (Nat.le_of_ble_eq_true rfl) rfl ?_
    refine V_aload_0 17 dX0_unit_17 ?_
    refine V_getI 18 (c := 0) 2 dX0_unit_18 fl_RX0_28 (F.m 0 (Nat.le_of_ble_eq_true rfl)) (F.k 0 0 rfl) (Nat.le_of_ble_eq_true rfl) (Nat.le_of_ble_eq_true rfl) rfl ?_
    refine V_callV 21 (ci := 8) [.int _] _ (s_intAt M.2.1 Γ S (F.sub 1 lyTape rfl (by decide)) _) dX0_unit_21 cb_X8_intAt ml_RX0_97 im_yX8_intAt se_yX8_intAt (F.m 1 (Nat.le_of_ble_eq_true rfl)) (F.k 1 8 rfl) (Nat.le_of_ble_eq_true rfl) ⟨(Nat.le_of_ble_eq_true rfl), (Nat.le_of_ble_eq_true rfl)⟩ rfl rfl (Nat.le_of_ble_eq_true rfl) ⟨(Nat.le_of_ble_eq_true rfl), (Nat.le_of_ble_eq_true rfl)⟩ (RI.go (fun r32 S30 q31 => ?_))
    have h33 : FZ [g + 8, g + 9] [(g, 2), (g, 3), (g, 4), (g, 5), (g, 6), (g, 7), (g + 7, 2)] S S30 := (FZ.rf (X := [g + 8, g + 9]) (Y := [(g, 2), (g, 3), (g, 4), (g, 5), (g, 6), (g, 7), (g + 7, 2)]) (S := S)).tr (q31.sub (by simp) (by simp))
    refine V_callV 24 (ci := 2) [.int _, .int _] _ (s_write M.2.1 Γ S30 ((F.ss h33.1).sub 7 lyLaw rfl (by decide)) _ _) dX0_unit_24 cb_X2_write ml_RX0_83 im_yX2_write se_yX2_write ((F.ss h33.1).m 7 (Nat.le_of_ble_eq_true rfl)) ((F.ss h33.1).k 7 2 rfl) (Nat.le_of_ble_eq_true rfl) ⟨(Nat.le_of_ble_eq_true rfl), (Nat.le_of_ble_eq_true rfl)⟩ rfl rfl (Nat.le_of_ble_eq_true rfl) ⟨(Nat.le_of_ble_eq_true rfl), (Nat.le_of_ble_eq_true rfl)⟩ (RI.go (fun r36 S34 q35 => ?_))
    have h37 : FZ [g + 8, g + 9] [(g, 2), (g, 3), (g, 4), (g, 5), (g, 6), (g, 7), (g + 7, 2)] S S34 := h33.tr (q35.sub (by simp) (by simp))
    refine V_pop 27 dX0_unit_27 rfl ?_
    refine V_aload_0 28 dX0_unit_28 ?_
    refine V_iconst 29 (2) dX0_unit_29 (by decide) ?_
    refine V_callV 30 (ci := 0) [.int _] _ (s_step M.2.1 Γ S34 (F.ss h37.1) _) dX0_unit_30 cb_X0_step ml_RX0_51 im_yX0_step se_yX0_step ((F.ss h37.1).m 0 (Nat.le_of_ble_eq_true rfl)) ((F.ss h37.1).k 0 0 rfl) (Nat.le_of_ble_eq_true rfl) ⟨(Nat.le_of_ble_eq_true rfl), (Nat.le_of_ble_eq_true rfl)⟩ rfl rfl (Nat.le_of_ble_eq_true rfl) ⟨(Nat.le_of_ble_eq_true rfl), (Nat.le_of_ble_eq_true rfl)⟩ (RI.go (fun r40 S38 q39 => ?_))
    have h41 : FZ [g + 8, g + 9] [(g, 2), (g, 3), (g, 4), (g, 5), (g, 6), (g, 7), (g + 7, 2)] S S38 := h37.tr (q39.2.sub (by simp) (by simp))
    refine V_iret 33 .boolean dX0_unit_33 rfl (nrwB q39.1) (Nat.le_of_ble_eq_true rfl) (Nat.le_of_ble_eq_true rfl) (RI.mk ⟨q39.1, h41⟩)
set_option maxRecDepth 100000 in
set_option maxHeartbeats 8000000 in
theorem s_product6 (l : Launch) (Γ : GC) (S : PS) {g : Nat} (F : isL lyGrammar Γ.2.2.2.2.1 S g) (x : Int32) (hx : x = 6) : CT l Γ yX0_product cX0_product 5 (some .boolean) (3) (0) (0) [.ref g, .int x] S (RI (fun r S' => (r = 0 ∨ r = 1) ∧ FZ [g + 8, g + 9] [(g, 2), (g, 3), (g, 4), (g, 5), (g, 6), (g, 7), (g + 7, 2)] S S')) := by
  refine CT.of RX0 "product" [some (.ref g), some (.int x), none, none, none] (by decide +kernel) rfl rfl (Nat.le_of_ble_eq_true rfl) rfl (fun M hM => ?_)
  subst hM
  have J3 : ∀ (S1 : PS) (x4 : Int32) (x5 : Int32), FZ [g + 8, g + 9] [(g, 2), (g, 3), (g, 4), (g, 5), (g, 6), (g, 7), (g + 7, 2)] S S1 → (x4 = 0 ∨ x4 = 1) → V M Γ (5, RX0, "product", (some .boolean), RM (3) (0) (0)) cX0_product (RQ M Γ (RI (fun r S' => (r = 0 ∨ r = 1) ∧ FZ [g + 8, g + 9] [(g, 2), (g, 3), (g, 4), (g, 5), (g, 6), (g, 7), (g + 7, 2)] S S')) (0) (0)) 0 0 S1 83 [some (.ref g), some (.int x), some (.int x4), some (.int x5), none] [] := by
    intro S1 x4 x5 h2 hb_x4
    refine V_iload_2 83 dX0_product_83 ?_
    refine V_iret 84 .boolean dX0_product_84 rfl (nrwB hb_x4) (Nat.le_of_ble_eq_true rfl) (Nat.le_of_ble_eq_true rfl) (RI.mk ⟨hb_x4, h2⟩)
  refine V_aload_0 0 dX0_product_0 ?_
  refine V_iload_1 1 dX0_product_1 ?_
  refine V_callV 2 (ci := 0) [.int _] _ (s_unit6 M.2.1 Γ S F _ hx) dX0_product_2 cb_X0_unit ml_RX0_94 im_yX0_unit se_yX0_unit (F.m 0 (Nat.le_of_ble_eq_true rfl)) (F.k 0 0 rfl) (Nat.le_of_ble_eq_true rfl) ⟨(Nat.le_of_ble_eq_true rfl), (Nat.le_of_ble_eq_true rfl)⟩ rfl rfl (Nat.le_of_ble_eq_true rfl) ⟨(Nat.le_of_ble_eq_true rfl), (Nat.le_of_ble_eq_true rfl)⟩ (RI.go (fun r8 S6 q7 => ?_))
  have h9 : FZ [g + 8, g + 9] [(g, 2), (g, 3), (g, 4), (g, 5), (g, 6), (g, 7), (g + 7, 2)] S S6 := (FZ.rf (X := [g + 8, g + 9]) (Y := [(g, 2), (g, 3), (g, 4), (g, 5), (g, 6), (g, 7), (g + 7, 2)]) (S := S)).tr (q7.2.sub (by simp) (by simp))
  refine V_istore_2 5 dX0_product_5 rfl (Nat.le_of_ble_eq_true rfl) ?_
  refine V_iconst 6 (0) dX0_product_6 (by decide) ?_
  refine V_istore_3 7 dX0_product_7 rfl (Nat.le_of_ble_eq_true rfl) ?_
  refine V_lvw (by repeat (first | exact trivial | refine ⟨rfl, ?_⟩)) (V_while (α := Nat × PS × Int32) (fun z10 => 401 - z10.1) (fun z10 => z10.1 ≤ 401 ∧ FZ [g + 8, g + 9] [(g, 2), (g, 3), (g, 4), (g, 5), (g, 6), (g, 7), (g + 7, 2)] S z10.2.1 ∧ (z10.2.2 = 0 ∨ z10.2.2 = 1)) (fun z10 => z10.2.1) (fun z10 => [some (.ref g), some (.int x), some (.int z10.2.2), some (.int (nI z10.1)), none]) (0, _, _) ⟨Nat.zero_le _, h9, q7.1⟩ (fun z10 hx17 ih15 => ?b18))
  obtain ⟨i11, S12, w16⟩ := z10
  obtain ⟨hi13, h14, hb20⟩ := hx17
  dsimp only at hi13 h14 hb20 ih15 ⊢
  have J23 : ∀ (S21 : PS) (x24 : Int32) (x25 : Int32), FZ [g + 8, g + 9] [(g, 2), (g, 3), (g, 4), (g, 5), (g, 6), (g, 7), (g + 7, 2)] S S21 → i11 < 401 → (x24 = 0 ∨ x24 = 1) → V M Γ (5, RX0, "product", (some .boolean), RM (3) (0) (0)) cX0_product (RQ M Γ (RI (fun r S' => (r = 0 ∨ r = 1) ∧ FZ [g + 8, g + 9] [(g, 2), (g, 3), (g, 4), (g, 5), (g, 6), (g, 7), (g + 7, 2)] S S')) (0) (0)) 0 0 S21 64 [some (.ref g), some (.int x), some (.int x24), some (.int (nI i11)), some (.int x25)] [] := by
    intro S21 x24 x25 h22 lt26 hb_x24
    refine V_iconst 64 (0) dX0_product_64 (by decide) ?_
    refine V_istore_2 65 dX0_product_65 rfl (Nat.le_of_ble_eq_true rfl) ?_
    refine V_aload_0 66 dX0_product_66 ?_
    refine V_getR 67 (c := 0) 1 ((F.ss h22.1).r 0 1 7 rfl) dX0_product_67 fl_RX0_21 ((F.ss h22.1).m 0 (Nat.le_of_ble_eq_true rfl)) ((F.ss h22.1).k 0 0 rfl) (Nat.le_of_ble_eq_true rfl) (Nat.le_of_ble_eq_true rfl) rfl ?_
    refine V_iload_4 70 dX0_product_70 ?_
    refine V_iconst 72 (0) dX0_product_72 (by decide) ?_
    refine V_callV 73 (ci := 2) [.int _, .int _] _ (s_write M.2.1 Γ S21 ((F.ss h22.1).sub 7 lyLaw rfl (by decide)) _ _) dX0_product_73 cb_X2_write ml_RX0_83 im_yX2_write se_yX2_write ((F.ss h22.1).m 7 (Nat.le_of_ble_eq_true rfl)) ((F.ss h22.1).k 7 2 rfl) (Nat.le_of_ble_eq_true rfl) ⟨(Nat.le_of_ble_eq_true rfl), (Nat.le_of_ble_eq_true rfl)⟩ rfl rfl (Nat.le_of_ble_eq_true rfl) ⟨(Nat.le_of_ble_eq_true rfl), (Nat.le_of_ble_eq_true rfl)⟩ (RI.go (fun r29 S27 q28 => ?_))
    have h30 : FZ [g + 8, g + 9] [(g, 2), (g, 3), (g, 4), (g, 5), (g, 6), (g, 7), (g + 7, 2)] S S27 := h22.tr (q28.sub (by simp) (by simp))
    refine V_pop 76 dX0_product_76 rfl ?_
    refine V_iinc_3 77 (1) dX0_product_77 (by decide) rfl (Nat.le_of_ble_eq_true rfl) ?_
    refine V_goto 80 8 dX0_product_80 (by decide) ?_
    rw [← nI_succ]
    refine V_lvw (by repeat (first | exact trivial | refine ⟨rfl, ?_⟩)) (ih15 (i11 + 1, _, _) ⟨by dsimp only; omega, h30, (Or.inl rfl)⟩ (by dsimp only; omega))
  have J33 : ∀ (S31 : PS) (x34 : Int32), FZ [g + 8, g + 9] [(g, 2), (g, 3), (g, 4), (g, 5), (g, 6), (g, 7), (g + 7, 2)] S S31 → i11 < 401 → (x34 = 0 ∨ x34 = 1) → V M Γ (5, RX0, "product", (some .boolean), RM (3) (0) (0)) cX0_product (RQ M Γ (RI (fun r S' => (r = 0 ∨ r = 1) ∧ FZ [g + 8, g + 9] [(g, 2), (g, 3), (g, 4), (g, 5), (g, 6), (g, 7), (g + 7, 2)] S S')) (0) (0)) 0 0 S31 37 [some (.ref g), some (.int x), some (.int x34), some (.int (nI i11)), none] [] := by
    intro S31 x34 h32 lt35 hb_x34
    refine V_aload_0 37 dX0_product_37 ?_
    refine V_getI 38 (c := 0) 3 dX0_product_38 fl_RX0_36 ((F.ss h32.1).m 0 (Nat.le_of_ble_eq_true rfl)) ((F.ss h32.1).k 0 0 rfl) (Nat.le_of_ble_eq_true rfl) (Nat.le_of_ble_eq_true rfl) rfl ?_
    refine V_istore_4 41 dX0_product_41 rfl (Nat.le_of_ble_eq_true rfl) ?_
    refine V_aload_0 43 dX0_product_43 ?_
    refine V_iload_4 44 dX0_product_44 ?_
    refine V_callV 46 (ci := 0) [.int _] _ (s_step M.2.1 Γ S31 (F.ss h32.1) _) dX0_product_46 cb_X0_step ml_RX0_51 im_yX0_step se_yX0_step ((F.ss h32.1).m 0 (Nat.le_of_ble_eq_true rfl)) ((F.ss h32.1).k 0 0 rfl) (Nat.le_of_ble_eq_true rfl) ⟨(Nat.le_of_ble_eq_true rfl), (Nat.le_of_ble_eq_true rfl)⟩ rfl rfl (Nat.le_of_ble_eq_true rfl) ⟨(Nat.le_of_ble_eq_true rfl), (Nat.le_of_ble_eq_true rfl)⟩ (RI.go (fun r38 S36 q37 => ?_))
    have h39 : FZ [g + 8, g + 9] [(g, 2), (g, 3), (g, 4), (g, 5), (g, 6), (g, 7), (g + 7, 2)] S S36 := h32.tr (q37.2.sub (by simp) (by simp))
    refine V_if_eq 49 64 dX0_product_49 (by decide) (fun c40 => ?_) (fun c40 => ?_)
    ·
      refine V_lvw (by repeat (first | exact trivial | refine ⟨rfl, ?_⟩)) (J23 _ _ _ h39 (by first | omega | assumption) hb_x34)
    ·
      refine V_aload_0 52 dX0_product_52 ?_
      refine V_iload_1 53 dX0_product_53 ?_
      refine V_callV 54 (ci := 0) [.int _] _ (s_unit6 M.2.1 Γ S36 (F.ss h39.1) _ hx) dX0_product_54 cb_X0_unit ml_RX0_94 im_yX0_unit se_yX0_unit ((F.ss h39.1).m 0 (Nat.le_of_ble_eq_true rfl)) ((F.ss h39.1).k 0 0 rfl) (Nat.le_of_ble_eq_true rfl) ⟨(Nat.le_of_ble_eq_true rfl), (Nat.le_of_ble_eq_true rfl)⟩ rfl rfl (Nat.le_of_ble_eq_true rfl) ⟨(Nat.le_of_ble_eq_true rfl), (Nat.le_of_ble_eq_true rfl)⟩ (RI.go (fun r44 S42 q43 => ?_))
      have h45 : FZ [g + 8, g + 9] [(g, 2), (g, 3), (g, 4), (g, 5), (g, 6), (g, 7), (g + 7, 2)] S S42 := h39.tr (q43.2.sub (by simp) (by simp))
      refine V_if_eq 57 64 dX0_product_57 (by decide) (fun c46 => ?_) (fun c46 => ?_)
      ·
        refine V_lvw (by repeat (first | exact trivial | refine ⟨rfl, ?_⟩)) (J23 _ _ _ h45 (by first | omega | assumption) hb_x34)
      ·
        refine V_iconst 60 (1) dX0_product_60 (by decide) ?_
        refine V_goto 61 65 dX0_product_61 (by decide) ?_
        refine V_istore_2 65 dX0_product_65 rfl (Nat.le_of_ble_eq_true rfl) ?_
        refine V_aload_0 66 dX0_product_66 ?_
        refine V_getR 67 (c := 0) 1 ((F.ss h45.1).r 0 1 7 rfl) dX0_product_67 fl_RX0_21 ((F.ss h45.1).m 0 (Nat.le_of_ble_eq_true rfl)) ((F.ss h45.1).k 0 0 rfl) (Nat.le_of_ble_eq_true rfl) (Nat.le_of_ble_eq_true rfl) rfl ?_
        refine V_iload_4 70 dX0_product_70 ?_
        refine V_iconst 72 (0) dX0_product_72 (by decide) ?_
        refine V_callV 73 (ci := 2) [.int _, .int _] _ (s_write M.2.1 Γ S42 ((F.ss h45.1).sub 7 lyLaw rfl (by decide)) _ _) dX0_product_73 cb_X2_write ml_RX0_83 im_yX2_write se_yX2_write ((F.ss h45.1).m 7 (Nat.le_of_ble_eq_true rfl)) ((F.ss h45.1).k 7 2 rfl) (Nat.le_of_ble_eq_true rfl) ⟨(Nat.le_of_ble_eq_true rfl), (Nat.le_of_ble_eq_true rfl)⟩ rfl rfl (Nat.le_of_ble_eq_true rfl) ⟨(Nat.le_of_ble_eq_true rfl), (Nat.le_of_ble_eq_true rfl)⟩ (RI.go (fun r50 S48 q49 => ?_))
        have h51 : FZ [g + 8, g + 9] [(g, 2), (g, 3), (g, 4), (g, 5), (g, 6), (g, 7), (g + 7, 2)] S S48 := h45.tr (q49.sub (by simp) (by simp))
        refine V_pop 76 dX0_product_76 rfl ?_
        refine V_iinc_3 77 (1) dX0_product_77 (by decide) rfl (Nat.le_of_ble_eq_true rfl) ?_
        refine V_goto 80 8 dX0_product_80 (by decide) ?_
        rw [← nI_succ]
        refine V_lvw (by repeat (first | exact trivial | refine ⟨rfl, ?_⟩)) (ih15 (i11 + 1, _, _) ⟨by dsimp only; omega, h51, (Or.inr rfl)⟩ (by dsimp only; omega))
  refine V_iload_3 8 dX0_product_8 ?_
  refine V_sipush 9 (400) dX0_product_9 (by decide) ?_
  refine V_icmp_gt 12 83 dX0_product_12 (by decide) (fun c52 => ?_) (fun c52 => ?_)
  ·
    refine V_lvw (by repeat (first | exact trivial | refine ⟨rfl, ?_⟩)) (J3 _ _ _ h14 hb20)
  ·
    have lt54 := nI_ltg (n := 400) (by decide) hi13 c52
    refine V_iload_2 15 dX0_product_15 ?_
    refine V_if_eq 16 83 dX0_product_16 (by decide) (fun c55 => ?_) (fun c55 => ?_)
    ·
      refine V_lvw (by repeat (first | exact trivial | refine ⟨rfl, ?_⟩)) (J3 _ _ _ h14 hb20)
    ·
      refine V_aload_0 19 dX0_product_19 ?_
      refine V_getI 20 (c := 0) 3 dX0_product_20 fl_RX0_36 ((F.ss h14.1).m 0 (Nat.le_of_ble_eq_true rfl)) ((F.ss h14.1).k 0 0 rfl) (Nat.le_of_ble_eq_true rfl) (Nat.le_of_ble_eq_true rfl) rfl ?_
      refine V_bipush 23 (42) dX0_product_23 (by decide) ?_
      refine V_icmp_eq 25 37 dX0_product_25 (by decide) (fun c57 => ?_) (fun c57 => ?_)
      ·
        refine V_lvw (by repeat (first | exact trivial | refine ⟨rfl, ?_⟩)) (J33 _ _ h14 (by first | omega | assumption) hb20)
      ·
        refine V_aload_0 28 dX0_product_28 ?_
        refine V_getI 29 (c := 0) 3 dX0_product_29 fl_RX0_36 ((F.ss h14.1).m 0 (Nat.le_of_ble_eq_true rfl)) ((F.ss h14.1).k 0 0 rfl) (Nat.le_of_ble_eq_true rfl) (Nat.le_of_ble_eq_true rfl) rfl ?_
        refine V_bipush 32 (47) dX0_product_32 (by decide) ?_
        refine V_icmp_ne 34 83 dX0_product_34 (by decide) (fun c59 => ?_) (fun c59 => ?_)
        ·
          refine V_lvw (by repeat (first | exact trivial | refine ⟨rfl, ?_⟩)) (J3 _ _ _ h14 hb20)
        ·
          refine V_lvw (by repeat (first | exact trivial | refine ⟨rfl, ?_⟩)) (J33 _ _ h14 (by first | omega | assumption) hb20)
set_option maxRecDepth 100000 in
set_option maxHeartbeats 8000000 in
theorem s_sum6 (l : Launch) (Γ : GC) (S : PS) {g : Nat} (F : isL lyGrammar Γ.2.2.2.2.1 S g) (x : Int32) (hx : x = 6) : CT l Γ yX0_sum cX0_sum 5 (some .boolean) (4) (0) (0) [.ref g, .int x] S (RI (fun r S' => (r = 0 ∨ r = 1) ∧ FZ [g + 8, g + 9] [(g, 2), (g, 3), (g, 4), (g, 5), (g, 6), (g, 7), (g + 7, 2)] S S')) := by
  refine CT.of RX0 "sum" [some (.ref g), some (.int x), none, none, none] (by decide +kernel) rfl rfl (Nat.le_of_ble_eq_true rfl) rfl (fun M hM => ?_)
  subst hM
  have J3 : ∀ (S1 : PS) (x4 : Int32) (x5 : Int32), FZ [g + 8, g + 9] [(g, 2), (g, 3), (g, 4), (g, 5), (g, 6), (g, 7), (g + 7, 2)] S S1 → (x4 = 0 ∨ x4 = 1) → V M Γ (5, RX0, "sum", (some .boolean), RM (4) (0) (0)) cX0_sum (RQ M Γ (RI (fun r S' => (r = 0 ∨ r = 1) ∧ FZ [g + 8, g + 9] [(g, 2), (g, 3), (g, 4), (g, 5), (g, 6), (g, 7), (g + 7, 2)] S S')) (0) (0)) 0 0 S1 83 [some (.ref g), some (.int x), some (.int x4), some (.int x5), none] [] := by
    intro S1 x4 x5 h2 hb_x4
    refine V_iload_2 83 dX0_sum_83 ?_
    refine V_iret 84 .boolean dX0_sum_84 rfl (nrwB hb_x4) (Nat.le_of_ble_eq_true rfl) (Nat.le_of_ble_eq_true rfl) (RI.mk ⟨hb_x4, h2⟩)
  refine V_aload_0 0 dX0_sum_0 ?_
  refine V_iload_1 1 dX0_sum_1 ?_
  refine V_callV 2 (ci := 0) [.int _] _ (s_product6 M.2.1 Γ S F _ hx) dX0_sum_2 cb_X0_product ml_RX0_91 im_yX0_product se_yX0_product (F.m 0 (Nat.le_of_ble_eq_true rfl)) (F.k 0 0 rfl) (Nat.le_of_ble_eq_true rfl) ⟨(Nat.le_of_ble_eq_true rfl), (Nat.le_of_ble_eq_true rfl)⟩ rfl rfl (Nat.le_of_ble_eq_true rfl) ⟨(Nat.le_of_ble_eq_true rfl), (Nat.le_of_ble_eq_true rfl)⟩ (RI.go (fun r8 S6 q7 => ?_))
  have h9 : FZ [g + 8, g + 9] [(g, 2), (g, 3), (g, 4), (g, 5), (g, 6), (g, 7), (g + 7, 2)] S S6 := (FZ.rf (X := [g + 8, g + 9]) (Y := [(g, 2), (g, 3), (g, 4), (g, 5), (g, 6), (g, 7), (g + 7, 2)]) (S := S)).tr (q7.2.sub (by simp) (by simp))
  refine V_istore_2 5 dX0_sum_5 rfl (Nat.le_of_ble_eq_true rfl) ?_
  refine V_iconst 6 (0) dX0_sum_6 (by decide) ?_
  refine V_istore_3 7 dX0_sum_7 rfl (Nat.le_of_ble_eq_true rfl) ?_
  refine V_lvw (by repeat (first | exact trivial | refine ⟨rfl, ?_⟩)) (V_while (α := Nat × PS × Int32) (fun z10 => 401 - z10.1) (fun z10 => z10.1 ≤ 401 ∧ FZ [g + 8, g + 9] [(g, 2), (g, 3), (g, 4), (g, 5), (g, 6), (g, 7), (g + 7, 2)] S z10.2.1 ∧ (z10.2.2 = 0 ∨ z10.2.2 = 1)) (fun z10 => z10.2.1) (fun z10 => [some (.ref g), some (.int x), some (.int z10.2.2), some (.int (nI z10.1)), none]) (0, _, _) ⟨Nat.zero_le _, h9, q7.1⟩ (fun z10 hx17 ih15 => ?b18))
  obtain ⟨i11, S12, w16⟩ := z10
  obtain ⟨hi13, h14, hb20⟩ := hx17
  dsimp only at hi13 h14 hb20 ih15 ⊢
  have J23 : ∀ (S21 : PS) (x24 : Int32) (x25 : Int32), FZ [g + 8, g + 9] [(g, 2), (g, 3), (g, 4), (g, 5), (g, 6), (g, 7), (g + 7, 2)] S S21 → i11 < 401 → (x24 = 0 ∨ x24 = 1) → V M Γ (5, RX0, "sum", (some .boolean), RM (4) (0) (0)) cX0_sum (RQ M Γ (RI (fun r S' => (r = 0 ∨ r = 1) ∧ FZ [g + 8, g + 9] [(g, 2), (g, 3), (g, 4), (g, 5), (g, 6), (g, 7), (g + 7, 2)] S S')) (0) (0)) 0 0 S21 64 [some (.ref g), some (.int x), some (.int x24), some (.int (nI i11)), some (.int x25)] [] := by
    intro S21 x24 x25 h22 lt26 hb_x24
    refine V_iconst 64 (0) dX0_sum_64 (by decide) ?_
    refine V_istore_2 65 dX0_sum_65 rfl (Nat.le_of_ble_eq_true rfl) ?_
    refine V_aload_0 66 dX0_sum_66 ?_
    refine V_getR 67 (c := 0) 1 ((F.ss h22.1).r 0 1 7 rfl) dX0_sum_67 fl_RX0_21 ((F.ss h22.1).m 0 (Nat.le_of_ble_eq_true rfl)) ((F.ss h22.1).k 0 0 rfl) (Nat.le_of_ble_eq_true rfl) (Nat.le_of_ble_eq_true rfl) rfl ?_
    refine V_iload_4 70 dX0_sum_70 ?_
    refine V_iconst 72 (0) dX0_sum_72 (by decide) ?_
    refine V_callV 73 (ci := 2) [.int _, .int _] _ (s_write M.2.1 Γ S21 ((F.ss h22.1).sub 7 lyLaw rfl (by decide)) _ _) dX0_sum_73 cb_X2_write ml_RX0_83 im_yX2_write se_yX2_write ((F.ss h22.1).m 7 (Nat.le_of_ble_eq_true rfl)) ((F.ss h22.1).k 7 2 rfl) (Nat.le_of_ble_eq_true rfl) ⟨(Nat.le_of_ble_eq_true rfl), (Nat.le_of_ble_eq_true rfl)⟩ rfl rfl (Nat.le_of_ble_eq_true rfl) ⟨(Nat.le_of_ble_eq_true rfl), (Nat.le_of_ble_eq_true rfl)⟩ (RI.go (fun r29 S27 q28 => ?_))
    have h30 : FZ [g + 8, g + 9] [(g, 2), (g, 3), (g, 4), (g, 5), (g, 6), (g, 7), (g + 7, 2)] S S27 := h22.tr (q28.sub (by simp) (by simp))
    refine V_pop 76 dX0_sum_76 rfl ?_
    refine V_iinc_3 77 (1) dX0_sum_77 (by decide) rfl (Nat.le_of_ble_eq_true rfl) ?_
    refine V_goto 80 8 dX0_sum_80 (by decide) ?_
    rw [← nI_succ]
    refine V_lvw (by repeat (first | exact trivial | refine ⟨rfl, ?_⟩)) (ih15 (i11 + 1, _, _) ⟨by dsimp only; omega, h30, (Or.inl rfl)⟩ (by dsimp only; omega))
  have J33 : ∀ (S31 : PS) (x34 : Int32), FZ [g + 8, g + 9] [(g, 2), (g, 3), (g, 4), (g, 5), (g, 6), (g, 7), (g + 7, 2)] S S31 → i11 < 401 → (x34 = 0 ∨ x34 = 1) → V M Γ (5, RX0, "sum", (some .boolean), RM (4) (0) (0)) cX0_sum (RQ M Γ (RI (fun r S' => (r = 0 ∨ r = 1) ∧ FZ [g + 8, g + 9] [(g, 2), (g, 3), (g, 4), (g, 5), (g, 6), (g, 7), (g + 7, 2)] S S')) (0) (0)) 0 0 S31 37 [some (.ref g), some (.int x), some (.int x34), some (.int (nI i11)), none] [] := by
    intro S31 x34 h32 lt35 hb_x34
    refine V_aload_0 37 dX0_sum_37 ?_
    refine V_getI 38 (c := 0) 3 dX0_sum_38 fl_RX0_36 ((F.ss h32.1).m 0 (Nat.le_of_ble_eq_true rfl)) ((F.ss h32.1).k 0 0 rfl) (Nat.le_of_ble_eq_true rfl) (Nat.le_of_ble_eq_true rfl) rfl ?_
    refine V_istore_4 41 dX0_sum_41 rfl (Nat.le_of_ble_eq_true rfl) ?_
    refine V_aload_0 43 dX0_sum_43 ?_
    refine V_iload_4 44 dX0_sum_44 ?_
    refine V_callV 46 (ci := 0) [.int _] _ (s_step M.2.1 Γ S31 (F.ss h32.1) _) dX0_sum_46 cb_X0_step ml_RX0_51 im_yX0_step se_yX0_step ((F.ss h32.1).m 0 (Nat.le_of_ble_eq_true rfl)) ((F.ss h32.1).k 0 0 rfl) (Nat.le_of_ble_eq_true rfl) ⟨(Nat.le_of_ble_eq_true rfl), (Nat.le_of_ble_eq_true rfl)⟩ rfl rfl (Nat.le_of_ble_eq_true rfl) ⟨(Nat.le_of_ble_eq_true rfl), (Nat.le_of_ble_eq_true rfl)⟩ (RI.go (fun r38 S36 q37 => ?_))
    have h39 : FZ [g + 8, g + 9] [(g, 2), (g, 3), (g, 4), (g, 5), (g, 6), (g, 7), (g + 7, 2)] S S36 := h32.tr (q37.2.sub (by simp) (by simp))
    refine V_if_eq 49 64 dX0_sum_49 (by decide) (fun c40 => ?_) (fun c40 => ?_)
    ·
      refine V_lvw (by repeat (first | exact trivial | refine ⟨rfl, ?_⟩)) (J23 _ _ _ h39 (by first | omega | assumption) hb_x34)
    ·
      refine V_aload_0 52 dX0_sum_52 ?_
      refine V_iload_1 53 dX0_sum_53 ?_
      refine V_callV 54 (ci := 0) [.int _] _ (s_product6 M.2.1 Γ S36 (F.ss h39.1) _ hx) dX0_sum_54 cb_X0_product ml_RX0_91 im_yX0_product se_yX0_product ((F.ss h39.1).m 0 (Nat.le_of_ble_eq_true rfl)) ((F.ss h39.1).k 0 0 rfl) (Nat.le_of_ble_eq_true rfl) ⟨(Nat.le_of_ble_eq_true rfl), (Nat.le_of_ble_eq_true rfl)⟩ rfl rfl (Nat.le_of_ble_eq_true rfl) ⟨(Nat.le_of_ble_eq_true rfl), (Nat.le_of_ble_eq_true rfl)⟩ (RI.go (fun r44 S42 q43 => ?_))
      have h45 : FZ [g + 8, g + 9] [(g, 2), (g, 3), (g, 4), (g, 5), (g, 6), (g, 7), (g + 7, 2)] S S42 := h39.tr (q43.2.sub (by simp) (by simp))
      refine V_if_eq 57 64 dX0_sum_57 (by decide) (fun c46 => ?_) (fun c46 => ?_)
      ·
        refine V_lvw (by repeat (first | exact trivial | refine ⟨rfl, ?_⟩)) (J23 _ _ _ h45 (by first | omega | assumption) hb_x34)
      ·
        refine V_iconst 60 (1) dX0_sum_60 (by decide) ?_
        refine V_goto 61 65 dX0_sum_61 (by decide) ?_
        refine V_istore_2 65 dX0_sum_65 rfl (Nat.le_of_ble_eq_true rfl) ?_
        refine V_aload_0 66 dX0_sum_66 ?_
        refine V_getR 67 (c := 0) 1 ((F.ss h45.1).r 0 1 7 rfl) dX0_sum_67 fl_RX0_21 ((F.ss h45.1).m 0 (Nat.le_of_ble_eq_true rfl)) ((F.ss h45.1).k 0 0 rfl) (Nat.le_of_ble_eq_true rfl) (Nat.le_of_ble_eq_true rfl) rfl ?_
        refine V_iload_4 70 dX0_sum_70 ?_
        refine V_iconst 72 (0) dX0_sum_72 (by decide) ?_
        refine V_callV 73 (ci := 2) [.int _, .int _] _ (s_write M.2.1 Γ S42 ((F.ss h45.1).sub 7 lyLaw rfl (by decide)) _ _) dX0_sum_73 cb_X2_write ml_RX0_83 im_yX2_write se_yX2_write ((F.ss h45.1).m 7 (Nat.le_of_ble_eq_true rfl)) ((F.ss h45.1).k 7 2 rfl) (Nat.le_of_ble_eq_true rfl) ⟨(Nat.le_of_ble_eq_true rfl), (Nat.le_of_ble_eq_true rfl)⟩ rfl rfl (Nat.le_of_ble_eq_true rfl) ⟨(Nat.le_of_ble_eq_true rfl), (Nat.le_of_ble_eq_true rfl)⟩ (RI.go (fun r50 S48 q49 => ?_))
        have h51 : FZ [g + 8, g + 9] [(g, 2), (g, 3), (g, 4), (g, 5), (g, 6), (g, 7), (g + 7, 2)] S S48 := h45.tr (q49.sub (by simp) (by simp))
        refine V_pop 76 dX0_sum_76 rfl ?_
        refine V_iinc_3 77 (1) dX0_sum_77 (by decide) rfl (Nat.le_of_ble_eq_true rfl) ?_
        refine V_goto 80 8 dX0_sum_80 (by decide) ?_
        rw [← nI_succ]
        refine V_lvw (by repeat (first | exact trivial | refine ⟨rfl, ?_⟩)) (ih15 (i11 + 1, _, _) ⟨by dsimp only; omega, h51, (Or.inr rfl)⟩ (by dsimp only; omega))
  refine V_iload_3 8 dX0_sum_8 ?_
  refine V_sipush 9 (400) dX0_sum_9 (by decide) ?_
  refine V_icmp_gt 12 83 dX0_sum_12 (by decide) (fun c52 => ?_) (fun c52 => ?_)
  ·
    refine V_lvw (by repeat (first | exact trivial | refine ⟨rfl, ?_⟩)) (J3 _ _ _ h14 hb20)
  ·
    have lt54 := nI_ltg (n := 400) (by decide) hi13 c52
    refine V_iload_2 15 dX0_sum_15 ?_
    refine V_if_eq 16 83 dX0_sum_16 (by decide) (fun c55 => ?_) (fun c55 => ?_)
    ·
      refine V_lvw (by repeat (first | exact trivial | refine ⟨rfl, ?_⟩)) (J3 _ _ _ h14 hb20)
    ·
      refine V_aload_0 19 dX0_sum_19 ?_
      refine V_getI 20 (c := 0) 3 dX0_sum_20 fl_RX0_36 ((F.ss h14.1).m 0 (Nat.le_of_ble_eq_true rfl)) ((F.ss h14.1).k 0 0 rfl) (Nat.le_of_ble_eq_true rfl) (Nat.le_of_ble_eq_true rfl) rfl ?_
      refine V_bipush 23 (43) dX0_sum_23 (by decide) ?_
      refine V_icmp_eq 25 37 dX0_sum_25 (by decide) (fun c57 => ?_) (fun c57 => ?_)
      ·
        refine V_lvw (by repeat (first | exact trivial | refine ⟨rfl, ?_⟩)) (J33 _ _ h14 (by first | omega | assumption) hb20)
      ·
        refine V_aload_0 28 dX0_sum_28 ?_
        refine V_getI 29 (c := 0) 3 dX0_sum_29 fl_RX0_36 ((F.ss h14.1).m 0 (Nat.le_of_ble_eq_true rfl)) ((F.ss h14.1).k 0 0 rfl) (Nat.le_of_ble_eq_true rfl) (Nat.le_of_ble_eq_true rfl) rfl ?_
        refine V_bipush 32 (45) dX0_sum_32 (by decide) ?_
        refine V_icmp_ne 34 83 dX0_sum_34 (by decide) (fun c59 => ?_) (fun c59 => ?_)
        ·
          refine V_lvw (by repeat (first | exact trivial | refine ⟨rfl, ?_⟩)) (J3 _ _ _ h14 hb20)
        ·
          refine V_lvw (by repeat (first | exact trivial | refine ⟨rfl, ?_⟩)) (J33 _ _ h14 (by first | omega | assumption) hb20)
set_option maxRecDepth 100000 in
set_option maxHeartbeats 8000000 in
theorem s_unit5 (l : Launch) (Γ : GC) (S : PS) {g : Nat} (F : isL lyGrammar Γ.2.2.2.2.1 S g) (x : Int32) (hx : x = 5) : CT l Γ yX0_unit cX0_unit 2 (some .boolean) (5) (0) (0) [.ref g, .int x] S (RI (fun r S' => (r = 0 ∨ r = 1) ∧ FZ [g + 8, g + 9] [(g, 2), (g, 3), (g, 4), (g, 5), (g, 6), (g, 7), (g + 7, 2)] S S')) := by
  refine CT.of RX0 "unit" [some (.ref g), some (.int x)] (by decide +kernel) rfl rfl (Nat.le_of_ble_eq_true rfl) rfl (fun M hM => ?_)
  subst hM
  have J3 : ∀ (S1 : PS) , FZ [g + 8, g + 9] [(g, 2), (g, 3), (g, 4), (g, 5), (g, 6), (g, 7), (g + 7, 2)] S S1 → V M Γ (2, RX0, "unit", (some .boolean), RM (5) (0) (0)) cX0_unit (RQ M Γ (RI (fun r S' => (r = 0 ∨ r = 1) ∧ FZ [g + 8, g + 9] [(g, 2), (g, 3), (g, 4), (g, 5), (g, 6), (g, 7), (g + 7, 2)] S S')) (0) (0)) 0 0 S1 139 [some (.ref g), some (.int x)] [] := by
    intro S1  h2
    refine V_iconst 139 (0) dX0_unit_139 (by decide) ?_
    refine V_iret 140 .boolean dX0_unit_140 rfl (nrwB (Or.inl rfl)) (Nat.le_of_ble_eq_true rfl) (Nat.le_of_ble_eq_true rfl) (RI.mk ⟨(Or.inl rfl), h2⟩)
  have J6 : ∀ (S4 : PS) , FZ [g + 8, g + 9] [(g, 2), (g, 3), (g, 4), (g, 5), (g, 6), (g, 7), (g + 7, 2)] S S4 → V M Γ (2, RX0, "unit", (some .boolean), RM (5) (0) (0)) cX0_unit (RQ M Γ (RI (fun r S' => (r = 0 ∨ r = 1) ∧ FZ [g + 8, g + 9] [(g, 2), (g, 3), (g, 4), (g, 5), (g, 6), (g, 7), (g + 7, 2)] S S')) (0) (0)) 0 0 S4 80 [some (.ref g), some (.int x)] [] := by
    intro S4  h5
    refine V_aload_0 80 dX0_unit_80 ?_
    refine V_getI 81 (c := 0) 3 dX0_unit_81 fl_RX0_36 ((F.ss h5.1).m 0 (Nat.le_of_ble_eq_true rfl)) ((F.ss h5.1).k 0 0 rfl) (Nat.le_of_ble_eq_true rfl) (Nat.le_of_ble_eq_true rfl) rfl ?_
    refine V_bipush 84 (40) dX0_unit_84 (by decide) ?_
    refine V_icmp_eq 86 95 dX0_unit_86 (by decide) (fun c7 => ?_) (fun c7 => ?_)
    ·
      refine V_iload_1 95 dX0_unit_95 ?_
      refine V_bipush 96 (6) dX0_unit_96 (by decide) ?_
      refine V_icmp_lt 98 107 dX0_unit_98 (by decide) (fun c8 => ?_) (fun c8 => ?_)
      ·
        refine V_aload_0 107 dX0_unit_107 ?_
        refine V_bipush 108 (40) dX0_unit_108 (by decide) ?_
        refine V_callV 110 (ci := 0) [.int _] _ (s_step M.2.1 Γ S4 (F.ss h5.1) _) dX0_unit_110 cb_X0_step ml_RX0_51 im_yX0_step se_yX0_step ((F.ss h5.1).m 0 (Nat.le_of_ble_eq_true rfl)) ((F.ss h5.1).k 0 0 rfl) (Nat.le_of_ble_eq_true rfl) ⟨(Nat.le_of_ble_eq_true rfl), (Nat.le_of_ble_eq_true rfl)⟩ rfl rfl (Nat.le_of_ble_eq_true rfl) ⟨(Nat.le_of_ble_eq_true rfl), (Nat.le_of_ble_eq_true rfl)⟩ (RI.go (fun r11 S9 q10 => ?_))
        have h12 : FZ [g + 8, g + 9] [(g, 2), (g, 3), (g, 4), (g, 5), (g, 6), (g, 7), (g + 7, 2)] S S9 := h5.tr (q10.2.sub (by simp) (by simp))
        refine V_if_eq 113 139 dX0_unit_113 (by decide) (fun c13 => ?_) (fun c13 => ?_)
        ·
          refine V_lvw (by repeat (first | exact trivial | refine ⟨rfl, ?_⟩)) (J3 _ h12)
        ·
          refine V_aload_0 116 dX0_unit_116 ?_
          refine V_iload_1 117 dX0_unit_117 ?_
          refine V_iconst 118 (1) dX0_unit_118 (by decide) ?_
          refine V_iadd 119 dX0_unit_119 ?_
          refine V_callV 120 (ci := 0) [.int _] _ (s_sum6 M.2.1 Γ S9 (F.ss h12.1) _ (by rw [hx]; rfl)) dX0_unit_120 cb_X0_sum ml_RX0_80 im_yX0_sum se_yX0_sum ((F.ss h12.1).m 0 (Nat.le_of_ble_eq_true rfl)) ((F.ss h12.1).k 0 0 rfl) (Nat.le_of_ble_eq_true rfl) ⟨(Nat.le_of_ble_eq_true rfl), (Nat.le_of_ble_eq_true rfl)⟩ rfl rfl (Nat.le_of_ble_eq_true rfl) ⟨(Nat.le_of_ble_eq_true rfl), (Nat.le_of_ble_eq_true rfl)⟩ (RI.go (fun r17 S15 q16 => ?_))
          have h18 : FZ [g + 8, g + 9] [(g, 2), (g, 3), (g, 4), (g, 5), (g, 6), (g, 7), (g + 7, 2)] S S15 := h12.tr (q16.2.sub (by simp) (by simp))
          refine V_if_eq 123 139 dX0_unit_123 (by decide) (fun c19 => ?_) (fun c19 => ?_)
          ·
            refine V_lvw (by repeat (first | exact trivial | refine ⟨rfl, ?_⟩)) (J3 _ h18)
          ·
            refine V_aload_0 126 dX0_unit_126 ?_
            refine V_bipush 127 (41) dX0_unit_127 (by decide) ?_
            refine V_callV 129 (ci := 0) [.int _] _ (s_step M.2.1 Γ S15 (F.ss h18.1) _) dX0_unit_129 cb_X0_step ml_RX0_51 im_yX0_step se_yX0_step ((F.ss h18.1).m 0 (Nat.le_of_ble_eq_true rfl)) ((F.ss h18.1).k 0 0 rfl) (Nat.le_of_ble_eq_true rfl) ⟨(Nat.le_of_ble_eq_true rfl), (Nat.le_of_ble_eq_true rfl)⟩ rfl rfl (Nat.le_of_ble_eq_true rfl) ⟨(Nat.le_of_ble_eq_true rfl), (Nat.le_of_ble_eq_true rfl)⟩ (RI.go (fun r23 S21 q22 => ?_))
            have h24 : FZ [g + 8, g + 9] [(g, 2), (g, 3), (g, 4), (g, 5), (g, 6), (g, 7), (g + 7, 2)] S S21 := h18.tr (q22.2.sub (by simp) (by simp))
            refine V_if_eq 132 139 dX0_unit_132 (by decide) (fun c25 => ?_) (fun c25 => ?_)
            ·
              refine V_lvw (by repeat (first | exact trivial | refine ⟨rfl, ?_⟩)) (J3 _ h24)
            ·
              refine V_iconst 135 (1) dX0_unit_135 (by decide) ?_
              refine V_goto 136 140 dX0_unit_136 (by decide) ?_
              refine V_iret 140 .boolean dX0_unit_140 rfl (nrwB (Or.inr rfl)) (Nat.le_of_ble_eq_true rfl) (Nat.le_of_ble_eq_true rfl) (RI.mk ⟨(Or.inr rfl), h24⟩)
      ·
        refine V_aload_0 101 dX0_unit_101 ?_
        refine V_iconst 102 (2) dX0_unit_102 (by decide) ?_
        refine V_callV 103 (ci := 0) [.int _] _ (s_gfail M.2.1 Γ S4 (F.ss h5.1) _) dX0_unit_103 cb_X0_fail ml_RX0_74 im_yX0_fail se_yX0_fail ((F.ss h5.1).m 0 (Nat.le_of_ble_eq_true rfl)) ((F.ss h5.1).k 0 0 rfl) (Nat.le_of_ble_eq_true rfl) ⟨(Nat.le_of_ble_eq_true rfl), (Nat.le_of_ble_eq_true rfl)⟩ rfl rfl (Nat.le_of_ble_eq_true rfl) ⟨(Nat.le_of_ble_eq_true rfl), (Nat.le_of_ble_eq_true rfl)⟩ (RI.go (fun r29 S27 q28 => ?_))
        have h30 : FZ [g + 8, g + 9] [(g, 2), (g, 3), (g, 4), (g, 5), (g, 6), (g, 7), (g + 7, 2)] S S27 := h5.tr (q28.2.sub (by simp) (by simp))
        refine V_iret 106 .boolean dX0_unit_106 rfl (nrwB q28.1) (Nat.le_of_ble_eq_true rfl) (Nat.le_of_ble_eq_true rfl) (RI.mk ⟨q28.1, h30⟩)
    ·
      refine V_aload_0 89 dX0_unit_89 ?_
      refine V_iconst 90 (1) dX0_unit_90 (by decide) ?_
      refine V_callV 91 (ci := 0) [.int _] _ (s_gfail M.2.1 Γ S4 (F.ss h5.1) _) dX0_unit_91 cb_X0_fail ml_RX0_74 im_yX0_fail se_yX0_fail ((F.ss h5.1).m 0 (Nat.le_of_ble_eq_true rfl)) ((F.ss h5.1).k 0 0 rfl) (Nat.le_of_ble_eq_true rfl) ⟨(Nat.le_of_ble_eq_true rfl), (Nat.le_of_ble_eq_true rfl)⟩ rfl rfl (Nat.le_of_ble_eq_true rfl) ⟨(Nat.le_of_ble_eq_true rfl), (Nat.le_of_ble_eq_true rfl)⟩ (RI.go (fun r33 S31 q32 => ?_))
      have h34 : FZ [g + 8, g + 9] [(g, 2), (g, 3), (g, 4), (g, 5), (g, 6), (g, 7), (g + 7, 2)] S S31 := h5.tr (q32.2.sub (by simp) (by simp))
      refine V_iret 94 .boolean dX0_unit_94 rfl (nrwB q32.1) (Nat.le_of_ble_eq_true rfl) (Nat.le_of_ble_eq_true rfl) (RI.mk ⟨q32.1, h34⟩)
  refine V_aload_0 0 dX0_unit_0 ?_
  refine V_getI 1 (c := 0) 3 dX0_unit_1 fl_RX0_36 (F.m 0 (Nat.le_of_ble_eq_true rfl)) (F.k 0 0 rfl) (Nat.le_of_ble_eq_true rfl) (Nat.le_of_ble_eq_true rfl) rfl ?_
  refine V_iconst 4 (2) dX0_unit_4 (by decide) ?_
  refine V_icmp_ne 5 34 dX0_unit_5 (by decide) (fun c35 => ?_) (fun c35 => ?_)
  ·
    refine V_aload_0 34 dX0_unit_34 ?_
    refine V_getI 35 (c := 0) 3 dX0_unit_35 fl_RX0_36 (F.m 0 (Nat.le_of_ble_eq_true rfl)) (F.k 0 0 rfl) (Nat.le_of_ble_eq_true rfl) (Nat.le_of_ble_eq_true rfl) rfl ?_
    refine V_sipush 38 (145) dX0_unit_38 (by decide) ?_
    refine V_icmp_lt 41 80 dX0_unit_41 (by decide) (fun c36 => ?_) (fun c36 => ?_)
    ·
      refine V_lvw (by repeat (first | exact trivial | refine ⟨rfl, ?_⟩)) (J6 _ FZ.rf)
    ·
      refine V_aload_0 44 dX0_unit_44 ?_
      refine V_getI 45 (c := 0) 3 dX0_unit_45 fl_RX0_36 (F.m 0 (Nat.le_of_ble_eq_true rfl)) (F.k 0 0 rfl) (Nat.le_of_ble_eq_true rfl) (Nat.le_of_ble_eq_true rfl) rfl ?_
      refine V_sipush 48 (149) dX0_unit_48 (by decide) ?_
      refine V_icmp_gt 51 80 dX0_unit_51 (by decide) (fun c38 => ?_) (fun c38 => ?_)
      ·
        refine V_lvw (by repeat (first | exact trivial | refine ⟨rfl, ?_⟩)) (J6 _ FZ.rf)
      ·
        refine V_aload_0 54 dX0_unit_54 ?_
        refine V_getR 55 (c := 0) 1 (F.r 0 1 7 rfl) dX0_unit_55 fl_RX0_21 (F.m 0 (Nat.le_of_ble_eq_true rfl)) (F.k 0 0 rfl) (Nat.le_of_ble_eq_true rfl) (Nat.le_of_ble_eq_true rfl) rfl ?_
        refine V_iconst 58 (1) dX0_unit_58 (by decide) ?_
        refine V_aload_0 59 dX0_unit_59 ?_
        refine V_getI 60 (c := 0) 3 dX0_unit_60 fl_RX0_36 (F.m 0 (Nat.le_of_ble_eq_true rfl)) (F.k 0 0 rfl) (Nat.le_of_ble_eq_true rfl) (Nat.le_of_ble_eq_true rfl) rfl ?_
        refine V_sipush 63 (145) dX0_unit_63 (by decide) ?_
        refine V_isub 66 dX0_unit_66 ?_
        refine V_callV 67 (ci := 2) [.int _, .int _] _ (s_write M.2.1 Γ S (F.sub 7 lyLaw rfl (by decide)) _ _) dX0_unit_67 cb_X2_write ml_RX0_83 im_yX2_write se_yX2_write (F.m 7 (Nat.le_of_ble_eq_true rfl)) (F.k 7 2 rfl) (Nat.le_of_ble_eq_true rfl) ⟨(Nat.le_of_ble_eq_true rfl), (Nat.le_of_ble_eq_true rfl)⟩ rfl rfl (Nat.le_of_ble_eq_true rfl) ⟨(Nat.le_of_ble_eq_true rfl), (Nat.le_of_ble_eq_true rfl)⟩ (RI.go (fun r42 S40 q41 => ?_))
        have h43 : FZ [g + 8, g + 9] [(g, 2), (g, 3), (g, 4), (g, 5), (g, 6), (g, 7), (g + 7, 2)] S S40 := (FZ.rf (X := [g + 8, g + 9]) (Y := [(g, 2), (g, 3), (g, 4), (g, 5), (g, 6), (g, 7), (g + 7, 2)]) (S := S)).tr (q41.sub (by simp) (by simp))
        refine V_pop 70 dX0_unit_70 rfl ?_
        refine V_aload_0 71 dX0_unit_71 ?_
        refine V_aload_0 72 dX0_unit_72 ?_
        refine V_getI 73 (c := 0) 3 dX0_unit_73 fl_RX0_36 ((F.ss h43.1).m 0 (Nat.le_of_ble_eq_true rfl)) ((F.ss h43.1).k 0 0 rfl) (Nat.le_of_ble_eq_true rfl) (Nat.le_of_ble_eq_true rfl) rfl ?_
        refine V_callV 76 (ci := 0) [.int _] _ (s_step M.2.1 Γ S40 (F.ss h43.1) _) dX0_unit_76 cb_X0_step ml_RX0_51 im_yX0_step se_yX0_step ((F.ss h43.1).m 0 (Nat.le_of_ble_eq_true rfl)) ((F.ss h43.1).k 0 0 rfl) (Nat.le_of_ble_eq_true rfl) ⟨(Nat.le_of_ble_eq_true rfl), (Nat.le_of_ble_eq_true rfl)⟩ rfl rfl (Nat.le_of_ble_eq_true rfl) ⟨(Nat.le_of_ble_eq_true rfl), (Nat.le_of_ble_eq_true rfl)⟩ (RI.go (fun r46 S44 q45 => ?_))
        have h47 : FZ [g + 8, g + 9] [(g, 2), (g, 3), (g, 4), (g, 5), (g, 6), (g, 7), (g + 7, 2)] S S44 := h43.tr (q45.2.sub (by simp) (by simp))
        refine V_iret 79 .boolean dX0_unit_79 rfl (nrwB q45.1) (Nat.le_of_ble_eq_true rfl) (Nat.le_of_ble_eq_true rfl) (RI.mk ⟨q45.1, h47⟩)
  ·
    refine V_aload_0 8 dX0_unit_8 ?_
    refine V_getR 9 (c := 0) 1 (F.r 0 1 7 rfl) dX0_unit_9 fl_RX0_21 (F.m 0 (Nat.le_of_ble_eq_true rfl)) (F.k 0 0 rfl) (Nat.le_of_ble_eq_true rfl) (Nat.le_of_ble_eq_true rfl) rfl ?_
    refine V_iconst 12 (2) dX0_unit_12 (by decide) ?_
    refine V_aload_0 13 dX0_unit_13 ?_
    refine V_getR 14 (c := 0) 0 (F.r 0 0 1 rfl) dX0_unit_14 fl_RX0_12 (F.m 0 (Nat.le_of_ble_eq_true rfl)) (F.k 0 0 rfl) (Nat.le_of_ble_eq_true rfl) (Nat.le_of_ble_eq_true rfl) rfl ?_
    refine V_aload_0 17 dX0_unit_17 ?_
    refine V_getI 18 (c := 0) 2 dX0_unit_18 fl_RX0_28 (F.m 0 (Nat.le_of_ble_eq_true rfl)) (F.k 0 0 rfl) (Nat.le_of_ble_eq_true rfl) (Nat.le_of_ble_eq_true rfl) rfl ?_
    refine V_callV 21 (ci := 8) [.int _] _ (s_intAt M.2.1 Γ S (F.sub 1 lyTape rfl (by decide)) _) dX0_unit_21 cb_X8_intAt ml_RX0_97 im_yX8_intAt se_yX8_intAt (F.m 1 (Nat.le_of_ble_eq_true rfl)) (F.k 1 8 rfl) (Nat.le_of_ble_eq_true rfl) ⟨(Nat.le_of_ble_eq_true rfl), (Nat.le_of_ble_eq_true rfl)⟩ rfl rfl (Nat.le_of_ble_eq_true rfl) ⟨(Nat.le_of_ble_eq_true rfl), (Nat.le_of_ble_eq_true rfl)⟩ (RI.go (fun r50 S48 q49 => ?_))
    have h51 : FZ [g + 8, g + 9] [(g, 2), (g, 3), (g, 4), (g, 5), (g, 6), (g, 7), (g + 7, 2)] S S48 := (FZ.rf (X := [g + 8, g + 9]) (Y := [(g, 2), (g, 3), (g, 4), (g, 5), (g, 6), (g, 7), (g + 7, 2)]) (S := S)).tr (q49.sub (by simp) (by simp))
    refine V_callV 24 (ci := 2) [.int _, .int _] _ (s_write M.2.1 Γ S48 ((F.ss h51.1).sub 7 lyLaw rfl (by decide)) _ _) dX0_unit_24 cb_X2_write ml_RX0_83 im_yX2_write se_yX2_write ((F.ss h51.1).m 7 (Nat.le_of_ble_eq_true rfl)) ((F.ss h51.1).k 7 2 rfl) (Nat.le_of_ble_eq_true rfl) ⟨(Nat.le_of_ble_eq_true rfl), (Nat.le_of_ble_eq_true rfl)⟩ rfl rfl (Nat.le_of_ble_eq_true rfl) ⟨(Nat.le_of_ble_eq_true rfl), (Nat.le_of_ble_eq_true rfl)⟩ (RI.go (fun r54 S52 q53 => ?_))
    have h55 : FZ [g + 8, g + 9] [(g, 2), (g, 3), (g, 4), (g, 5), (g, 6), (g, 7), (g + 7, 2)] S S52 := h51.tr (q53.sub (by simp) (by simp))
    refine V_pop 27 dX0_unit_27 rfl ?_
    refine V_aload_0 28 dX0_unit_28 ?_
    refine V_iconst 29 (2) dX0_unit_29 (by decide) ?_
    refine V_callV 30 (ci := 0) [.int _] _ (s_step M.2.1 Γ S52 (F.ss h55.1) _) dX0_unit_30 cb_X0_step ml_RX0_51 im_yX0_step se_yX0_step ((F.ss h55.1).m 0 (Nat.le_of_ble_eq_true rfl)) ((F.ss h55.1).k 0 0 rfl) (Nat.le_of_ble_eq_true rfl) ⟨(Nat.le_of_ble_eq_true rfl), (Nat.le_of_ble_eq_true rfl)⟩ rfl rfl (Nat.le_of_ble_eq_true rfl) ⟨(Nat.le_of_ble_eq_true rfl), (Nat.le_of_ble_eq_true rfl)⟩ (RI.go (fun r58 S56 q57 => ?_))
    have h59 : FZ [g + 8, g + 9] [(g, 2), (g, 3), (g, 4), (g, 5), (g, 6), (g, 7), (g + 7, 2)] S S56 := h55.tr (q57.2.sub (by simp) (by simp))
    refine V_iret 33 .boolean dX0_unit_33 rfl (nrwB q57.1) (Nat.le_of_ble_eq_true rfl) (Nat.le_of_ble_eq_true rfl) (RI.mk ⟨q57.1, h59⟩)
set_option maxRecDepth 100000 in
set_option maxHeartbeats 8000000 in
theorem s_product5 (l : Launch) (Γ : GC) (S : PS) {g : Nat} (F : isL lyGrammar Γ.2.2.2.2.1 S g) (x : Int32) (hx : x = 5) : CT l Γ yX0_product cX0_product 5 (some .boolean) (6) (0) (0) [.ref g, .int x] S (RI (fun r S' => (r = 0 ∨ r = 1) ∧ FZ [g + 8, g + 9] [(g, 2), (g, 3), (g, 4), (g, 5), (g, 6), (g, 7), (g + 7, 2)] S S')) := by
  refine CT.of RX0 "product" [some (.ref g), some (.int x), none, none, none] (by decide +kernel) rfl rfl (Nat.le_of_ble_eq_true rfl) rfl (fun M hM => ?_)
  subst hM
  have J3 : ∀ (S1 : PS) (x4 : Int32) (x5 : Int32), FZ [g + 8, g + 9] [(g, 2), (g, 3), (g, 4), (g, 5), (g, 6), (g, 7), (g + 7, 2)] S S1 → (x4 = 0 ∨ x4 = 1) → V M Γ (5, RX0, "product", (some .boolean), RM (6) (0) (0)) cX0_product (RQ M Γ (RI (fun r S' => (r = 0 ∨ r = 1) ∧ FZ [g + 8, g + 9] [(g, 2), (g, 3), (g, 4), (g, 5), (g, 6), (g, 7), (g + 7, 2)] S S')) (0) (0)) 0 0 S1 83 [some (.ref g), some (.int x), some (.int x4), some (.int x5), none] [] := by
    intro S1 x4 x5 h2 hb_x4
    refine V_iload_2 83 dX0_product_83 ?_
    refine V_iret 84 .boolean dX0_product_84 rfl (nrwB hb_x4) (Nat.le_of_ble_eq_true rfl) (Nat.le_of_ble_eq_true rfl) (RI.mk ⟨hb_x4, h2⟩)
  refine V_aload_0 0 dX0_product_0 ?_
  refine V_iload_1 1 dX0_product_1 ?_
  refine V_callV 2 (ci := 0) [.int _] _ (s_unit5 M.2.1 Γ S F _ hx) dX0_product_2 cb_X0_unit ml_RX0_94 im_yX0_unit se_yX0_unit (F.m 0 (Nat.le_of_ble_eq_true rfl)) (F.k 0 0 rfl) (Nat.le_of_ble_eq_true rfl) ⟨(Nat.le_of_ble_eq_true rfl), (Nat.le_of_ble_eq_true rfl)⟩ rfl rfl (Nat.le_of_ble_eq_true rfl) ⟨(Nat.le_of_ble_eq_true rfl), (Nat.le_of_ble_eq_true rfl)⟩ (RI.go (fun r8 S6 q7 => ?_))
  have h9 : FZ [g + 8, g + 9] [(g, 2), (g, 3), (g, 4), (g, 5), (g, 6), (g, 7), (g + 7, 2)] S S6 := (FZ.rf (X := [g + 8, g + 9]) (Y := [(g, 2), (g, 3), (g, 4), (g, 5), (g, 6), (g, 7), (g + 7, 2)]) (S := S)).tr (q7.2.sub (by simp) (by simp))
  refine V_istore_2 5 dX0_product_5 rfl (Nat.le_of_ble_eq_true rfl) ?_
  refine V_iconst 6 (0) dX0_product_6 (by decide) ?_
  refine V_istore_3 7 dX0_product_7 rfl (Nat.le_of_ble_eq_true rfl) ?_
  refine V_lvw (by repeat (first | exact trivial | refine ⟨rfl, ?_⟩)) (V_while (α := Nat × PS × Int32) (fun z10 => 401 - z10.1) (fun z10 => z10.1 ≤ 401 ∧ FZ [g + 8, g + 9] [(g, 2), (g, 3), (g, 4), (g, 5), (g, 6), (g, 7), (g + 7, 2)] S z10.2.1 ∧ (z10.2.2 = 0 ∨ z10.2.2 = 1)) (fun z10 => z10.2.1) (fun z10 => [some (.ref g), some (.int x), some (.int z10.2.2), some (.int (nI z10.1)), none]) (0, _, _) ⟨Nat.zero_le _, h9, q7.1⟩ (fun z10 hx17 ih15 => ?b18))
  obtain ⟨i11, S12, w16⟩ := z10
  obtain ⟨hi13, h14, hb20⟩ := hx17
  dsimp only at hi13 h14 hb20 ih15 ⊢
  have J23 : ∀ (S21 : PS) (x24 : Int32) (x25 : Int32), FZ [g + 8, g + 9] [(g, 2), (g, 3), (g, 4), (g, 5), (g, 6), (g, 7), (g + 7, 2)] S S21 → i11 < 401 → (x24 = 0 ∨ x24 = 1) → V M Γ (5, RX0, "product", (some .boolean), RM (6) (0) (0)) cX0_product (RQ M Γ (RI (fun r S' => (r = 0 ∨ r = 1) ∧ FZ [g + 8, g + 9] [(g, 2), (g, 3), (g, 4), (g, 5), (g, 6), (g, 7), (g + 7, 2)] S S')) (0) (0)) 0 0 S21 64 [some (.ref g), some (.int x), some (.int x24), some (.int (nI i11)), some (.int x25)] [] := by
    intro S21 x24 x25 h22 lt26 hb_x24
    refine V_iconst 64 (0) dX0_product_64 (by decide) ?_
    refine V_istore_2 65 dX0_product_65 rfl (Nat.le_of_ble_eq_true rfl) ?_
    refine V_aload_0 66 dX0_product_66 ?_
    refine V_getR 67 (c := 0) 1 ((F.ss h22.1).r 0 1 7 rfl) dX0_product_67 fl_RX0_21 ((F.ss h22.1).m 0 (Nat.le_of_ble_eq_true rfl)) ((F.ss h22.1).k 0 0 rfl) (Nat.le_of_ble_eq_true rfl) (Nat.le_of_ble_eq_true rfl) rfl ?_
    refine V_iload_4 70 dX0_product_70 ?_
    refine V_iconst 72 (0) dX0_product_72 (by decide) ?_
    refine V_callV 73 (ci := 2) [.int _, .int _] _ (s_write M.2.1 Γ S21 ((F.ss h22.1).sub 7 lyLaw rfl (by decide)) _ _) dX0_product_73 cb_X2_write ml_RX0_83 im_yX2_write se_yX2_write ((F.ss h22.1).m 7 (Nat.le_of_ble_eq_true rfl)) ((F.ss h22.1).k 7 2 rfl) (Nat.le_of_ble_eq_true rfl) ⟨(Nat.le_of_ble_eq_true rfl), (Nat.le_of_ble_eq_true rfl)⟩ rfl rfl (Nat.le_of_ble_eq_true rfl) ⟨(Nat.le_of_ble_eq_true rfl), (Nat.le_of_ble_eq_true rfl)⟩ (RI.go (fun r29 S27 q28 => ?_))
    have h30 : FZ [g + 8, g + 9] [(g, 2), (g, 3), (g, 4), (g, 5), (g, 6), (g, 7), (g + 7, 2)] S S27 := h22.tr (q28.sub (by simp) (by simp))
    refine V_pop 76 dX0_product_76 rfl ?_
    refine V_iinc_3 77 (1) dX0_product_77 (by decide) rfl (Nat.le_of_ble_eq_true rfl) ?_
    refine V_goto 80 8 dX0_product_80 (by decide) ?_
    rw [← nI_succ]
    refine V_lvw (by repeat (first | exact trivial | refine ⟨rfl, ?_⟩)) (ih15 (i11 + 1, _, _) ⟨by dsimp only; omega, h30, (Or.inl rfl)⟩ (by dsimp only; omega))
  have J33 : ∀ (S31 : PS) (x34 : Int32), FZ [g + 8, g + 9] [(g, 2), (g, 3), (g, 4), (g, 5), (g, 6), (g, 7), (g + 7, 2)] S S31 → i11 < 401 → (x34 = 0 ∨ x34 = 1) → V M Γ (5, RX0, "product", (some .boolean), RM (6) (0) (0)) cX0_product (RQ M Γ (RI (fun r S' => (r = 0 ∨ r = 1) ∧ FZ [g + 8, g + 9] [(g, 2), (g, 3), (g, 4), (g, 5), (g, 6), (g, 7), (g + 7, 2)] S S')) (0) (0)) 0 0 S31 37 [some (.ref g), some (.int x), some (.int x34), some (.int (nI i11)), none] [] := by
    intro S31 x34 h32 lt35 hb_x34
    refine V_aload_0 37 dX0_product_37 ?_
    refine V_getI 38 (c := 0) 3 dX0_product_38 fl_RX0_36 ((F.ss h32.1).m 0 (Nat.le_of_ble_eq_true rfl)) ((F.ss h32.1).k 0 0 rfl) (Nat.le_of_ble_eq_true rfl) (Nat.le_of_ble_eq_true rfl) rfl ?_
    refine V_istore_4 41 dX0_product_41 rfl (Nat.le_of_ble_eq_true rfl) ?_
    refine V_aload_0 43 dX0_product_43 ?_
    refine V_iload_4 44 dX0_product_44 ?_
    refine V_callV 46 (ci := 0) [.int _] _ (s_step M.2.1 Γ S31 (F.ss h32.1) _) dX0_product_46 cb_X0_step ml_RX0_51 im_yX0_step se_yX0_step ((F.ss h32.1).m 0 (Nat.le_of_ble_eq_true rfl)) ((F.ss h32.1).k 0 0 rfl) (Nat.le_of_ble_eq_true rfl) ⟨(Nat.le_of_ble_eq_true rfl), (Nat.le_of_ble_eq_true rfl)⟩ rfl rfl (Nat.le_of_ble_eq_true rfl) ⟨(Nat.le_of_ble_eq_true rfl), (Nat.le_of_ble_eq_true rfl)⟩ (RI.go (fun r38 S36 q37 => ?_))
    have h39 : FZ [g + 8, g + 9] [(g, 2), (g, 3), (g, 4), (g, 5), (g, 6), (g, 7), (g + 7, 2)] S S36 := h32.tr (q37.2.sub (by simp) (by simp))
    refine V_if_eq 49 64 dX0_product_49 (by decide) (fun c40 => ?_) (fun c40 => ?_)
    ·
      refine V_lvw (by repeat (first | exact trivial | refine ⟨rfl, ?_⟩)) (J23 _ _ _ h39 (by first | omega | assumption) hb_x34)
    ·
      refine V_aload_0 52 dX0_product_52 ?_
      refine V_iload_1 53 dX0_product_53 ?_
      refine V_callV 54 (ci := 0) [.int _] _ (s_unit5 M.2.1 Γ S36 (F.ss h39.1) _ hx) dX0_product_54 cb_X0_unit ml_RX0_94 im_yX0_unit se_yX0_unit ((F.ss h39.1).m 0 (Nat.le_of_ble_eq_true rfl)) ((F.ss h39.1).k 0 0 rfl) (Nat.le_of_ble_eq_true rfl) ⟨(Nat.le_of_ble_eq_true rfl), (Nat.le_of_ble_eq_true rfl)⟩ rfl rfl (Nat.le_of_ble_eq_true rfl) ⟨(Nat.le_of_ble_eq_true rfl), (Nat.le_of_ble_eq_true rfl)⟩ (RI.go (fun r44 S42 q43 => ?_))
      have h45 : FZ [g + 8, g + 9] [(g, 2), (g, 3), (g, 4), (g, 5), (g, 6), (g, 7), (g + 7, 2)] S S42 := h39.tr (q43.2.sub (by simp) (by simp))
      refine V_if_eq 57 64 dX0_product_57 (by decide) (fun c46 => ?_) (fun c46 => ?_)
      ·
        refine V_lvw (by repeat (first | exact trivial | refine ⟨rfl, ?_⟩)) (J23 _ _ _ h45 (by first | omega | assumption) hb_x34)
      ·
        refine V_iconst 60 (1) dX0_product_60 (by decide) ?_
        refine V_goto 61 65 dX0_product_61 (by decide) ?_
        refine V_istore_2 65 dX0_product_65 rfl (Nat.le_of_ble_eq_true rfl) ?_
        refine V_aload_0 66 dX0_product_66 ?_
        refine V_getR 67 (c := 0) 1 ((F.ss h45.1).r 0 1 7 rfl) dX0_product_67 fl_RX0_21 ((F.ss h45.1).m 0 (Nat.le_of_ble_eq_true rfl)) ((F.ss h45.1).k 0 0 rfl) (Nat.le_of_ble_eq_true rfl) (Nat.le_of_ble_eq_true rfl) rfl ?_
        refine V_iload_4 70 dX0_product_70 ?_
        refine V_iconst 72 (0) dX0_product_72 (by decide) ?_
        refine V_callV 73 (ci := 2) [.int _, .int _] _ (s_write M.2.1 Γ S42 ((F.ss h45.1).sub 7 lyLaw rfl (by decide)) _ _) dX0_product_73 cb_X2_write ml_RX0_83 im_yX2_write se_yX2_write ((F.ss h45.1).m 7 (Nat.le_of_ble_eq_true rfl)) ((F.ss h45.1).k 7 2 rfl) (Nat.le_of_ble_eq_true rfl) ⟨(Nat.le_of_ble_eq_true rfl), (Nat.le_of_ble_eq_true rfl)⟩ rfl rfl (Nat.le_of_ble_eq_true rfl) ⟨(Nat.le_of_ble_eq_true rfl), (Nat.le_of_ble_eq_true rfl)⟩ (RI.go (fun r50 S48 q49 => ?_))
        have h51 : FZ [g + 8, g + 9] [(g, 2), (g, 3), (g, 4), (g, 5), (g, 6), (g, 7), (g + 7, 2)] S S48 := h45.tr (q49.sub (by simp) (by simp))
        refine V_pop 76 dX0_product_76 rfl ?_
        refine V_iinc_3 77 (1) dX0_product_77 (by decide) rfl (Nat.le_of_ble_eq_true rfl) ?_
        refine V_goto 80 8 dX0_product_80 (by decide) ?_
        rw [← nI_succ]
        refine V_lvw (by repeat (first | exact trivial | refine ⟨rfl, ?_⟩)) (ih15 (i11 + 1, _, _) ⟨by dsimp only; omega, h51, (Or.inr rfl)⟩ (by dsimp only; omega))
  refine V_iload_3 8 dX0_product_8 ?_
  refine V_sipush 9 (400) dX0_product_9 (by decide) ?_
  refine V_icmp_gt 12 83 dX0_product_12 (by decide) (fun c52 => ?_) (fun c52 => ?_)
  ·
    refine V_lvw (by repeat (first | exact trivial | refine ⟨rfl, ?_⟩)) (J3 _ _ _ h14 hb20)
  ·
    have lt54 := nI_ltg (n := 400) (by decide) hi13 c52
    refine V_iload_2 15 dX0_product_15 ?_
    refine V_if_eq 16 83 dX0_product_16 (by decide) (fun c55 => ?_) (fun c55 => ?_)
    ·
      refine V_lvw (by repeat (first | exact trivial | refine ⟨rfl, ?_⟩)) (J3 _ _ _ h14 hb20)
    ·
      refine V_aload_0 19 dX0_product_19 ?_
      refine V_getI 20 (c := 0) 3 dX0_product_20 fl_RX0_36 ((F.ss h14.1).m 0 (Nat.le_of_ble_eq_true rfl)) ((F.ss h14.1).k 0 0 rfl) (Nat.le_of_ble_eq_true rfl) (Nat.le_of_ble_eq_true rfl) rfl ?_
      refine V_bipush 23 (42) dX0_product_23 (by decide) ?_
      refine V_icmp_eq 25 37 dX0_product_25 (by decide) (fun c57 => ?_) (fun c57 => ?_)
      ·
        refine V_lvw (by repeat (first | exact trivial | refine ⟨rfl, ?_⟩)) (J33 _ _ h14 (by first | omega | assumption) hb20)
      ·
        refine V_aload_0 28 dX0_product_28 ?_
        refine V_getI 29 (c := 0) 3 dX0_product_29 fl_RX0_36 ((F.ss h14.1).m 0 (Nat.le_of_ble_eq_true rfl)) ((F.ss h14.1).k 0 0 rfl) (Nat.le_of_ble_eq_true rfl) (Nat.le_of_ble_eq_true rfl) rfl ?_
        refine V_bipush 32 (47) dX0_product_32 (by decide) ?_
        refine V_icmp_ne 34 83 dX0_product_34 (by decide) (fun c59 => ?_) (fun c59 => ?_)
        ·
          refine V_lvw (by repeat (first | exact trivial | refine ⟨rfl, ?_⟩)) (J3 _ _ _ h14 hb20)
        ·
          refine V_lvw (by repeat (first | exact trivial | refine ⟨rfl, ?_⟩)) (J33 _ _ h14 (by first | omega | assumption) hb20)
set_option maxRecDepth 100000 in
set_option maxHeartbeats 8000000 in
theorem s_sum5 (l : Launch) (Γ : GC) (S : PS) {g : Nat} (F : isL lyGrammar Γ.2.2.2.2.1 S g) (x : Int32) (hx : x = 5) : CT l Γ yX0_sum cX0_sum 5 (some .boolean) (7) (0) (0) [.ref g, .int x] S (RI (fun r S' => (r = 0 ∨ r = 1) ∧ FZ [g + 8, g + 9] [(g, 2), (g, 3), (g, 4), (g, 5), (g, 6), (g, 7), (g + 7, 2)] S S')) := by
  refine CT.of RX0 "sum" [some (.ref g), some (.int x), none, none, none] (by decide +kernel) rfl rfl (Nat.le_of_ble_eq_true rfl) rfl (fun M hM => ?_)
  subst hM
  have J3 : ∀ (S1 : PS) (x4 : Int32) (x5 : Int32), FZ [g + 8, g + 9] [(g, 2), (g, 3), (g, 4), (g, 5), (g, 6), (g, 7), (g + 7, 2)] S S1 → (x4 = 0 ∨ x4 = 1) → V M Γ (5, RX0, "sum", (some .boolean), RM (7) (0) (0)) cX0_sum (RQ M Γ (RI (fun r S' => (r = 0 ∨ r = 1) ∧ FZ [g + 8, g + 9] [(g, 2), (g, 3), (g, 4), (g, 5), (g, 6), (g, 7), (g + 7, 2)] S S')) (0) (0)) 0 0 S1 83 [some (.ref g), some (.int x), some (.int x4), some (.int x5), none] [] := by
    intro S1 x4 x5 h2 hb_x4
    refine V_iload_2 83 dX0_sum_83 ?_
    refine V_iret 84 .boolean dX0_sum_84 rfl (nrwB hb_x4) (Nat.le_of_ble_eq_true rfl) (Nat.le_of_ble_eq_true rfl) (RI.mk ⟨hb_x4, h2⟩)
  refine V_aload_0 0 dX0_sum_0 ?_
  refine V_iload_1 1 dX0_sum_1 ?_
  refine V_callV 2 (ci := 0) [.int _] _ (s_product5 M.2.1 Γ S F _ hx) dX0_sum_2 cb_X0_product ml_RX0_91 im_yX0_product se_yX0_product (F.m 0 (Nat.le_of_ble_eq_true rfl)) (F.k 0 0 rfl) (Nat.le_of_ble_eq_true rfl) ⟨(Nat.le_of_ble_eq_true rfl), (Nat.le_of_ble_eq_true rfl)⟩ rfl rfl (Nat.le_of_ble_eq_true rfl) ⟨(Nat.le_of_ble_eq_true rfl), (Nat.le_of_ble_eq_true rfl)⟩ (RI.go (fun r8 S6 q7 => ?_))
  have h9 : FZ [g + 8, g + 9] [(g, 2), (g, 3), (g, 4), (g, 5), (g, 6), (g, 7), (g + 7, 2)] S S6 := (FZ.rf (X := [g + 8, g + 9]) (Y := [(g, 2), (g, 3), (g, 4), (g, 5), (g, 6), (g, 7), (g + 7, 2)]) (S := S)).tr (q7.2.sub (by simp) (by simp))
  refine V_istore_2 5 dX0_sum_5 rfl (Nat.le_of_ble_eq_true rfl) ?_
  refine V_iconst 6 (0) dX0_sum_6 (by decide) ?_
  refine V_istore_3 7 dX0_sum_7 rfl (Nat.le_of_ble_eq_true rfl) ?_
  refine V_lvw (by repeat (first | exact trivial | refine ⟨rfl, ?_⟩)) (V_while (α := Nat × PS × Int32) (fun z10 => 401 - z10.1) (fun z10 => z10.1 ≤ 401 ∧ FZ [g + 8, g + 9] [(g, 2), (g, 3), (g, 4), (g, 5), (g, 6), (g, 7), (g + 7, 2)] S z10.2.1 ∧ (z10.2.2 = 0 ∨ z10.2.2 = 1)) (fun z10 => z10.2.1) (fun z10 => [some (.ref g), some (.int x), some (.int z10.2.2), some (.int (nI z10.1)), none]) (0, _, _) ⟨Nat.zero_le _, h9, q7.1⟩ (fun z10 hx17 ih15 => ?b18))
  obtain ⟨i11, S12, w16⟩ := z10
  obtain ⟨hi13, h14, hb20⟩ := hx17
  dsimp only at hi13 h14 hb20 ih15 ⊢
  have J23 : ∀ (S21 : PS) (x24 : Int32) (x25 : Int32), FZ [g + 8, g + 9] [(g, 2), (g, 3), (g, 4), (g, 5), (g, 6), (g, 7), (g + 7, 2)] S S21 → i11 < 401 → (x24 = 0 ∨ x24 = 1) → V M Γ (5, RX0, "sum", (some .boolean), RM (7) (0) (0)) cX0_sum (RQ M Γ (RI (fun r S' => (r = 0 ∨ r = 1) ∧ FZ [g + 8, g + 9] [(g, 2), (g, 3), (g, 4), (g, 5), (g, 6), (g, 7), (g + 7, 2)] S S')) (0) (0)) 0 0 S21 64 [some (.ref g), some (.int x), some (.int x24), some (.int (nI i11)), some (.int x25)] [] := by
    intro S21 x24 x25 h22 lt26 hb_x24
    refine V_iconst 64 (0) dX0_sum_64 (by decide) ?_
    refine V_istore_2 65 dX0_sum_65 rfl (Nat.le_of_ble_eq_true rfl) ?_
    refine V_aload_0 66 dX0_sum_66 ?_
    refine V_getR 67 (c := 0) 1 ((F.ss h22.1).r 0 1 7 rfl) dX0_sum_67 fl_RX0_21 ((F.ss h22.1).m 0 (Nat.le_of_ble_eq_true rfl)) ((F.ss h22.1).k 0 0 rfl) (Nat.le_of_ble_eq_true rfl) (Nat.le_of_ble_eq_true rfl) rfl ?_
    refine V_iload_4 70 dX0_sum_70 ?_
    refine V_iconst 72 (0) dX0_sum_72 (by decide) ?_
    refine V_callV 73 (ci := 2) [.int _, .int _] _ (s_write M.2.1 Γ S21 ((F.ss h22.1).sub 7 lyLaw rfl (by decide)) _ _) dX0_sum_73 cb_X2_write ml_RX0_83 im_yX2_write se_yX2_write ((F.ss h22.1).m 7 (Nat.le_of_ble_eq_true rfl)) ((F.ss h22.1).k 7 2 rfl) (Nat.le_of_ble_eq_true rfl) ⟨(Nat.le_of_ble_eq_true rfl), (Nat.le_of_ble_eq_true rfl)⟩ rfl rfl (Nat.le_of_ble_eq_true rfl) ⟨(Nat.le_of_ble_eq_true rfl), (Nat.le_of_ble_eq_true rfl)⟩ (RI.go (fun r29 S27 q28 => ?_))
    have h30 : FZ [g + 8, g + 9] [(g, 2), (g, 3), (g, 4), (g, 5), (g, 6), (g, 7), (g + 7, 2)] S S27 := h22.tr (q28.sub (by simp) (by simp))
    refine V_pop 76 dX0_sum_76 rfl ?_
    refine V_iinc_3 77 (1) dX0_sum_77 (by decide) rfl (Nat.le_of_ble_eq_true rfl) ?_
    refine V_goto 80 8 dX0_sum_80 (by decide) ?_
    rw [← nI_succ]
    refine V_lvw (by repeat (first | exact trivial | refine ⟨rfl, ?_⟩)) (ih15 (i11 + 1, _, _) ⟨by dsimp only; omega, h30, (Or.inl rfl)⟩ (by dsimp only; omega))
  have J33 : ∀ (S31 : PS) (x34 : Int32), FZ [g + 8, g + 9] [(g, 2), (g, 3), (g, 4), (g, 5), (g, 6), (g, 7), (g + 7, 2)] S S31 → i11 < 401 → (x34 = 0 ∨ x34 = 1) → V M Γ (5, RX0, "sum", (some .boolean), RM (7) (0) (0)) cX0_sum (RQ M Γ (RI (fun r S' => (r = 0 ∨ r = 1) ∧ FZ [g + 8, g + 9] [(g, 2), (g, 3), (g, 4), (g, 5), (g, 6), (g, 7), (g + 7, 2)] S S')) (0) (0)) 0 0 S31 37 [some (.ref g), some (.int x), some (.int x34), some (.int (nI i11)), none] [] := by
    intro S31 x34 h32 lt35 hb_x34
    refine V_aload_0 37 dX0_sum_37 ?_
    refine V_getI 38 (c := 0) 3 dX0_sum_38 fl_RX0_36 ((F.ss h32.1).m 0 (Nat.le_of_ble_eq_true rfl)) ((F.ss h32.1).k 0 0 rfl) (Nat.le_of_ble_eq_true rfl) (Nat.le_of_ble_eq_true rfl) rfl ?_
    refine V_istore_4 41 dX0_sum_41 rfl (Nat.le_of_ble_eq_true rfl) ?_
    refine V_aload_0 43 dX0_sum_43 ?_
    refine V_iload_4 44 dX0_sum_44 ?_
    refine V_callV 46 (ci := 0) [.int _] _ (s_step M.2.1 Γ S31 (F.ss h32.1) _) dX0_sum_46 cb_X0_step ml_RX0_51 im_yX0_step se_yX0_step ((F.ss h32.1).m 0 (Nat.le_of_ble_eq_true rfl)) ((F.ss h32.1).k 0 0 rfl) (Nat.le_of_ble_eq_true rfl) ⟨(Nat.le_of_ble_eq_true rfl), (Nat.le_of_ble_eq_true rfl)⟩ rfl rfl (Nat.le_of_ble_eq_true rfl) ⟨(Nat.le_of_ble_eq_true rfl), (Nat.le_of_ble_eq_true rfl)⟩ (RI.go (fun r38 S36 q37 => ?_))
    have h39 : FZ [g + 8, g + 9] [(g, 2), (g, 3), (g, 4), (g, 5), (g, 6), (g, 7), (g + 7, 2)] S S36 := h32.tr (q37.2.sub (by simp) (by simp))
    refine V_if_eq 49 64 dX0_sum_49 (by decide) (fun c40 => ?_) (fun c40 => ?_)
    ·
      refine V_lvw (by repeat (first | exact trivial | refine ⟨rfl, ?_⟩)) (J23 _ _ _ h39 (by first | omega | assumption) hb_x34)
    ·
      refine V_aload_0 52 dX0_sum_52 ?_
      refine V_iload_1 53 dX0_sum_53 ?_
      refine V_callV 54 (ci := 0) [.int _] _ (s_product5 M.2.1 Γ S36 (F.ss h39.1) _ hx) dX0_sum_54 cb_X0_product ml_RX0_91 im_yX0_product se_yX0_product ((F.ss h39.1).m 0 (Nat.le_of_ble_eq_true rfl)) ((F.ss h39.1).k 0 0 rfl) (Nat.le_of_ble_eq_true rfl) ⟨(Nat.le_of_ble_eq_true rfl), (Nat.le_of_ble_eq_true rfl)⟩ rfl rfl (Nat.le_of_ble_eq_true rfl) ⟨(Nat.le_of_ble_eq_true rfl), (Nat.le_of_ble_eq_true rfl)⟩ (RI.go (fun r44 S42 q43 => ?_))
      have h45 : FZ [g + 8, g + 9] [(g, 2), (g, 3), (g, 4), (g, 5), (g, 6), (g, 7), (g + 7, 2)] S S42 := h39.tr (q43.2.sub (by simp) (by simp))
      refine V_if_eq 57 64 dX0_sum_57 (by decide) (fun c46 => ?_) (fun c46 => ?_)
      ·
        refine V_lvw (by repeat (first | exact trivial | refine ⟨rfl, ?_⟩)) (J23 _ _ _ h45 (by first | omega | assumption) hb_x34)
      ·
        refine V_iconst 60 (1) dX0_sum_60 (by decide) ?_
        refine V_goto 61 65 dX0_sum_61 (by decide) ?_
        refine V_istore_2 65 dX0_sum_65 rfl (Nat.le_of_ble_eq_true rfl) ?_
        refine V_aload_0 66 dX0_sum_66 ?_
        refine V_getR 67 (c := 0) 1 ((F.ss h45.1).r 0 1 7 rfl) dX0_sum_67 fl_RX0_21 ((F.ss h45.1).m 0 (Nat.le_of_ble_eq_true rfl)) ((F.ss h45.1).k 0 0 rfl) (Nat.le_of_ble_eq_true rfl) (Nat.le_of_ble_eq_true rfl) rfl ?_
        refine V_iload_4 70 dX0_sum_70 ?_
        refine V_iconst 72 (0) dX0_sum_72 (by decide) ?_
        refine V_callV 73 (ci := 2) [.int _, .int _] _ (s_write M.2.1 Γ S42 ((F.ss h45.1).sub 7 lyLaw rfl (by decide)) _ _) dX0_sum_73 cb_X2_write ml_RX0_83 im_yX2_write se_yX2_write ((F.ss h45.1).m 7 (Nat.le_of_ble_eq_true rfl)) ((F.ss h45.1).k 7 2 rfl) (Nat.le_of_ble_eq_true rfl) ⟨(Nat.le_of_ble_eq_true rfl), (Nat.le_of_ble_eq_true rfl)⟩ rfl rfl (Nat.le_of_ble_eq_true rfl) ⟨(Nat.le_of_ble_eq_true rfl), (Nat.le_of_ble_eq_true rfl)⟩ (RI.go (fun r50 S48 q49 => ?_))
        have h51 : FZ [g + 8, g + 9] [(g, 2), (g, 3), (g, 4), (g, 5), (g, 6), (g, 7), (g + 7, 2)] S S48 := h45.tr (q49.sub (by simp) (by simp))
        refine V_pop 76 dX0_sum_76 rfl ?_
        refine V_iinc_3 77 (1) dX0_sum_77 (by decide) rfl (Nat.le_of_ble_eq_true rfl) ?_
        refine V_goto 80 8 dX0_sum_80 (by decide) ?_
        rw [← nI_succ]
        refine V_lvw (by repeat (first | exact trivial | refine ⟨rfl, ?_⟩)) (ih15 (i11 + 1, _, _) ⟨by dsimp only; omega, h51, (Or.inr rfl)⟩ (by dsimp only; omega))
  refine V_iload_3 8 dX0_sum_8 ?_
  refine V_sipush 9 (400) dX0_sum_9 (by decide) ?_
  refine V_icmp_gt 12 83 dX0_sum_12 (by decide) (fun c52 => ?_) (fun c52 => ?_)
  ·
    refine V_lvw (by repeat (first | exact trivial | refine ⟨rfl, ?_⟩)) (J3 _ _ _ h14 hb20)
  ·
    have lt54 := nI_ltg (n := 400) (by decide) hi13 c52
    refine V_iload_2 15 dX0_sum_15 ?_
    refine V_if_eq 16 83 dX0_sum_16 (by decide) (fun c55 => ?_) (fun c55 => ?_)
    ·
      refine V_lvw (by repeat (first | exact trivial | refine ⟨rfl, ?_⟩)) (J3 _ _ _ h14 hb20)
    ·
      refine V_aload_0 19 dX0_sum_19 ?_
      refine V_getI 20 (c := 0) 3 dX0_sum_20 fl_RX0_36 ((F.ss h14.1).m 0 (Nat.le_of_ble_eq_true rfl)) ((F.ss h14.1).k 0 0 rfl) (Nat.le_of_ble_eq_true rfl) (Nat.le_of_ble_eq_true rfl) rfl ?_
      refine V_bipush 23 (43) dX0_sum_23 (by decide) ?_
      refine V_icmp_eq 25 37 dX0_sum_25 (by decide) (fun c57 => ?_) (fun c57 => ?_)
      ·
        refine V_lvw (by repeat (first | exact trivial | refine ⟨rfl, ?_⟩)) (J33 _ _ h14 (by first | omega | assumption) hb20)
      ·
        refine V_aload_0 28 dX0_sum_28 ?_
        refine V_getI 29 (c := 0) 3 dX0_sum_29 fl_RX0_36 ((F.ss h14.1).m 0 (Nat.le_of_ble_eq_true rfl)) ((F.ss h14.1).k 0 0 rfl) (Nat.le_of_ble_eq_true rfl) (Nat.le_of_ble_eq_true rfl) rfl ?_
        refine V_bipush 32 (45) dX0_sum_32 (by decide) ?_
        refine V_icmp_ne 34 83 dX0_sum_34 (by decide) (fun c59 => ?_) (fun c59 => ?_)
        ·
          refine V_lvw (by repeat (first | exact trivial | refine ⟨rfl, ?_⟩)) (J3 _ _ _ h14 hb20)
        ·
          refine V_lvw (by repeat (first | exact trivial | refine ⟨rfl, ?_⟩)) (J33 _ _ h14 (by first | omega | assumption) hb20)
set_option maxRecDepth 100000 in
set_option maxHeartbeats 8000000 in
theorem s_unit4 (l : Launch) (Γ : GC) (S : PS) {g : Nat} (F : isL lyGrammar Γ.2.2.2.2.1 S g) (x : Int32) (hx : x = 4) : CT l Γ yX0_unit cX0_unit 2 (some .boolean) (8) (0) (0) [.ref g, .int x] S (RI (fun r S' => (r = 0 ∨ r = 1) ∧ FZ [g + 8, g + 9] [(g, 2), (g, 3), (g, 4), (g, 5), (g, 6), (g, 7), (g + 7, 2)] S S')) := by
  refine CT.of RX0 "unit" [some (.ref g), some (.int x)] (by decide +kernel) rfl rfl (Nat.le_of_ble_eq_true rfl) rfl (fun M hM => ?_)
  subst hM
  have J3 : ∀ (S1 : PS) , FZ [g + 8, g + 9] [(g, 2), (g, 3), (g, 4), (g, 5), (g, 6), (g, 7), (g + 7, 2)] S S1 → V M Γ (2, RX0, "unit", (some .boolean), RM (8) (0) (0)) cX0_unit (RQ M Γ (RI (fun r S' => (r = 0 ∨ r = 1) ∧ FZ [g + 8, g + 9] [(g, 2), (g, 3), (g, 4), (g, 5), (g, 6), (g, 7), (g + 7, 2)] S S')) (0) (0)) 0 0 S1 139 [some (.ref g), some (.int x)] [] := by
    intro S1  h2
    refine V_iconst 139 (0) dX0_unit_139 (by decide) ?_
    refine V_iret 140 .boolean dX0_unit_140 rfl (nrwB (Or.inl rfl)) (Nat.le_of_ble_eq_true rfl) (Nat.le_of_ble_eq_true rfl) (RI.mk ⟨(Or.inl rfl), h2⟩)
  have J6 : ∀ (S4 : PS) , FZ [g + 8, g + 9] [(g, 2), (g, 3), (g, 4), (g, 5), (g, 6), (g, 7), (g + 7, 2)] S S4 → V M Γ (2, RX0, "unit", (some .boolean), RM (8) (0) (0)) cX0_unit (RQ M Γ (RI (fun r S' => (r = 0 ∨ r = 1) ∧ FZ [g + 8, g + 9] [(g, 2), (g, 3), (g, 4), (g, 5), (g, 6), (g, 7), (g + 7, 2)] S S')) (0) (0)) 0 0 S4 80 [some (.ref g), some (.int x)] [] := by
    intro S4  h5
    refine V_aload_0 80 dX0_unit_80 ?_
    refine V_getI 81 (c := 0) 3 dX0_unit_81 fl_RX0_36 ((F.ss h5.1).m 0 (Nat.le_of_ble_eq_true rfl)) ((F.ss h5.1).k 0 0 rfl) (Nat.le_of_ble_eq_true rfl) (Nat.le_of_ble_eq_true rfl) rfl ?_
    refine V_bipush 84 (40) dX0_unit_84 (by decide) ?_
    refine V_icmp_eq 86 95 dX0_unit_86 (by decide) (fun c7 => ?_) (fun c7 => ?_)
    ·
      refine V_iload_1 95 dX0_unit_95 ?_
      refine V_bipush 96 (6) dX0_unit_96 (by decide) ?_
      refine V_icmp_lt 98 107 dX0_unit_98 (by decide) (fun c8 => ?_) (fun c8 => ?_)
      ·
        refine V_aload_0 107 dX0_unit_107 ?_
        refine V_bipush 108 (40) dX0_unit_108 (by decide) ?_
        refine V_callV 110 (ci := 0) [.int _] _ (s_step M.2.1 Γ S4 (F.ss h5.1) _) dX0_unit_110 cb_X0_step ml_RX0_51 im_yX0_step se_yX0_step ((F.ss h5.1).m 0 (Nat.le_of_ble_eq_true rfl)) ((F.ss h5.1).k 0 0 rfl) (Nat.le_of_ble_eq_true rfl) ⟨(Nat.le_of_ble_eq_true rfl), (Nat.le_of_ble_eq_true rfl)⟩ rfl rfl (Nat.le_of_ble_eq_true rfl) ⟨(Nat.le_of_ble_eq_true rfl), (Nat.le_of_ble_eq_true rfl)⟩ (RI.go (fun r11 S9 q10 => ?_))
        have h12 : FZ [g + 8, g + 9] [(g, 2), (g, 3), (g, 4), (g, 5), (g, 6), (g, 7), (g + 7, 2)] S S9 := h5.tr (q10.2.sub (by simp) (by simp))
        refine V_if_eq 113 139 dX0_unit_113 (by decide) (fun c13 => ?_) (fun c13 => ?_)
        ·
          refine V_lvw (by repeat (first | exact trivial | refine ⟨rfl, ?_⟩)) (J3 _ h12)
        ·
          refine V_aload_0 116 dX0_unit_116 ?_
          refine V_iload_1 117 dX0_unit_117 ?_
          refine V_iconst 118 (1) dX0_unit_118 (by decide) ?_
          refine V_iadd 119 dX0_unit_119 ?_
          refine V_callV 120 (ci := 0) [.int _] _ (s_sum5 M.2.1 Γ S9 (F.ss h12.1) _ (by rw [hx]; rfl)) dX0_unit_120 cb_X0_sum ml_RX0_80 im_yX0_sum se_yX0_sum ((F.ss h12.1).m 0 (Nat.le_of_ble_eq_true rfl)) ((F.ss h12.1).k 0 0 rfl) (Nat.le_of_ble_eq_true rfl) ⟨(Nat.le_of_ble_eq_true rfl), (Nat.le_of_ble_eq_true rfl)⟩ rfl rfl (Nat.le_of_ble_eq_true rfl) ⟨(Nat.le_of_ble_eq_true rfl), (Nat.le_of_ble_eq_true rfl)⟩ (RI.go (fun r17 S15 q16 => ?_))
          have h18 : FZ [g + 8, g + 9] [(g, 2), (g, 3), (g, 4), (g, 5), (g, 6), (g, 7), (g + 7, 2)] S S15 := h12.tr (q16.2.sub (by simp) (by simp))
          refine V_if_eq 123 139 dX0_unit_123 (by decide) (fun c19 => ?_) (fun c19 => ?_)
          ·
            refine V_lvw (by repeat (first | exact trivial | refine ⟨rfl, ?_⟩)) (J3 _ h18)
          ·
            refine V_aload_0 126 dX0_unit_126 ?_
            refine V_bipush 127 (41) dX0_unit_127 (by decide) ?_
            refine V_callV 129 (ci := 0) [.int _] _ (s_step M.2.1 Γ S15 (F.ss h18.1) _) dX0_unit_129 cb_X0_step ml_RX0_51 im_yX0_step se_yX0_step ((F.ss h18.1).m 0 (Nat.le_of_ble_eq_true rfl)) ((F.ss h18.1).k 0 0 rfl) (Nat.le_of_ble_eq_true rfl) ⟨(Nat.le_of_ble_eq_true rfl), (Nat.le_of_ble_eq_true rfl)⟩ rfl rfl (Nat.le_of_ble_eq_true rfl) ⟨(Nat.le_of_ble_eq_true rfl), (Nat.le_of_ble_eq_true rfl)⟩ (RI.go (fun r23 S21 q22 => ?_))
            have h24 : FZ [g + 8, g + 9] [(g, 2), (g, 3), (g, 4), (g, 5), (g, 6), (g, 7), (g + 7, 2)] S S21 := h18.tr (q22.2.sub (by simp) (by simp))
            refine V_if_eq 132 139 dX0_unit_132 (by decide) (fun c25 => ?_) (fun c25 => ?_)
            ·
              refine V_lvw (by repeat (first | exact trivial | refine ⟨rfl, ?_⟩)) (J3 _ h24)
            ·
              refine V_iconst 135 (1) dX0_unit_135 (by decide) ?_
              refine V_goto 136 140 dX0_unit_136 (by decide) ?_
              refine V_iret 140 .boolean dX0_unit_140 rfl (nrwB (Or.inr rfl)) (Nat.le_of_ble_eq_true rfl) (Nat.le_of_ble_eq_true rfl) (RI.mk ⟨(Or.inr rfl), h24⟩)
      ·
        refine V_aload_0 101 dX0_unit_101 ?_
        refine V_iconst 102 (2) dX0_unit_102 (by decide) ?_
        refine V_callV 103 (ci := 0) [.int _] _ (s_gfail M.2.1 Γ S4 (F.ss h5.1) _) dX0_unit_103 cb_X0_fail ml_RX0_74 im_yX0_fail se_yX0_fail ((F.ss h5.1).m 0 (Nat.le_of_ble_eq_true rfl)) ((F.ss h5.1).k 0 0 rfl) (Nat.le_of_ble_eq_true rfl) ⟨(Nat.le_of_ble_eq_true rfl), (Nat.le_of_ble_eq_true rfl)⟩ rfl rfl (Nat.le_of_ble_eq_true rfl) ⟨(Nat.le_of_ble_eq_true rfl), (Nat.le_of_ble_eq_true rfl)⟩ (RI.go (fun r29 S27 q28 => ?_))
        have h30 : FZ [g + 8, g + 9] [(g, 2), (g, 3), (g, 4), (g, 5), (g, 6), (g, 7), (g + 7, 2)] S S27 := h5.tr (q28.2.sub (by simp) (by simp))
        refine V_iret 106 .boolean dX0_unit_106 rfl (nrwB q28.1) (Nat.le_of_ble_eq_true rfl) (Nat.le_of_ble_eq_true rfl) (RI.mk ⟨q28.1, h30⟩)
    ·
      refine V_aload_0 89 dX0_unit_89 ?_
      refine V_iconst 90 (1) dX0_unit_90 (by decide) ?_
      refine V_callV 91 (ci := 0) [.int _] _ (s_gfail M.2.1 Γ S4 (F.ss h5.1) _) dX0_unit_91 cb_X0_fail ml_RX0_74 im_yX0_fail se_yX0_fail ((F.ss h5.1).m 0 (Nat.le_of_ble_eq_true rfl)) ((F.ss h5.1).k 0 0 rfl) (Nat.le_of_ble_eq_true rfl) ⟨(Nat.le_of_ble_eq_true rfl), (Nat.le_of_ble_eq_true rfl)⟩ rfl rfl (Nat.le_of_ble_eq_true rfl) ⟨(Nat.le_of_ble_eq_true rfl), (Nat.le_of_ble_eq_true rfl)⟩ (RI.go (fun r33 S31 q32 => ?_))
      have h34 : FZ [g + 8, g + 9] [(g, 2), (g, 3), (g, 4), (g, 5), (g, 6), (g, 7), (g + 7, 2)] S S31 := h5.tr (q32.2.sub (by simp) (by simp))
      refine V_iret 94 .boolean dX0_unit_94 rfl (nrwB q32.1) (Nat.le_of_ble_eq_true rfl) (Nat.le_of_ble_eq_true rfl) (RI.mk ⟨q32.1, h34⟩)
  refine V_aload_0 0 dX0_unit_0 ?_
  refine V_getI 1 (c := 0) 3 dX0_unit_1 fl_RX0_36 (F.m 0 (Nat.le_of_ble_eq_true rfl)) (F.k 0 0 rfl) (Nat.le_of_ble_eq_true rfl) (Nat.le_of_ble_eq_true rfl) rfl ?_
  refine V_iconst 4 (2) dX0_unit_4 (by decide) ?_
  refine V_icmp_ne 5 34 dX0_unit_5 (by decide) (fun c35 => ?_) (fun c35 => ?_)
  ·
    refine V_aload_0 34 dX0_unit_34 ?_
    refine V_getI 35 (c := 0) 3 dX0_unit_35 fl_RX0_36 (F.m 0 (Nat.le_of_ble_eq_true rfl)) (F.k 0 0 rfl) (Nat.le_of_ble_eq_true rfl) (Nat.le_of_ble_eq_true rfl) rfl ?_
    refine V_sipush 38 (145) dX0_unit_38 (by decide) ?_
    refine V_icmp_lt 41 80 dX0_unit_41 (by decide) (fun c36 => ?_) (fun c36 => ?_)
    ·
      refine V_lvw (by repeat (first | exact trivial | refine ⟨rfl, ?_⟩)) (J6 _ FZ.rf)
    ·
      refine V_aload_0 44 dX0_unit_44 ?_
      refine V_getI 45 (c := 0) 3 dX0_unit_45 fl_RX0_36 (F.m 0 (Nat.le_of_ble_eq_true rfl)) (F.k 0 0 rfl) (Nat.le_of_ble_eq_true rfl) (Nat.le_of_ble_eq_true rfl) rfl ?_
      refine V_sipush 48 (149) dX0_unit_48 (by decide) ?_
      refine V_icmp_gt 51 80 dX0_unit_51 (by decide) (fun c38 => ?_) (fun c38 => ?_)
      ·
        refine V_lvw (by repeat (first | exact trivial | refine ⟨rfl, ?_⟩)) (J6 _ FZ.rf)
      ·
        refine V_aload_0 54 dX0_unit_54 ?_
        refine V_getR 55 (c := 0) 1 (F.r 0 1 7 rfl) dX0_unit_55 fl_RX0_21 (F.m 0 (Nat.le_of_ble_eq_true rfl)) (F.k 0 0 rfl) (Nat.le_of_ble_eq_true rfl) (Nat.le_of_ble_eq_true rfl) rfl ?_
        refine V_iconst 58 (1) dX0_unit_58 (by decide) ?_
        refine V_aload_0 59 dX0_unit_59 ?_
        refine V_getI 60 (c := 0) 3 dX0_unit_60 fl_RX0_36 (F.m 0 (Nat.le_of_ble_eq_true rfl)) (F.k 0 0 rfl) (Nat.le_of_ble_eq_true rfl) (Nat.le_of_ble_eq_true rfl) rfl ?_
        refine V_sipush 63 (145) dX0_unit_63 (by decide) ?_
        refine V_isub 66 dX0_unit_66 ?_
        refine V_callV 67 (ci := 2) [.int _, .int _] _ (s_write M.2.1 Γ S (F.sub 7 lyLaw rfl (by decide)) _ _) dX0_unit_67 cb_X2_write ml_RX0_83 im_yX2_write se_yX2_write (F.m 7 (Nat.le_of_ble_eq_true rfl)) (F.k 7 2 rfl) (Nat.le_of_ble_eq_true rfl) ⟨(Nat.le_of_ble_eq_true rfl), (Nat.le_of_ble_eq_true rfl)⟩ rfl rfl (Nat.le_of_ble_eq_true rfl) ⟨(Nat.le_of_ble_eq_true rfl), (Nat.le_of_ble_eq_true rfl)⟩ (RI.go (fun r42 S40 q41 => ?_))
        have h43 : FZ [g + 8, g + 9] [(g, 2), (g, 3), (g, 4), (g, 5), (g, 6), (g, 7), (g + 7, 2)] S S40 := (FZ.rf (X := [g + 8, g + 9]) (Y := [(g, 2), (g, 3), (g, 4), (g, 5), (g, 6), (g, 7), (g + 7, 2)]) (S := S)).tr (q41.sub (by simp) (by simp))
        refine V_pop 70 dX0_unit_70 rfl ?_
        refine V_aload_0 71 dX0_unit_71 ?_
        refine V_aload_0 72 dX0_unit_72 ?_
        refine V_getI 73 (c := 0) 3 dX0_unit_73 fl_RX0_36 ((F.ss h43.1).m 0 (Nat.le_of_ble_eq_true rfl)) ((F.ss h43.1).k 0 0 rfl) (Nat.le_of_ble_eq_true rfl) (Nat.le_of_ble_eq_true rfl) rfl ?_
        refine V_callV 76 (ci := 0) [.int _] _ (s_step M.2.1 Γ S40 (F.ss h43.1) _) dX0_unit_76 cb_X0_step ml_RX0_51 im_yX0_step se_yX0_step ((F.ss h43.1).m 0 (Nat.le_of_ble_eq_true rfl)) ((F.ss h43.1).k 0 0 rfl) (Nat.le_of_ble_eq_true rfl) ⟨(Nat.le_of_ble_eq_true rfl), (Nat.le_of_ble_eq_true rfl)⟩ rfl rfl (Nat.le_of_ble_eq_true rfl) ⟨(Nat.le_of_ble_eq_true rfl), (Nat.le_of_ble_eq_true rfl)⟩ (RI.go (fun r46 S44 q45 => ?_))
        have h47 : FZ [g + 8, g + 9] [(g, 2), (g, 3), (g, 4), (g, 5), (g, 6), (g, 7), (g + 7, 2)] S S44 := h43.tr (q45.2.sub (by simp) (by simp))
        refine V_iret 79 .boolean dX0_unit_79 rfl (nrwB q45.1) (Nat.le_of_ble_eq_true rfl) (Nat.le_of_ble_eq_true rfl) (RI.mk ⟨q45.1, h47⟩)
  ·
    refine V_aload_0 8 dX0_unit_8 ?_
    refine V_getR 9 (c := 0) 1 (F.r 0 1 7 rfl) dX0_unit_9 fl_RX0_21 (F.m 0 (Nat.le_of_ble_eq_true rfl)) (F.k 0 0 rfl) (Nat.le_of_ble_eq_true rfl) (Nat.le_of_ble_eq_true rfl) rfl ?_
    refine V_iconst 12 (2) dX0_unit_12 (by decide) ?_
    refine V_aload_0 13 dX0_unit_13 ?_
    refine V_getR 14 (c := 0) 0 (F.r 0 0 1 rfl) dX0_unit_14 fl_RX0_12 (F.m 0 (Nat.le_of_ble_eq_true rfl)) (F.k 0 0 rfl) (Nat.le_of_ble_eq_true rfl) (Nat.le_of_ble_eq_true rfl) rfl ?_
    refine V_aload_0 17 dX0_unit_17 ?_
    refine V_getI 18 (c := 0) 2 dX0_unit_18 fl_RX0_28 (F.m 0 (Nat.le_of_ble_eq_true rfl)) (F.k 0 0 rfl) (Nat.le_of_ble_eq_true rfl) (Nat.le_of_ble_eq_true rfl) rfl ?_
    refine V_callV 21 (ci := 8) [.int _] _ (s_intAt M.2.1 Γ S (F.sub 1 lyTape rfl (by decide)) _) dX0_unit_21 cb_X8_intAt ml_RX0_97 im_yX8_intAt se_yX8_intAt (F.m 1 (Nat.le_of_ble_eq_true rfl)) (F.k 1 8 rfl) (Nat.le_of_ble_eq_true rfl) ⟨(Nat.le_of_ble_eq_true rfl), (Nat.le_of_ble_eq_true rfl)⟩ rfl rfl (Nat.le_of_ble_eq_true rfl) ⟨(Nat.le_of_ble_eq_true rfl), (Nat.le_of_ble_eq_true rfl)⟩ (RI.go (fun r50 S48 q49 => ?_))
    have h51 : FZ [g + 8, g + 9] [(g, 2), (g, 3), (g, 4), (g, 5), (g, 6), (g, 7), (g + 7, 2)] S S48 := (FZ.rf (X := [g + 8, g + 9]) (Y := [(g, 2), (g, 3), (g, 4), (g, 5), (g, 6), (g, 7), (g + 7, 2)]) (S := S)).tr (q49.sub (by simp) (by simp))
    refine V_callV 24 (ci := 2) [.int _, .int _] _ (s_write M.2.1 Γ S48 ((F.ss h51.1).sub 7 lyLaw rfl (by decide)) _ _) dX0_unit_24 cb_X2_write ml_RX0_83 im_yX2_write se_yX2_write ((F.ss h51.1).m 7 (Nat.le_of_ble_eq_true rfl)) ((F.ss h51.1).k 7 2 rfl) (Nat.le_of_ble_eq_true rfl) ⟨(Nat.le_of_ble_eq_true rfl), (Nat.le_of_ble_eq_true rfl)⟩ rfl rfl (Nat.le_of_ble_eq_true rfl) ⟨(Nat.le_of_ble_eq_true rfl), (Nat.le_of_ble_eq_true rfl)⟩ (RI.go (fun r54 S52 q53 => ?_))
    have h55 : FZ [g + 8, g + 9] [(g, 2), (g, 3), (g, 4), (g, 5), (g, 6), (g, 7), (g + 7, 2)] S S52 := h51.tr (q53.sub (by simp) (by simp))
    refine V_pop 27 dX0_unit_27 rfl ?_
    refine V_aload_0 28 dX0_unit_28 ?_
    refine V_iconst 29 (2) dX0_unit_29 (by decide) ?_
    refine V_callV 30 (ci := 0) [.int _] _ (s_step M.2.1 Γ S52 (F.ss h55.1) _) dX0_unit_30 cb_X0_step ml_RX0_51 im_yX0_step se_yX0_step ((F.ss h55.1).m 0 (Nat.le_of_ble_eq_true rfl)) ((F.ss h55.1).k 0 0 rfl) (Nat.le_of_ble_eq_true rfl) ⟨(Nat.le_of_ble_eq_true rfl), (Nat.le_of_ble_eq_true rfl)⟩ rfl rfl (Nat.le_of_ble_eq_true rfl) ⟨(Nat.le_of_ble_eq_true rfl), (Nat.le_of_ble_eq_true rfl)⟩ (RI.go (fun r58 S56 q57 => ?_))
    have h59 : FZ [g + 8, g + 9] [(g, 2), (g, 3), (g, 4), (g, 5), (g, 6), (g, 7), (g + 7, 2)] S S56 := h55.tr (q57.2.sub (by simp) (by simp))
    refine V_iret 33 .boolean dX0_unit_33 rfl (nrwB q57.1) (Nat.le_of_ble_eq_true rfl) (Nat.le_of_ble_eq_true rfl) (RI.mk ⟨q57.1, h59⟩)
set_option maxRecDepth 100000 in
set_option maxHeartbeats 8000000 in
theorem s_product4 (l : Launch) (Γ : GC) (S : PS) {g : Nat} (F : isL lyGrammar Γ.2.2.2.2.1 S g) (x : Int32) (hx : x = 4) : CT l Γ yX0_product cX0_product 5 (some .boolean) (9) (0) (0) [.ref g, .int x] S (RI (fun r S' => (r = 0 ∨ r = 1) ∧ FZ [g + 8, g + 9] [(g, 2), (g, 3), (g, 4), (g, 5), (g, 6), (g, 7), (g + 7, 2)] S S')) := by
  refine CT.of RX0 "product" [some (.ref g), some (.int x), none, none, none] (by decide +kernel) rfl rfl (Nat.le_of_ble_eq_true rfl) rfl (fun M hM => ?_)
  subst hM
  have J3 : ∀ (S1 : PS) (x4 : Int32) (x5 : Int32), FZ [g + 8, g + 9] [(g, 2), (g, 3), (g, 4), (g, 5), (g, 6), (g, 7), (g + 7, 2)] S S1 → (x4 = 0 ∨ x4 = 1) → V M Γ (5, RX0, "product", (some .boolean), RM (9) (0) (0)) cX0_product (RQ M Γ (RI (fun r S' => (r = 0 ∨ r = 1) ∧ FZ [g + 8, g + 9] [(g, 2), (g, 3), (g, 4), (g, 5), (g, 6), (g, 7), (g + 7, 2)] S S')) (0) (0)) 0 0 S1 83 [some (.ref g), some (.int x), some (.int x4), some (.int x5), none] [] := by
    intro S1 x4 x5 h2 hb_x4
    refine V_iload_2 83 dX0_product_83 ?_
    refine V_iret 84 .boolean dX0_product_84 rfl (nrwB hb_x4) (Nat.le_of_ble_eq_true rfl) (Nat.le_of_ble_eq_true rfl) (RI.mk ⟨hb_x4, h2⟩)
  refine V_aload_0 0 dX0_product_0 ?_
  refine V_iload_1 1 dX0_product_1 ?_
  refine V_callV 2 (ci := 0) [.int _] _ (s_unit4 M.2.1 Γ S F _ hx) dX0_product_2 cb_X0_unit ml_RX0_94 im_yX0_unit se_yX0_unit (F.m 0 (Nat.le_of_ble_eq_true rfl)) (F.k 0 0 rfl) (Nat.le_of_ble_eq_true rfl) ⟨(Nat.le_of_ble_eq_true rfl), (Nat.le_of_ble_eq_true rfl)⟩ rfl rfl (Nat.le_of_ble_eq_true rfl) ⟨(Nat.le_of_ble_eq_true rfl), (Nat.le_of_ble_eq_true rfl)⟩ (RI.go (fun r8 S6 q7 => ?_))
  have h9 : FZ [g + 8, g + 9] [(g, 2), (g, 3), (g, 4), (g, 5), (g, 6), (g, 7), (g + 7, 2)] S S6 := (FZ.rf (X := [g + 8, g + 9]) (Y := [(g, 2), (g, 3), (g, 4), (g, 5), (g, 6), (g, 7), (g + 7, 2)]) (S := S)).tr (q7.2.sub (by simp) (by simp))
  refine V_istore_2 5 dX0_product_5 rfl (Nat.le_of_ble_eq_true rfl) ?_
  refine V_iconst 6 (0) dX0_product_6 (by decide) ?_
  refine V_istore_3 7 dX0_product_7 rfl (Nat.le_of_ble_eq_true rfl) ?_
  refine V_lvw (by repeat (first | exact trivial | refine ⟨rfl, ?_⟩)) (V_while (α := Nat × PS × Int32) (fun z10 => 401 - z10.1) (fun z10 => z10.1 ≤ 401 ∧ FZ [g + 8, g + 9] [(g, 2), (g, 3), (g, 4), (g, 5), (g, 6), (g, 7), (g + 7, 2)] S z10.2.1 ∧ (z10.2.2 = 0 ∨ z10.2.2 = 1)) (fun z10 => z10.2.1) (fun z10 => [some (.ref g), some (.int x), some (.int z10.2.2), some (.int (nI z10.1)), none]) (0, _, _) ⟨Nat.zero_le _, h9, q7.1⟩ (fun z10 hx17 ih15 => ?b18))
  obtain ⟨i11, S12, w16⟩ := z10
  obtain ⟨hi13, h14, hb20⟩ := hx17
  dsimp only at hi13 h14 hb20 ih15 ⊢
  have J23 : ∀ (S21 : PS) (x24 : Int32) (x25 : Int32), FZ [g + 8, g + 9] [(g, 2), (g, 3), (g, 4), (g, 5), (g, 6), (g, 7), (g + 7, 2)] S S21 → i11 < 401 → (x24 = 0 ∨ x24 = 1) → V M Γ (5, RX0, "product", (some .boolean), RM (9) (0) (0)) cX0_product (RQ M Γ (RI (fun r S' => (r = 0 ∨ r = 1) ∧ FZ [g + 8, g + 9] [(g, 2), (g, 3), (g, 4), (g, 5), (g, 6), (g, 7), (g + 7, 2)] S S')) (0) (0)) 0 0 S21 64 [some (.ref g), some (.int x), some (.int x24), some (.int (nI i11)), some (.int x25)] [] := by
    intro S21 x24 x25 h22 lt26 hb_x24
    refine V_iconst 64 (0) dX0_product_64 (by decide) ?_
    refine V_istore_2 65 dX0_product_65 rfl (Nat.le_of_ble_eq_true rfl) ?_
    refine V_aload_0 66 dX0_product_66 ?_
    refine V_getR 67 (c := 0) 1 ((F.ss h22.1).r 0 1 7 rfl) dX0_product_67 fl_RX0_21 ((F.ss h22.1).m 0 (Nat.le_of_ble_eq_true rfl)) ((F.ss h22.1).k 0 0 rfl) (Nat.le_of_ble_eq_true rfl) (Nat.le_of_ble_eq_true rfl) rfl ?_
    refine V_iload_4 70 dX0_product_70 ?_
    refine V_iconst 72 (0) dX0_product_72 (by decide) ?_
    refine V_callV 73 (ci := 2) [.int _, .int _] _ (s_write M.2.1 Γ S21 ((F.ss h22.1).sub 7 lyLaw rfl (by decide)) _ _) dX0_product_73 cb_X2_write ml_RX0_83 im_yX2_write se_yX2_write ((F.ss h22.1).m 7 (Nat.le_of_ble_eq_true rfl)) ((F.ss h22.1).k 7 2 rfl) (Nat.le_of_ble_eq_true rfl) ⟨(Nat.le_of_ble_eq_true rfl), (Nat.le_of_ble_eq_true rfl)⟩ rfl rfl (Nat.le_of_ble_eq_true rfl) ⟨(Nat.le_of_ble_eq_true rfl), (Nat.le_of_ble_eq_true rfl)⟩ (RI.go (fun r29 S27 q28 => ?_))
    have h30 : FZ [g + 8, g + 9] [(g, 2), (g, 3), (g, 4), (g, 5), (g, 6), (g, 7), (g + 7, 2)] S S27 := h22.tr (q28.sub (by simp) (by simp))
    refine V_pop 76 dX0_product_76 rfl ?_
    refine V_iinc_3 77 (1) dX0_product_77 (by decide) rfl (Nat.le_of_ble_eq_true rfl) ?_
    refine V_goto 80 8 dX0_product_80 (by decide) ?_
    rw [← nI_succ]
    refine V_lvw (by repeat (first | exact trivial | refine ⟨rfl, ?_⟩)) (ih15 (i11 + 1, _, _) ⟨by dsimp only; omega, h30, (Or.inl rfl)⟩ (by dsimp only; omega))
  have J33 : ∀ (S31 : PS) (x34 : Int32), FZ [g + 8, g + 9] [(g, 2), (g, 3), (g, 4), (g, 5), (g, 6), (g, 7), (g + 7, 2)] S S31 → i11 < 401 → (x34 = 0 ∨ x34 = 1) → V M Γ (5, RX0, "product", (some .boolean), RM (9) (0) (0)) cX0_product (RQ M Γ (RI (fun r S' => (r = 0 ∨ r = 1) ∧ FZ [g + 8, g + 9] [(g, 2), (g, 3), (g, 4), (g, 5), (g, 6), (g, 7), (g + 7, 2)] S S')) (0) (0)) 0 0 S31 37 [some (.ref g), some (.int x), some (.int x34), some (.int (nI i11)), none] [] := by
    intro S31 x34 h32 lt35 hb_x34
    refine V_aload_0 37 dX0_product_37 ?_
    refine V_getI 38 (c := 0) 3 dX0_product_38 fl_RX0_36 ((F.ss h32.1).m 0 (Nat.le_of_ble_eq_true rfl)) ((F.ss h32.1).k 0 0 rfl) (Nat.le_of_ble_eq_true rfl) (Nat.le_of_ble_eq_true rfl) rfl ?_
    refine V_istore_4 41 dX0_product_41 rfl (Nat.le_of_ble_eq_true rfl) ?_
    refine V_aload_0 43 dX0_product_43 ?_
    refine V_iload_4 44 dX0_product_44 ?_
    refine V_callV 46 (ci := 0) [.int _] _ (s_step M.2.1 Γ S31 (F.ss h32.1) _) dX0_product_46 cb_X0_step ml_RX0_51 im_yX0_step se_yX0_step ((F.ss h32.1).m 0 (Nat.le_of_ble_eq_true rfl)) ((F.ss h32.1).k 0 0 rfl) (Nat.le_of_ble_eq_true rfl) ⟨(Nat.le_of_ble_eq_true rfl), (Nat.le_of_ble_eq_true rfl)⟩ rfl rfl (Nat.le_of_ble_eq_true rfl) ⟨(Nat.le_of_ble_eq_true rfl), (Nat.le_of_ble_eq_true rfl)⟩ (RI.go (fun r38 S36 q37 => ?_))
    have h39 : FZ [g + 8, g + 9] [(g, 2), (g, 3), (g, 4), (g, 5), (g, 6), (g, 7), (g + 7, 2)] S S36 := h32.tr (q37.2.sub (by simp) (by simp))
    refine V_if_eq 49 64 dX0_product_49 (by decide) (fun c40 => ?_) (fun c40 => ?_)
    ·
      refine V_lvw (by repeat (first | exact trivial | refine ⟨rfl, ?_⟩)) (J23 _ _ _ h39 (by first | omega | assumption) hb_x34)
    ·
      refine V_aload_0 52 dX0_product_52 ?_
      refine V_iload_1 53 dX0_product_53 ?_
      refine V_callV 54 (ci := 0) [.int _] _ (s_unit4 M.2.1 Γ S36 (F.ss h39.1) _ hx) dX0_product_54 cb_X0_unit ml_RX0_94 im_yX0_unit se_yX0_unit ((F.ss h39.1).m 0 (Nat.le_of_ble_eq_true rfl)) ((F.ss h39.1).k 0 0 rfl) (Nat.le_of_ble_eq_true rfl) ⟨(Nat.le_of_ble_eq_true rfl), (Nat.le_of_ble_eq_true rfl)⟩ rfl rfl (Nat.le_of_ble_eq_true rfl) ⟨(Nat.le_of_ble_eq_true rfl), (Nat.le_of_ble_eq_true rfl)⟩ (RI.go (fun r44 S42 q43 => ?_))
      have h45 : FZ [g + 8, g + 9] [(g, 2), (g, 3), (g, 4), (g, 5), (g, 6), (g, 7), (g + 7, 2)] S S42 := h39.tr (q43.2.sub (by simp) (by simp))
      refine V_if_eq 57 64 dX0_product_57 (by decide) (fun c46 => ?_) (fun c46 => ?_)
      ·
        refine V_lvw (by repeat (first | exact trivial | refine ⟨rfl, ?_⟩)) (J23 _ _ _ h45 (by first | omega | assumption) hb_x34)
      ·
        refine V_iconst 60 (1) dX0_product_60 (by decide) ?_
        refine V_goto 61 65 dX0_product_61 (by decide) ?_
        refine V_istore_2 65 dX0_product_65 rfl (Nat.le_of_ble_eq_true rfl) ?_
        refine V_aload_0 66 dX0_product_66 ?_
        refine V_getR 67 (c := 0) 1 ((F.ss h45.1).r 0 1 7 rfl) dX0_product_67 fl_RX0_21 ((F.ss h45.1).m 0 (Nat.le_of_ble_eq_true rfl)) ((F.ss h45.1).k 0 0 rfl) (Nat.le_of_ble_eq_true rfl) (Nat.le_of_ble_eq_true rfl) rfl ?_
        refine V_iload_4 70 dX0_product_70 ?_
        refine V_iconst 72 (0) dX0_product_72 (by decide) ?_
        refine V_callV 73 (ci := 2) [.int _, .int _] _ (s_write M.2.1 Γ S42 ((F.ss h45.1).sub 7 lyLaw rfl (by decide)) _ _) dX0_product_73 cb_X2_write ml_RX0_83 im_yX2_write se_yX2_write ((F.ss h45.1).m 7 (Nat.le_of_ble_eq_true rfl)) ((F.ss h45.1).k 7 2 rfl) (Nat.le_of_ble_eq_true rfl) ⟨(Nat.le_of_ble_eq_true rfl), (Nat.le_of_ble_eq_true rfl)⟩ rfl rfl (Nat.le_of_ble_eq_true rfl) ⟨(Nat.le_of_ble_eq_true rfl), (Nat.le_of_ble_eq_true rfl)⟩ (RI.go (fun r50 S48 q49 => ?_))
        have h51 : FZ [g + 8, g + 9] [(g, 2), (g, 3), (g, 4), (g, 5), (g, 6), (g, 7), (g + 7, 2)] S S48 := h45.tr (q49.sub (by simp) (by simp))
        refine V_pop 76 dX0_product_76 rfl ?_
        refine V_iinc_3 77 (1) dX0_product_77 (by decide) rfl (Nat.le_of_ble_eq_true rfl) ?_
        refine V_goto 80 8 dX0_product_80 (by decide) ?_
        rw [← nI_succ]
        refine V_lvw (by repeat (first | exact trivial | refine ⟨rfl, ?_⟩)) (ih15 (i11 + 1, _, _) ⟨by dsimp only; omega, h51, (Or.inr rfl)⟩ (by dsimp only; omega))
  refine V_iload_3 8 dX0_product_8 ?_
  refine V_sipush 9 (400) dX0_product_9 (by decide) ?_
  refine V_icmp_gt 12 83 dX0_product_12 (by decide) (fun c52 => ?_) (fun c52 => ?_)
  ·
    refine V_lvw (by repeat (first | exact trivial | refine ⟨rfl, ?_⟩)) (J3 _ _ _ h14 hb20)
  ·
    have lt54 := nI_ltg (n := 400) (by decide) hi13 c52
    refine V_iload_2 15 dX0_product_15 ?_
    refine V_if_eq 16 83 dX0_product_16 (by decide) (fun c55 => ?_) (fun c55 => ?_)
    ·
      refine V_lvw (by repeat (first | exact trivial | refine ⟨rfl, ?_⟩)) (J3 _ _ _ h14 hb20)
    ·
      refine V_aload_0 19 dX0_product_19 ?_
      refine V_getI 20 (c := 0) 3 dX0_product_20 fl_RX0_36 ((F.ss h14.1).m 0 (Nat.le_of_ble_eq_true rfl)) ((F.ss h14.1).k 0 0 rfl) (Nat.le_of_ble_eq_true rfl) (Nat.le_of_ble_eq_true rfl) rfl ?_
      refine V_bipush 23 (42) dX0_product_23 (by decide) ?_
      refine V_icmp_eq 25 37 dX0_product_25 (by decide) (fun c57 => ?_) (fun c57 => ?_)
      ·
        refine V_lvw (by repeat (first | exact trivial | refine ⟨rfl, ?_⟩)) (J33 _ _ h14 (by first | omega | assumption) hb20)
      ·
        refine V_aload_0 28 dX0_product_28 ?_
        refine V_getI 29 (c := 0) 3 dX0_product_29 fl_RX0_36 ((F.ss h14.1).m 0 (Nat.le_of_ble_eq_true rfl)) ((F.ss h14.1).k 0 0 rfl) (Nat.le_of_ble_eq_true rfl) (Nat.le_of_ble_eq_true rfl) rfl ?_
        refine V_bipush 32 (47) dX0_product_32 (by decide) ?_
        refine V_icmp_ne 34 83 dX0_product_34 (by decide) (fun c59 => ?_) (fun c59 => ?_)
        ·
          refine V_lvw (by repeat (first | exact trivial | refine ⟨rfl, ?_⟩)) (J3 _ _ _ h14 hb20)
        ·
          refine V_lvw (by repeat (first | exact trivial | refine ⟨rfl, ?_⟩)) (J33 _ _ h14 (by first | omega | assumption) hb20)
set_option maxRecDepth 100000 in
set_option maxHeartbeats 8000000 in
theorem s_sum4 (l : Launch) (Γ : GC) (S : PS) {g : Nat} (F : isL lyGrammar Γ.2.2.2.2.1 S g) (x : Int32) (hx : x = 4) : CT l Γ yX0_sum cX0_sum 5 (some .boolean) (10) (0) (0) [.ref g, .int x] S (RI (fun r S' => (r = 0 ∨ r = 1) ∧ FZ [g + 8, g + 9] [(g, 2), (g, 3), (g, 4), (g, 5), (g, 6), (g, 7), (g + 7, 2)] S S')) := by
  refine CT.of RX0 "sum" [some (.ref g), some (.int x), none, none, none] (by decide +kernel) rfl rfl (Nat.le_of_ble_eq_true rfl) rfl (fun M hM => ?_)
  subst hM
  have J3 : ∀ (S1 : PS) (x4 : Int32) (x5 : Int32), FZ [g + 8, g + 9] [(g, 2), (g, 3), (g, 4), (g, 5), (g, 6), (g, 7), (g + 7, 2)] S S1 → (x4 = 0 ∨ x4 = 1) → V M Γ (5, RX0, "sum", (some .boolean), RM (10) (0) (0)) cX0_sum (RQ M Γ (RI (fun r S' => (r = 0 ∨ r = 1) ∧ FZ [g + 8, g + 9] [(g, 2), (g, 3), (g, 4), (g, 5), (g, 6), (g, 7), (g + 7, 2)] S S')) (0) (0)) 0 0 S1 83 [some (.ref g), some (.int x), some (.int x4), some (.int x5), none] [] := by
    intro S1 x4 x5 h2 hb_x4
    refine V_iload_2 83 dX0_sum_83 ?_
    refine V_iret 84 .boolean dX0_sum_84 rfl (nrwB hb_x4) (Nat.le_of_ble_eq_true rfl) (Nat.le_of_ble_eq_true rfl) (RI.mk ⟨hb_x4, h2⟩)
  refine V_aload_0 0 dX0_sum_0 ?_
  refine V_iload_1 1 dX0_sum_1 ?_
  refine V_callV 2 (ci := 0) [.int _] _ (s_product4 M.2.1 Γ S F _ hx) dX0_sum_2 cb_X0_product ml_RX0_91 im_yX0_product se_yX0_product (F.m 0 (Nat.le_of_ble_eq_true rfl)) (F.k 0 0 rfl) (Nat.le_of_ble_eq_true rfl) ⟨(Nat.le_of_ble_eq_true rfl), (Nat.le_of_ble_eq_true rfl)⟩ rfl rfl (Nat.le_of_ble_eq_true rfl) ⟨(Nat.le_of_ble_eq_true rfl), (Nat.le_of_ble_eq_true rfl)⟩ (RI.go (fun r8 S6 q7 => ?_))
  have h9 : FZ [g + 8, g + 9] [(g, 2), (g, 3), (g, 4), (g, 5), (g, 6), (g, 7), (g + 7, 2)] S S6 := (FZ.rf (X := [g + 8, g + 9]) (Y := [(g, 2), (g, 3), (g, 4), (g, 5), (g, 6), (g, 7), (g + 7, 2)]) (S := S)).tr (q7.2.sub (by simp) (by simp))
  refine V_istore_2 5 dX0_sum_5 rfl (Nat.le_of_ble_eq_true rfl) ?_
  refine V_iconst 6 (0) dX0_sum_6 (by decide) ?_
  refine V_istore_3 7 dX0_sum_7 rfl (Nat.le_of_ble_eq_true rfl) ?_
  refine V_lvw (by repeat (first | exact trivial | refine ⟨rfl, ?_⟩)) (V_while (α := Nat × PS × Int32) (fun z10 => 401 - z10.1) (fun z10 => z10.1 ≤ 401 ∧ FZ [g + 8, g + 9] [(g, 2), (g, 3), (g, 4), (g, 5), (g, 6), (g, 7), (g + 7, 2)] S z10.2.1 ∧ (z10.2.2 = 0 ∨ z10.2.2 = 1)) (fun z10 => z10.2.1) (fun z10 => [some (.ref g), some (.int x), some (.int z10.2.2), some (.int (nI z10.1)), none]) (0, _, _) ⟨Nat.zero_le _, h9, q7.1⟩ (fun z10 hx17 ih15 => ?b18))
  obtain ⟨i11, S12, w16⟩ := z10
  obtain ⟨hi13, h14, hb20⟩ := hx17
  dsimp only at hi13 h14 hb20 ih15 ⊢
  have J23 : ∀ (S21 : PS) (x24 : Int32) (x25 : Int32), FZ [g + 8, g + 9] [(g, 2), (g, 3), (g, 4), (g, 5), (g, 6), (g, 7), (g + 7, 2)] S S21 → i11 < 401 → (x24 = 0 ∨ x24 = 1) → V M Γ (5, RX0, "sum", (some .boolean), RM (10) (0) (0)) cX0_sum (RQ M Γ (RI (fun r S' => (r = 0 ∨ r = 1) ∧ FZ [g + 8, g + 9] [(g, 2), (g, 3), (g, 4), (g, 5), (g, 6), (g, 7), (g + 7, 2)] S S')) (0) (0)) 0 0 S21 64 [some (.ref g), some (.int x), some (.int x24), some (.int (nI i11)), some (.int x25)] [] := by
    intro S21 x24 x25 h22 lt26 hb_x24
    refine V_iconst 64 (0) dX0_sum_64 (by decide) ?_
    refine V_istore_2 65 dX0_sum_65 rfl (Nat.le_of_ble_eq_true rfl) ?_
    refine V_aload_0 66 dX0_sum_66 ?_
    refine V_getR 67 (c := 0) 1 ((F.ss h22.1).r 0 1 7 rfl) dX0_sum_67 fl_RX0_21 ((F.ss h22.1).m 0 (Nat.le_of_ble_eq_true rfl)) ((F.ss h22.1).k 0 0 rfl) (Nat.le_of_ble_eq_true rfl) (Nat.le_of_ble_eq_true rfl) rfl ?_
    refine V_iload_4 70 dX0_sum_70 ?_
    refine V_iconst 72 (0) dX0_sum_72 (by decide) ?_
    refine V_callV 73 (ci := 2) [.int _, .int _] _ (s_write M.2.1 Γ S21 ((F.ss h22.1).sub 7 lyLaw rfl (by decide)) _ _) dX0_sum_73 cb_X2_write ml_RX0_83 im_yX2_write se_yX2_write ((F.ss h22.1).m 7 (Nat.le_of_ble_eq_true rfl)) ((F.ss h22.1).k 7 2 rfl) (Nat.le_of_ble_eq_true rfl) ⟨(Nat.le_of_ble_eq_true rfl), (Nat.le_of_ble_eq_true rfl)⟩ rfl rfl (Nat.le_of_ble_eq_true rfl) ⟨(Nat.le_of_ble_eq_true rfl), (Nat.le_of_ble_eq_true rfl)⟩ (RI.go (fun r29 S27 q28 => ?_))
    have h30 : FZ [g + 8, g + 9] [(g, 2), (g, 3), (g, 4), (g, 5), (g, 6), (g, 7), (g + 7, 2)] S S27 := h22.tr (q28.sub (by simp) (by simp))
    refine V_pop 76 dX0_sum_76 rfl ?_
    refine V_iinc_3 77 (1) dX0_sum_77 (by decide) rfl (Nat.le_of_ble_eq_true rfl) ?_
    refine V_goto 80 8 dX0_sum_80 (by decide) ?_
    rw [← nI_succ]
    refine V_lvw (by repeat (first | exact trivial | refine ⟨rfl, ?_⟩)) (ih15 (i11 + 1, _, _) ⟨by dsimp only; omega, h30, (Or.inl rfl)⟩ (by dsimp only; omega))
  have J33 : ∀ (S31 : PS) (x34 : Int32), FZ [g + 8, g + 9] [(g, 2), (g, 3), (g, 4), (g, 5), (g, 6), (g, 7), (g + 7, 2)] S S31 → i11 < 401 → (x34 = 0 ∨ x34 = 1) → V M Γ (5, RX0, "sum", (some .boolean), RM (10) (0) (0)) cX0_sum (RQ M Γ (RI (fun r S' => (r = 0 ∨ r = 1) ∧ FZ [g + 8, g + 9] [(g, 2), (g, 3), (g, 4), (g, 5), (g, 6), (g, 7), (g + 7, 2)] S S')) (0) (0)) 0 0 S31 37 [some (.ref g), some (.int x), some (.int x34), some (.int (nI i11)), none] [] := by
    intro S31 x34 h32 lt35 hb_x34
    refine V_aload_0 37 dX0_sum_37 ?_
    refine V_getI 38 (c := 0) 3 dX0_sum_38 fl_RX0_36 ((F.ss h32.1).m 0 (Nat.le_of_ble_eq_true rfl)) ((F.ss h32.1).k 0 0 rfl) (Nat.le_of_ble_eq_true rfl) (Nat.le_of_ble_eq_true rfl) rfl ?_
    refine V_istore_4 41 dX0_sum_41 rfl (Nat.le_of_ble_eq_true rfl) ?_
    refine V_aload_0 43 dX0_sum_43 ?_
    refine V_iload_4 44 dX0_sum_44 ?_
    refine V_callV 46 (ci := 0) [.int _] _ (s_step M.2.1 Γ S31 (F.ss h32.1) _) dX0_sum_46 cb_X0_step ml_RX0_51 im_yX0_step se_yX0_step ((F.ss h32.1).m 0 (Nat.le_of_ble_eq_true rfl)) ((F.ss h32.1).k 0 0 rfl) (Nat.le_of_ble_eq_true rfl) ⟨(Nat.le_of_ble_eq_true rfl), (Nat.le_of_ble_eq_true rfl)⟩ rfl rfl (Nat.le_of_ble_eq_true rfl) ⟨(Nat.le_of_ble_eq_true rfl), (Nat.le_of_ble_eq_true rfl)⟩ (RI.go (fun r38 S36 q37 => ?_))
    have h39 : FZ [g + 8, g + 9] [(g, 2), (g, 3), (g, 4), (g, 5), (g, 6), (g, 7), (g + 7, 2)] S S36 := h32.tr (q37.2.sub (by simp) (by simp))
    refine V_if_eq 49 64 dX0_sum_49 (by decide) (fun c40 => ?_) (fun c40 => ?_)
    ·
      refine V_lvw (by repeat (first | exact trivial | refine ⟨rfl, ?_⟩)) (J23 _ _ _ h39 (by first | omega | assumption) hb_x34)
    ·
      refine V_aload_0 52 dX0_sum_52 ?_
      refine V_iload_1 53 dX0_sum_53 ?_
      refine V_callV 54 (ci := 0) [.int _] _ (s_product4 M.2.1 Γ S36 (F.ss h39.1) _ hx) dX0_sum_54 cb_X0_product ml_RX0_91 im_yX0_product se_yX0_product ((F.ss h39.1).m 0 (Nat.le_of_ble_eq_true rfl)) ((F.ss h39.1).k 0 0 rfl) (Nat.le_of_ble_eq_true rfl) ⟨(Nat.le_of_ble_eq_true rfl), (Nat.le_of_ble_eq_true rfl)⟩ rfl rfl (Nat.le_of_ble_eq_true rfl) ⟨(Nat.le_of_ble_eq_true rfl), (Nat.le_of_ble_eq_true rfl)⟩ (RI.go (fun r44 S42 q43 => ?_))
      have h45 : FZ [g + 8, g + 9] [(g, 2), (g, 3), (g, 4), (g, 5), (g, 6), (g, 7), (g + 7, 2)] S S42 := h39.tr (q43.2.sub (by simp) (by simp))
      refine V_if_eq 57 64 dX0_sum_57 (by decide) (fun c46 => ?_) (fun c46 => ?_)
      ·
        refine V_lvw (by repeat (first | exact trivial | refine ⟨rfl, ?_⟩)) (J23 _ _ _ h45 (by first | omega | assumption) hb_x34)
      ·
        refine V_iconst 60 (1) dX0_sum_60 (by decide) ?_
        refine V_goto 61 65 dX0_sum_61 (by decide) ?_
        refine V_istore_2 65 dX0_sum_65 rfl (Nat.le_of_ble_eq_true rfl) ?_
        refine V_aload_0 66 dX0_sum_66 ?_
        refine V_getR 67 (c := 0) 1 ((F.ss h45.1).r 0 1 7 rfl) dX0_sum_67 fl_RX0_21 ((F.ss h45.1).m 0 (Nat.le_of_ble_eq_true rfl)) ((F.ss h45.1).k 0 0 rfl) (Nat.le_of_ble_eq_true rfl) (Nat.le_of_ble_eq_true rfl) rfl ?_
        refine V_iload_4 70 dX0_sum_70 ?_
        refine V_iconst 72 (0) dX0_sum_72 (by decide) ?_
        refine V_callV 73 (ci := 2) [.int _, .int _] _ (s_write M.2.1 Γ S42 ((F.ss h45.1).sub 7 lyLaw rfl (by decide)) _ _) dX0_sum_73 cb_X2_write ml_RX0_83 im_yX2_write se_yX2_write ((F.ss h45.1).m 7 (Nat.le_of_ble_eq_true rfl)) ((F.ss h45.1).k 7 2 rfl) (Nat.le_of_ble_eq_true rfl) ⟨(Nat.le_of_ble_eq_true rfl), (Nat.le_of_ble_eq_true rfl)⟩ rfl rfl (Nat.le_of_ble_eq_true rfl) ⟨(Nat.le_of_ble_eq_true rfl), (Nat.le_of_ble_eq_true rfl)⟩ (RI.go (fun r50 S48 q49 => ?_))
        have h51 : FZ [g + 8, g + 9] [(g, 2), (g, 3), (g, 4), (g, 5), (g, 6), (g, 7), (g + 7, 2)] S S48 := h45.tr (q49.sub (by simp) (by simp))
        refine V_pop 76 dX0_sum_76 rfl ?_
        refine V_iinc_3 77 (1) dX0_sum_77 (by decide) rfl (Nat.le_of_ble_eq_true rfl) ?_
        refine V_goto 80 8 dX0_sum_80 (by decide) ?_
        rw [← nI_succ]
        refine V_lvw (by repeat (first | exact trivial | refine ⟨rfl, ?_⟩)) (ih15 (i11 + 1, _, _) ⟨by dsimp only; omega, h51, (Or.inr rfl)⟩ (by dsimp only; omega))
  refine V_iload_3 8 dX0_sum_8 ?_
  refine V_sipush 9 (400) dX0_sum_9 (by decide) ?_
  refine V_icmp_gt 12 83 dX0_sum_12 (by decide) (fun c52 => ?_) (fun c52 => ?_)
  ·
    refine V_lvw (by repeat (first | exact trivial | refine ⟨rfl, ?_⟩)) (J3 _ _ _ h14 hb20)
  ·
    have lt54 := nI_ltg (n := 400) (by decide) hi13 c52
    refine V_iload_2 15 dX0_sum_15 ?_
    refine V_if_eq 16 83 dX0_sum_16 (by decide) (fun c55 => ?_) (fun c55 => ?_)
    ·
      refine V_lvw (by repeat (first | exact trivial | refine ⟨rfl, ?_⟩)) (J3 _ _ _ h14 hb20)
    ·
      refine V_aload_0 19 dX0_sum_19 ?_
      refine V_getI 20 (c := 0) 3 dX0_sum_20 fl_RX0_36 ((F.ss h14.1).m 0 (Nat.le_of_ble_eq_true rfl)) ((F.ss h14.1).k 0 0 rfl) (Nat.le_of_ble_eq_true rfl) (Nat.le_of_ble_eq_true rfl) rfl ?_
      refine V_bipush 23 (43) dX0_sum_23 (by decide) ?_
      refine V_icmp_eq 25 37 dX0_sum_25 (by decide) (fun c57 => ?_) (fun c57 => ?_)
      ·
        refine V_lvw (by repeat (first | exact trivial | refine ⟨rfl, ?_⟩)) (J33 _ _ h14 (by first | omega | assumption) hb20)
      ·
        refine V_aload_0 28 dX0_sum_28 ?_
        refine V_getI 29 (c := 0) 3 dX0_sum_29 fl_RX0_36 ((F.ss h14.1).m 0 (Nat.le_of_ble_eq_true rfl)) ((F.ss h14.1).k 0 0 rfl) (Nat.le_of_ble_eq_true rfl) (Nat.le_of_ble_eq_true rfl) rfl ?_
        refine V_bipush 32 (45) dX0_sum_32 (by decide) ?_
        refine V_icmp_ne 34 83 dX0_sum_34 (by decide) (fun c59 => ?_) (fun c59 => ?_)
        ·
          refine V_lvw (by repeat (first | exact trivial | refine ⟨rfl, ?_⟩)) (J3 _ _ _ h14 hb20)
        ·
          refine V_lvw (by repeat (first | exact trivial | refine ⟨rfl, ?_⟩)) (J33 _ _ h14 (by first | omega | assumption) hb20)
set_option maxRecDepth 100000 in
set_option maxHeartbeats 8000000 in
theorem s_unit3 (l : Launch) (Γ : GC) (S : PS) {g : Nat} (F : isL lyGrammar Γ.2.2.2.2.1 S g) (x : Int32) (hx : x = 3) : CT l Γ yX0_unit cX0_unit 2 (some .boolean) (11) (0) (0) [.ref g, .int x] S (RI (fun r S' => (r = 0 ∨ r = 1) ∧ FZ [g + 8, g + 9] [(g, 2), (g, 3), (g, 4), (g, 5), (g, 6), (g, 7), (g + 7, 2)] S S')) := by
  refine CT.of RX0 "unit" [some (.ref g), some (.int x)] (by decide +kernel) rfl rfl (Nat.le_of_ble_eq_true rfl) rfl (fun M hM => ?_)
  subst hM
  have J3 : ∀ (S1 : PS) , FZ [g + 8, g + 9] [(g, 2), (g, 3), (g, 4), (g, 5), (g, 6), (g, 7), (g + 7, 2)] S S1 → V M Γ (2, RX0, "unit", (some .boolean), RM (11) (0) (0)) cX0_unit (RQ M Γ (RI (fun r S' => (r = 0 ∨ r = 1) ∧ FZ [g + 8, g + 9] [(g, 2), (g, 3), (g, 4), (g, 5), (g, 6), (g, 7), (g + 7, 2)] S S')) (0) (0)) 0 0 S1 139 [some (.ref g), some (.int x)] [] := by
    intro S1  h2
    refine V_iconst 139 (0) dX0_unit_139 (by decide) ?_
    refine V_iret 140 .boolean dX0_unit_140 rfl (nrwB (Or.inl rfl)) (Nat.le_of_ble_eq_true rfl) (Nat.le_of_ble_eq_true rfl) (RI.mk ⟨(Or.inl rfl), h2⟩)
  have J6 : ∀ (S4 : PS) , FZ [g + 8, g + 9] [(g, 2), (g, 3), (g, 4), (g, 5), (g, 6), (g, 7), (g + 7, 2)] S S4 → V M Γ (2, RX0, "unit", (some .boolean), RM (11) (0) (0)) cX0_unit (RQ M Γ (RI (fun r S' => (r = 0 ∨ r = 1) ∧ FZ [g + 8, g + 9] [(g, 2), (g, 3), (g, 4), (g, 5), (g, 6), (g, 7), (g + 7, 2)] S S')) (0) (0)) 0 0 S4 80 [some (.ref g), some (.int x)] [] := by
    intro S4  h5
    refine V_aload_0 80 dX0_unit_80 ?_
    refine V_getI 81 (c := 0) 3 dX0_unit_81 fl_RX0_36 ((F.ss h5.1).m 0 (Nat.le_of_ble_eq_true rfl)) ((F.ss h5.1).k 0 0 rfl) (Nat.le_of_ble_eq_true rfl) (Nat.le_of_ble_eq_true rfl) rfl ?_
    refine V_bipush 84 (40) dX0_unit_84 (by decide) ?_
    refine V_icmp_eq 86 95 dX0_unit_86 (by decide) (fun c7 => ?_) (fun c7 => ?_)
    ·
      refine V_iload_1 95 dX0_unit_95 ?_
      refine V_bipush 96 (6) dX0_unit_96 (by decide) ?_
      refine V_icmp_lt 98 107 dX0_unit_98 (by decide) (fun c8 => ?_) (fun c8 => ?_)
      ·
        refine V_aload_0 107 dX0_unit_107 ?_
        refine V_bipush 108 (40) dX0_unit_108 (by decide) ?_
        refine V_callV 110 (ci := 0) [.int _] _ (s_step M.2.1 Γ S4 (F.ss h5.1) _) dX0_unit_110 cb_X0_step ml_RX0_51 im_yX0_step se_yX0_step ((F.ss h5.1).m 0 (Nat.le_of_ble_eq_true rfl)) ((F.ss h5.1).k 0 0 rfl) (Nat.le_of_ble_eq_true rfl) ⟨(Nat.le_of_ble_eq_true rfl), (Nat.le_of_ble_eq_true rfl)⟩ rfl rfl (Nat.le_of_ble_eq_true rfl) ⟨(Nat.le_of_ble_eq_true rfl), (Nat.le_of_ble_eq_true rfl)⟩ (RI.go (fun r11 S9 q10 => ?_))
        have h12 : FZ [g + 8, g + 9] [(g, 2), (g, 3), (g, 4), (g, 5), (g, 6), (g, 7), (g + 7, 2)] S S9 := h5.tr (q10.2.sub (by simp) (by simp))
        refine V_if_eq 113 139 dX0_unit_113 (by decide) (fun c13 => ?_) (fun c13 => ?_)
        ·
          refine V_lvw (by repeat (first | exact trivial | refine ⟨rfl, ?_⟩)) (J3 _ h12)
        ·
          refine V_aload_0 116 dX0_unit_116 ?_
          refine V_iload_1 117 dX0_unit_117 ?_
          refine V_iconst 118 (1) dX0_unit_118 (by decide) ?_
          refine V_iadd 119 dX0_unit_119 ?_
          refine V_callV 120 (ci := 0) [.int _] _ (s_sum4 M.2.1 Γ S9 (F.ss h12.1) _ (by rw [hx]; rfl)) dX0_unit_120 cb_X0_sum ml_RX0_80 im_yX0_sum se_yX0_sum ((F.ss h12.1).m 0 (Nat.le_of_ble_eq_true rfl)) ((F.ss h12.1).k 0 0 rfl) (Nat.le_of_ble_eq_true rfl) ⟨(Nat.le_of_ble_eq_true rfl), (Nat.le_of_ble_eq_true rfl)⟩ rfl rfl (Nat.le_of_ble_eq_true rfl) ⟨(Nat.le_of_ble_eq_true rfl), (Nat.le_of_ble_eq_true rfl)⟩ (RI.go (fun r17 S15 q16 => ?_))
          have h18 : FZ [g + 8, g + 9] [(g, 2), (g, 3), (g, 4), (g, 5), (g, 6), (g, 7), (g + 7, 2)] S S15 := h12.tr (q16.2.sub (by simp) (by simp))
          refine V_if_eq 123 139 dX0_unit_123 (by decide) (fun c19 => ?_) (fun c19 => ?_)
          ·
            refine V_lvw (by repeat (first | exact trivial | refine ⟨rfl, ?_⟩)) (J3 _ h18)
          ·
            refine V_aload_0 126 dX0_unit_126 ?_
            refine V_bipush 127 (41) dX0_unit_127 (by decide) ?_
            refine V_callV 129 (ci := 0) [.int _] _ (s_step M.2.1 Γ S15 (F.ss h18.1) _) dX0_unit_129 cb_X0_step ml_RX0_51 im_yX0_step se_yX0_step ((F.ss h18.1).m 0 (Nat.le_of_ble_eq_true rfl)) ((F.ss h18.1).k 0 0 rfl) (Nat.le_of_ble_eq_true rfl) ⟨(Nat.le_of_ble_eq_true rfl), (Nat.le_of_ble_eq_true rfl)⟩ rfl rfl (Nat.le_of_ble_eq_true rfl) ⟨(Nat.le_of_ble_eq_true rfl), (Nat.le_of_ble_eq_true rfl)⟩ (RI.go (fun r23 S21 q22 => ?_))
            have h24 : FZ [g + 8, g + 9] [(g, 2), (g, 3), (g, 4), (g, 5), (g, 6), (g, 7), (g + 7, 2)] S S21 := h18.tr (q22.2.sub (by simp) (by simp))
            refine V_if_eq 132 139 dX0_unit_132 (by decide) (fun c25 => ?_) (fun c25 => ?_)
            ·
              refine V_lvw (by repeat (first | exact trivial | refine ⟨rfl, ?_⟩)) (J3 _ h24)
            ·
              refine V_iconst 135 (1) dX0_unit_135 (by decide) ?_
              refine V_goto 136 140 dX0_unit_136 (by decide) ?_
              refine V_iret 140 .boolean dX0_unit_140 rfl (nrwB (Or.inr rfl)) (Nat.le_of_ble_eq_true rfl) (Nat.le_of_ble_eq_true rfl) (RI.mk ⟨(Or.inr rfl), h24⟩)
      ·
        refine V_aload_0 101 dX0_unit_101 ?_
        refine V_iconst 102 (2) dX0_unit_102 (by decide) ?_
        refine V_callV 103 (ci := 0) [.int _] _ (s_gfail M.2.1 Γ S4 (F.ss h5.1) _) dX0_unit_103 cb_X0_fail ml_RX0_74 im_yX0_fail se_yX0_fail ((F.ss h5.1).m 0 (Nat.le_of_ble_eq_true rfl)) ((F.ss h5.1).k 0 0 rfl) (Nat.le_of_ble_eq_true rfl) ⟨(Nat.le_of_ble_eq_true rfl), (Nat.le_of_ble_eq_true rfl)⟩ rfl rfl (Nat.le_of_ble_eq_true rfl) ⟨(Nat.le_of_ble_eq_true rfl), (Nat.le_of_ble_eq_true rfl)⟩ (RI.go (fun r29 S27 q28 => ?_))
        have h30 : FZ [g + 8, g + 9] [(g, 2), (g, 3), (g, 4), (g, 5), (g, 6), (g, 7), (g + 7, 2)] S S27 := h5.tr (q28.2.sub (by simp) (by simp))
        refine V_iret 106 .boolean dX0_unit_106 rfl (nrwB q28.1) (Nat.le_of_ble_eq_true rfl) (Nat.le_of_ble_eq_true rfl) (RI.mk ⟨q28.1, h30⟩)
    ·
      refine V_aload_0 89 dX0_unit_89 ?_
      refine V_iconst 90 (1) dX0_unit_90 (by decide) ?_
      refine V_callV 91 (ci := 0) [.int _] _ (s_gfail M.2.1 Γ S4 (F.ss h5.1) _) dX0_unit_91 cb_X0_fail ml_RX0_74 im_yX0_fail se_yX0_fail ((F.ss h5.1).m 0 (Nat.le_of_ble_eq_true rfl)) ((F.ss h5.1).k 0 0 rfl) (Nat.le_of_ble_eq_true rfl) ⟨(Nat.le_of_ble_eq_true rfl), (Nat.le_of_ble_eq_true rfl)⟩ rfl rfl (Nat.le_of_ble_eq_true rfl) ⟨(Nat.le_of_ble_eq_true rfl), (Nat.le_of_ble_eq_true rfl)⟩ (RI.go (fun r33 S31 q32 => ?_))
      have h34 : FZ [g + 8, g + 9] [(g, 2), (g, 3), (g, 4), (g, 5), (g, 6), (g, 7), (g + 7, 2)] S S31 := h5.tr (q32.2.sub (by simp) (by simp))
      refine V_iret 94 .boolean dX0_unit_94 rfl (nrwB q32.1) (Nat.le_of_ble_eq_true rfl) (Nat.le_of_ble_eq_true rfl) (RI.mk ⟨q32.1, h34⟩)
  refine V_aload_0 0 dX0_unit_0 ?_
  refine V_getI 1 (c := 0) 3 dX0_unit_1 fl_RX0_36 (F.m 0 (Nat.le_of_ble_eq_true rfl)) (F.k 0 0 rfl) (Nat.le_of_ble_eq_true rfl) (Nat.le_of_ble_eq_true rfl) rfl ?_
  refine V_iconst 4 (2) dX0_unit_4 (by decide) ?_
  refine V_icmp_ne 5 34 dX0_unit_5 (by decide) (fun c35 => ?_) (fun c35 => ?_)
  ·
    refine V_aload_0 34 dX0_unit_34 ?_
    refine V_getI 35 (c := 0) 3 dX0_unit_35 fl_RX0_36 (F.m 0 (Nat.le_of_ble_eq_true rfl)) (F.k 0 0 rfl) (Nat.le_of_ble_eq_true rfl) (Nat.le_of_ble_eq_true rfl) rfl ?_
    refine V_sipush 38 (145) dX0_unit_38 (by decide) ?_
    refine V_icmp_lt 41 80 dX0_unit_41 (by decide) (fun c36 => ?_) (fun c36 => ?_)
    ·
      refine V_lvw (by repeat (first | exact trivial | refine ⟨rfl, ?_⟩)) (J6 _ FZ.rf)
    ·
      refine V_aload_0 44 dX0_unit_44 ?_
      refine V_getI 45 (c := 0) 3 dX0_unit_45 fl_RX0_36 (F.m 0 (Nat.le_of_ble_eq_true rfl)) (F.k 0 0 rfl) (Nat.le_of_ble_eq_true rfl) (Nat.le_of_ble_eq_true rfl) rfl ?_
      refine V_sipush 48 (149) dX0_unit_48 (by decide) ?_
      refine V_icmp_gt 51 80 dX0_unit_51 (by decide) (fun c38 => ?_) (fun c38 => ?_)
      ·
        refine V_lvw (by repeat (first | exact trivial | refine ⟨rfl, ?_⟩)) (J6 _ FZ.rf)
      ·
        refine V_aload_0 54 dX0_unit_54 ?_
        refine V_getR 55 (c := 0) 1 (F.r 0 1 7 rfl) dX0_unit_55 fl_RX0_21 (F.m 0 (Nat.le_of_ble_eq_true rfl)) (F.k 0 0 rfl) (Nat.le_of_ble_eq_true rfl) (Nat.le_of_ble_eq_true rfl) rfl ?_
        refine V_iconst 58 (1) dX0_unit_58 (by decide) ?_
        refine V_aload_0 59 dX0_unit_59 ?_
        refine V_getI 60 (c := 0) 3 dX0_unit_60 fl_RX0_36 (F.m 0 (Nat.le_of_ble_eq_true rfl)) (F.k 0 0 rfl) (Nat.le_of_ble_eq_true rfl) (Nat.le_of_ble_eq_true rfl) rfl ?_
        refine V_sipush 63 (145) dX0_unit_63 (by decide) ?_
        refine V_isub 66 dX0_unit_66 ?_
        refine V_callV 67 (ci := 2) [.int _, .int _] _ (s_write M.2.1 Γ S (F.sub 7 lyLaw rfl (by decide)) _ _) dX0_unit_67 cb_X2_write ml_RX0_83 im_yX2_write se_yX2_write (F.m 7 (Nat.le_of_ble_eq_true rfl)) (F.k 7 2 rfl) (Nat.le_of_ble_eq_true rfl) ⟨(Nat.le_of_ble_eq_true rfl), (Nat.le_of_ble_eq_true rfl)⟩ rfl rfl (Nat.le_of_ble_eq_true rfl) ⟨(Nat.le_of_ble_eq_true rfl), (Nat.le_of_ble_eq_true rfl)⟩ (RI.go (fun r42 S40 q41 => ?_))
        have h43 : FZ [g + 8, g + 9] [(g, 2), (g, 3), (g, 4), (g, 5), (g, 6), (g, 7), (g + 7, 2)] S S40 := (FZ.rf (X := [g + 8, g + 9]) (Y := [(g, 2), (g, 3), (g, 4), (g, 5), (g, 6), (g, 7), (g + 7, 2)]) (S := S)).tr (q41.sub (by simp) (by simp))
        refine V_pop 70 dX0_unit_70 rfl ?_
        refine V_aload_0 71 dX0_unit_71 ?_
        refine V_aload_0 72 dX0_unit_72 ?_
        refine V_getI 73 (c := 0) 3 dX0_unit_73 fl_RX0_36 ((F.ss h43.1).m 0 (Nat.le_of_ble_eq_true rfl)) ((F.ss h43.1).k 0 0 rfl) (Nat.le_of_ble_eq_true rfl) (Nat.le_of_ble_eq_true rfl) rfl ?_
        refine V_callV 76 (ci := 0) [.int _] _ (s_step M.2.1 Γ S40 (F.ss h43.1) _) dX0_unit_76 cb_X0_step ml_RX0_51 im_yX0_step se_yX0_step ((F.ss h43.1).m 0 (Nat.le_of_ble_eq_true rfl)) ((F.ss h43.1).k 0 0 rfl) (Nat.le_of_ble_eq_true rfl) ⟨(Nat.le_of_ble_eq_true rfl), (Nat.le_of_ble_eq_true rfl)⟩ rfl rfl (Nat.le_of_ble_eq_true rfl) ⟨(Nat.le_of_ble_eq_true rfl), (Nat.le_of_ble_eq_true rfl)⟩ (RI.go (fun r46 S44 q45 => ?_))
        have h47 : FZ [g + 8, g + 9] [(g, 2), (g, 3), (g, 4), (g, 5), (g, 6), (g, 7), (g + 7, 2)] S S44 := h43.tr (q45.2.sub (by simp) (by simp))
        refine V_iret 79 .boolean dX0_unit_79 rfl (nrwB q45.1) (Nat.le_of_ble_eq_true rfl) (Nat.le_of_ble_eq_true rfl) (RI.mk ⟨q45.1, h47⟩)
  ·
    refine V_aload_0 8 dX0_unit_8 ?_
    refine V_getR 9 (c := 0) 1 (F.r 0 1 7 rfl) dX0_unit_9 fl_RX0_21 (F.m 0 (Nat.le_of_ble_eq_true rfl)) (F.k 0 0 rfl) (Nat.le_of_ble_eq_true rfl) (Nat.le_of_ble_eq_true rfl) rfl ?_
    refine V_iconst 12 (2) dX0_unit_12 (by decide) ?_
    refine V_aload_0 13 dX0_unit_13 ?_
    refine V_getR 14 (c := 0) 0 (F.r 0 0 1 rfl) dX0_unit_14 fl_RX0_12 (F.m 0 (Nat.le_of_ble_eq_true rfl)) (F.k 0 0 rfl) (Nat.le_of_ble_eq_true rfl) (Nat.le_of_ble_eq_true rfl) rfl ?_
    refine V_aload_0 17 dX0_unit_17 ?_
    refine V_getI 18 (c := 0) 2 dX0_unit_18 fl_RX0_28 (F.m 0 (Nat.le_of_ble_eq_true rfl)) (F.k 0 0 rfl) (Nat.le_of_ble_eq_true rfl) (Nat.le_of_ble_eq_true rfl) rfl ?_
    refine V_callV 21 (ci := 8) [.int _] _ (s_intAt M.2.1 Γ S (F.sub 1 lyTape rfl (by decide)) _) dX0_unit_21 cb_X8_intAt ml_RX0_97 im_yX8_intAt se_yX8_intAt (F.m 1 (Nat.le_of_ble_eq_true rfl)) (F.k 1 8 rfl) (Nat.le_of_ble_eq_true rfl) ⟨(Nat.le_of_ble_eq_true rfl), (Nat.le_of_ble_eq_true rfl)⟩ rfl rfl (Nat.le_of_ble_eq_true rfl) ⟨(Nat.le_of_ble_eq_true rfl), (Nat.le_of_ble_eq_true rfl)⟩ (RI.go (fun r50 S48 q49 => ?_))
    have h51 : FZ [g + 8, g + 9] [(g, 2), (g, 3), (g, 4), (g, 5), (g, 6), (g, 7), (g + 7, 2)] S S48 := (FZ.rf (X := [g + 8, g + 9]) (Y := [(g, 2), (g, 3), (g, 4), (g, 5), (g, 6), (g, 7), (g + 7, 2)]) (S := S)).tr (q49.sub (by simp) (by simp))
    refine V_callV 24 (ci := 2) [.int _, .int _] _ (s_write M.2.1 Γ S48 ((F.ss h51.1).sub 7 lyLaw rfl (by decide)) _ _) dX0_unit_24 cb_X2_write ml_RX0_83 im_yX2_write se_yX2_write ((F.ss h51.1).m 7 (Nat.le_of_ble_eq_true rfl)) ((F.ss h51.1).k 7 2 rfl) (Nat.le_of_ble_eq_true rfl) ⟨(Nat.le_of_ble_eq_true rfl), (Nat.le_of_ble_eq_true rfl)⟩ rfl rfl (Nat.le_of_ble_eq_true rfl) ⟨(Nat.le_of_ble_eq_true rfl), (Nat.le_of_ble_eq_true rfl)⟩ (RI.go (fun r54 S52 q53 => ?_))
    have h55 : FZ [g + 8, g + 9] [(g, 2), (g, 3), (g, 4), (g, 5), (g, 6), (g, 7), (g + 7, 2)] S S52 := h51.tr (q53.sub (by simp) (by simp))
    refine V_pop 27 dX0_unit_27 rfl ?_
    refine V_aload_0 28 dX0_unit_28 ?_
    refine V_iconst 29 (2) dX0_unit_29 (by decide) ?_
    refine V_callV 30 (ci := 0) [.int _] _ (s_step M.2.1 Γ S52 (F.ss h55.1) _) dX0_unit_30 cb_X0_step ml_RX0_51 im_yX0_step se_yX0_step ((F.ss h55.1).m 0 (Nat.le_of_ble_eq_true rfl)) ((F.ss h55.1).k 0 0 rfl) (Nat.le_of_ble_eq_true rfl) ⟨(Nat.le_of_ble_eq_true rfl), (Nat.le_of_ble_eq_true rfl)⟩ rfl rfl (Nat.le_of_ble_eq_true rfl) ⟨(Nat.le_of_ble_eq_true rfl), (Nat.le_of_ble_eq_true rfl)⟩ (RI.go (fun r58 S56 q57 => ?_))
    have h59 : FZ [g + 8, g + 9] [(g, 2), (g, 3), (g, 4), (g, 5), (g, 6), (g, 7), (g + 7, 2)] S S56 := h55.tr (q57.2.sub (by simp) (by simp))
    refine V_iret 33 .boolean dX0_unit_33 rfl (nrwB q57.1) (Nat.le_of_ble_eq_true rfl) (Nat.le_of_ble_eq_true rfl) (RI.mk ⟨q57.1, h59⟩)
set_option maxRecDepth 100000 in
set_option maxHeartbeats 8000000 in
theorem s_product3 (l : Launch) (Γ : GC) (S : PS) {g : Nat} (F : isL lyGrammar Γ.2.2.2.2.1 S g) (x : Int32) (hx : x = 3) : CT l Γ yX0_product cX0_product 5 (some .boolean) (12) (0) (0) [.ref g, .int x] S (RI (fun r S' => (r = 0 ∨ r = 1) ∧ FZ [g + 8, g + 9] [(g, 2), (g, 3), (g, 4), (g, 5), (g, 6), (g, 7), (g + 7, 2)] S S')) := by
  refine CT.of RX0 "product" [some (.ref g), some (.int x), none, none, none] (by decide +kernel) rfl rfl (Nat.le_of_ble_eq_true rfl) rfl (fun M hM => ?_)
  subst hM
  have J3 : ∀ (S1 : PS) (x4 : Int32) (x5 : Int32), FZ [g + 8, g + 9] [(g, 2), (g, 3), (g, 4), (g, 5), (g, 6), (g, 7), (g + 7, 2)] S S1 → (x4 = 0 ∨ x4 = 1) → V M Γ (5, RX0, "product", (some .boolean), RM (12) (0) (0)) cX0_product (RQ M Γ (RI (fun r S' => (r = 0 ∨ r = 1) ∧ FZ [g + 8, g + 9] [(g, 2), (g, 3), (g, 4), (g, 5), (g, 6), (g, 7), (g + 7, 2)] S S')) (0) (0)) 0 0 S1 83 [some (.ref g), some (.int x), some (.int x4), some (.int x5), none] [] := by
    intro S1 x4 x5 h2 hb_x4
    refine V_iload_2 83 dX0_product_83 ?_
    refine V_iret 84 .boolean dX0_product_84 rfl (nrwB hb_x4) (Nat.le_of_ble_eq_true rfl) (Nat.le_of_ble_eq_true rfl) (RI.mk ⟨hb_x4, h2⟩)
  refine V_aload_0 0 dX0_product_0 ?_
  refine V_iload_1 1 dX0_product_1 ?_
  refine V_callV 2 (ci := 0) [.int _] _ (s_unit3 M.2.1 Γ S F _ hx) dX0_product_2 cb_X0_unit ml_RX0_94 im_yX0_unit se_yX0_unit (F.m 0 (Nat.le_of_ble_eq_true rfl)) (F.k 0 0 rfl) (Nat.le_of_ble_eq_true rfl) ⟨(Nat.le_of_ble_eq_true rfl), (Nat.le_of_ble_eq_true rfl)⟩ rfl rfl (Nat.le_of_ble_eq_true rfl) ⟨(Nat.le_of_ble_eq_true rfl), (Nat.le_of_ble_eq_true rfl)⟩ (RI.go (fun r8 S6 q7 => ?_))
  have h9 : FZ [g + 8, g + 9] [(g, 2), (g, 3), (g, 4), (g, 5), (g, 6), (g, 7), (g + 7, 2)] S S6 := (FZ.rf (X := [g + 8, g + 9]) (Y := [(g, 2), (g, 3), (g, 4), (g, 5), (g, 6), (g, 7), (g + 7, 2)]) (S := S)).tr (q7.2.sub (by simp) (by simp))
  refine V_istore_2 5 dX0_product_5 rfl (Nat.le_of_ble_eq_true rfl) ?_
  refine V_iconst 6 (0) dX0_product_6 (by decide) ?_
  refine V_istore_3 7 dX0_product_7 rfl (Nat.le_of_ble_eq_true rfl) ?_
  refine V_lvw (by repeat (first | exact trivial | refine ⟨rfl, ?_⟩)) (V_while (α := Nat × PS × Int32) (fun z10 => 401 - z10.1) (fun z10 => z10.1 ≤ 401 ∧ FZ [g + 8, g + 9] [(g, 2), (g, 3), (g, 4), (g, 5), (g, 6), (g, 7), (g + 7, 2)] S z10.2.1 ∧ (z10.2.2 = 0 ∨ z10.2.2 = 1)) (fun z10 => z10.2.1) (fun z10 => [some (.ref g), some (.int x), some (.int z10.2.2), some (.int (nI z10.1)), none]) (0, _, _) ⟨Nat.zero_le _, h9, q7.1⟩ (fun z10 hx17 ih15 => ?b18))
  obtain ⟨i11, S12, w16⟩ := z10
  obtain ⟨hi13, h14, hb20⟩ := hx17
  dsimp only at hi13 h14 hb20 ih15 ⊢
  have J23 : ∀ (S21 : PS) (x24 : Int32) (x25 : Int32), FZ [g + 8, g + 9] [(g, 2), (g, 3), (g, 4), (g, 5), (g, 6), (g, 7), (g + 7, 2)] S S21 → i11 < 401 → (x24 = 0 ∨ x24 = 1) → V M Γ (5, RX0, "product", (some .boolean), RM (12) (0) (0)) cX0_product (RQ M Γ (RI (fun r S' => (r = 0 ∨ r = 1) ∧ FZ [g + 8, g + 9] [(g, 2), (g, 3), (g, 4), (g, 5), (g, 6), (g, 7), (g + 7, 2)] S S')) (0) (0)) 0 0 S21 64 [some (.ref g), some (.int x), some (.int x24), some (.int (nI i11)), some (.int x25)] [] := by
    intro S21 x24 x25 h22 lt26 hb_x24
    refine V_iconst 64 (0) dX0_product_64 (by decide) ?_
    refine V_istore_2 65 dX0_product_65 rfl (Nat.le_of_ble_eq_true rfl) ?_
    refine V_aload_0 66 dX0_product_66 ?_
    refine V_getR 67 (c := 0) 1 ((F.ss h22.1).r 0 1 7 rfl) dX0_product_67 fl_RX0_21 ((F.ss h22.1).m 0 (Nat.le_of_ble_eq_true rfl)) ((F.ss h22.1).k 0 0 rfl) (Nat.le_of_ble_eq_true rfl) (Nat.le_of_ble_eq_true rfl) rfl ?_
    refine V_iload_4 70 dX0_product_70 ?_
    refine V_iconst 72 (0) dX0_product_72 (by decide) ?_
    refine V_callV 73 (ci := 2) [.int _, .int _] _ (s_write M.2.1 Γ S21 ((F.ss h22.1).sub 7 lyLaw rfl (by decide)) _ _) dX0_product_73 cb_X2_write ml_RX0_83 im_yX2_write se_yX2_write ((F.ss h22.1).m 7 (Nat.le_of_ble_eq_true rfl)) ((F.ss h22.1).k 7 2 rfl) (Nat.le_of_ble_eq_true rfl) ⟨(Nat.le_of_ble_eq_true rfl), (Nat.le_of_ble_eq_true rfl)⟩ rfl rfl (Nat.le_of_ble_eq_true rfl) ⟨(Nat.le_of_ble_eq_true rfl), (Nat.le_of_ble_eq_true rfl)⟩ (RI.go (fun r29 S27 q28 => ?_))
    have h30 : FZ [g + 8, g + 9] [(g, 2), (g, 3), (g, 4), (g, 5), (g, 6), (g, 7), (g + 7, 2)] S S27 := h22.tr (q28.sub (by simp) (by simp))
    refine V_pop 76 dX0_product_76 rfl ?_
    refine V_iinc_3 77 (1) dX0_product_77 (by decide) rfl (Nat.le_of_ble_eq_true rfl) ?_
    refine V_goto 80 8 dX0_product_80 (by decide) ?_
    rw [← nI_succ]
    refine V_lvw (by repeat (first | exact trivial | refine ⟨rfl, ?_⟩)) (ih15 (i11 + 1, _, _) ⟨by dsimp only; omega, h30, (Or.inl rfl)⟩ (by dsimp only; omega))
  have J33 : ∀ (S31 : PS) (x34 : Int32), FZ [g + 8, g + 9] [(g, 2), (g, 3), (g, 4), (g, 5), (g, 6), (g, 7), (g + 7, 2)] S S31 → i11 < 401 → (x34 = 0 ∨ x34 = 1) → V M Γ (5, RX0, "product", (some .boolean), RM (12) (0) (0)) cX0_product (RQ M Γ (RI (fun r S' => (r = 0 ∨ r = 1) ∧ FZ [g + 8, g + 9] [(g, 2), (g, 3), (g, 4), (g, 5), (g, 6), (g, 7), (g + 7, 2)] S S')) (0) (0)) 0 0 S31 37 [some (.ref g), some (.int x), some (.int x34), some (.int (nI i11)), none] [] := by
    intro S31 x34 h32 lt35 hb_x34
    refine V_aload_0 37 dX0_product_37 ?_
    refine V_getI 38 (c := 0) 3 dX0_product_38 fl_RX0_36 ((F.ss h32.1).m 0 (Nat.le_of_ble_eq_true rfl)) ((F.ss h32.1).k 0 0 rfl) (Nat.le_of_ble_eq_true rfl) (Nat.le_of_ble_eq_true rfl) rfl ?_
    refine V_istore_4 41 dX0_product_41 rfl (Nat.le_of_ble_eq_true rfl) ?_
    refine V_aload_0 43 dX0_product_43 ?_
    refine V_iload_4 44 dX0_product_44 ?_
    refine V_callV 46 (ci := 0) [.int _] _ (s_step M.2.1 Γ S31 (F.ss h32.1) _) dX0_product_46 cb_X0_step ml_RX0_51 im_yX0_step se_yX0_step ((F.ss h32.1).m 0 (Nat.le_of_ble_eq_true rfl)) ((F.ss h32.1).k 0 0 rfl) (Nat.le_of_ble_eq_true rfl) ⟨(Nat.le_of_ble_eq_true rfl), (Nat.le_of_ble_eq_true rfl)⟩ rfl rfl (Nat.le_of_ble_eq_true rfl) ⟨(Nat.le_of_ble_eq_true rfl), (Nat.le_of_ble_eq_true rfl)⟩ (RI.go (fun r38 S36 q37 => ?_))
    have h39 : FZ [g + 8, g + 9] [(g, 2), (g, 3), (g, 4), (g, 5), (g, 6), (g, 7), (g + 7, 2)] S S36 := h32.tr (q37.2.sub (by simp) (by simp))
    refine V_if_eq 49 64 dX0_product_49 (by decide) (fun c40 => ?_) (fun c40 => ?_)
    ·
      refine V_lvw (by repeat (first | exact trivial | refine ⟨rfl, ?_⟩)) (J23 _ _ _ h39 (by first | omega | assumption) hb_x34)
    ·
      refine V_aload_0 52 dX0_product_52 ?_
      refine V_iload_1 53 dX0_product_53 ?_
      refine V_callV 54 (ci := 0) [.int _] _ (s_unit3 M.2.1 Γ S36 (F.ss h39.1) _ hx) dX0_product_54 cb_X0_unit ml_RX0_94 im_yX0_unit se_yX0_unit ((F.ss h39.1).m 0 (Nat.le_of_ble_eq_true rfl)) ((F.ss h39.1).k 0 0 rfl) (Nat.le_of_ble_eq_true rfl) ⟨(Nat.le_of_ble_eq_true rfl), (Nat.le_of_ble_eq_true rfl)⟩ rfl rfl (Nat.le_of_ble_eq_true rfl) ⟨(Nat.le_of_ble_eq_true rfl), (Nat.le_of_ble_eq_true rfl)⟩ (RI.go (fun r44 S42 q43 => ?_))
      have h45 : FZ [g + 8, g + 9] [(g, 2), (g, 3), (g, 4), (g, 5), (g, 6), (g, 7), (g + 7, 2)] S S42 := h39.tr (q43.2.sub (by simp) (by simp))
      refine V_if_eq 57 64 dX0_product_57 (by decide) (fun c46 => ?_) (fun c46 => ?_)
      ·
        refine V_lvw (by repeat (first | exact trivial | refine ⟨rfl, ?_⟩)) (J23 _ _ _ h45 (by first | omega | assumption) hb_x34)
      ·
        refine V_iconst 60 (1) dX0_product_60 (by decide) ?_
        refine V_goto 61 65 dX0_product_61 (by decide) ?_
        refine V_istore_2 65 dX0_product_65 rfl (Nat.le_of_ble_eq_true rfl) ?_
        refine V_aload_0 66 dX0_product_66 ?_
        refine V_getR 67 (c := 0) 1 ((F.ss h45.1).r 0 1 7 rfl) dX0_product_67 fl_RX0_21 ((F.ss h45.1).m 0 (Nat.le_of_ble_eq_true rfl)) ((F.ss h45.1).k 0 0 rfl) (Nat.le_of_ble_eq_true rfl) (Nat.le_of_ble_eq_true rfl) rfl ?_
        refine V_iload_4 70 dX0_product_70 ?_
        refine V_iconst 72 (0) dX0_product_72 (by decide) ?_
        refine V_callV 73 (ci := 2) [.int _, .int _] _ (s_write M.2.1 Γ S42 ((F.ss h45.1).sub 7 lyLaw rfl (by decide)) _ _) dX0_product_73 cb_X2_write ml_RX0_83 im_yX2_write se_yX2_write ((F.ss h45.1).m 7 (Nat.le_of_ble_eq_true rfl)) ((F.ss h45.1).k 7 2 rfl) (Nat.le_of_ble_eq_true rfl) ⟨(Nat.le_of_ble_eq_true rfl), (Nat.le_of_ble_eq_true rfl)⟩ rfl rfl (Nat.le_of_ble_eq_true rfl) ⟨(Nat.le_of_ble_eq_true rfl), (Nat.le_of_ble_eq_true rfl)⟩ (RI.go (fun r50 S48 q49 => ?_))
        have h51 : FZ [g + 8, g + 9] [(g, 2), (g, 3), (g, 4), (g, 5), (g, 6), (g, 7), (g + 7, 2)] S S48 := h45.tr (q49.sub (by simp) (by simp))
        refine V_pop 76 dX0_product_76 rfl ?_
        refine V_iinc_3 77 (1) dX0_product_77 (by decide) rfl (Nat.le_of_ble_eq_true rfl) ?_
        refine V_goto 80 8 dX0_product_80 (by decide) ?_
        rw [← nI_succ]
        refine V_lvw (by repeat (first | exact trivial | refine ⟨rfl, ?_⟩)) (ih15 (i11 + 1, _, _) ⟨by dsimp only; omega, h51, (Or.inr rfl)⟩ (by dsimp only; omega))
  refine V_iload_3 8 dX0_product_8 ?_
  refine V_sipush 9 (400) dX0_product_9 (by decide) ?_
  refine V_icmp_gt 12 83 dX0_product_12 (by decide) (fun c52 => ?_) (fun c52 => ?_)
  ·
    refine V_lvw (by repeat (first | exact trivial | refine ⟨rfl, ?_⟩)) (J3 _ _ _ h14 hb20)
  ·
    have lt54 := nI_ltg (n := 400) (by decide) hi13 c52
    refine V_iload_2 15 dX0_product_15 ?_
    refine V_if_eq 16 83 dX0_product_16 (by decide) (fun c55 => ?_) (fun c55 => ?_)
    ·
      refine V_lvw (by repeat (first | exact trivial | refine ⟨rfl, ?_⟩)) (J3 _ _ _ h14 hb20)
    ·
      refine V_aload_0 19 dX0_product_19 ?_
      refine V_getI 20 (c := 0) 3 dX0_product_20 fl_RX0_36 ((F.ss h14.1).m 0 (Nat.le_of_ble_eq_true rfl)) ((F.ss h14.1).k 0 0 rfl) (Nat.le_of_ble_eq_true rfl) (Nat.le_of_ble_eq_true rfl) rfl ?_
      refine V_bipush 23 (42) dX0_product_23 (by decide) ?_
      refine V_icmp_eq 25 37 dX0_product_25 (by decide) (fun c57 => ?_) (fun c57 => ?_)
      ·
        refine V_lvw (by repeat (first | exact trivial | refine ⟨rfl, ?_⟩)) (J33 _ _ h14 (by first | omega | assumption) hb20)
      ·
        refine V_aload_0 28 dX0_product_28 ?_
        refine V_getI 29 (c := 0) 3 dX0_product_29 fl_RX0_36 ((F.ss h14.1).m 0 (Nat.le_of_ble_eq_true rfl)) ((F.ss h14.1).k 0 0 rfl) (Nat.le_of_ble_eq_true rfl) (Nat.le_of_ble_eq_true rfl) rfl ?_
        refine V_bipush 32 (47) dX0_product_32 (by decide) ?_
        refine V_icmp_ne 34 83 dX0_product_34 (by decide) (fun c59 => ?_) (fun c59 => ?_)
        ·
          refine V_lvw (by repeat (first | exact trivial | refine ⟨rfl, ?_⟩)) (J3 _ _ _ h14 hb20)
        ·
          refine V_lvw (by repeat (first | exact trivial | refine ⟨rfl, ?_⟩)) (J33 _ _ h14 (by first | omega | assumption) hb20)
set_option maxRecDepth 100000 in
set_option maxHeartbeats 8000000 in
theorem s_sum3 (l : Launch) (Γ : GC) (S : PS) {g : Nat} (F : isL lyGrammar Γ.2.2.2.2.1 S g) (x : Int32) (hx : x = 3) : CT l Γ yX0_sum cX0_sum 5 (some .boolean) (13) (0) (0) [.ref g, .int x] S (RI (fun r S' => (r = 0 ∨ r = 1) ∧ FZ [g + 8, g + 9] [(g, 2), (g, 3), (g, 4), (g, 5), (g, 6), (g, 7), (g + 7, 2)] S S')) := by
  refine CT.of RX0 "sum" [some (.ref g), some (.int x), none, none, none] (by decide +kernel) rfl rfl (Nat.le_of_ble_eq_true rfl) rfl (fun M hM => ?_)
  subst hM
  have J3 : ∀ (S1 : PS) (x4 : Int32) (x5 : Int32), FZ [g + 8, g + 9] [(g, 2), (g, 3), (g, 4), (g, 5), (g, 6), (g, 7), (g + 7, 2)] S S1 → (x4 = 0 ∨ x4 = 1) → V M Γ (5, RX0, "sum", (some .boolean), RM (13) (0) (0)) cX0_sum (RQ M Γ (RI (fun r S' => (r = 0 ∨ r = 1) ∧ FZ [g + 8, g + 9] [(g, 2), (g, 3), (g, 4), (g, 5), (g, 6), (g, 7), (g + 7, 2)] S S')) (0) (0)) 0 0 S1 83 [some (.ref g), some (.int x), some (.int x4), some (.int x5), none] [] := by
    intro S1 x4 x5 h2 hb_x4
    refine V_iload_2 83 dX0_sum_83 ?_
    refine V_iret 84 .boolean dX0_sum_84 rfl (nrwB hb_x4) (Nat.le_of_ble_eq_true rfl) (Nat.le_of_ble_eq_true rfl) (RI.mk ⟨hb_x4, h2⟩)
  refine V_aload_0 0 dX0_sum_0 ?_
  refine V_iload_1 1 dX0_sum_1 ?_
  refine V_callV 2 (ci := 0) [.int _] _ (s_product3 M.2.1 Γ S F _ hx) dX0_sum_2 cb_X0_product ml_RX0_91 im_yX0_product se_yX0_product (F.m 0 (Nat.le_of_ble_eq_true rfl)) (F.k 0 0 rfl) (Nat.le_of_ble_eq_true rfl) ⟨(Nat.le_of_ble_eq_true rfl), (Nat.le_of_ble_eq_true rfl)⟩ rfl rfl (Nat.le_of_ble_eq_true rfl) ⟨(Nat.le_of_ble_eq_true rfl), (Nat.le_of_ble_eq_true rfl)⟩ (RI.go (fun r8 S6 q7 => ?_))
  have h9 : FZ [g + 8, g + 9] [(g, 2), (g, 3), (g, 4), (g, 5), (g, 6), (g, 7), (g + 7, 2)] S S6 := (FZ.rf (X := [g + 8, g + 9]) (Y := [(g, 2), (g, 3), (g, 4), (g, 5), (g, 6), (g, 7), (g + 7, 2)]) (S := S)).tr (q7.2.sub (by simp) (by simp))
  refine V_istore_2 5 dX0_sum_5 rfl (Nat.le_of_ble_eq_true rfl) ?_
  refine V_iconst 6 (0) dX0_sum_6 (by decide) ?_
  refine V_istore_3 7 dX0_sum_7 rfl (Nat.le_of_ble_eq_true rfl) ?_
  refine V_lvw (by repeat (first | exact trivial | refine ⟨rfl, ?_⟩)) (V_while (α := Nat × PS × Int32) (fun z10 => 401 - z10.1) (fun z10 => z10.1 ≤ 401 ∧ FZ [g + 8, g + 9] [(g, 2), (g, 3), (g, 4), (g, 5), (g, 6), (g, 7), (g + 7, 2)] S z10.2.1 ∧ (z10.2.2 = 0 ∨ z10.2.2 = 1)) (fun z10 => z10.2.1) (fun z10 => [some (.ref g), some (.int x), some (.int z10.2.2), some (.int (nI z10.1)), none]) (0, _, _) ⟨Nat.zero_le _, h9, q7.1⟩ (fun z10 hx17 ih15 => ?b18))
  obtain ⟨i11, S12, w16⟩ := z10
  obtain ⟨hi13, h14, hb20⟩ := hx17
  dsimp only at hi13 h14 hb20 ih15 ⊢
  have J23 : ∀ (S21 : PS) (x24 : Int32) (x25 : Int32), FZ [g + 8, g + 9] [(g, 2), (g, 3), (g, 4), (g, 5), (g, 6), (g, 7), (g + 7, 2)] S S21 → i11 < 401 → (x24 = 0 ∨ x24 = 1) → V M Γ (5, RX0, "sum", (some .boolean), RM (13) (0) (0)) cX0_sum (RQ M Γ (RI (fun r S' => (r = 0 ∨ r = 1) ∧ FZ [g + 8, g + 9] [(g, 2), (g, 3), (g, 4), (g, 5), (g, 6), (g, 7), (g + 7, 2)] S S')) (0) (0)) 0 0 S21 64 [some (.ref g), some (.int x), some (.int x24), some (.int (nI i11)), some (.int x25)] [] := by
    intro S21 x24 x25 h22 lt26 hb_x24
    refine V_iconst 64 (0) dX0_sum_64 (by decide) ?_
    refine V_istore_2 65 dX0_sum_65 rfl (Nat.le_of_ble_eq_true rfl) ?_
    refine V_aload_0 66 dX0_sum_66 ?_
    refine V_getR 67 (c := 0) 1 ((F.ss h22.1).r 0 1 7 rfl) dX0_sum_67 fl_RX0_21 ((F.ss h22.1).m 0 (Nat.le_of_ble_eq_true rfl)) ((F.ss h22.1).k 0 0 rfl) (Nat.le_of_ble_eq_true rfl) (Nat.le_of_ble_eq_true rfl) rfl ?_
    refine V_iload_4 70 dX0_sum_70 ?_
    refine V_iconst 72 (0) dX0_sum_72 (by decide) ?_
    refine V_callV 73 (ci := 2) [.int _, .int _] _ (s_write M.2.1 Γ S21 ((F.ss h22.1).sub 7 lyLaw rfl (by decide)) _ _) dX0_sum_73 cb_X2_write ml_RX0_83 im_yX2_write se_yX2_write ((F.ss h22.1).m 7 (Nat.le_of_ble_eq_true rfl)) ((F.ss h22.1).k 7 2 rfl) (Nat.le_of_ble_eq_true rfl) ⟨(Nat.le_of_ble_eq_true rfl), (Nat.le_of_ble_eq_true rfl)⟩ rfl rfl (Nat.le_of_ble_eq_true rfl) ⟨(Nat.le_of_ble_eq_true rfl), (Nat.le_of_ble_eq_true rfl)⟩ (RI.go (fun r29 S27 q28 => ?_))
    have h30 : FZ [g + 8, g + 9] [(g, 2), (g, 3), (g, 4), (g, 5), (g, 6), (g, 7), (g + 7, 2)] S S27 := h22.tr (q28.sub (by simp) (by simp))
    refine V_pop 76 dX0_sum_76 rfl ?_
    refine V_iinc_3 77 (1) dX0_sum_77 (by decide) rfl (Nat.le_of_ble_eq_true rfl) ?_
    refine V_goto 80 8 dX0_sum_80 (by decide) ?_
    rw [← nI_succ]
    refine V_lvw (by repeat (first | exact trivial | refine ⟨rfl, ?_⟩)) (ih15 (i11 + 1, _, _) ⟨by dsimp only; omega, h30, (Or.inl rfl)⟩ (by dsimp only; omega))
  have J33 : ∀ (S31 : PS) (x34 : Int32), FZ [g + 8, g + 9] [(g, 2), (g, 3), (g, 4), (g, 5), (g, 6), (g, 7), (g + 7, 2)] S S31 → i11 < 401 → (x34 = 0 ∨ x34 = 1) → V M Γ (5, RX0, "sum", (some .boolean), RM (13) (0) (0)) cX0_sum (RQ M Γ (RI (fun r S' => (r = 0 ∨ r = 1) ∧ FZ [g + 8, g + 9] [(g, 2), (g, 3), (g, 4), (g, 5), (g, 6), (g, 7), (g + 7, 2)] S S')) (0) (0)) 0 0 S31 37 [some (.ref g), some (.int x), some (.int x34), some (.int (nI i11)), none] [] := by
    intro S31 x34 h32 lt35 hb_x34
    refine V_aload_0 37 dX0_sum_37 ?_
    refine V_getI 38 (c := 0) 3 dX0_sum_38 fl_RX0_36 ((F.ss h32.1).m 0 (Nat.le_of_ble_eq_true rfl)) ((F.ss h32.1).k 0 0 rfl) (Nat.le_of_ble_eq_true rfl) (Nat.le_of_ble_eq_true rfl) rfl ?_
    refine V_istore_4 41 dX0_sum_41 rfl (Nat.le_of_ble_eq_true rfl) ?_
    refine V_aload_0 43 dX0_sum_43 ?_
    refine V_iload_4 44 dX0_sum_44 ?_
    refine V_callV 46 (ci := 0) [.int _] _ (s_step M.2.1 Γ S31 (F.ss h32.1) _) dX0_sum_46 cb_X0_step ml_RX0_51 im_yX0_step se_yX0_step ((F.ss h32.1).m 0 (Nat.le_of_ble_eq_true rfl)) ((F.ss h32.1).k 0 0 rfl) (Nat.le_of_ble_eq_true rfl) ⟨(Nat.le_of_ble_eq_true rfl), (Nat.le_of_ble_eq_true rfl)⟩ rfl rfl (Nat.le_of_ble_eq_true rfl) ⟨(Nat.le_of_ble_eq_true rfl), (Nat.le_of_ble_eq_true rfl)⟩ (RI.go (fun r38 S36 q37 => ?_))
    have h39 : FZ [g + 8, g + 9] [(g, 2), (g, 3), (g, 4), (g, 5), (g, 6), (g, 7), (g + 7, 2)] S S36 := h32.tr (q37.2.sub (by simp) (by simp))
    refine V_if_eq 49 64 dX0_sum_49 (by decide) (fun c40 => ?_) (fun c40 => ?_)
    ·
      refine V_lvw (by repeat (first | exact trivial | refine ⟨rfl, ?_⟩)) (J23 _ _ _ h39 (by first | omega | assumption) hb_x34)
    ·
      refine V_aload_0 52 dX0_sum_52 ?_
      refine V_iload_1 53 dX0_sum_53 ?_
      refine V_callV 54 (ci := 0) [.int _] _ (s_product3 M.2.1 Γ S36 (F.ss h39.1) _ hx) dX0_sum_54 cb_X0_product ml_RX0_91 im_yX0_product se_yX0_product ((F.ss h39.1).m 0 (Nat.le_of_ble_eq_true rfl)) ((F.ss h39.1).k 0 0 rfl) (Nat.le_of_ble_eq_true rfl) ⟨(Nat.le_of_ble_eq_true rfl), (Nat.le_of_ble_eq_true rfl)⟩ rfl rfl (Nat.le_of_ble_eq_true rfl) ⟨(Nat.le_of_ble_eq_true rfl), (Nat.le_of_ble_eq_true rfl)⟩ (RI.go (fun r44 S42 q43 => ?_))
      have h45 : FZ [g + 8, g + 9] [(g, 2), (g, 3), (g, 4), (g, 5), (g, 6), (g, 7), (g + 7, 2)] S S42 := h39.tr (q43.2.sub (by simp) (by simp))
      refine V_if_eq 57 64 dX0_sum_57 (by decide) (fun c46 => ?_) (fun c46 => ?_)
      ·
        refine V_lvw (by repeat (first | exact trivial | refine ⟨rfl, ?_⟩)) (J23 _ _ _ h45 (by first | omega | assumption) hb_x34)
      ·
        refine V_iconst 60 (1) dX0_sum_60 (by decide) ?_
        refine V_goto 61 65 dX0_sum_61 (by decide) ?_
        refine V_istore_2 65 dX0_sum_65 rfl (Nat.le_of_ble_eq_true rfl) ?_
        refine V_aload_0 66 dX0_sum_66 ?_
        refine V_getR 67 (c := 0) 1 ((F.ss h45.1).r 0 1 7 rfl) dX0_sum_67 fl_RX0_21 ((F.ss h45.1).m 0 (Nat.le_of_ble_eq_true rfl)) ((F.ss h45.1).k 0 0 rfl) (Nat.le_of_ble_eq_true rfl) (Nat.le_of_ble_eq_true rfl) rfl ?_
        refine V_iload_4 70 dX0_sum_70 ?_
        refine V_iconst 72 (0) dX0_sum_72 (by decide) ?_
        refine V_callV 73 (ci := 2) [.int _, .int _] _ (s_write M.2.1 Γ S42 ((F.ss h45.1).sub 7 lyLaw rfl (by decide)) _ _) dX0_sum_73 cb_X2_write ml_RX0_83 im_yX2_write se_yX2_write ((F.ss h45.1).m 7 (Nat.le_of_ble_eq_true rfl)) ((F.ss h45.1).k 7 2 rfl) (Nat.le_of_ble_eq_true rfl) ⟨(Nat.le_of_ble_eq_true rfl), (Nat.le_of_ble_eq_true rfl)⟩ rfl rfl (Nat.le_of_ble_eq_true rfl) ⟨(Nat.le_of_ble_eq_true rfl), (Nat.le_of_ble_eq_true rfl)⟩ (RI.go (fun r50 S48 q49 => ?_))
        have h51 : FZ [g + 8, g + 9] [(g, 2), (g, 3), (g, 4), (g, 5), (g, 6), (g, 7), (g + 7, 2)] S S48 := h45.tr (q49.sub (by simp) (by simp))
        refine V_pop 76 dX0_sum_76 rfl ?_
        refine V_iinc_3 77 (1) dX0_sum_77 (by decide) rfl (Nat.le_of_ble_eq_true rfl) ?_
        refine V_goto 80 8 dX0_sum_80 (by decide) ?_
        rw [← nI_succ]
        refine V_lvw (by repeat (first | exact trivial | refine ⟨rfl, ?_⟩)) (ih15 (i11 + 1, _, _) ⟨by dsimp only; omega, h51, (Or.inr rfl)⟩ (by dsimp only; omega))
  refine V_iload_3 8 dX0_sum_8 ?_
  refine V_sipush 9 (400) dX0_sum_9 (by decide) ?_
  refine V_icmp_gt 12 83 dX0_sum_12 (by decide) (fun c52 => ?_) (fun c52 => ?_)
  ·
    refine V_lvw (by repeat (first | exact trivial | refine ⟨rfl, ?_⟩)) (J3 _ _ _ h14 hb20)
  ·
    have lt54 := nI_ltg (n := 400) (by decide) hi13 c52
    refine V_iload_2 15 dX0_sum_15 ?_
    refine V_if_eq 16 83 dX0_sum_16 (by decide) (fun c55 => ?_) (fun c55 => ?_)
    ·
      refine V_lvw (by repeat (first | exact trivial | refine ⟨rfl, ?_⟩)) (J3 _ _ _ h14 hb20)
    ·
      refine V_aload_0 19 dX0_sum_19 ?_
      refine V_getI 20 (c := 0) 3 dX0_sum_20 fl_RX0_36 ((F.ss h14.1).m 0 (Nat.le_of_ble_eq_true rfl)) ((F.ss h14.1).k 0 0 rfl) (Nat.le_of_ble_eq_true rfl) (Nat.le_of_ble_eq_true rfl) rfl ?_
      refine V_bipush 23 (43) dX0_sum_23 (by decide) ?_
      refine V_icmp_eq 25 37 dX0_sum_25 (by decide) (fun c57 => ?_) (fun c57 => ?_)
      ·
        refine V_lvw (by repeat (first | exact trivial | refine ⟨rfl, ?_⟩)) (J33 _ _ h14 (by first | omega | assumption) hb20)
      ·
        refine V_aload_0 28 dX0_sum_28 ?_
        refine V_getI 29 (c := 0) 3 dX0_sum_29 fl_RX0_36 ((F.ss h14.1).m 0 (Nat.le_of_ble_eq_true rfl)) ((F.ss h14.1).k 0 0 rfl) (Nat.le_of_ble_eq_true rfl) (Nat.le_of_ble_eq_true rfl) rfl ?_
        refine V_bipush 32 (45) dX0_sum_32 (by decide) ?_
        refine V_icmp_ne 34 83 dX0_sum_34 (by decide) (fun c59 => ?_) (fun c59 => ?_)
        ·
          refine V_lvw (by repeat (first | exact trivial | refine ⟨rfl, ?_⟩)) (J3 _ _ _ h14 hb20)
        ·
          refine V_lvw (by repeat (first | exact trivial | refine ⟨rfl, ?_⟩)) (J33 _ _ h14 (by first | omega | assumption) hb20)
set_option maxRecDepth 100000 in
set_option maxHeartbeats 8000000 in
theorem s_unit2 (l : Launch) (Γ : GC) (S : PS) {g : Nat} (F : isL lyGrammar Γ.2.2.2.2.1 S g) (x : Int32) (hx : x = 2) : CT l Γ yX0_unit cX0_unit 2 (some .boolean) (14) (0) (0) [.ref g, .int x] S (RI (fun r S' => (r = 0 ∨ r = 1) ∧ FZ [g + 8, g + 9] [(g, 2), (g, 3), (g, 4), (g, 5), (g, 6), (g, 7), (g + 7, 2)] S S')) := by
  refine CT.of RX0 "unit" [some (.ref g), some (.int x)] (by decide +kernel) rfl rfl (Nat.le_of_ble_eq_true rfl) rfl (fun M hM => ?_)
  subst hM
  have J3 : ∀ (S1 : PS) , FZ [g + 8, g + 9] [(g, 2), (g, 3), (g, 4), (g, 5), (g, 6), (g, 7), (g + 7, 2)] S S1 → V M Γ (2, RX0, "unit", (some .boolean), RM (14) (0) (0)) cX0_unit (RQ M Γ (RI (fun r S' => (r = 0 ∨ r = 1) ∧ FZ [g + 8, g + 9] [(g, 2), (g, 3), (g, 4), (g, 5), (g, 6), (g, 7), (g + 7, 2)] S S')) (0) (0)) 0 0 S1 139 [some (.ref g), some (.int x)] [] := by
    intro S1  h2
    refine V_iconst 139 (0) dX0_unit_139 (by decide) ?_
    refine V_iret 140 .boolean dX0_unit_140 rfl (nrwB (Or.inl rfl)) (Nat.le_of_ble_eq_true rfl) (Nat.le_of_ble_eq_true rfl) (RI.mk ⟨(Or.inl rfl), h2⟩)
  have J6 : ∀ (S4 : PS) , FZ [g + 8, g + 9] [(g, 2), (g, 3), (g, 4), (g, 5), (g, 6), (g, 7), (g + 7, 2)] S S4 → V M Γ (2, RX0, "unit", (some .boolean), RM (14) (0) (0)) cX0_unit (RQ M Γ (RI (fun r S' => (r = 0 ∨ r = 1) ∧ FZ [g + 8, g + 9] [(g, 2), (g, 3), (g, 4), (g, 5), (g, 6), (g, 7), (g + 7, 2)] S S')) (0) (0)) 0 0 S4 80 [some (.ref g), some (.int x)] [] := by
    intro S4  h5
    refine V_aload_0 80 dX0_unit_80 ?_
    refine V_getI 81 (c := 0) 3 dX0_unit_81 fl_RX0_36 ((F.ss h5.1).m 0 (Nat.le_of_ble_eq_true rfl)) ((F.ss h5.1).k 0 0 rfl) (Nat.le_of_ble_eq_true rfl) (Nat.le_of_ble_eq_true rfl) rfl ?_
    refine V_bipush 84 (40) dX0_unit_84 (by decide) ?_
    refine V_icmp_eq 86 95 dX0_unit_86 (by decide) (fun c7 => ?_) (fun c7 => ?_)
    ·
      refine V_iload_1 95 dX0_unit_95 ?_
      refine V_bipush 96 (6) dX0_unit_96 (by decide) ?_
      refine V_icmp_lt 98 107 dX0_unit_98 (by decide) (fun c8 => ?_) (fun c8 => ?_)
      ·
        refine V_aload_0 107 dX0_unit_107 ?_
        refine V_bipush 108 (40) dX0_unit_108 (by decide) ?_
        refine V_callV 110 (ci := 0) [.int _] _ (s_step M.2.1 Γ S4 (F.ss h5.1) _) dX0_unit_110 cb_X0_step ml_RX0_51 im_yX0_step se_yX0_step ((F.ss h5.1).m 0 (Nat.le_of_ble_eq_true rfl)) ((F.ss h5.1).k 0 0 rfl) (Nat.le_of_ble_eq_true rfl) ⟨(Nat.le_of_ble_eq_true rfl), (Nat.le_of_ble_eq_true rfl)⟩ rfl rfl (Nat.le_of_ble_eq_true rfl) ⟨(Nat.le_of_ble_eq_true rfl), (Nat.le_of_ble_eq_true rfl)⟩ (RI.go (fun r11 S9 q10 => ?_))
        have h12 : FZ [g + 8, g + 9] [(g, 2), (g, 3), (g, 4), (g, 5), (g, 6), (g, 7), (g + 7, 2)] S S9 := h5.tr (q10.2.sub (by simp) (by simp))
        refine V_if_eq 113 139 dX0_unit_113 (by decide) (fun c13 => ?_) (fun c13 => ?_)
        ·
          refine V_lvw (by repeat (first | exact trivial | refine ⟨rfl, ?_⟩)) (J3 _ h12)
        ·
          refine V_aload_0 116 dX0_unit_116 ?_
          refine V_iload_1 117 dX0_unit_117 ?_
          refine V_iconst 118 (1) dX0_unit_118 (by decide) ?_
          refine V_iadd 119 dX0_unit_119 ?_
          refine V_callV 120 (ci := 0) [.int _] _ (s_sum3 M.2.1 Γ S9 (F.ss h12.1) _ (by rw [hx]; rfl)) dX0_unit_120 cb_X0_sum ml_RX0_80 im_yX0_sum se_yX0_sum ((F.ss h12.1).m 0 (Nat.le_of_ble_eq_true rfl)) ((F.ss h12.1).k 0 0 rfl) (Nat.le_of_ble_eq_true rfl) ⟨(Nat.le_of_ble_eq_true rfl), (Nat.le_of_ble_eq_true rfl)⟩ rfl rfl (Nat.le_of_ble_eq_true rfl) ⟨(Nat.le_of_ble_eq_true rfl), (Nat.le_of_ble_eq_true rfl)⟩ (RI.go (fun r17 S15 q16 => ?_))
          have h18 : FZ [g + 8, g + 9] [(g, 2), (g, 3), (g, 4), (g, 5), (g, 6), (g, 7), (g + 7, 2)] S S15 := h12.tr (q16.2.sub (by simp) (by simp))
          refine V_if_eq 123 139 dX0_unit_123 (by decide) (fun c19 => ?_) (fun c19 => ?_)
          ·
            refine V_lvw (by repeat (first | exact trivial | refine ⟨rfl, ?_⟩)) (J3 _ h18)
          ·
            refine V_aload_0 126 dX0_unit_126 ?_
            refine V_bipush 127 (41) dX0_unit_127 (by decide) ?_
            refine V_callV 129 (ci := 0) [.int _] _ (s_step M.2.1 Γ S15 (F.ss h18.1) _) dX0_unit_129 cb_X0_step ml_RX0_51 im_yX0_step se_yX0_step ((F.ss h18.1).m 0 (Nat.le_of_ble_eq_true rfl)) ((F.ss h18.1).k 0 0 rfl) (Nat.le_of_ble_eq_true rfl) ⟨(Nat.le_of_ble_eq_true rfl), (Nat.le_of_ble_eq_true rfl)⟩ rfl rfl (Nat.le_of_ble_eq_true rfl) ⟨(Nat.le_of_ble_eq_true rfl), (Nat.le_of_ble_eq_true rfl)⟩ (RI.go (fun r23 S21 q22 => ?_))
            have h24 : FZ [g + 8, g + 9] [(g, 2), (g, 3), (g, 4), (g, 5), (g, 6), (g, 7), (g + 7, 2)] S S21 := h18.tr (q22.2.sub (by simp) (by simp))
            refine V_if_eq 132 139 dX0_unit_132 (by decide) (fun c25 => ?_) (fun c25 => ?_)
            ·
              refine V_lvw (by repeat (first | exact trivial | refine ⟨rfl, ?_⟩)) (J3 _ h24)
            ·
              refine V_iconst 135 (1) dX0_unit_135 (by decide) ?_
              refine V_goto 136 140 dX0_unit_136 (by decide) ?_
              refine V_iret 140 .boolean dX0_unit_140 rfl (nrwB (Or.inr rfl)) (Nat.le_of_ble_eq_true rfl) (Nat.le_of_ble_eq_true rfl) (RI.mk ⟨(Or.inr rfl), h24⟩)
      ·
        refine V_aload_0 101 dX0_unit_101 ?_
        refine V_iconst 102 (2) dX0_unit_102 (by decide) ?_
        refine V_callV 103 (ci := 0) [.int _] _ (s_gfail M.2.1 Γ S4 (F.ss h5.1) _) dX0_unit_103 cb_X0_fail ml_RX0_74 im_yX0_fail se_yX0_fail ((F.ss h5.1).m 0 (Nat.le_of_ble_eq_true rfl)) ((F.ss h5.1).k 0 0 rfl) (Nat.le_of_ble_eq_true rfl) ⟨(Nat.le_of_ble_eq_true rfl), (Nat.le_of_ble_eq_true rfl)⟩ rfl rfl (Nat.le_of_ble_eq_true rfl) ⟨(Nat.le_of_ble_eq_true rfl), (Nat.le_of_ble_eq_true rfl)⟩ (RI.go (fun r29 S27 q28 => ?_))
        have h30 : FZ [g + 8, g + 9] [(g, 2), (g, 3), (g, 4), (g, 5), (g, 6), (g, 7), (g + 7, 2)] S S27 := h5.tr (q28.2.sub (by simp) (by simp))
        refine V_iret 106 .boolean dX0_unit_106 rfl (nrwB q28.1) (Nat.le_of_ble_eq_true rfl) (Nat.le_of_ble_eq_true rfl) (RI.mk ⟨q28.1, h30⟩)
    ·
      refine V_aload_0 89 dX0_unit_89 ?_
      refine V_iconst 90 (1) dX0_unit_90 (by decide) ?_
      refine V_callV 91 (ci := 0) [.int _] _ (s_gfail M.2.1 Γ S4 (F.ss h5.1) _) dX0_unit_91 cb_X0_fail ml_RX0_74 im_yX0_fail se_yX0_fail ((F.ss h5.1).m 0 (Nat.le_of_ble_eq_true rfl)) ((F.ss h5.1).k 0 0 rfl) (Nat.le_of_ble_eq_true rfl) ⟨(Nat.le_of_ble_eq_true rfl), (Nat.le_of_ble_eq_true rfl)⟩ rfl rfl (Nat.le_of_ble_eq_true rfl) ⟨(Nat.le_of_ble_eq_true rfl), (Nat.le_of_ble_eq_true rfl)⟩ (RI.go (fun r33 S31 q32 => ?_))
      have h34 : FZ [g + 8, g + 9] [(g, 2), (g, 3), (g, 4), (g, 5), (g, 6), (g, 7), (g + 7, 2)] S S31 := h5.tr (q32.2.sub (by simp) (by simp))
      refine V_iret 94 .boolean dX0_unit_94 rfl (nrwB q32.1) (Nat.le_of_ble_eq_true rfl) (Nat.le_of_ble_eq_true rfl) (RI.mk ⟨q32.1, h34⟩)
  refine V_aload_0 0 dX0_unit_0 ?_
  refine V_getI 1 (c := 0) 3 dX0_unit_1 fl_RX0_36 (F.m 0 (Nat.le_of_ble_eq_true rfl)) (F.k 0 0 rfl) (Nat.le_of_ble_eq_true rfl) (Nat.le_of_ble_eq_true rfl) rfl ?_
  refine V_iconst 4 (2) dX0_unit_4 (by decide) ?_
  refine V_icmp_ne 5 34 dX0_unit_5 (by decide) (fun c35 => ?_) (fun c35 => ?_)
  ·
    refine V_aload_0 34 dX0_unit_34 ?_
    refine V_getI 35 (c := 0) 3 dX0_unit_35 fl_RX0_36 (F.m 0 (Nat.le_of_ble_eq_true rfl)) (F.k 0 0 rfl) (Nat.le_of_ble_eq_true rfl) (Nat.le_of_ble_eq_true rfl) rfl ?_
    refine V_sipush 38 (145) dX0_unit_38 (by decide) ?_
    refine V_icmp_lt 41 80 dX0_unit_41 (by decide) (fun c36 => ?_) (fun c36 => ?_)
    ·
      refine V_lvw (by repeat (first | exact trivial | refine ⟨rfl, ?_⟩)) (J6 _ FZ.rf)
    ·
      refine V_aload_0 44 dX0_unit_44 ?_
      refine V_getI 45 (c := 0) 3 dX0_unit_45 fl_RX0_36 (F.m 0 (Nat.le_of_ble_eq_true rfl)) (F.k 0 0 rfl) (Nat.le_of_ble_eq_true rfl) (Nat.le_of_ble_eq_true rfl) rfl ?_
      refine V_sipush 48 (149) dX0_unit_48 (by decide) ?_
      refine V_icmp_gt 51 80 dX0_unit_51 (by decide) (fun c38 => ?_) (fun c38 => ?_)
      ·
        refine V_lvw (by repeat (first | exact trivial | refine ⟨rfl, ?_⟩)) (J6 _ FZ.rf)
      ·
        refine V_aload_0 54 dX0_unit_54 ?_
        refine V_getR 55 (c := 0) 1 (F.r 0 1 7 rfl) dX0_unit_55 fl_RX0_21 (F.m 0 (Nat.le_of_ble_eq_true rfl)) (F.k 0 0 rfl) (Nat.le_of_ble_eq_true rfl) (Nat.le_of_ble_eq_true rfl) rfl ?_
        refine V_iconst 58 (1) dX0_unit_58 (by decide) ?_
        refine V_aload_0 59 dX0_unit_59 ?_
        refine V_getI 60 (c := 0) 3 dX0_unit_60 fl_RX0_36 (F.m 0 (Nat.le_of_ble_eq_true rfl)) (F.k 0 0 rfl) (Nat.le_of_ble_eq_true rfl) (Nat.le_of_ble_eq_true rfl) rfl ?_
        refine V_sipush 63 (145) dX0_unit_63 (by decide) ?_
        refine V_isub 66 dX0_unit_66 ?_
        refine V_callV 67 (ci := 2) [.int _, .int _] _ (s_write M.2.1 Γ S (F.sub 7 lyLaw rfl (by decide)) _ _) dX0_unit_67 cb_X2_write ml_RX0_83 im_yX2_write se_yX2_write (F.m 7 (Nat.le_of_ble_eq_true rfl)) (F.k 7 2 rfl) (Nat.le_of_ble_eq_true rfl) ⟨(Nat.le_of_ble_eq_true rfl), (Nat.le_of_ble_eq_true rfl)⟩ rfl rfl (Nat.le_of_ble_eq_true rfl) ⟨(Nat.le_of_ble_eq_true rfl), (Nat.le_of_ble_eq_true rfl)⟩ (RI.go (fun r42 S40 q41 => ?_))
        have h43 : FZ [g + 8, g + 9] [(g, 2), (g, 3), (g, 4), (g, 5), (g, 6), (g, 7), (g + 7, 2)] S S40 := (FZ.rf (X := [g + 8, g + 9]) (Y := [(g, 2), (g, 3), (g, 4), (g, 5), (g, 6), (g, 7), (g + 7, 2)]) (S := S)).tr (q41.sub (by simp) (by simp))
        refine V_pop 70 dX0_unit_70 rfl ?_
        refine V_aload_0 71 dX0_unit_71 ?_
        refine V_aload_0 72 dX0_unit_72 ?_
        refine V_getI 73 (c := 0) 3 dX0_unit_73 fl_RX0_36 ((F.ss h43.1).m 0 (Nat.le_of_ble_eq_true rfl)) ((F.ss h43.1).k 0 0 rfl) (Nat.le_of_ble_eq_true rfl) (Nat.le_of_ble_eq_true rfl) rfl ?_
        refine V_callV 76 (ci := 0) [.int _] _ (s_step M.2.1 Γ S40 (F.ss h43.1) _) dX0_unit_76 cb_X0_step ml_RX0_51 im_yX0_step se_yX0_step ((F.ss h43.1).m 0 (Nat.le_of_ble_eq_true rfl)) ((F.ss h43.1).k 0 0 rfl) (Nat.le_of_ble_eq_true rfl) ⟨(Nat.le_of_ble_eq_true rfl), (Nat.le_of_ble_eq_true rfl)⟩ rfl rfl (Nat.le_of_ble_eq_true rfl) ⟨(Nat.le_of_ble_eq_true rfl), (Nat.le_of_ble_eq_true rfl)⟩ (RI.go (fun r46 S44 q45 => ?_))
        have h47 : FZ [g + 8, g + 9] [(g, 2), (g, 3), (g, 4), (g, 5), (g, 6), (g, 7), (g + 7, 2)] S S44 := h43.tr (q45.2.sub (by simp) (by simp))
        refine V_iret 79 .boolean dX0_unit_79 rfl (nrwB q45.1) (Nat.le_of_ble_eq_true rfl) (Nat.le_of_ble_eq_true rfl) (RI.mk ⟨q45.1, h47⟩)
  ·
    refine V_aload_0 8 dX0_unit_8 ?_
    refine V_getR 9 (c := 0) 1 (F.r 0 1 7 rfl) dX0_unit_9 fl_RX0_21 (F.m 0 (Nat.le_of_ble_eq_true rfl)) (F.k 0 0 rfl) (Nat.le_of_ble_eq_true rfl) (Nat.le_of_ble_eq_true rfl) rfl ?_
    refine V_iconst 12 (2) dX0_unit_12 (by decide) ?_
    refine V_aload_0 13 dX0_unit_13 ?_
    refine V_getR 14 (c := 0) 0 (F.r 0 0 1 rfl) dX0_unit_14 fl_RX0_12 (F.m 0 (Nat.le_of_ble_eq_true rfl)) (F.k 0 0 rfl) (Nat.le_of_ble_eq_true rfl) (Nat.le_of_ble_eq_true rfl) rfl ?_
    refine V_aload_0 17 dX0_unit_17 ?_
    refine V_getI 18 (c := 0) 2 dX0_unit_18 fl_RX0_28 (F.m 0 (Nat.le_of_ble_eq_true rfl)) (F.k 0 0 rfl) (Nat.le_of_ble_eq_true rfl) (Nat.le_of_ble_eq_true rfl) rfl ?_
    refine V_callV 21 (ci := 8) [.int _] _ (s_intAt M.2.1 Γ S (F.sub 1 lyTape rfl (by decide)) _) dX0_unit_21 cb_X8_intAt ml_RX0_97 im_yX8_intAt se_yX8_intAt (F.m 1 (Nat.le_of_ble_eq_true rfl)) (F.k 1 8 rfl) (Nat.le_of_ble_eq_true rfl) ⟨(Nat.le_of_ble_eq_true rfl), (Nat.le_of_ble_eq_true rfl)⟩ rfl rfl (Nat.le_of_ble_eq_true rfl) ⟨(Nat.le_of_ble_eq_true rfl), (Nat.le_of_ble_eq_true rfl)⟩ (RI.go (fun r50 S48 q49 => ?_))
    have h51 : FZ [g + 8, g + 9] [(g, 2), (g, 3), (g, 4), (g, 5), (g, 6), (g, 7), (g + 7, 2)] S S48 := (FZ.rf (X := [g + 8, g + 9]) (Y := [(g, 2), (g, 3), (g, 4), (g, 5), (g, 6), (g, 7), (g + 7, 2)]) (S := S)).tr (q49.sub (by simp) (by simp))
    refine V_callV 24 (ci := 2) [.int _, .int _] _ (s_write M.2.1 Γ S48 ((F.ss h51.1).sub 7 lyLaw rfl (by decide)) _ _) dX0_unit_24 cb_X2_write ml_RX0_83 im_yX2_write se_yX2_write ((F.ss h51.1).m 7 (Nat.le_of_ble_eq_true rfl)) ((F.ss h51.1).k 7 2 rfl) (Nat.le_of_ble_eq_true rfl) ⟨(Nat.le_of_ble_eq_true rfl), (Nat.le_of_ble_eq_true rfl)⟩ rfl rfl (Nat.le_of_ble_eq_true rfl) ⟨(Nat.le_of_ble_eq_true rfl), (Nat.le_of_ble_eq_true rfl)⟩ (RI.go (fun r54 S52 q53 => ?_))
    have h55 : FZ [g + 8, g + 9] [(g, 2), (g, 3), (g, 4), (g, 5), (g, 6), (g, 7), (g + 7, 2)] S S52 := h51.tr (q53.sub (by simp) (by simp))
    refine V_pop 27 dX0_unit_27 rfl ?_
    refine V_aload_0 28 dX0_unit_28 ?_
    refine V_iconst 29 (2) dX0_unit_29 (by decide) ?_
    refine V_callV 30 (ci := 0) [.int _] _ (s_step M.2.1 Γ S52 (F.ss h55.1) _) dX0_unit_30 cb_X0_step ml_RX0_51 im_yX0_step se_yX0_step ((F.ss h55.1).m 0 (Nat.le_of_ble_eq_true rfl)) ((F.ss h55.1).k 0 0 rfl) (Nat.le_of_ble_eq_true rfl) ⟨(Nat.le_of_ble_eq_true rfl), (Nat.le_of_ble_eq_true rfl)⟩ rfl rfl (Nat.le_of_ble_eq_true rfl) ⟨(Nat.le_of_ble_eq_true rfl), (Nat.le_of_ble_eq_true rfl)⟩ (RI.go (fun r58 S56 q57 => ?_))
    have h59 : FZ [g + 8, g + 9] [(g, 2), (g, 3), (g, 4), (g, 5), (g, 6), (g, 7), (g + 7, 2)] S S56 := h55.tr (q57.2.sub (by simp) (by simp))
    refine V_iret 33 .boolean dX0_unit_33 rfl (nrwB q57.1) (Nat.le_of_ble_eq_true rfl) (Nat.le_of_ble_eq_true rfl) (RI.mk ⟨q57.1, h59⟩)
set_option maxRecDepth 100000 in
set_option maxHeartbeats 8000000 in
theorem s_product2 (l : Launch) (Γ : GC) (S : PS) {g : Nat} (F : isL lyGrammar Γ.2.2.2.2.1 S g) (x : Int32) (hx : x = 2) : CT l Γ yX0_product cX0_product 5 (some .boolean) (15) (0) (0) [.ref g, .int x] S (RI (fun r S' => (r = 0 ∨ r = 1) ∧ FZ [g + 8, g + 9] [(g, 2), (g, 3), (g, 4), (g, 5), (g, 6), (g, 7), (g + 7, 2)] S S')) := by
  refine CT.of RX0 "product" [some (.ref g), some (.int x), none, none, none] (by decide +kernel) rfl rfl (Nat.le_of_ble_eq_true rfl) rfl (fun M hM => ?_)
  subst hM
  have J3 : ∀ (S1 : PS) (x4 : Int32) (x5 : Int32), FZ [g + 8, g + 9] [(g, 2), (g, 3), (g, 4), (g, 5), (g, 6), (g, 7), (g + 7, 2)] S S1 → (x4 = 0 ∨ x4 = 1) → V M Γ (5, RX0, "product", (some .boolean), RM (15) (0) (0)) cX0_product (RQ M Γ (RI (fun r S' => (r = 0 ∨ r = 1) ∧ FZ [g + 8, g + 9] [(g, 2), (g, 3), (g, 4), (g, 5), (g, 6), (g, 7), (g + 7, 2)] S S')) (0) (0)) 0 0 S1 83 [some (.ref g), some (.int x), some (.int x4), some (.int x5), none] [] := by
    intro S1 x4 x5 h2 hb_x4
    refine V_iload_2 83 dX0_product_83 ?_
    refine V_iret 84 .boolean dX0_product_84 rfl (nrwB hb_x4) (Nat.le_of_ble_eq_true rfl) (Nat.le_of_ble_eq_true rfl) (RI.mk ⟨hb_x4, h2⟩)
  refine V_aload_0 0 dX0_product_0 ?_
  refine V_iload_1 1 dX0_product_1 ?_
  refine V_callV 2 (ci := 0) [.int _] _ (s_unit2 M.2.1 Γ S F _ hx) dX0_product_2 cb_X0_unit ml_RX0_94 im_yX0_unit se_yX0_unit (F.m 0 (Nat.le_of_ble_eq_true rfl)) (F.k 0 0 rfl) (Nat.le_of_ble_eq_true rfl) ⟨(Nat.le_of_ble_eq_true rfl), (Nat.le_of_ble_eq_true rfl)⟩ rfl rfl (Nat.le_of_ble_eq_true rfl) ⟨(Nat.le_of_ble_eq_true rfl), (Nat.le_of_ble_eq_true rfl)⟩ (RI.go (fun r8 S6 q7 => ?_))
  have h9 : FZ [g + 8, g + 9] [(g, 2), (g, 3), (g, 4), (g, 5), (g, 6), (g, 7), (g + 7, 2)] S S6 := (FZ.rf (X := [g + 8, g + 9]) (Y := [(g, 2), (g, 3), (g, 4), (g, 5), (g, 6), (g, 7), (g + 7, 2)]) (S := S)).tr (q7.2.sub (by simp) (by simp))
  refine V_istore_2 5 dX0_product_5 rfl (Nat.le_of_ble_eq_true rfl) ?_
  refine V_iconst 6 (0) dX0_product_6 (by decide) ?_
  refine V_istore_3 7 dX0_product_7 rfl (Nat.le_of_ble_eq_true rfl) ?_
  refine V_lvw (by repeat (first | exact trivial | refine ⟨rfl, ?_⟩)) (V_while (α := Nat × PS × Int32) (fun z10 => 401 - z10.1) (fun z10 => z10.1 ≤ 401 ∧ FZ [g + 8, g + 9] [(g, 2), (g, 3), (g, 4), (g, 5), (g, 6), (g, 7), (g + 7, 2)] S z10.2.1 ∧ (z10.2.2 = 0 ∨ z10.2.2 = 1)) (fun z10 => z10.2.1) (fun z10 => [some (.ref g), some (.int x), some (.int z10.2.2), some (.int (nI z10.1)), none]) (0, _, _) ⟨Nat.zero_le _, h9, q7.1⟩ (fun z10 hx17 ih15 => ?b18))
  obtain ⟨i11, S12, w16⟩ := z10
  obtain ⟨hi13, h14, hb20⟩ := hx17
  dsimp only at hi13 h14 hb20 ih15 ⊢
  have J23 : ∀ (S21 : PS) (x24 : Int32) (x25 : Int32), FZ [g + 8, g + 9] [(g, 2), (g, 3), (g, 4), (g, 5), (g, 6), (g, 7), (g + 7, 2)] S S21 → i11 < 401 → (x24 = 0 ∨ x24 = 1) → V M Γ (5, RX0, "product", (some .boolean), RM (15) (0) (0)) cX0_product (RQ M Γ (RI (fun r S' => (r = 0 ∨ r = 1) ∧ FZ [g + 8, g + 9] [(g, 2), (g, 3), (g, 4), (g, 5), (g, 6), (g, 7), (g + 7, 2)] S S')) (0) (0)) 0 0 S21 64 [some (.ref g), some (.int x), some (.int x24), some (.int (nI i11)), some (.int x25)] [] := by
    intro S21 x24 x25 h22 lt26 hb_x24
    refine V_iconst 64 (0) dX0_product_64 (by decide) ?_
    refine V_istore_2 65 dX0_product_65 rfl (Nat.le_of_ble_eq_true rfl) ?_
    refine V_aload_0 66 dX0_product_66 ?_
    refine V_getR 67 (c := 0) 1 ((F.ss h22.1).r 0 1 7 rfl) dX0_product_67 fl_RX0_21 ((F.ss h22.1).m 0 (Nat.le_of_ble_eq_true rfl)) ((F.ss h22.1).k 0 0 rfl) (Nat.le_of_ble_eq_true rfl) (Nat.le_of_ble_eq_true rfl) rfl ?_
    refine V_iload_4 70 dX0_product_70 ?_
    refine V_iconst 72 (0) dX0_product_72 (by decide) ?_
    refine V_callV 73 (ci := 2) [.int _, .int _] _ (s_write M.2.1 Γ S21 ((F.ss h22.1).sub 7 lyLaw rfl (by decide)) _ _) dX0_product_73 cb_X2_write ml_RX0_83 im_yX2_write se_yX2_write ((F.ss h22.1).m 7 (Nat.le_of_ble_eq_true rfl)) ((F.ss h22.1).k 7 2 rfl) (Nat.le_of_ble_eq_true rfl) ⟨(Nat.le_of_ble_eq_true rfl), (Nat.le_of_ble_eq_true rfl)⟩ rfl rfl (Nat.le_of_ble_eq_true rfl) ⟨(Nat.le_of_ble_eq_true rfl), (Nat.le_of_ble_eq_true rfl)⟩ (RI.go (fun r29 S27 q28 => ?_))
    have h30 : FZ [g + 8, g + 9] [(g, 2), (g, 3), (g, 4), (g, 5), (g, 6), (g, 7), (g + 7, 2)] S S27 := h22.tr (q28.sub (by simp) (by simp))
    refine V_pop 76 dX0_product_76 rfl ?_
    refine V_iinc_3 77 (1) dX0_product_77 (by decide) rfl (Nat.le_of_ble_eq_true rfl) ?_
    refine V_goto 80 8 dX0_product_80 (by decide) ?_
    rw [← nI_succ]
    refine V_lvw (by repeat (first | exact trivial | refine ⟨rfl, ?_⟩)) (ih15 (i11 + 1, _, _) ⟨by dsimp only; omega, h30, (Or.inl rfl)⟩ (by dsimp only; omega))
  have J33 : ∀ (S31 : PS) (x34 : Int32), FZ [g + 8, g + 9] [(g, 2), (g, 3), (g, 4), (g, 5), (g, 6), (g, 7), (g + 7, 2)] S S31 → i11 < 401 → (x34 = 0 ∨ x34 = 1) → V M Γ (5, RX0, "product", (some .boolean), RM (15) (0) (0)) cX0_product (RQ M Γ (RI (fun r S' => (r = 0 ∨ r = 1) ∧ FZ [g + 8, g + 9] [(g, 2), (g, 3), (g, 4), (g, 5), (g, 6), (g, 7), (g + 7, 2)] S S')) (0) (0)) 0 0 S31 37 [some (.ref g), some (.int x), some (.int x34), some (.int (nI i11)), none] [] := by
    intro S31 x34 h32 lt35 hb_x34
    refine V_aload_0 37 dX0_product_37 ?_
    refine V_getI 38 (c := 0) 3 dX0_product_38 fl_RX0_36 ((F.ss h32.1).m 0 (Nat.le_of_ble_eq_true rfl)) ((F.ss h32.1).k 0 0 rfl) (Nat.le_of_ble_eq_true rfl) (Nat.le_of_ble_eq_true rfl) rfl ?_
    refine V_istore_4 41 dX0_product_41 rfl (Nat.le_of_ble_eq_true rfl) ?_
    refine V_aload_0 43 dX0_product_43 ?_
    refine V_iload_4 44 dX0_product_44 ?_
    refine V_callV 46 (ci := 0) [.int _] _ (s_step M.2.1 Γ S31 (F.ss h32.1) _) dX0_product_46 cb_X0_step ml_RX0_51 im_yX0_step se_yX0_step ((F.ss h32.1).m 0 (Nat.le_of_ble_eq_true rfl)) ((F.ss h32.1).k 0 0 rfl) (Nat.le_of_ble_eq_true rfl) ⟨(Nat.le_of_ble_eq_true rfl), (Nat.le_of_ble_eq_true rfl)⟩ rfl rfl (Nat.le_of_ble_eq_true rfl) ⟨(Nat.le_of_ble_eq_true rfl), (Nat.le_of_ble_eq_true rfl)⟩ (RI.go (fun r38 S36 q37 => ?_))
    have h39 : FZ [g + 8, g + 9] [(g, 2), (g, 3), (g, 4), (g, 5), (g, 6), (g, 7), (g + 7, 2)] S S36 := h32.tr (q37.2.sub (by simp) (by simp))
    refine V_if_eq 49 64 dX0_product_49 (by decide) (fun c40 => ?_) (fun c40 => ?_)
    ·
      refine V_lvw (by repeat (first | exact trivial | refine ⟨rfl, ?_⟩)) (J23 _ _ _ h39 (by first | omega | assumption) hb_x34)
    ·
      refine V_aload_0 52 dX0_product_52 ?_
      refine V_iload_1 53 dX0_product_53 ?_
      refine V_callV 54 (ci := 0) [.int _] _ (s_unit2 M.2.1 Γ S36 (F.ss h39.1) _ hx) dX0_product_54 cb_X0_unit ml_RX0_94 im_yX0_unit se_yX0_unit ((F.ss h39.1).m 0 (Nat.le_of_ble_eq_true rfl)) ((F.ss h39.1).k 0 0 rfl) (Nat.le_of_ble_eq_true rfl) ⟨(Nat.le_of_ble_eq_true rfl), (Nat.le_of_ble_eq_true rfl)⟩ rfl rfl (Nat.le_of_ble_eq_true rfl) ⟨(Nat.le_of_ble_eq_true rfl), (Nat.le_of_ble_eq_true rfl)⟩ (RI.go (fun r44 S42 q43 => ?_))
      have h45 : FZ [g + 8, g + 9] [(g, 2), (g, 3), (g, 4), (g, 5), (g, 6), (g, 7), (g + 7, 2)] S S42 := h39.tr (q43.2.sub (by simp) (by simp))
      refine V_if_eq 57 64 dX0_product_57 (by decide) (fun c46 => ?_) (fun c46 => ?_)
      ·
        refine V_lvw (by repeat (first | exact trivial | refine ⟨rfl, ?_⟩)) (J23 _ _ _ h45 (by first | omega | assumption) hb_x34)
      ·
        refine V_iconst 60 (1) dX0_product_60 (by decide) ?_
        refine V_goto 61 65 dX0_product_61 (by decide) ?_
        refine V_istore_2 65 dX0_product_65 rfl (Nat.le_of_ble_eq_true rfl) ?_
        refine V_aload_0 66 dX0_product_66 ?_
        refine V_getR 67 (c := 0) 1 ((F.ss h45.1).r 0 1 7 rfl) dX0_product_67 fl_RX0_21 ((F.ss h45.1).m 0 (Nat.le_of_ble_eq_true rfl)) ((F.ss h45.1).k 0 0 rfl) (Nat.le_of_ble_eq_true rfl) (Nat.le_of_ble_eq_true rfl) rfl ?_
        refine V_iload_4 70 dX0_product_70 ?_
        refine V_iconst 72 (0) dX0_product_72 (by decide) ?_
        refine V_callV 73 (ci := 2) [.int _, .int _] _ (s_write M.2.1 Γ S42 ((F.ss h45.1).sub 7 lyLaw rfl (by decide)) _ _) dX0_product_73 cb_X2_write ml_RX0_83 im_yX2_write se_yX2_write ((F.ss h45.1).m 7 (Nat.le_of_ble_eq_true rfl)) ((F.ss h45.1).k 7 2 rfl) (Nat.le_of_ble_eq_true rfl) ⟨(Nat.le_of_ble_eq_true rfl), (Nat.le_of_ble_eq_true rfl)⟩ rfl rfl (Nat.le_of_ble_eq_true rfl) ⟨(Nat.le_of_ble_eq_true rfl), (Nat.le_of_ble_eq_true rfl)⟩ (RI.go (fun r50 S48 q49 => ?_))
        have h51 : FZ [g + 8, g + 9] [(g, 2), (g, 3), (g, 4), (g, 5), (g, 6), (g, 7), (g + 7, 2)] S S48 := h45.tr (q49.sub (by simp) (by simp))
        refine V_pop 76 dX0_product_76 rfl ?_
        refine V_iinc_3 77 (1) dX0_product_77 (by decide) rfl (Nat.le_of_ble_eq_true rfl) ?_
        refine V_goto 80 8 dX0_product_80 (by decide) ?_
        rw [← nI_succ]
        refine V_lvw (by repeat (first | exact trivial | refine ⟨rfl, ?_⟩)) (ih15 (i11 + 1, _, _) ⟨by dsimp only; omega, h51, (Or.inr rfl)⟩ (by dsimp only; omega))
  refine V_iload_3 8 dX0_product_8 ?_
  refine V_sipush 9 (400) dX0_product_9 (by decide) ?_
  refine V_icmp_gt 12 83 dX0_product_12 (by decide) (fun c52 => ?_) (fun c52 => ?_)
  ·
    refine V_lvw (by repeat (first | exact trivial | refine ⟨rfl, ?_⟩)) (J3 _ _ _ h14 hb20)
  ·
    have lt54 := nI_ltg (n := 400) (by decide) hi13 c52
    refine V_iload_2 15 dX0_product_15 ?_
    refine V_if_eq 16 83 dX0_product_16 (by decide) (fun c55 => ?_) (fun c55 => ?_)
    ·
      refine V_lvw (by repeat (first | exact trivial | refine ⟨rfl, ?_⟩)) (J3 _ _ _ h14 hb20)
    ·
      refine V_aload_0 19 dX0_product_19 ?_
      refine V_getI 20 (c := 0) 3 dX0_product_20 fl_RX0_36 ((F.ss h14.1).m 0 (Nat.le_of_ble_eq_true rfl)) ((F.ss h14.1).k 0 0 rfl) (Nat.le_of_ble_eq_true rfl) (Nat.le_of_ble_eq_true rfl) rfl ?_
      refine V_bipush 23 (42) dX0_product_23 (by decide) ?_
      refine V_icmp_eq 25 37 dX0_product_25 (by decide) (fun c57 => ?_) (fun c57 => ?_)
      ·
        refine V_lvw (by repeat (first | exact trivial | refine ⟨rfl, ?_⟩)) (J33 _ _ h14 (by first | omega | assumption) hb20)
      ·
        refine V_aload_0 28 dX0_product_28 ?_
        refine V_getI 29 (c := 0) 3 dX0_product_29 fl_RX0_36 ((F.ss h14.1).m 0 (Nat.le_of_ble_eq_true rfl)) ((F.ss h14.1).k 0 0 rfl) (Nat.le_of_ble_eq_true rfl) (Nat.le_of_ble_eq_true rfl) rfl ?_
        refine V_bipush 32 (47) dX0_product_32 (by decide) ?_
        refine V_icmp_ne 34 83 dX0_product_34 (by decide) (fun c59 => ?_) (fun c59 => ?_)
        ·
          refine V_lvw (by repeat (first | exact trivial | refine ⟨rfl, ?_⟩)) (J3 _ _ _ h14 hb20)
        ·
          refine V_lvw (by repeat (first | exact trivial | refine ⟨rfl, ?_⟩)) (J33 _ _ h14 (by first | omega | assumption) hb20)
set_option maxRecDepth 100000 in
set_option maxHeartbeats 8000000 in
theorem s_sum2 (l : Launch) (Γ : GC) (S : PS) {g : Nat} (F : isL lyGrammar Γ.2.2.2.2.1 S g) (x : Int32) (hx : x = 2) : CT l Γ yX0_sum cX0_sum 5 (some .boolean) (16) (0) (0) [.ref g, .int x] S (RI (fun r S' => (r = 0 ∨ r = 1) ∧ FZ [g + 8, g + 9] [(g, 2), (g, 3), (g, 4), (g, 5), (g, 6), (g, 7), (g + 7, 2)] S S')) := by
  refine CT.of RX0 "sum" [some (.ref g), some (.int x), none, none, none] (by decide +kernel) rfl rfl (Nat.le_of_ble_eq_true rfl) rfl (fun M hM => ?_)
  subst hM
  have J3 : ∀ (S1 : PS) (x4 : Int32) (x5 : Int32), FZ [g + 8, g + 9] [(g, 2), (g, 3), (g, 4), (g, 5), (g, 6), (g, 7), (g + 7, 2)] S S1 → (x4 = 0 ∨ x4 = 1) → V M Γ (5, RX0, "sum", (some .boolean), RM (16) (0) (0)) cX0_sum (RQ M Γ (RI (fun r S' => (r = 0 ∨ r = 1) ∧ FZ [g + 8, g + 9] [(g, 2), (g, 3), (g, 4), (g, 5), (g, 6), (g, 7), (g + 7, 2)] S S')) (0) (0)) 0 0 S1 83 [some (.ref g), some (.int x), some (.int x4), some (.int x5), none] [] := by
    intro S1 x4 x5 h2 hb_x4
    refine V_iload_2 83 dX0_sum_83 ?_
    refine V_iret 84 .boolean dX0_sum_84 rfl (nrwB hb_x4) (Nat.le_of_ble_eq_true rfl) (Nat.le_of_ble_eq_true rfl) (RI.mk ⟨hb_x4, h2⟩)
  refine V_aload_0 0 dX0_sum_0 ?_
  refine V_iload_1 1 dX0_sum_1 ?_
  refine V_callV 2 (ci := 0) [.int _] _ (s_product2 M.2.1 Γ S F _ hx) dX0_sum_2 cb_X0_product ml_RX0_91 im_yX0_product se_yX0_product (F.m 0 (Nat.le_of_ble_eq_true rfl)) (F.k 0 0 rfl) (Nat.le_of_ble_eq_true rfl) ⟨(Nat.le_of_ble_eq_true rfl), (Nat.le_of_ble_eq_true rfl)⟩ rfl rfl (Nat.le_of_ble_eq_true rfl) ⟨(Nat.le_of_ble_eq_true rfl), (Nat.le_of_ble_eq_true rfl)⟩ (RI.go (fun r8 S6 q7 => ?_))
  have h9 : FZ [g + 8, g + 9] [(g, 2), (g, 3), (g, 4), (g, 5), (g, 6), (g, 7), (g + 7, 2)] S S6 := (FZ.rf (X := [g + 8, g + 9]) (Y := [(g, 2), (g, 3), (g, 4), (g, 5), (g, 6), (g, 7), (g + 7, 2)]) (S := S)).tr (q7.2.sub (by simp) (by simp))
  refine V_istore_2 5 dX0_sum_5 rfl (Nat.le_of_ble_eq_true rfl) ?_
  refine V_iconst 6 (0) dX0_sum_6 (by decide) ?_
  refine V_istore_3 7 dX0_sum_7 rfl (Nat.le_of_ble_eq_true rfl) ?_
  refine V_lvw (by repeat (first | exact trivial | refine ⟨rfl, ?_⟩)) (V_while (α := Nat × PS × Int32) (fun z10 => 401 - z10.1) (fun z10 => z10.1 ≤ 401 ∧ FZ [g + 8, g + 9] [(g, 2), (g, 3), (g, 4), (g, 5), (g, 6), (g, 7), (g + 7, 2)] S z10.2.1 ∧ (z10.2.2 = 0 ∨ z10.2.2 = 1)) (fun z10 => z10.2.1) (fun z10 => [some (.ref g), some (.int x), some (.int z10.2.2), some (.int (nI z10.1)), none]) (0, _, _) ⟨Nat.zero_le _, h9, q7.1⟩ (fun z10 hx17 ih15 => ?b18))
  obtain ⟨i11, S12, w16⟩ := z10
  obtain ⟨hi13, h14, hb20⟩ := hx17
  dsimp only at hi13 h14 hb20 ih15 ⊢
  have J23 : ∀ (S21 : PS) (x24 : Int32) (x25 : Int32), FZ [g + 8, g + 9] [(g, 2), (g, 3), (g, 4), (g, 5), (g, 6), (g, 7), (g + 7, 2)] S S21 → i11 < 401 → (x24 = 0 ∨ x24 = 1) → V M Γ (5, RX0, "sum", (some .boolean), RM (16) (0) (0)) cX0_sum (RQ M Γ (RI (fun r S' => (r = 0 ∨ r = 1) ∧ FZ [g + 8, g + 9] [(g, 2), (g, 3), (g, 4), (g, 5), (g, 6), (g, 7), (g + 7, 2)] S S')) (0) (0)) 0 0 S21 64 [some (.ref g), some (.int x), some (.int x24), some (.int (nI i11)), some (.int x25)] [] := by
    intro S21 x24 x25 h22 lt26 hb_x24
    refine V_iconst 64 (0) dX0_sum_64 (by decide) ?_
    refine V_istore_2 65 dX0_sum_65 rfl (Nat.le_of_ble_eq_true rfl) ?_
    refine V_aload_0 66 dX0_sum_66 ?_
    refine V_getR 67 (c := 0) 1 ((F.ss h22.1).r 0 1 7 rfl) dX0_sum_67 fl_RX0_21 ((F.ss h22.1).m 0 (Nat.le_of_ble_eq_true rfl)) ((F.ss h22.1).k 0 0 rfl) (Nat.le_of_ble_eq_true rfl) (Nat.le_of_ble_eq_true rfl) rfl ?_
    refine V_iload_4 70 dX0_sum_70 ?_
    refine V_iconst 72 (0) dX0_sum_72 (by decide) ?_
    refine V_callV 73 (ci := 2) [.int _, .int _] _ (s_write M.2.1 Γ S21 ((F.ss h22.1).sub 7 lyLaw rfl (by decide)) _ _) dX0_sum_73 cb_X2_write ml_RX0_83 im_yX2_write se_yX2_write ((F.ss h22.1).m 7 (Nat.le_of_ble_eq_true rfl)) ((F.ss h22.1).k 7 2 rfl) (Nat.le_of_ble_eq_true rfl) ⟨(Nat.le_of_ble_eq_true rfl), (Nat.le_of_ble_eq_true rfl)⟩ rfl rfl (Nat.le_of_ble_eq_true rfl) ⟨(Nat.le_of_ble_eq_true rfl), (Nat.le_of_ble_eq_true rfl)⟩ (RI.go (fun r29 S27 q28 => ?_))
    have h30 : FZ [g + 8, g + 9] [(g, 2), (g, 3), (g, 4), (g, 5), (g, 6), (g, 7), (g + 7, 2)] S S27 := h22.tr (q28.sub (by simp) (by simp))
    refine V_pop 76 dX0_sum_76 rfl ?_
    refine V_iinc_3 77 (1) dX0_sum_77 (by decide) rfl (Nat.le_of_ble_eq_true rfl) ?_
    refine V_goto 80 8 dX0_sum_80 (by decide) ?_
    rw [← nI_succ]
    refine V_lvw (by repeat (first | exact trivial | refine ⟨rfl, ?_⟩)) (ih15 (i11 + 1, _, _) ⟨by dsimp only; omega, h30, (Or.inl rfl)⟩ (by dsimp only; omega))
  have J33 : ∀ (S31 : PS) (x34 : Int32), FZ [g + 8, g + 9] [(g, 2), (g, 3), (g, 4), (g, 5), (g, 6), (g, 7), (g + 7, 2)] S S31 → i11 < 401 → (x34 = 0 ∨ x34 = 1) → V M Γ (5, RX0, "sum", (some .boolean), RM (16) (0) (0)) cX0_sum (RQ M Γ (RI (fun r S' => (r = 0 ∨ r = 1) ∧ FZ [g + 8, g + 9] [(g, 2), (g, 3), (g, 4), (g, 5), (g, 6), (g, 7), (g + 7, 2)] S S')) (0) (0)) 0 0 S31 37 [some (.ref g), some (.int x), some (.int x34), some (.int (nI i11)), none] [] := by
    intro S31 x34 h32 lt35 hb_x34
    refine V_aload_0 37 dX0_sum_37 ?_
    refine V_getI 38 (c := 0) 3 dX0_sum_38 fl_RX0_36 ((F.ss h32.1).m 0 (Nat.le_of_ble_eq_true rfl)) ((F.ss h32.1).k 0 0 rfl) (Nat.le_of_ble_eq_true rfl) (Nat.le_of_ble_eq_true rfl) rfl ?_
    refine V_istore_4 41 dX0_sum_41 rfl (Nat.le_of_ble_eq_true rfl) ?_
    refine V_aload_0 43 dX0_sum_43 ?_
    refine V_iload_4 44 dX0_sum_44 ?_
    refine V_callV 46 (ci := 0) [.int _] _ (s_step M.2.1 Γ S31 (F.ss h32.1) _) dX0_sum_46 cb_X0_step ml_RX0_51 im_yX0_step se_yX0_step ((F.ss h32.1).m 0 (Nat.le_of_ble_eq_true rfl)) ((F.ss h32.1).k 0 0 rfl) (Nat.le_of_ble_eq_true rfl) ⟨(Nat.le_of_ble_eq_true rfl), (Nat.le_of_ble_eq_true rfl)⟩ rfl rfl (Nat.le_of_ble_eq_true rfl) ⟨(Nat.le_of_ble_eq_true rfl), (Nat.le_of_ble_eq_true rfl)⟩ (RI.go (fun r38 S36 q37 => ?_))
    have h39 : FZ [g + 8, g + 9] [(g, 2), (g, 3), (g, 4), (g, 5), (g, 6), (g, 7), (g + 7, 2)] S S36 := h32.tr (q37.2.sub (by simp) (by simp))
    refine V_if_eq 49 64 dX0_sum_49 (by decide) (fun c40 => ?_) (fun c40 => ?_)
    ·
      refine V_lvw (by repeat (first | exact trivial | refine ⟨rfl, ?_⟩)) (J23 _ _ _ h39 (by first | omega | assumption) hb_x34)
    ·
      refine V_aload_0 52 dX0_sum_52 ?_
      refine V_iload_1 53 dX0_sum_53 ?_
      refine V_callV 54 (ci := 0) [.int _] _ (s_product2 M.2.1 Γ S36 (F.ss h39.1) _ hx) dX0_sum_54 cb_X0_product ml_RX0_91 im_yX0_product se_yX0_product ((F.ss h39.1).m 0 (Nat.le_of_ble_eq_true rfl)) ((F.ss h39.1).k 0 0 rfl) (Nat.le_of_ble_eq_true rfl) ⟨(Nat.le_of_ble_eq_true rfl), (Nat.le_of_ble_eq_true rfl)⟩ rfl rfl (Nat.le_of_ble_eq_true rfl) ⟨(Nat.le_of_ble_eq_true rfl), (Nat.le_of_ble_eq_true rfl)⟩ (RI.go (fun r44 S42 q43 => ?_))
      have h45 : FZ [g + 8, g + 9] [(g, 2), (g, 3), (g, 4), (g, 5), (g, 6), (g, 7), (g + 7, 2)] S S42 := h39.tr (q43.2.sub (by simp) (by simp))
      refine V_if_eq 57 64 dX0_sum_57 (by decide) (fun c46 => ?_) (fun c46 => ?_)
      ·
        refine V_lvw (by repeat (first | exact trivial | refine ⟨rfl, ?_⟩)) (J23 _ _ _ h45 (by first | omega | assumption) hb_x34)
      ·
        refine V_iconst 60 (1) dX0_sum_60 (by decide) ?_
        refine V_goto 61 65 dX0_sum_61 (by decide) ?_
        refine V_istore_2 65 dX0_sum_65 rfl (Nat.le_of_ble_eq_true rfl) ?_
        refine V_aload_0 66 dX0_sum_66 ?_
        refine V_getR 67 (c := 0) 1 ((F.ss h45.1).r 0 1 7 rfl) dX0_sum_67 fl_RX0_21 ((F.ss h45.1).m 0 (Nat.le_of_ble_eq_true rfl)) ((F.ss h45.1).k 0 0 rfl) (Nat.le_of_ble_eq_true rfl) (Nat.le_of_ble_eq_true rfl) rfl ?_
        refine V_iload_4 70 dX0_sum_70 ?_
        refine V_iconst 72 (0) dX0_sum_72 (by decide) ?_
        refine V_callV 73 (ci := 2) [.int _, .int _] _ (s_write M.2.1 Γ S42 ((F.ss h45.1).sub 7 lyLaw rfl (by decide)) _ _) dX0_sum_73 cb_X2_write ml_RX0_83 im_yX2_write se_yX2_write ((F.ss h45.1).m 7 (Nat.le_of_ble_eq_true rfl)) ((F.ss h45.1).k 7 2 rfl) (Nat.le_of_ble_eq_true rfl) ⟨(Nat.le_of_ble_eq_true rfl), (Nat.le_of_ble_eq_true rfl)⟩ rfl rfl (Nat.le_of_ble_eq_true rfl) ⟨(Nat.le_of_ble_eq_true rfl), (Nat.le_of_ble_eq_true rfl)⟩ (RI.go (fun r50 S48 q49 => ?_))
        have h51 : FZ [g + 8, g + 9] [(g, 2), (g, 3), (g, 4), (g, 5), (g, 6), (g, 7), (g + 7, 2)] S S48 := h45.tr (q49.sub (by simp) (by simp))
        refine V_pop 76 dX0_sum_76 rfl ?_
        refine V_iinc_3 77 (1) dX0_sum_77 (by decide) rfl (Nat.le_of_ble_eq_true rfl) ?_
        refine V_goto 80 8 dX0_sum_80 (by decide) ?_
        rw [← nI_succ]
        refine V_lvw (by repeat (first | exact trivial | refine ⟨rfl, ?_⟩)) (ih15 (i11 + 1, _, _) ⟨by dsimp only; omega, h51, (Or.inr rfl)⟩ (by dsimp only; omega))
  refine V_iload_3 8 dX0_sum_8 ?_
  refine V_sipush 9 (400) dX0_sum_9 (by decide) ?_
  refine V_icmp_gt 12 83 dX0_sum_12 (by decide) (fun c52 => ?_) (fun c52 => ?_)
  ·
    refine V_lvw (by repeat (first | exact trivial | refine ⟨rfl, ?_⟩)) (J3 _ _ _ h14 hb20)
  ·
    have lt54 := nI_ltg (n := 400) (by decide) hi13 c52
    refine V_iload_2 15 dX0_sum_15 ?_
    refine V_if_eq 16 83 dX0_sum_16 (by decide) (fun c55 => ?_) (fun c55 => ?_)
    ·
      refine V_lvw (by repeat (first | exact trivial | refine ⟨rfl, ?_⟩)) (J3 _ _ _ h14 hb20)
    ·
      refine V_aload_0 19 dX0_sum_19 ?_
      refine V_getI 20 (c := 0) 3 dX0_sum_20 fl_RX0_36 ((F.ss h14.1).m 0 (Nat.le_of_ble_eq_true rfl)) ((F.ss h14.1).k 0 0 rfl) (Nat.le_of_ble_eq_true rfl) (Nat.le_of_ble_eq_true rfl) rfl ?_
      refine V_bipush 23 (43) dX0_sum_23 (by decide) ?_
      refine V_icmp_eq 25 37 dX0_sum_25 (by decide) (fun c57 => ?_) (fun c57 => ?_)
      ·
        refine V_lvw (by repeat (first | exact trivial | refine ⟨rfl, ?_⟩)) (J33 _ _ h14 (by first | omega | assumption) hb20)
      ·
        refine V_aload_0 28 dX0_sum_28 ?_
        refine V_getI 29 (c := 0) 3 dX0_sum_29 fl_RX0_36 ((F.ss h14.1).m 0 (Nat.le_of_ble_eq_true rfl)) ((F.ss h14.1).k 0 0 rfl) (Nat.le_of_ble_eq_true rfl) (Nat.le_of_ble_eq_true rfl) rfl ?_
        refine V_bipush 32 (45) dX0_sum_32 (by decide) ?_
        refine V_icmp_ne 34 83 dX0_sum_34 (by decide) (fun c59 => ?_) (fun c59 => ?_)
        ·
          refine V_lvw (by repeat (first | exact trivial | refine ⟨rfl, ?_⟩)) (J3 _ _ _ h14 hb20)
        ·
          refine V_lvw (by repeat (first | exact trivial | refine ⟨rfl, ?_⟩)) (J33 _ _ h14 (by first | omega | assumption) hb20)
set_option maxRecDepth 100000 in
set_option maxHeartbeats 8000000 in
theorem s_unit1 (l : Launch) (Γ : GC) (S : PS) {g : Nat} (F : isL lyGrammar Γ.2.2.2.2.1 S g) (x : Int32) (hx : x = 1) : CT l Γ yX0_unit cX0_unit 2 (some .boolean) (17) (0) (0) [.ref g, .int x] S (RI (fun r S' => (r = 0 ∨ r = 1) ∧ FZ [g + 8, g + 9] [(g, 2), (g, 3), (g, 4), (g, 5), (g, 6), (g, 7), (g + 7, 2)] S S')) := by
  refine CT.of RX0 "unit" [some (.ref g), some (.int x)] (by decide +kernel) rfl rfl (Nat.le_of_ble_eq_true rfl) rfl (fun M hM => ?_)
  subst hM
  have J3 : ∀ (S1 : PS) , FZ [g + 8, g + 9] [(g, 2), (g, 3), (g, 4), (g, 5), (g, 6), (g, 7), (g + 7, 2)] S S1 → V M Γ (2, RX0, "unit", (some .boolean), RM (17) (0) (0)) cX0_unit (RQ M Γ (RI (fun r S' => (r = 0 ∨ r = 1) ∧ FZ [g + 8, g + 9] [(g, 2), (g, 3), (g, 4), (g, 5), (g, 6), (g, 7), (g + 7, 2)] S S')) (0) (0)) 0 0 S1 139 [some (.ref g), some (.int x)] [] := by
    intro S1  h2
    refine V_iconst 139 (0) dX0_unit_139 (by decide) ?_
    refine V_iret 140 .boolean dX0_unit_140 rfl (nrwB (Or.inl rfl)) (Nat.le_of_ble_eq_true rfl) (Nat.le_of_ble_eq_true rfl) (RI.mk ⟨(Or.inl rfl), h2⟩)
  have J6 : ∀ (S4 : PS) , FZ [g + 8, g + 9] [(g, 2), (g, 3), (g, 4), (g, 5), (g, 6), (g, 7), (g + 7, 2)] S S4 → V M Γ (2, RX0, "unit", (some .boolean), RM (17) (0) (0)) cX0_unit (RQ M Γ (RI (fun r S' => (r = 0 ∨ r = 1) ∧ FZ [g + 8, g + 9] [(g, 2), (g, 3), (g, 4), (g, 5), (g, 6), (g, 7), (g + 7, 2)] S S')) (0) (0)) 0 0 S4 80 [some (.ref g), some (.int x)] [] := by
    intro S4  h5
    refine V_aload_0 80 dX0_unit_80 ?_
    refine V_getI 81 (c := 0) 3 dX0_unit_81 fl_RX0_36 ((F.ss h5.1).m 0 (Nat.le_of_ble_eq_true rfl)) ((F.ss h5.1).k 0 0 rfl) (Nat.le_of_ble_eq_true rfl) (Nat.le_of_ble_eq_true rfl) rfl ?_
    refine V_bipush 84 (40) dX0_unit_84 (by decide) ?_
    refine V_icmp_eq 86 95 dX0_unit_86 (by decide) (fun c7 => ?_) (fun c7 => ?_)
    ·
      refine V_iload_1 95 dX0_unit_95 ?_
      refine V_bipush 96 (6) dX0_unit_96 (by decide) ?_
      refine V_icmp_lt 98 107 dX0_unit_98 (by decide) (fun c8 => ?_) (fun c8 => ?_)
      ·
        refine V_aload_0 107 dX0_unit_107 ?_
        refine V_bipush 108 (40) dX0_unit_108 (by decide) ?_
        refine V_callV 110 (ci := 0) [.int _] _ (s_step M.2.1 Γ S4 (F.ss h5.1) _) dX0_unit_110 cb_X0_step ml_RX0_51 im_yX0_step se_yX0_step ((F.ss h5.1).m 0 (Nat.le_of_ble_eq_true rfl)) ((F.ss h5.1).k 0 0 rfl) (Nat.le_of_ble_eq_true rfl) ⟨(Nat.le_of_ble_eq_true rfl), (Nat.le_of_ble_eq_true rfl)⟩ rfl rfl (Nat.le_of_ble_eq_true rfl) ⟨(Nat.le_of_ble_eq_true rfl), (Nat.le_of_ble_eq_true rfl)⟩ (RI.go (fun r11 S9 q10 => ?_))
        have h12 : FZ [g + 8, g + 9] [(g, 2), (g, 3), (g, 4), (g, 5), (g, 6), (g, 7), (g + 7, 2)] S S9 := h5.tr (q10.2.sub (by simp) (by simp))
        refine V_if_eq 113 139 dX0_unit_113 (by decide) (fun c13 => ?_) (fun c13 => ?_)
        ·
          refine V_lvw (by repeat (first | exact trivial | refine ⟨rfl, ?_⟩)) (J3 _ h12)
        ·
          refine V_aload_0 116 dX0_unit_116 ?_
          refine V_iload_1 117 dX0_unit_117 ?_
          refine V_iconst 118 (1) dX0_unit_118 (by decide) ?_
          refine V_iadd 119 dX0_unit_119 ?_
          refine V_callV 120 (ci := 0) [.int _] _ (s_sum2 M.2.1 Γ S9 (F.ss h12.1) _ (by rw [hx]; rfl)) dX0_unit_120 cb_X0_sum ml_RX0_80 im_yX0_sum se_yX0_sum ((F.ss h12.1).m 0 (Nat.le_of_ble_eq_true rfl)) ((F.ss h12.1).k 0 0 rfl) (Nat.le_of_ble_eq_true rfl) ⟨(Nat.le_of_ble_eq_true rfl), (Nat.le_of_ble_eq_true rfl)⟩ rfl rfl (Nat.le_of_ble_eq_true rfl) ⟨(Nat.le_of_ble_eq_true rfl), (Nat.le_of_ble_eq_true rfl)⟩ (RI.go (fun r17 S15 q16 => ?_))
          have h18 : FZ [g + 8, g + 9] [(g, 2), (g, 3), (g, 4), (g, 5), (g, 6), (g, 7), (g + 7, 2)] S S15 := h12.tr (q16.2.sub (by simp) (by simp))
          refine V_if_eq 123 139 dX0_unit_123 (by decide) (fun c19 => ?_) (fun c19 => ?_)
          ·
            refine V_lvw (by repeat (first | exact trivial | refine ⟨rfl, ?_⟩)) (J3 _ h18)
          ·
            refine V_aload_0 126 dX0_unit_126 ?_
            refine V_bipush 127 (41) dX0_unit_127 (by decide) ?_
            refine V_callV 129 (ci := 0) [.int _] _ (s_step M.2.1 Γ S15 (F.ss h18.1) _) dX0_unit_129 cb_X0_step ml_RX0_51 im_yX0_step se_yX0_step ((F.ss h18.1).m 0 (Nat.le_of_ble_eq_true rfl)) ((F.ss h18.1).k 0 0 rfl) (Nat.le_of_ble_eq_true rfl) ⟨(Nat.le_of_ble_eq_true rfl), (Nat.le_of_ble_eq_true rfl)⟩ rfl rfl (Nat.le_of_ble_eq_true rfl) ⟨(Nat.le_of_ble_eq_true rfl), (Nat.le_of_ble_eq_true rfl)⟩ (RI.go (fun r23 S21 q22 => ?_))
            have h24 : FZ [g + 8, g + 9] [(g, 2), (g, 3), (g, 4), (g, 5), (g, 6), (g, 7), (g + 7, 2)] S S21 := h18.tr (q22.2.sub (by simp) (by simp))
            refine V_if_eq 132 139 dX0_unit_132 (by decide) (fun c25 => ?_) (fun c25 => ?_)
            ·
              refine V_lvw (by repeat (first | exact trivial | refine ⟨rfl, ?_⟩)) (J3 _ h24)
            ·
              refine V_iconst 135 (1) dX0_unit_135 (by decide) ?_
              refine V_goto 136 140 dX0_unit_136 (by decide) ?_
              refine V_iret 140 .boolean dX0_unit_140 rfl (nrwB (Or.inr rfl)) (Nat.le_of_ble_eq_true rfl) (Nat.le_of_ble_eq_true rfl) (RI.mk ⟨(Or.inr rfl), h24⟩)
      ·
        refine V_aload_0 101 dX0_unit_101 ?_
        refine V_iconst 102 (2) dX0_unit_102 (by decide) ?_
        refine V_callV 103 (ci := 0) [.int _] _ (s_gfail M.2.1 Γ S4 (F.ss h5.1) _) dX0_unit_103 cb_X0_fail ml_RX0_74 im_yX0_fail se_yX0_fail ((F.ss h5.1).m 0 (Nat.le_of_ble_eq_true rfl)) ((F.ss h5.1).k 0 0 rfl) (Nat.le_of_ble_eq_true rfl) ⟨(Nat.le_of_ble_eq_true rfl), (Nat.le_of_ble_eq_true rfl)⟩ rfl rfl (Nat.le_of_ble_eq_true rfl) ⟨(Nat.le_of_ble_eq_true rfl), (Nat.le_of_ble_eq_true rfl)⟩ (RI.go (fun r29 S27 q28 => ?_))
        have h30 : FZ [g + 8, g + 9] [(g, 2), (g, 3), (g, 4), (g, 5), (g, 6), (g, 7), (g + 7, 2)] S S27 := h5.tr (q28.2.sub (by simp) (by simp))
        refine V_iret 106 .boolean dX0_unit_106 rfl (nrwB q28.1) (Nat.le_of_ble_eq_true rfl) (Nat.le_of_ble_eq_true rfl) (RI.mk ⟨q28.1, h30⟩)
    ·
      refine V_aload_0 89 dX0_unit_89 ?_
      refine V_iconst 90 (1) dX0_unit_90 (by decide) ?_
      refine V_callV 91 (ci := 0) [.int _] _ (s_gfail M.2.1 Γ S4 (F.ss h5.1) _) dX0_unit_91 cb_X0_fail ml_RX0_74 im_yX0_fail se_yX0_fail ((F.ss h5.1).m 0 (Nat.le_of_ble_eq_true rfl)) ((F.ss h5.1).k 0 0 rfl) (Nat.le_of_ble_eq_true rfl) ⟨(Nat.le_of_ble_eq_true rfl), (Nat.le_of_ble_eq_true rfl)⟩ rfl rfl (Nat.le_of_ble_eq_true rfl) ⟨(Nat.le_of_ble_eq_true rfl), (Nat.le_of_ble_eq_true rfl)⟩ (RI.go (fun r33 S31 q32 => ?_))
      have h34 : FZ [g + 8, g + 9] [(g, 2), (g, 3), (g, 4), (g, 5), (g, 6), (g, 7), (g + 7, 2)] S S31 := h5.tr (q32.2.sub (by simp) (by simp))
      refine V_iret 94 .boolean dX0_unit_94 rfl (nrwB q32.1) (Nat.le_of_ble_eq_true rfl) (Nat.le_of_ble_eq_true rfl) (RI.mk ⟨q32.1, h34⟩)
  refine V_aload_0 0 dX0_unit_0 ?_
  refine V_getI 1 (c := 0) 3 dX0_unit_1 fl_RX0_36 (F.m 0 (Nat.le_of_ble_eq_true rfl)) (F.k 0 0 rfl) (Nat.le_of_ble_eq_true rfl) (Nat.le_of_ble_eq_true rfl) rfl ?_
  refine V_iconst 4 (2) dX0_unit_4 (by decide) ?_
  refine V_icmp_ne 5 34 dX0_unit_5 (by decide) (fun c35 => ?_) (fun c35 => ?_)
  ·
    refine V_aload_0 34 dX0_unit_34 ?_
    refine V_getI 35 (c := 0) 3 dX0_unit_35 fl_RX0_36 (F.m 0 (Nat.le_of_ble_eq_true rfl)) (F.k 0 0 rfl) (Nat.le_of_ble_eq_true rfl) (Nat.le_of_ble_eq_true rfl) rfl ?_
    refine V_sipush 38 (145) dX0_unit_38 (by decide) ?_
    refine V_icmp_lt 41 80 dX0_unit_41 (by decide) (fun c36 => ?_) (fun c36 => ?_)
    ·
      refine V_lvw (by repeat (first | exact trivial | refine ⟨rfl, ?_⟩)) (J6 _ FZ.rf)
    ·
      refine V_aload_0 44 dX0_unit_44 ?_
      refine V_getI 45 (c := 0) 3 dX0_unit_45 fl_RX0_36 (F.m 0 (Nat.le_of_ble_eq_true rfl)) (F.k 0 0 rfl) (Nat.le_of_ble_eq_true rfl) (Nat.le_of_ble_eq_true rfl) rfl ?_
      refine V_sipush 48 (149) dX0_unit_48 (by decide) ?_
      refine V_icmp_gt 51 80 dX0_unit_51 (by decide) (fun c38 => ?_) (fun c38 => ?_)
      ·
        refine V_lvw (by repeat (first | exact trivial | refine ⟨rfl, ?_⟩)) (J6 _ FZ.rf)
      ·
        refine V_aload_0 54 dX0_unit_54 ?_
        refine V_getR 55 (c := 0) 1 (F.r 0 1 7 rfl) dX0_unit_55 fl_RX0_21 (F.m 0 (Nat.le_of_ble_eq_true rfl)) (F.k 0 0 rfl) (Nat.le_of_ble_eq_true rfl) (Nat.le_of_ble_eq_true rfl) rfl ?_
        refine V_iconst 58 (1) dX0_unit_58 (by decide) ?_
        refine V_aload_0 59 dX0_unit_59 ?_
        refine V_getI 60 (c := 0) 3 dX0_unit_60 fl_RX0_36 (F.m 0 (Nat.le_of_ble_eq_true rfl)) (F.k 0 0 rfl) (Nat.le_of_ble_eq_true rfl) (Nat.le_of_ble_eq_true rfl) rfl ?_
        refine V_sipush 63 (145) dX0_unit_63 (by decide) ?_
        refine V_isub 66 dX0_unit_66 ?_
        refine V_callV 67 (ci := 2) [.int _, .int _] _ (s_write M.2.1 Γ S (F.sub 7 lyLaw rfl (by decide)) _ _) dX0_unit_67 cb_X2_write ml_RX0_83 im_yX2_write se_yX2_write (F.m 7 (Nat.le_of_ble_eq_true rfl)) (F.k 7 2 rfl) (Nat.le_of_ble_eq_true rfl) ⟨(Nat.le_of_ble_eq_true rfl), (Nat.le_of_ble_eq_true rfl)⟩ rfl rfl (Nat.le_of_ble_eq_true rfl) ⟨(Nat.le_of_ble_eq_true rfl), (Nat.le_of_ble_eq_true rfl)⟩ (RI.go (fun r42 S40 q41 => ?_))
        have h43 : FZ [g + 8, g + 9] [(g, 2), (g, 3), (g, 4), (g, 5), (g, 6), (g, 7), (g + 7, 2)] S S40 := (FZ.rf (X := [g + 8, g + 9]) (Y := [(g, 2), (g, 3), (g, 4), (g, 5), (g, 6), (g, 7), (g + 7, 2)]) (S := S)).tr (q41.sub (by simp) (by simp))
        refine V_pop 70 dX0_unit_70 rfl ?_
        refine V_aload_0 71 dX0_unit_71 ?_
        refine V_aload_0 72 dX0_unit_72 ?_
        refine V_getI 73 (c := 0) 3 dX0_unit_73 fl_RX0_36 ((F.ss h43.1).m 0 (Nat.le_of_ble_eq_true rfl)) ((F.ss h43.1).k 0 0 rfl) (Nat.le_of_ble_eq_true rfl) (Nat.le_of_ble_eq_true rfl) rfl ?_
        refine V_callV 76 (ci := 0) [.int _] _ (s_step M.2.1 Γ S40 (F.ss h43.1) _) dX0_unit_76 cb_X0_step ml_RX0_51 im_yX0_step se_yX0_step ((F.ss h43.1).m 0 (Nat.le_of_ble_eq_true rfl)) ((F.ss h43.1).k 0 0 rfl) (Nat.le_of_ble_eq_true rfl) ⟨(Nat.le_of_ble_eq_true rfl), (Nat.le_of_ble_eq_true rfl)⟩ rfl rfl (Nat.le_of_ble_eq_true rfl) ⟨(Nat.le_of_ble_eq_true rfl), (Nat.le_of_ble_eq_true rfl)⟩ (RI.go (fun r46 S44 q45 => ?_))
        have h47 : FZ [g + 8, g + 9] [(g, 2), (g, 3), (g, 4), (g, 5), (g, 6), (g, 7), (g + 7, 2)] S S44 := h43.tr (q45.2.sub (by simp) (by simp))
        refine V_iret 79 .boolean dX0_unit_79 rfl (nrwB q45.1) (Nat.le_of_ble_eq_true rfl) (Nat.le_of_ble_eq_true rfl) (RI.mk ⟨q45.1, h47⟩)
  ·
    refine V_aload_0 8 dX0_unit_8 ?_
    refine V_getR 9 (c := 0) 1 (F.r 0 1 7 rfl) dX0_unit_9 fl_RX0_21 (F.m 0 (Nat.le_of_ble_eq_true rfl)) (F.k 0 0 rfl) (Nat.le_of_ble_eq_true rfl) (Nat.le_of_ble_eq_true rfl) rfl ?_
    refine V_iconst 12 (2) dX0_unit_12 (by decide) ?_
    refine V_aload_0 13 dX0_unit_13 ?_
    refine V_getR 14 (c := 0) 0 (F.r 0 0 1 rfl) dX0_unit_14 fl_RX0_12 (F.m 0 (Nat.le_of_ble_eq_true rfl)) (F.k 0 0 rfl) (Nat.le_of_ble_eq_true rfl) (Nat.le_of_ble_eq_true rfl) rfl ?_
    refine V_aload_0 17 dX0_unit_17 ?_
    refine V_getI 18 (c := 0) 2 dX0_unit_18 fl_RX0_28 (F.m 0 (Nat.le_of_ble_eq_true rfl)) (F.k 0 0 rfl) (Nat.le_of_ble_eq_true rfl) (Nat.le_of_ble_eq_true rfl) rfl ?_
    refine V_callV 21 (ci := 8) [.int _] _ (s_intAt M.2.1 Γ S (F.sub 1 lyTape rfl (by decide)) _) dX0_unit_21 cb_X8_intAt ml_RX0_97 im_yX8_intAt se_yX8_intAt (F.m 1 (Nat.le_of_ble_eq_true rfl)) (F.k 1 8 rfl) (Nat.le_of_ble_eq_true rfl) ⟨(Nat.le_of_ble_eq_true rfl), (Nat.le_of_ble_eq_true rfl)⟩ rfl rfl (Nat.le_of_ble_eq_true rfl) ⟨(Nat.le_of_ble_eq_true rfl), (Nat.le_of_ble_eq_true rfl)⟩ (RI.go (fun r50 S48 q49 => ?_))
    have h51 : FZ [g + 8, g + 9] [(g, 2), (g, 3), (g, 4), (g, 5), (g, 6), (g, 7), (g + 7, 2)] S S48 := (FZ.rf (X := [g + 8, g + 9]) (Y := [(g, 2), (g, 3), (g, 4), (g, 5), (g, 6), (g, 7), (g + 7, 2)]) (S := S)).tr (q49.sub (by simp) (by simp))
    refine V_callV 24 (ci := 2) [.int _, .int _] _ (s_write M.2.1 Γ S48 ((F.ss h51.1).sub 7 lyLaw rfl (by decide)) _ _) dX0_unit_24 cb_X2_write ml_RX0_83 im_yX2_write se_yX2_write ((F.ss h51.1).m 7 (Nat.le_of_ble_eq_true rfl)) ((F.ss h51.1).k 7 2 rfl) (Nat.le_of_ble_eq_true rfl) ⟨(Nat.le_of_ble_eq_true rfl), (Nat.le_of_ble_eq_true rfl)⟩ rfl rfl (Nat.le_of_ble_eq_true rfl) ⟨(Nat.le_of_ble_eq_true rfl), (Nat.le_of_ble_eq_true rfl)⟩ (RI.go (fun r54 S52 q53 => ?_))
    have h55 : FZ [g + 8, g + 9] [(g, 2), (g, 3), (g, 4), (g, 5), (g, 6), (g, 7), (g + 7, 2)] S S52 := h51.tr (q53.sub (by simp) (by simp))
    refine V_pop 27 dX0_unit_27 rfl ?_
    refine V_aload_0 28 dX0_unit_28 ?_
    refine V_iconst 29 (2) dX0_unit_29 (by decide) ?_
    refine V_callV 30 (ci := 0) [.int _] _ (s_step M.2.1 Γ S52 (F.ss h55.1) _) dX0_unit_30 cb_X0_step ml_RX0_51 im_yX0_step se_yX0_step ((F.ss h55.1).m 0 (Nat.le_of_ble_eq_true rfl)) ((F.ss h55.1).k 0 0 rfl) (Nat.le_of_ble_eq_true rfl) ⟨(Nat.le_of_ble_eq_true rfl), (Nat.le_of_ble_eq_true rfl)⟩ rfl rfl (Nat.le_of_ble_eq_true rfl) ⟨(Nat.le_of_ble_eq_true rfl), (Nat.le_of_ble_eq_true rfl)⟩ (RI.go (fun r58 S56 q57 => ?_))
    have h59 : FZ [g + 8, g + 9] [(g, 2), (g, 3), (g, 4), (g, 5), (g, 6), (g, 7), (g + 7, 2)] S S56 := h55.tr (q57.2.sub (by simp) (by simp))
    refine V_iret 33 .boolean dX0_unit_33 rfl (nrwB q57.1) (Nat.le_of_ble_eq_true rfl) (Nat.le_of_ble_eq_true rfl) (RI.mk ⟨q57.1, h59⟩)
set_option maxRecDepth 100000 in
set_option maxHeartbeats 8000000 in
theorem s_product1 (l : Launch) (Γ : GC) (S : PS) {g : Nat} (F : isL lyGrammar Γ.2.2.2.2.1 S g) (x : Int32) (hx : x = 1) : CT l Γ yX0_product cX0_product 5 (some .boolean) (18) (0) (0) [.ref g, .int x] S (RI (fun r S' => (r = 0 ∨ r = 1) ∧ FZ [g + 8, g + 9] [(g, 2), (g, 3), (g, 4), (g, 5), (g, 6), (g, 7), (g + 7, 2)] S S')) := by
  refine CT.of RX0 "product" [some (.ref g), some (.int x), none, none, none] (by decide +kernel) rfl rfl (Nat.le_of_ble_eq_true rfl) rfl (fun M hM => ?_)
  subst hM
  have J3 : ∀ (S1 : PS) (x4 : Int32) (x5 : Int32), FZ [g + 8, g + 9] [(g, 2), (g, 3), (g, 4), (g, 5), (g, 6), (g, 7), (g + 7, 2)] S S1 → (x4 = 0 ∨ x4 = 1) → V M Γ (5, RX0, "product", (some .boolean), RM (18) (0) (0)) cX0_product (RQ M Γ (RI (fun r S' => (r = 0 ∨ r = 1) ∧ FZ [g + 8, g + 9] [(g, 2), (g, 3), (g, 4), (g, 5), (g, 6), (g, 7), (g + 7, 2)] S S')) (0) (0)) 0 0 S1 83 [some (.ref g), some (.int x), some (.int x4), some (.int x5), none] [] := by
    intro S1 x4 x5 h2 hb_x4
    refine V_iload_2 83 dX0_product_83 ?_
    refine V_iret 84 .boolean dX0_product_84 rfl (nrwB hb_x4) (Nat.le_of_ble_eq_true rfl) (Nat.le_of_ble_eq_true rfl) (RI.mk ⟨hb_x4, h2⟩)
  refine V_aload_0 0 dX0_product_0 ?_
  refine V_iload_1 1 dX0_product_1 ?_
  refine V_callV 2 (ci := 0) [.int _] _ (s_unit1 M.2.1 Γ S F _ hx) dX0_product_2 cb_X0_unit ml_RX0_94 im_yX0_unit se_yX0_unit (F.m 0 (Nat.le_of_ble_eq_true rfl)) (F.k 0 0 rfl) (Nat.le_of_ble_eq_true rfl) ⟨(Nat.le_of_ble_eq_true rfl), (Nat.le_of_ble_eq_true rfl)⟩ rfl rfl (Nat.le_of_ble_eq_true rfl) ⟨(Nat.le_of_ble_eq_true rfl), (Nat.le_of_ble_eq_true rfl)⟩ (RI.go (fun r8 S6 q7 => ?_))
  have h9 : FZ [g + 8, g + 9] [(g, 2), (g, 3), (g, 4), (g, 5), (g, 6), (g, 7), (g + 7, 2)] S S6 := (FZ.rf (X := [g + 8, g + 9]) (Y := [(g, 2), (g, 3), (g, 4), (g, 5), (g, 6), (g, 7), (g + 7, 2)]) (S := S)).tr (q7.2.sub (by simp) (by simp))
  refine V_istore_2 5 dX0_product_5 rfl (Nat.le_of_ble_eq_true rfl) ?_
  refine V_iconst 6 (0) dX0_product_6 (by decide) ?_
  refine V_istore_3 7 dX0_product_7 rfl (Nat.le_of_ble_eq_true rfl) ?_
  refine V_lvw (by repeat (first | exact trivial | refine ⟨rfl, ?_⟩)) (V_while (α := Nat × PS × Int32) (fun z10 => 401 - z10.1) (fun z10 => z10.1 ≤ 401 ∧ FZ [g + 8, g + 9] [(g, 2), (g, 3), (g, 4), (g, 5), (g, 6), (g, 7), (g + 7, 2)] S z10.2.1 ∧ (z10.2.2 = 0 ∨ z10.2.2 = 1)) (fun z10 => z10.2.1) (fun z10 => [some (.ref g), some (.int x), some (.int z10.2.2), some (.int (nI z10.1)), none]) (0, _, _) ⟨Nat.zero_le _, h9, q7.1⟩ (fun z10 hx17 ih15 => ?b18))
  obtain ⟨i11, S12, w16⟩ := z10
  obtain ⟨hi13, h14, hb20⟩ := hx17
  dsimp only at hi13 h14 hb20 ih15 ⊢
  have J23 : ∀ (S21 : PS) (x24 : Int32) (x25 : Int32), FZ [g + 8, g + 9] [(g, 2), (g, 3), (g, 4), (g, 5), (g, 6), (g, 7), (g + 7, 2)] S S21 → i11 < 401 → (x24 = 0 ∨ x24 = 1) → V M Γ (5, RX0, "product", (some .boolean), RM (18) (0) (0)) cX0_product (RQ M Γ (RI (fun r S' => (r = 0 ∨ r = 1) ∧ FZ [g + 8, g + 9] [(g, 2), (g, 3), (g, 4), (g, 5), (g, 6), (g, 7), (g + 7, 2)] S S')) (0) (0)) 0 0 S21 64 [some (.ref g), some (.int x), some (.int x24), some (.int (nI i11)), some (.int x25)] [] := by
    intro S21 x24 x25 h22 lt26 hb_x24
    refine V_iconst 64 (0) dX0_product_64 (by decide) ?_
    refine V_istore_2 65 dX0_product_65 rfl (Nat.le_of_ble_eq_true rfl) ?_
    refine V_aload_0 66 dX0_product_66 ?_
    refine V_getR 67 (c := 0) 1 ((F.ss h22.1).r 0 1 7 rfl) dX0_product_67 fl_RX0_21 ((F.ss h22.1).m 0 (Nat.le_of_ble_eq_true rfl)) ((F.ss h22.1).k 0 0 rfl) (Nat.le_of_ble_eq_true rfl) (Nat.le_of_ble_eq_true rfl) rfl ?_
    refine V_iload_4 70 dX0_product_70 ?_
    refine V_iconst 72 (0) dX0_product_72 (by decide) ?_
    refine V_callV 73 (ci := 2) [.int _, .int _] _ (s_write M.2.1 Γ S21 ((F.ss h22.1).sub 7 lyLaw rfl (by decide)) _ _) dX0_product_73 cb_X2_write ml_RX0_83 im_yX2_write se_yX2_write ((F.ss h22.1).m 7 (Nat.le_of_ble_eq_true rfl)) ((F.ss h22.1).k 7 2 rfl) (Nat.le_of_ble_eq_true rfl) ⟨(Nat.le_of_ble_eq_true rfl), (Nat.le_of_ble_eq_true rfl)⟩ rfl rfl (Nat.le_of_ble_eq_true rfl) ⟨(Nat.le_of_ble_eq_true rfl), (Nat.le_of_ble_eq_true rfl)⟩ (RI.go (fun r29 S27 q28 => ?_))
    have h30 : FZ [g + 8, g + 9] [(g, 2), (g, 3), (g, 4), (g, 5), (g, 6), (g, 7), (g + 7, 2)] S S27 := h22.tr (q28.sub (by simp) (by simp))
    refine V_pop 76 dX0_product_76 rfl ?_
    refine V_iinc_3 77 (1) dX0_product_77 (by decide) rfl (Nat.le_of_ble_eq_true rfl) ?_
    refine V_goto 80 8 dX0_product_80 (by decide) ?_
    rw [← nI_succ]
    refine V_lvw (by repeat (first | exact trivial | refine ⟨rfl, ?_⟩)) (ih15 (i11 + 1, _, _) ⟨by dsimp only; omega, h30, (Or.inl rfl)⟩ (by dsimp only; omega))
  have J33 : ∀ (S31 : PS) (x34 : Int32), FZ [g + 8, g + 9] [(g, 2), (g, 3), (g, 4), (g, 5), (g, 6), (g, 7), (g + 7, 2)] S S31 → i11 < 401 → (x34 = 0 ∨ x34 = 1) → V M Γ (5, RX0, "product", (some .boolean), RM (18) (0) (0)) cX0_product (RQ M Γ (RI (fun r S' => (r = 0 ∨ r = 1) ∧ FZ [g + 8, g + 9] [(g, 2), (g, 3), (g, 4), (g, 5), (g, 6), (g, 7), (g + 7, 2)] S S')) (0) (0)) 0 0 S31 37 [some (.ref g), some (.int x), some (.int x34), some (.int (nI i11)), none] [] := by
    intro S31 x34 h32 lt35 hb_x34
    refine V_aload_0 37 dX0_product_37 ?_
    refine V_getI 38 (c := 0) 3 dX0_product_38 fl_RX0_36 ((F.ss h32.1).m 0 (Nat.le_of_ble_eq_true rfl)) ((F.ss h32.1).k 0 0 rfl) (Nat.le_of_ble_eq_true rfl) (Nat.le_of_ble_eq_true rfl) rfl ?_
    refine V_istore_4 41 dX0_product_41 rfl (Nat.le_of_ble_eq_true rfl) ?_
    refine V_aload_0 43 dX0_product_43 ?_
    refine V_iload_4 44 dX0_product_44 ?_
    refine V_callV 46 (ci := 0) [.int _] _ (s_step M.2.1 Γ S31 (F.ss h32.1) _) dX0_product_46 cb_X0_step ml_RX0_51 im_yX0_step se_yX0_step ((F.ss h32.1).m 0 (Nat.le_of_ble_eq_true rfl)) ((F.ss h32.1).k 0 0 rfl) (Nat.le_of_ble_eq_true rfl) ⟨(Nat.le_of_ble_eq_true rfl), (Nat.le_of_ble_eq_true rfl)⟩ rfl rfl (Nat.le_of_ble_eq_true rfl) ⟨(Nat.le_of_ble_eq_true rfl), (Nat.le_of_ble_eq_true rfl)⟩ (RI.go (fun r38 S36 q37 => ?_))
    have h39 : FZ [g + 8, g + 9] [(g, 2), (g, 3), (g, 4), (g, 5), (g, 6), (g, 7), (g + 7, 2)] S S36 := h32.tr (q37.2.sub (by simp) (by simp))
    refine V_if_eq 49 64 dX0_product_49 (by decide) (fun c40 => ?_) (fun c40 => ?_)
    ·
      refine V_lvw (by repeat (first | exact trivial | refine ⟨rfl, ?_⟩)) (J23 _ _ _ h39 (by first | omega | assumption) hb_x34)
    ·
      refine V_aload_0 52 dX0_product_52 ?_
      refine V_iload_1 53 dX0_product_53 ?_
      refine V_callV 54 (ci := 0) [.int _] _ (s_unit1 M.2.1 Γ S36 (F.ss h39.1) _ hx) dX0_product_54 cb_X0_unit ml_RX0_94 im_yX0_unit se_yX0_unit ((F.ss h39.1).m 0 (Nat.le_of_ble_eq_true rfl)) ((F.ss h39.1).k 0 0 rfl) (Nat.le_of_ble_eq_true rfl) ⟨(Nat.le_of_ble_eq_true rfl), (Nat.le_of_ble_eq_true rfl)⟩ rfl rfl (Nat.le_of_ble_eq_true rfl) ⟨(Nat.le_of_ble_eq_true rfl), (Nat.le_of_ble_eq_true rfl)⟩ (RI.go (fun r44 S42 q43 => ?_))
      have h45 : FZ [g + 8, g + 9] [(g, 2), (g, 3), (g, 4), (g, 5), (g, 6), (g, 7), (g + 7, 2)] S S42 := h39.tr (q43.2.sub (by simp) (by simp))
      refine V_if_eq 57 64 dX0_product_57 (by decide) (fun c46 => ?_) (fun c46 => ?_)
      ·
        refine V_lvw (by repeat (first | exact trivial | refine ⟨rfl, ?_⟩)) (J23 _ _ _ h45 (by first | omega | assumption) hb_x34)
      ·
        refine V_iconst 60 (1) dX0_product_60 (by decide) ?_
        refine V_goto 61 65 dX0_product_61 (by decide) ?_
        refine V_istore_2 65 dX0_product_65 rfl (Nat.le_of_ble_eq_true rfl) ?_
        refine V_aload_0 66 dX0_product_66 ?_
        refine V_getR 67 (c := 0) 1 ((F.ss h45.1).r 0 1 7 rfl) dX0_product_67 fl_RX0_21 ((F.ss h45.1).m 0 (Nat.le_of_ble_eq_true rfl)) ((F.ss h45.1).k 0 0 rfl) (Nat.le_of_ble_eq_true rfl) (Nat.le_of_ble_eq_true rfl) rfl ?_
        refine V_iload_4 70 dX0_product_70 ?_
        refine V_iconst 72 (0) dX0_product_72 (by decide) ?_
        refine V_callV 73 (ci := 2) [.int _, .int _] _ (s_write M.2.1 Γ S42 ((F.ss h45.1).sub 7 lyLaw rfl (by decide)) _ _) dX0_product_73 cb_X2_write ml_RX0_83 im_yX2_write se_yX2_write ((F.ss h45.1).m 7 (Nat.le_of_ble_eq_true rfl)) ((F.ss h45.1).k 7 2 rfl) (Nat.le_of_ble_eq_true rfl) ⟨(Nat.le_of_ble_eq_true rfl), (Nat.le_of_ble_eq_true rfl)⟩ rfl rfl (Nat.le_of_ble_eq_true rfl) ⟨(Nat.le_of_ble_eq_true rfl), (Nat.le_of_ble_eq_true rfl)⟩ (RI.go (fun r50 S48 q49 => ?_))
        have h51 : FZ [g + 8, g + 9] [(g, 2), (g, 3), (g, 4), (g, 5), (g, 6), (g, 7), (g + 7, 2)] S S48 := h45.tr (q49.sub (by simp) (by simp))
        refine V_pop 76 dX0_product_76 rfl ?_
        refine V_iinc_3 77 (1) dX0_product_77 (by decide) rfl (Nat.le_of_ble_eq_true rfl) ?_
        refine V_goto 80 8 dX0_product_80 (by decide) ?_
        rw [← nI_succ]
        refine V_lvw (by repeat (first | exact trivial | refine ⟨rfl, ?_⟩)) (ih15 (i11 + 1, _, _) ⟨by dsimp only; omega, h51, (Or.inr rfl)⟩ (by dsimp only; omega))
  refine V_iload_3 8 dX0_product_8 ?_
  refine V_sipush 9 (400) dX0_product_9 (by decide) ?_
  refine V_icmp_gt 12 83 dX0_product_12 (by decide) (fun c52 => ?_) (fun c52 => ?_)
  ·
    refine V_lvw (by repeat (first | exact trivial | refine ⟨rfl, ?_⟩)) (J3 _ _ _ h14 hb20)
  ·
    have lt54 := nI_ltg (n := 400) (by decide) hi13 c52
    refine V_iload_2 15 dX0_product_15 ?_
    refine V_if_eq 16 83 dX0_product_16 (by decide) (fun c55 => ?_) (fun c55 => ?_)
    ·
      refine V_lvw (by repeat (first | exact trivial | refine ⟨rfl, ?_⟩)) (J3 _ _ _ h14 hb20)
    ·
      refine V_aload_0 19 dX0_product_19 ?_
      refine V_getI 20 (c := 0) 3 dX0_product_20 fl_RX0_36 ((F.ss h14.1).m 0 (Nat.le_of_ble_eq_true rfl)) ((F.ss h14.1).k 0 0 rfl) (Nat.le_of_ble_eq_true rfl) (Nat.le_of_ble_eq_true rfl) rfl ?_
      refine V_bipush 23 (42) dX0_product_23 (by decide) ?_
      refine V_icmp_eq 25 37 dX0_product_25 (by decide) (fun c57 => ?_) (fun c57 => ?_)
      ·
        refine V_lvw (by repeat (first | exact trivial | refine ⟨rfl, ?_⟩)) (J33 _ _ h14 (by first | omega | assumption) hb20)
      ·
        refine V_aload_0 28 dX0_product_28 ?_
        refine V_getI 29 (c := 0) 3 dX0_product_29 fl_RX0_36 ((F.ss h14.1).m 0 (Nat.le_of_ble_eq_true rfl)) ((F.ss h14.1).k 0 0 rfl) (Nat.le_of_ble_eq_true rfl) (Nat.le_of_ble_eq_true rfl) rfl ?_
        refine V_bipush 32 (47) dX0_product_32 (by decide) ?_
        refine V_icmp_ne 34 83 dX0_product_34 (by decide) (fun c59 => ?_) (fun c59 => ?_)
        ·
          refine V_lvw (by repeat (first | exact trivial | refine ⟨rfl, ?_⟩)) (J3 _ _ _ h14 hb20)
        ·
          refine V_lvw (by repeat (first | exact trivial | refine ⟨rfl, ?_⟩)) (J33 _ _ h14 (by first | omega | assumption) hb20)
set_option maxRecDepth 100000 in
set_option maxHeartbeats 8000000 in
theorem s_sum1 (l : Launch) (Γ : GC) (S : PS) {g : Nat} (F : isL lyGrammar Γ.2.2.2.2.1 S g) (x : Int32) (hx : x = 1) : CT l Γ yX0_sum cX0_sum 5 (some .boolean) (19) (0) (0) [.ref g, .int x] S (RI (fun r S' => (r = 0 ∨ r = 1) ∧ FZ [g + 8, g + 9] [(g, 2), (g, 3), (g, 4), (g, 5), (g, 6), (g, 7), (g + 7, 2)] S S')) := by
  refine CT.of RX0 "sum" [some (.ref g), some (.int x), none, none, none] (by decide +kernel) rfl rfl (Nat.le_of_ble_eq_true rfl) rfl (fun M hM => ?_)
  subst hM
  have J3 : ∀ (S1 : PS) (x4 : Int32) (x5 : Int32), FZ [g + 8, g + 9] [(g, 2), (g, 3), (g, 4), (g, 5), (g, 6), (g, 7), (g + 7, 2)] S S1 → (x4 = 0 ∨ x4 = 1) → V M Γ (5, RX0, "sum", (some .boolean), RM (19) (0) (0)) cX0_sum (RQ M Γ (RI (fun r S' => (r = 0 ∨ r = 1) ∧ FZ [g + 8, g + 9] [(g, 2), (g, 3), (g, 4), (g, 5), (g, 6), (g, 7), (g + 7, 2)] S S')) (0) (0)) 0 0 S1 83 [some (.ref g), some (.int x), some (.int x4), some (.int x5), none] [] := by
    intro S1 x4 x5 h2 hb_x4
    refine V_iload_2 83 dX0_sum_83 ?_
    refine V_iret 84 .boolean dX0_sum_84 rfl (nrwB hb_x4) (Nat.le_of_ble_eq_true rfl) (Nat.le_of_ble_eq_true rfl) (RI.mk ⟨hb_x4, h2⟩)
  refine V_aload_0 0 dX0_sum_0 ?_
  refine V_iload_1 1 dX0_sum_1 ?_
  refine V_callV 2 (ci := 0) [.int _] _ (s_product1 M.2.1 Γ S F _ hx) dX0_sum_2 cb_X0_product ml_RX0_91 im_yX0_product se_yX0_product (F.m 0 (Nat.le_of_ble_eq_true rfl)) (F.k 0 0 rfl) (Nat.le_of_ble_eq_true rfl) ⟨(Nat.le_of_ble_eq_true rfl), (Nat.le_of_ble_eq_true rfl)⟩ rfl rfl (Nat.le_of_ble_eq_true rfl) ⟨(Nat.le_of_ble_eq_true rfl), (Nat.le_of_ble_eq_true rfl)⟩ (RI.go (fun r8 S6 q7 => ?_))
  have h9 : FZ [g + 8, g + 9] [(g, 2), (g, 3), (g, 4), (g, 5), (g, 6), (g, 7), (g + 7, 2)] S S6 := (FZ.rf (X := [g + 8, g + 9]) (Y := [(g, 2), (g, 3), (g, 4), (g, 5), (g, 6), (g, 7), (g + 7, 2)]) (S := S)).tr (q7.2.sub (by simp) (by simp))
  refine V_istore_2 5 dX0_sum_5 rfl (Nat.le_of_ble_eq_true rfl) ?_
  refine V_iconst 6 (0) dX0_sum_6 (by decide) ?_
  refine V_istore_3 7 dX0_sum_7 rfl (Nat.le_of_ble_eq_true rfl) ?_
  refine V_lvw (by repeat (first | exact trivial | refine ⟨rfl, ?_⟩)) (V_while (α := Nat × PS × Int32) (fun z10 => 401 - z10.1) (fun z10 => z10.1 ≤ 401 ∧ FZ [g + 8, g + 9] [(g, 2), (g, 3), (g, 4), (g, 5), (g, 6), (g, 7), (g + 7, 2)] S z10.2.1 ∧ (z10.2.2 = 0 ∨ z10.2.2 = 1)) (fun z10 => z10.2.1) (fun z10 => [some (.ref g), some (.int x), some (.int z10.2.2), some (.int (nI z10.1)), none]) (0, _, _) ⟨Nat.zero_le _, h9, q7.1⟩ (fun z10 hx17 ih15 => ?b18))
  obtain ⟨i11, S12, w16⟩ := z10
  obtain ⟨hi13, h14, hb20⟩ := hx17
  dsimp only at hi13 h14 hb20 ih15 ⊢
  have J23 : ∀ (S21 : PS) (x24 : Int32) (x25 : Int32), FZ [g + 8, g + 9] [(g, 2), (g, 3), (g, 4), (g, 5), (g, 6), (g, 7), (g + 7, 2)] S S21 → i11 < 401 → (x24 = 0 ∨ x24 = 1) → V M Γ (5, RX0, "sum", (some .boolean), RM (19) (0) (0)) cX0_sum (RQ M Γ (RI (fun r S' => (r = 0 ∨ r = 1) ∧ FZ [g + 8, g + 9] [(g, 2), (g, 3), (g, 4), (g, 5), (g, 6), (g, 7), (g + 7, 2)] S S')) (0) (0)) 0 0 S21 64 [some (.ref g), some (.int x), some (.int x24), some (.int (nI i11)), some (.int x25)] [] := by
    intro S21 x24 x25 h22 lt26 hb_x24
    refine V_iconst 64 (0) dX0_sum_64 (by decide) ?_
    refine V_istore_2 65 dX0_sum_65 rfl (Nat.le_of_ble_eq_true rfl) ?_
    refine V_aload_0 66 dX0_sum_66 ?_
    refine V_getR 67 (c := 0) 1 ((F.ss h22.1).r 0 1 7 rfl) dX0_sum_67 fl_RX0_21 ((F.ss h22.1).m 0 (Nat.le_of_ble_eq_true rfl)) ((F.ss h22.1).k 0 0 rfl) (Nat.le_of_ble_eq_true rfl) (Nat.le_of_ble_eq_true rfl) rfl ?_
    refine V_iload_4 70 dX0_sum_70 ?_
    refine V_iconst 72 (0) dX0_sum_72 (by decide) ?_
    refine V_callV 73 (ci := 2) [.int _, .int _] _ (s_write M.2.1 Γ S21 ((F.ss h22.1).sub 7 lyLaw rfl (by decide)) _ _) dX0_sum_73 cb_X2_write ml_RX0_83 im_yX2_write se_yX2_write ((F.ss h22.1).m 7 (Nat.le_of_ble_eq_true rfl)) ((F.ss h22.1).k 7 2 rfl) (Nat.le_of_ble_eq_true rfl) ⟨(Nat.le_of_ble_eq_true rfl), (Nat.le_of_ble_eq_true rfl)⟩ rfl rfl (Nat.le_of_ble_eq_true rfl) ⟨(Nat.le_of_ble_eq_true rfl), (Nat.le_of_ble_eq_true rfl)⟩ (RI.go (fun r29 S27 q28 => ?_))
    have h30 : FZ [g + 8, g + 9] [(g, 2), (g, 3), (g, 4), (g, 5), (g, 6), (g, 7), (g + 7, 2)] S S27 := h22.tr (q28.sub (by simp) (by simp))
    refine V_pop 76 dX0_sum_76 rfl ?_
    refine V_iinc_3 77 (1) dX0_sum_77 (by decide) rfl (Nat.le_of_ble_eq_true rfl) ?_
    refine V_goto 80 8 dX0_sum_80 (by decide) ?_
    rw [← nI_succ]
    refine V_lvw (by repeat (first | exact trivial | refine ⟨rfl, ?_⟩)) (ih15 (i11 + 1, _, _) ⟨by dsimp only; omega, h30, (Or.inl rfl)⟩ (by dsimp only; omega))
  have J33 : ∀ (S31 : PS) (x34 : Int32), FZ [g + 8, g + 9] [(g, 2), (g, 3), (g, 4), (g, 5), (g, 6), (g, 7), (g + 7, 2)] S S31 → i11 < 401 → (x34 = 0 ∨ x34 = 1) → V M Γ (5, RX0, "sum", (some .boolean), RM (19) (0) (0)) cX0_sum (RQ M Γ (RI (fun r S' => (r = 0 ∨ r = 1) ∧ FZ [g + 8, g + 9] [(g, 2), (g, 3), (g, 4), (g, 5), (g, 6), (g, 7), (g + 7, 2)] S S')) (0) (0)) 0 0 S31 37 [some (.ref g), some (.int x), some (.int x34), some (.int (nI i11)), none] [] := by
    intro S31 x34 h32 lt35 hb_x34
    refine V_aload_0 37 dX0_sum_37 ?_
    refine V_getI 38 (c := 0) 3 dX0_sum_38 fl_RX0_36 ((F.ss h32.1).m 0 (Nat.le_of_ble_eq_true rfl)) ((F.ss h32.1).k 0 0 rfl) (Nat.le_of_ble_eq_true rfl) (Nat.le_of_ble_eq_true rfl) rfl ?_
    refine V_istore_4 41 dX0_sum_41 rfl (Nat.le_of_ble_eq_true rfl) ?_
    refine V_aload_0 43 dX0_sum_43 ?_
    refine V_iload_4 44 dX0_sum_44 ?_
    refine V_callV 46 (ci := 0) [.int _] _ (s_step M.2.1 Γ S31 (F.ss h32.1) _) dX0_sum_46 cb_X0_step ml_RX0_51 im_yX0_step se_yX0_step ((F.ss h32.1).m 0 (Nat.le_of_ble_eq_true rfl)) ((F.ss h32.1).k 0 0 rfl) (Nat.le_of_ble_eq_true rfl) ⟨(Nat.le_of_ble_eq_true rfl), (Nat.le_of_ble_eq_true rfl)⟩ rfl rfl (Nat.le_of_ble_eq_true rfl) ⟨(Nat.le_of_ble_eq_true rfl), (Nat.le_of_ble_eq_true rfl)⟩ (RI.go (fun r38 S36 q37 => ?_))
    have h39 : FZ [g + 8, g + 9] [(g, 2), (g, 3), (g, 4), (g, 5), (g, 6), (g, 7), (g + 7, 2)] S S36 := h32.tr (q37.2.sub (by simp) (by simp))
    refine V_if_eq 49 64 dX0_sum_49 (by decide) (fun c40 => ?_) (fun c40 => ?_)
    ·
      refine V_lvw (by repeat (first | exact trivial | refine ⟨rfl, ?_⟩)) (J23 _ _ _ h39 (by first | omega | assumption) hb_x34)
    ·
      refine V_aload_0 52 dX0_sum_52 ?_
      refine V_iload_1 53 dX0_sum_53 ?_
      refine V_callV 54 (ci := 0) [.int _] _ (s_product1 M.2.1 Γ S36 (F.ss h39.1) _ hx) dX0_sum_54 cb_X0_product ml_RX0_91 im_yX0_product se_yX0_product ((F.ss h39.1).m 0 (Nat.le_of_ble_eq_true rfl)) ((F.ss h39.1).k 0 0 rfl) (Nat.le_of_ble_eq_true rfl) ⟨(Nat.le_of_ble_eq_true rfl), (Nat.le_of_ble_eq_true rfl)⟩ rfl rfl (Nat.le_of_ble_eq_true rfl) ⟨(Nat.le_of_ble_eq_true rfl), (Nat.le_of_ble_eq_true rfl)⟩ (RI.go (fun r44 S42 q43 => ?_))
      have h45 : FZ [g + 8, g + 9] [(g, 2), (g, 3), (g, 4), (g, 5), (g, 6), (g, 7), (g + 7, 2)] S S42 := h39.tr (q43.2.sub (by simp) (by simp))
      refine V_if_eq 57 64 dX0_sum_57 (by decide) (fun c46 => ?_) (fun c46 => ?_)
      ·
        refine V_lvw (by repeat (first | exact trivial | refine ⟨rfl, ?_⟩)) (J23 _ _ _ h45 (by first | omega | assumption) hb_x34)
      ·
        refine V_iconst 60 (1) dX0_sum_60 (by decide) ?_
        refine V_goto 61 65 dX0_sum_61 (by decide) ?_
        refine V_istore_2 65 dX0_sum_65 rfl (Nat.le_of_ble_eq_true rfl) ?_
        refine V_aload_0 66 dX0_sum_66 ?_
        refine V_getR 67 (c := 0) 1 ((F.ss h45.1).r 0 1 7 rfl) dX0_sum_67 fl_RX0_21 ((F.ss h45.1).m 0 (Nat.le_of_ble_eq_true rfl)) ((F.ss h45.1).k 0 0 rfl) (Nat.le_of_ble_eq_true rfl) (Nat.le_of_ble_eq_true rfl) rfl ?_
        refine V_iload_4 70 dX0_sum_70 ?_
        refine V_iconst 72 (0) dX0_sum_72 (by decide) ?_
        refine V_callV 73 (ci := 2) [.int _, .int _] _ (s_write M.2.1 Γ S42 ((F.ss h45.1).sub 7 lyLaw rfl (by decide)) _ _) dX0_sum_73 cb_X2_write ml_RX0_83 im_yX2_write se_yX2_write ((F.ss h45.1).m 7 (Nat.le_of_ble_eq_true rfl)) ((F.ss h45.1).k 7 2 rfl) (Nat.le_of_ble_eq_true rfl) ⟨(Nat.le_of_ble_eq_true rfl), (Nat.le_of_ble_eq_true rfl)⟩ rfl rfl (Nat.le_of_ble_eq_true rfl) ⟨(Nat.le_of_ble_eq_true rfl), (Nat.le_of_ble_eq_true rfl)⟩ (RI.go (fun r50 S48 q49 => ?_))
        have h51 : FZ [g + 8, g + 9] [(g, 2), (g, 3), (g, 4), (g, 5), (g, 6), (g, 7), (g + 7, 2)] S S48 := h45.tr (q49.sub (by simp) (by simp))
        refine V_pop 76 dX0_sum_76 rfl ?_
        refine V_iinc_3 77 (1) dX0_sum_77 (by decide) rfl (Nat.le_of_ble_eq_true rfl) ?_
        refine V_goto 80 8 dX0_sum_80 (by decide) ?_
        rw [← nI_succ]
        refine V_lvw (by repeat (first | exact trivial | refine ⟨rfl, ?_⟩)) (ih15 (i11 + 1, _, _) ⟨by dsimp only; omega, h51, (Or.inr rfl)⟩ (by dsimp only; omega))
  refine V_iload_3 8 dX0_sum_8 ?_
  refine V_sipush 9 (400) dX0_sum_9 (by decide) ?_
  refine V_icmp_gt 12 83 dX0_sum_12 (by decide) (fun c52 => ?_) (fun c52 => ?_)
  ·
    refine V_lvw (by repeat (first | exact trivial | refine ⟨rfl, ?_⟩)) (J3 _ _ _ h14 hb20)
  ·
    have lt54 := nI_ltg (n := 400) (by decide) hi13 c52
    refine V_iload_2 15 dX0_sum_15 ?_
    refine V_if_eq 16 83 dX0_sum_16 (by decide) (fun c55 => ?_) (fun c55 => ?_)
    ·
      refine V_lvw (by repeat (first | exact trivial | refine ⟨rfl, ?_⟩)) (J3 _ _ _ h14 hb20)
    ·
      refine V_aload_0 19 dX0_sum_19 ?_
      refine V_getI 20 (c := 0) 3 dX0_sum_20 fl_RX0_36 ((F.ss h14.1).m 0 (Nat.le_of_ble_eq_true rfl)) ((F.ss h14.1).k 0 0 rfl) (Nat.le_of_ble_eq_true rfl) (Nat.le_of_ble_eq_true rfl) rfl ?_
      refine V_bipush 23 (43) dX0_sum_23 (by decide) ?_
      refine V_icmp_eq 25 37 dX0_sum_25 (by decide) (fun c57 => ?_) (fun c57 => ?_)
      ·
        refine V_lvw (by repeat (first | exact trivial | refine ⟨rfl, ?_⟩)) (J33 _ _ h14 (by first | omega | assumption) hb20)
      ·
        refine V_aload_0 28 dX0_sum_28 ?_
        refine V_getI 29 (c := 0) 3 dX0_sum_29 fl_RX0_36 ((F.ss h14.1).m 0 (Nat.le_of_ble_eq_true rfl)) ((F.ss h14.1).k 0 0 rfl) (Nat.le_of_ble_eq_true rfl) (Nat.le_of_ble_eq_true rfl) rfl ?_
        refine V_bipush 32 (45) dX0_sum_32 (by decide) ?_
        refine V_icmp_ne 34 83 dX0_sum_34 (by decide) (fun c59 => ?_) (fun c59 => ?_)
        ·
          refine V_lvw (by repeat (first | exact trivial | refine ⟨rfl, ?_⟩)) (J3 _ _ _ h14 hb20)
        ·
          refine V_lvw (by repeat (first | exact trivial | refine ⟨rfl, ?_⟩)) (J33 _ _ h14 (by first | omega | assumption) hb20)
set_option maxRecDepth 100000 in
set_option maxHeartbeats 8000000 in
theorem s_unit0 (l : Launch) (Γ : GC) (S : PS) {g : Nat} (F : isL lyGrammar Γ.2.2.2.2.1 S g) (x : Int32) (hx : x = 0) : CT l Γ yX0_unit cX0_unit 2 (some .boolean) (20) (0) (0) [.ref g, .int x] S (RI (fun r S' => (r = 0 ∨ r = 1) ∧ FZ [g + 8, g + 9] [(g, 2), (g, 3), (g, 4), (g, 5), (g, 6), (g, 7), (g + 7, 2)] S S')) := by
  refine CT.of RX0 "unit" [some (.ref g), some (.int x)] (by decide +kernel) rfl rfl (Nat.le_of_ble_eq_true rfl) rfl (fun M hM => ?_)
  subst hM
  have J3 : ∀ (S1 : PS) , FZ [g + 8, g + 9] [(g, 2), (g, 3), (g, 4), (g, 5), (g, 6), (g, 7), (g + 7, 2)] S S1 → V M Γ (2, RX0, "unit", (some .boolean), RM (20) (0) (0)) cX0_unit (RQ M Γ (RI (fun r S' => (r = 0 ∨ r = 1) ∧ FZ [g + 8, g + 9] [(g, 2), (g, 3), (g, 4), (g, 5), (g, 6), (g, 7), (g + 7, 2)] S S')) (0) (0)) 0 0 S1 139 [some (.ref g), some (.int x)] [] := by
    intro S1  h2
    refine V_iconst 139 (0) dX0_unit_139 (by decide) ?_
    refine V_iret 140 .boolean dX0_unit_140 rfl (nrwB (Or.inl rfl)) (Nat.le_of_ble_eq_true rfl) (Nat.le_of_ble_eq_true rfl) (RI.mk ⟨(Or.inl rfl), h2⟩)
  have J6 : ∀ (S4 : PS) , FZ [g + 8, g + 9] [(g, 2), (g, 3), (g, 4), (g, 5), (g, 6), (g, 7), (g + 7, 2)] S S4 → V M Γ (2, RX0, "unit", (some .boolean), RM (20) (0) (0)) cX0_unit (RQ M Γ (RI (fun r S' => (r = 0 ∨ r = 1) ∧ FZ [g + 8, g + 9] [(g, 2), (g, 3), (g, 4), (g, 5), (g, 6), (g, 7), (g + 7, 2)] S S')) (0) (0)) 0 0 S4 80 [some (.ref g), some (.int x)] [] := by
    intro S4  h5
    refine V_aload_0 80 dX0_unit_80 ?_
    refine V_getI 81 (c := 0) 3 dX0_unit_81 fl_RX0_36 ((F.ss h5.1).m 0 (Nat.le_of_ble_eq_true rfl)) ((F.ss h5.1).k 0 0 rfl) (Nat.le_of_ble_eq_true rfl) (Nat.le_of_ble_eq_true rfl) rfl ?_
    refine V_bipush 84 (40) dX0_unit_84 (by decide) ?_
    refine V_icmp_eq 86 95 dX0_unit_86 (by decide) (fun c7 => ?_) (fun c7 => ?_)
    ·
      refine V_iload_1 95 dX0_unit_95 ?_
      refine V_bipush 96 (6) dX0_unit_96 (by decide) ?_
      refine V_icmp_lt 98 107 dX0_unit_98 (by decide) (fun c8 => ?_) (fun c8 => ?_)
      ·
        refine V_aload_0 107 dX0_unit_107 ?_
        refine V_bipush 108 (40) dX0_unit_108 (by decide) ?_
        refine V_callV 110 (ci := 0) [.int _] _ (s_step M.2.1 Γ S4 (F.ss h5.1) _) dX0_unit_110 cb_X0_step ml_RX0_51 im_yX0_step se_yX0_step ((F.ss h5.1).m 0 (Nat.le_of_ble_eq_true rfl)) ((F.ss h5.1).k 0 0 rfl) (Nat.le_of_ble_eq_true rfl) ⟨(Nat.le_of_ble_eq_true rfl), (Nat.le_of_ble_eq_true rfl)⟩ rfl rfl (Nat.le_of_ble_eq_true rfl) ⟨(Nat.le_of_ble_eq_true rfl), (Nat.le_of_ble_eq_true rfl)⟩ (RI.go (fun r11 S9 q10 => ?_))
        have h12 : FZ [g + 8, g + 9] [(g, 2), (g, 3), (g, 4), (g, 5), (g, 6), (g, 7), (g + 7, 2)] S S9 := h5.tr (q10.2.sub (by simp) (by simp))
        refine V_if_eq 113 139 dX0_unit_113 (by decide) (fun c13 => ?_) (fun c13 => ?_)
        ·
          refine V_lvw (by repeat (first | exact trivial | refine ⟨rfl, ?_⟩)) (J3 _ h12)
        ·
          refine V_aload_0 116 dX0_unit_116 ?_
          refine V_iload_1 117 dX0_unit_117 ?_
          refine V_iconst 118 (1) dX0_unit_118 (by decide) ?_
          refine V_iadd 119 dX0_unit_119 ?_
          refine V_callV 120 (ci := 0) [.int _] _ (s_sum1 M.2.1 Γ S9 (F.ss h12.1) _ (by rw [hx]; rfl)) dX0_unit_120 cb_X0_sum ml_RX0_80 im_yX0_sum se_yX0_sum ((F.ss h12.1).m 0 (Nat.le_of_ble_eq_true rfl)) ((F.ss h12.1).k 0 0 rfl) (Nat.le_of_ble_eq_true rfl) ⟨(Nat.le_of_ble_eq_true rfl), (Nat.le_of_ble_eq_true rfl)⟩ rfl rfl (Nat.le_of_ble_eq_true rfl) ⟨(Nat.le_of_ble_eq_true rfl), (Nat.le_of_ble_eq_true rfl)⟩ (RI.go (fun r17 S15 q16 => ?_))
          have h18 : FZ [g + 8, g + 9] [(g, 2), (g, 3), (g, 4), (g, 5), (g, 6), (g, 7), (g + 7, 2)] S S15 := h12.tr (q16.2.sub (by simp) (by simp))
          refine V_if_eq 123 139 dX0_unit_123 (by decide) (fun c19 => ?_) (fun c19 => ?_)
          ·
            refine V_lvw (by repeat (first | exact trivial | refine ⟨rfl, ?_⟩)) (J3 _ h18)
          ·
            refine V_aload_0 126 dX0_unit_126 ?_
            refine V_bipush 127 (41) dX0_unit_127 (by decide) ?_
            refine V_callV 129 (ci := 0) [.int _] _ (s_step M.2.1 Γ S15 (F.ss h18.1) _) dX0_unit_129 cb_X0_step ml_RX0_51 im_yX0_step se_yX0_step ((F.ss h18.1).m 0 (Nat.le_of_ble_eq_true rfl)) ((F.ss h18.1).k 0 0 rfl) (Nat.le_of_ble_eq_true rfl) ⟨(Nat.le_of_ble_eq_true rfl), (Nat.le_of_ble_eq_true rfl)⟩ rfl rfl (Nat.le_of_ble_eq_true rfl) ⟨(Nat.le_of_ble_eq_true rfl), (Nat.le_of_ble_eq_true rfl)⟩ (RI.go (fun r23 S21 q22 => ?_))
            have h24 : FZ [g + 8, g + 9] [(g, 2), (g, 3), (g, 4), (g, 5), (g, 6), (g, 7), (g + 7, 2)] S S21 := h18.tr (q22.2.sub (by simp) (by simp))
            refine V_if_eq 132 139 dX0_unit_132 (by decide) (fun c25 => ?_) (fun c25 => ?_)
            ·
              refine V_lvw (by repeat (first | exact trivial | refine ⟨rfl, ?_⟩)) (J3 _ h24)
            ·
              refine V_iconst 135 (1) dX0_unit_135 (by decide) ?_
              refine V_goto 136 140 dX0_unit_136 (by decide) ?_
              refine V_iret 140 .boolean dX0_unit_140 rfl (nrwB (Or.inr rfl)) (Nat.le_of_ble_eq_true rfl) (Nat.le_of_ble_eq_true rfl) (RI.mk ⟨(Or.inr rfl), h24⟩)
      ·
        refine V_aload_0 101 dX0_unit_101 ?_
        refine V_iconst 102 (2) dX0_unit_102 (by decide) ?_
        refine V_callV 103 (ci := 0) [.int _] _ (s_gfail M.2.1 Γ S4 (F.ss h5.1) _) dX0_unit_103 cb_X0_fail ml_RX0_74 im_yX0_fail se_yX0_fail ((F.ss h5.1).m 0 (Nat.le_of_ble_eq_true rfl)) ((F.ss h5.1).k 0 0 rfl) (Nat.le_of_ble_eq_true rfl) ⟨(Nat.le_of_ble_eq_true rfl), (Nat.le_of_ble_eq_true rfl)⟩ rfl rfl (Nat.le_of_ble_eq_true rfl) ⟨(Nat.le_of_ble_eq_true rfl), (Nat.le_of_ble_eq_true rfl)⟩ (RI.go (fun r29 S27 q28 => ?_))
        have h30 : FZ [g + 8, g + 9] [(g, 2), (g, 3), (g, 4), (g, 5), (g, 6), (g, 7), (g + 7, 2)] S S27 := h5.tr (q28.2.sub (by simp) (by simp))
        refine V_iret 106 .boolean dX0_unit_106 rfl (nrwB q28.1) (Nat.le_of_ble_eq_true rfl) (Nat.le_of_ble_eq_true rfl) (RI.mk ⟨q28.1, h30⟩)
    ·
      refine V_aload_0 89 dX0_unit_89 ?_
      refine V_iconst 90 (1) dX0_unit_90 (by decide) ?_
      refine V_callV 91 (ci := 0) [.int _] _ (s_gfail M.2.1 Γ S4 (F.ss h5.1) _) dX0_unit_91 cb_X0_fail ml_RX0_74 im_yX0_fail se_yX0_fail ((F.ss h5.1).m 0 (Nat.le_of_ble_eq_true rfl)) ((F.ss h5.1).k 0 0 rfl) (Nat.le_of_ble_eq_true rfl) ⟨(Nat.le_of_ble_eq_true rfl), (Nat.le_of_ble_eq_true rfl)⟩ rfl rfl (Nat.le_of_ble_eq_true rfl) ⟨(Nat.le_of_ble_eq_true rfl), (Nat.le_of_ble_eq_true rfl)⟩ (RI.go (fun r33 S31 q32 => ?_))
      have h34 : FZ [g + 8, g + 9] [(g, 2), (g, 3), (g, 4), (g, 5), (g, 6), (g, 7), (g + 7, 2)] S S31 := h5.tr (q32.2.sub (by simp) (by simp))
      refine V_iret 94 .boolean dX0_unit_94 rfl (nrwB q32.1) (Nat.le_of_ble_eq_true rfl) (Nat.le_of_ble_eq_true rfl) (RI.mk ⟨q32.1, h34⟩)
  refine V_aload_0 0 dX0_unit_0 ?_
  refine V_getI 1 (c := 0) 3 dX0_unit_1 fl_RX0_36 (F.m 0 (Nat.le_of_ble_eq_true rfl)) (F.k 0 0 rfl) (Nat.le_of_ble_eq_true rfl) (Nat.le_of_ble_eq_true rfl) rfl ?_
  refine V_iconst 4 (2) dX0_unit_4 (by decide) ?_
  refine V_icmp_ne 5 34 dX0_unit_5 (by decide) (fun c35 => ?_) (fun c35 => ?_)
  ·
    refine V_aload_0 34 dX0_unit_34 ?_
    refine V_getI 35 (c := 0) 3 dX0_unit_35 fl_RX0_36 (F.m 0 (Nat.le_of_ble_eq_true rfl)) (F.k 0 0 rfl) (Nat.le_of_ble_eq_true rfl) (Nat.le_of_ble_eq_true rfl) rfl ?_
    refine V_sipush 38 (145) dX0_unit_38 (by decide) ?_
    refine V_icmp_lt 41 80 dX0_unit_41 (by decide) (fun c36 => ?_) (fun c36 => ?_)
    ·
      refine V_lvw (by repeat (first | exact trivial | refine ⟨rfl, ?_⟩)) (J6 _ FZ.rf)
    ·
      refine V_aload_0 44 dX0_unit_44 ?_
      refine V_getI 45 (c := 0) 3 dX0_unit_45 fl_RX0_36 (F.m 0 (Nat.le_of_ble_eq_true rfl)) (F.k 0 0 rfl) (Nat.le_of_ble_eq_true rfl) (Nat.le_of_ble_eq_true rfl) rfl ?_
      refine V_sipush 48 (149) dX0_unit_48 (by decide) ?_
      refine V_icmp_gt 51 80 dX0_unit_51 (by decide) (fun c38 => ?_) (fun c38 => ?_)
      ·
        refine V_lvw (by repeat (first | exact trivial | refine ⟨rfl, ?_⟩)) (J6 _ FZ.rf)
      ·
        refine V_aload_0 54 dX0_unit_54 ?_
        refine V_getR 55 (c := 0) 1 (F.r 0 1 7 rfl) dX0_unit_55 fl_RX0_21 (F.m 0 (Nat.le_of_ble_eq_true rfl)) (F.k 0 0 rfl) (Nat.le_of_ble_eq_true rfl) (Nat.le_of_ble_eq_true rfl) rfl ?_
        refine V_iconst 58 (1) dX0_unit_58 (by decide) ?_
        refine V_aload_0 59 dX0_unit_59 ?_
        refine V_getI 60 (c := 0) 3 dX0_unit_60 fl_RX0_36 (F.m 0 (Nat.le_of_ble_eq_true rfl)) (F.k 0 0 rfl) (Nat.le_of_ble_eq_true rfl) (Nat.le_of_ble_eq_true rfl) rfl ?_
        refine V_sipush 63 (145) dX0_unit_63 (by decide) ?_
        refine V_isub 66 dX0_unit_66 ?_
        refine V_callV 67 (ci := 2) [.int _, .int _] _ (s_write M.2.1 Γ S (F.sub 7 lyLaw rfl (by decide)) _ _) dX0_unit_67 cb_X2_write ml_RX0_83 im_yX2_write se_yX2_write (F.m 7 (Nat.le_of_ble_eq_true rfl)) (F.k 7 2 rfl) (Nat.le_of_ble_eq_true rfl) ⟨(Nat.le_of_ble_eq_true rfl), (Nat.le_of_ble_eq_true rfl)⟩ rfl rfl (Nat.le_of_ble_eq_true rfl) ⟨(Nat.le_of_ble_eq_true rfl), (Nat.le_of_ble_eq_true rfl)⟩ (RI.go (fun r42 S40 q41 => ?_))
        have h43 : FZ [g + 8, g + 9] [(g, 2), (g, 3), (g, 4), (g, 5), (g, 6), (g, 7), (g + 7, 2)] S S40 := (FZ.rf (X := [g + 8, g + 9]) (Y := [(g, 2), (g, 3), (g, 4), (g, 5), (g, 6), (g, 7), (g + 7, 2)]) (S := S)).tr (q41.sub (by simp) (by simp))
        refine V_pop 70 dX0_unit_70 rfl ?_
        refine V_aload_0 71 dX0_unit_71 ?_
        refine V_aload_0 72 dX0_unit_72 ?_
        refine V_getI 73 (c := 0) 3 dX0_unit_73 fl_RX0_36 ((F.ss h43.1).m 0 (Nat.le_of_ble_eq_true rfl)) ((F.ss h43.1).k 0 0 rfl) (Nat.le_of_ble_eq_true rfl) (Nat.le_of_ble_eq_true rfl) rfl ?_
        refine V_callV 76 (ci := 0) [.int _] _ (s_step M.2.1 Γ S40 (F.ss h43.1) _) dX0_unit_76 cb_X0_step ml_RX0_51 im_yX0_step se_yX0_step ((F.ss h43.1).m 0 (Nat.le_of_ble_eq_true rfl)) ((F.ss h43.1).k 0 0 rfl) (Nat.le_of_ble_eq_true rfl) ⟨(Nat.le_of_ble_eq_true rfl), (Nat.le_of_ble_eq_true rfl)⟩ rfl rfl (Nat.le_of_ble_eq_true rfl) ⟨(Nat.le_of_ble_eq_true rfl), (Nat.le_of_ble_eq_true rfl)⟩ (RI.go (fun r46 S44 q45 => ?_))
        have h47 : FZ [g + 8, g + 9] [(g, 2), (g, 3), (g, 4), (g, 5), (g, 6), (g, 7), (g + 7, 2)] S S44 := h43.tr (q45.2.sub (by simp) (by simp))
        refine V_iret 79 .boolean dX0_unit_79 rfl (nrwB q45.1) (Nat.le_of_ble_eq_true rfl) (Nat.le_of_ble_eq_true rfl) (RI.mk ⟨q45.1, h47⟩)
  ·
    refine V_aload_0 8 dX0_unit_8 ?_
    refine V_getR 9 (c := 0) 1 (F.r 0 1 7 rfl) dX0_unit_9 fl_RX0_21 (F.m 0 (Nat.le_of_ble_eq_true rfl)) (F.k 0 0 rfl) (Nat.le_of_ble_eq_true rfl) (Nat.le_of_ble_eq_true rfl) rfl ?_
    refine V_iconst 12 (2) dX0_unit_12 (by decide) ?_
    refine V_aload_0 13 dX0_unit_13 ?_
    refine V_getR 14 (c := 0) 0 (F.r 0 0 1 rfl) dX0_unit_14 fl_RX0_12 (F.m 0 (Nat.le_of_ble_eq_true rfl)) (F.k 0 0 rfl) (Nat.le_of_ble_eq_true rfl) (Nat.le_of_ble_eq_true rfl) rfl ?_
    refine V_aload_0 17 dX0_unit_17 ?_
    refine V_getI 18 (c := 0) 2 dX0_unit_18 fl_RX0_28 (F.m 0 (Nat.le_of_ble_eq_true rfl)) (F.k 0 0 rfl) (Nat.le_of_ble_eq_true rfl) (Nat.le_of_ble_eq_true rfl) rfl ?_
    refine V_callV 21 (ci := 8) [.int _] _ (s_intAt M.2.1 Γ S (F.sub 1 lyTape rfl (by decide)) _) dX0_unit_21 cb_X8_intAt ml_RX0_97 im_yX8_intAt se_yX8_intAt (F.m 1 (Nat.le_of_ble_eq_true rfl)) (F.k 1 8 rfl) (Nat.le_of_ble_eq_true rfl) ⟨(Nat.le_of_ble_eq_true rfl), (Nat.le_of_ble_eq_true rfl)⟩ rfl rfl (Nat.le_of_ble_eq_true rfl) ⟨(Nat.le_of_ble_eq_true rfl), (Nat.le_of_ble_eq_true rfl)⟩ (RI.go (fun r50 S48 q49 => ?_))
    have h51 : FZ [g + 8, g + 9] [(g, 2), (g, 3), (g, 4), (g, 5), (g, 6), (g, 7), (g + 7, 2)] S S48 := (FZ.rf (X := [g + 8, g + 9]) (Y := [(g, 2), (g, 3), (g, 4), (g, 5), (g, 6), (g, 7), (g + 7, 2)]) (S := S)).tr (q49.sub (by simp) (by simp))
    refine V_callV 24 (ci := 2) [.int _, .int _] _ (s_write M.2.1 Γ S48 ((F.ss h51.1).sub 7 lyLaw rfl (by decide)) _ _) dX0_unit_24 cb_X2_write ml_RX0_83 im_yX2_write se_yX2_write ((F.ss h51.1).m 7 (Nat.le_of_ble_eq_true rfl)) ((F.ss h51.1).k 7 2 rfl) (Nat.le_of_ble_eq_true rfl) ⟨(Nat.le_of_ble_eq_true rfl), (Nat.le_of_ble_eq_true rfl)⟩ rfl rfl (Nat.le_of_ble_eq_true rfl) ⟨(Nat.le_of_ble_eq_true rfl), (Nat.le_of_ble_eq_true rfl)⟩ (RI.go (fun r54 S52 q53 => ?_))
    have h55 : FZ [g + 8, g + 9] [(g, 2), (g, 3), (g, 4), (g, 5), (g, 6), (g, 7), (g + 7, 2)] S S52 := h51.tr (q53.sub (by simp) (by simp))
    refine V_pop 27 dX0_unit_27 rfl ?_
    refine V_aload_0 28 dX0_unit_28 ?_
    refine V_iconst 29 (2) dX0_unit_29 (by decide) ?_
    refine V_callV 30 (ci := 0) [.int _] _ (s_step M.2.1 Γ S52 (F.ss h55.1) _) dX0_unit_30 cb_X0_step ml_RX0_51 im_yX0_step se_yX0_step ((F.ss h55.1).m 0 (Nat.le_of_ble_eq_true rfl)) ((F.ss h55.1).k 0 0 rfl) (Nat.le_of_ble_eq_true rfl) ⟨(Nat.le_of_ble_eq_true rfl), (Nat.le_of_ble_eq_true rfl)⟩ rfl rfl (Nat.le_of_ble_eq_true rfl) ⟨(Nat.le_of_ble_eq_true rfl), (Nat.le_of_ble_eq_true rfl)⟩ (RI.go (fun r58 S56 q57 => ?_))
    have h59 : FZ [g + 8, g + 9] [(g, 2), (g, 3), (g, 4), (g, 5), (g, 6), (g, 7), (g + 7, 2)] S S56 := h55.tr (q57.2.sub (by simp) (by simp))
    refine V_iret 33 .boolean dX0_unit_33 rfl (nrwB q57.1) (Nat.le_of_ble_eq_true rfl) (Nat.le_of_ble_eq_true rfl) (RI.mk ⟨q57.1, h59⟩)
set_option maxRecDepth 100000 in
set_option maxHeartbeats 8000000 in
theorem s_product0 (l : Launch) (Γ : GC) (S : PS) {g : Nat} (F : isL lyGrammar Γ.2.2.2.2.1 S g) (x : Int32) (hx : x = 0) : CT l Γ yX0_product cX0_product 5 (some .boolean) (21) (0) (0) [.ref g, .int x] S (RI (fun r S' => (r = 0 ∨ r = 1) ∧ FZ [g + 8, g + 9] [(g, 2), (g, 3), (g, 4), (g, 5), (g, 6), (g, 7), (g + 7, 2)] S S')) := by
  refine CT.of RX0 "product" [some (.ref g), some (.int x), none, none, none] (by decide +kernel) rfl rfl (Nat.le_of_ble_eq_true rfl) rfl (fun M hM => ?_)
  subst hM
  have J3 : ∀ (S1 : PS) (x4 : Int32) (x5 : Int32), FZ [g + 8, g + 9] [(g, 2), (g, 3), (g, 4), (g, 5), (g, 6), (g, 7), (g + 7, 2)] S S1 → (x4 = 0 ∨ x4 = 1) → V M Γ (5, RX0, "product", (some .boolean), RM (21) (0) (0)) cX0_product (RQ M Γ (RI (fun r S' => (r = 0 ∨ r = 1) ∧ FZ [g + 8, g + 9] [(g, 2), (g, 3), (g, 4), (g, 5), (g, 6), (g, 7), (g + 7, 2)] S S')) (0) (0)) 0 0 S1 83 [some (.ref g), some (.int x), some (.int x4), some (.int x5), none] [] := by
    intro S1 x4 x5 h2 hb_x4
    refine V_iload_2 83 dX0_product_83 ?_
    refine V_iret 84 .boolean dX0_product_84 rfl (nrwB hb_x4) (Nat.le_of_ble_eq_true rfl) (Nat.le_of_ble_eq_true rfl) (RI.mk ⟨hb_x4, h2⟩)
  refine V_aload_0 0 dX0_product_0 ?_
  refine V_iload_1 1 dX0_product_1 ?_
  refine V_callV 2 (ci := 0) [.int _] _ (s_unit0 M.2.1 Γ S F _ hx) dX0_product_2 cb_X0_unit ml_RX0_94 im_yX0_unit se_yX0_unit (F.m 0 (Nat.le_of_ble_eq_true rfl)) (F.k 0 0 rfl) (Nat.le_of_ble_eq_true rfl) ⟨(Nat.le_of_ble_eq_true rfl), (Nat.le_of_ble_eq_true rfl)⟩ rfl rfl (Nat.le_of_ble_eq_true rfl) ⟨(Nat.le_of_ble_eq_true rfl), (Nat.le_of_ble_eq_true rfl)⟩ (RI.go (fun r8 S6 q7 => ?_))
  have h9 : FZ [g + 8, g + 9] [(g, 2), (g, 3), (g, 4), (g, 5), (g, 6), (g, 7), (g + 7, 2)] S S6 := (FZ.rf (X := [g + 8, g + 9]) (Y := [(g, 2), (g, 3), (g, 4), (g, 5), (g, 6), (g, 7), (g + 7, 2)]) (S := S)).tr (q7.2.sub (by simp) (by simp))
  refine V_istore_2 5 dX0_product_5 rfl (Nat.le_of_ble_eq_true rfl) ?_
  refine V_iconst 6 (0) dX0_product_6 (by decide) ?_
  refine V_istore_3 7 dX0_product_7 rfl (Nat.le_of_ble_eq_true rfl) ?_
  refine V_lvw (by repeat (first | exact trivial | refine ⟨rfl, ?_⟩)) (V_while (α := Nat × PS × Int32) (fun z10 => 401 - z10.1) (fun z10 => z10.1 ≤ 401 ∧ FZ [g + 8, g + 9] [(g, 2), (g, 3), (g, 4), (g, 5), (g, 6), (g, 7), (g + 7, 2)] S z10.2.1 ∧ (z10.2.2 = 0 ∨ z10.2.2 = 1)) (fun z10 => z10.2.1) (fun z10 => [some (.ref g), some (.int x), some (.int z10.2.2), some (.int (nI z10.1)), none]) (0, _, _) ⟨Nat.zero_le _, h9, q7.1⟩ (fun z10 hx17 ih15 => ?b18))
  obtain ⟨i11, S12, w16⟩ := z10
  obtain ⟨hi13, h14, hb20⟩ := hx17
  dsimp only at hi13 h14 hb20 ih15 ⊢
  have J23 : ∀ (S21 : PS) (x24 : Int32) (x25 : Int32), FZ [g + 8, g + 9] [(g, 2), (g, 3), (g, 4), (g, 5), (g, 6), (g, 7), (g + 7, 2)] S S21 → i11 < 401 → (x24 = 0 ∨ x24 = 1) → V M Γ (5, RX0, "product", (some .boolean), RM (21) (0) (0)) cX0_product (RQ M Γ (RI (fun r S' => (r = 0 ∨ r = 1) ∧ FZ [g + 8, g + 9] [(g, 2), (g, 3), (g, 4), (g, 5), (g, 6), (g, 7), (g + 7, 2)] S S')) (0) (0)) 0 0 S21 64 [some (.ref g), some (.int x), some (.int x24), some (.int (nI i11)), some (.int x25)] [] := by
    intro S21 x24 x25 h22 lt26 hb_x24
    refine V_iconst 64 (0) dX0_product_64 (by decide) ?_
    refine V_istore_2 65 dX0_product_65 rfl (Nat.le_of_ble_eq_true rfl) ?_
    refine V_aload_0 66 dX0_product_66 ?_
    refine V_getR 67 (c := 0) 1 ((F.ss h22.1).r 0 1 7 rfl) dX0_product_67 fl_RX0_21 ((F.ss h22.1).m 0 (Nat.le_of_ble_eq_true rfl)) ((F.ss h22.1).k 0 0 rfl) (Nat.le_of_ble_eq_true rfl) (Nat.le_of_ble_eq_true rfl) rfl ?_
    refine V_iload_4 70 dX0_product_70 ?_
    refine V_iconst 72 (0) dX0_product_72 (by decide) ?_
    refine V_callV 73 (ci := 2) [.int _, .int _] _ (s_write M.2.1 Γ S21 ((F.ss h22.1).sub 7 lyLaw rfl (by decide)) _ _) dX0_product_73 cb_X2_write ml_RX0_83 im_yX2_write se_yX2_write ((F.ss h22.1).m 7 (Nat.le_of_ble_eq_true rfl)) ((F.ss h22.1).k 7 2 rfl) (Nat.le_of_ble_eq_true rfl) ⟨(Nat.le_of_ble_eq_true rfl), (Nat.le_of_ble_eq_true rfl)⟩ rfl rfl (Nat.le_of_ble_eq_true rfl) ⟨(Nat.le_of_ble_eq_true rfl), (Nat.le_of_ble_eq_true rfl)⟩ (RI.go (fun r29 S27 q28 => ?_))
    have h30 : FZ [g + 8, g + 9] [(g, 2), (g, 3), (g, 4), (g, 5), (g, 6), (g, 7), (g + 7, 2)] S S27 := h22.tr (q28.sub (by simp) (by simp))
    refine V_pop 76 dX0_product_76 rfl ?_
    refine V_iinc_3 77 (1) dX0_product_77 (by decide) rfl (Nat.le_of_ble_eq_true rfl) ?_
    refine V_goto 80 8 dX0_product_80 (by decide) ?_
    rw [← nI_succ]
    refine V_lvw (by repeat (first | exact trivial | refine ⟨rfl, ?_⟩)) (ih15 (i11 + 1, _, _) ⟨by dsimp only; omega, h30, (Or.inl rfl)⟩ (by dsimp only; omega))
  have J33 : ∀ (S31 : PS) (x34 : Int32), FZ [g + 8, g + 9] [(g, 2), (g, 3), (g, 4), (g, 5), (g, 6), (g, 7), (g + 7, 2)] S S31 → i11 < 401 → (x34 = 0 ∨ x34 = 1) → V M Γ (5, RX0, "product", (some .boolean), RM (21) (0) (0)) cX0_product (RQ M Γ (RI (fun r S' => (r = 0 ∨ r = 1) ∧ FZ [g + 8, g + 9] [(g, 2), (g, 3), (g, 4), (g, 5), (g, 6), (g, 7), (g + 7, 2)] S S')) (0) (0)) 0 0 S31 37 [some (.ref g), some (.int x), some (.int x34), some (.int (nI i11)), none] [] := by
    intro S31 x34 h32 lt35 hb_x34
    refine V_aload_0 37 dX0_product_37 ?_
    refine V_getI 38 (c := 0) 3 dX0_product_38 fl_RX0_36 ((F.ss h32.1).m 0 (Nat.le_of_ble_eq_true rfl)) ((F.ss h32.1).k 0 0 rfl) (Nat.le_of_ble_eq_true rfl) (Nat.le_of_ble_eq_true rfl) rfl ?_
    refine V_istore_4 41 dX0_product_41 rfl (Nat.le_of_ble_eq_true rfl) ?_
    refine V_aload_0 43 dX0_product_43 ?_
    refine V_iload_4 44 dX0_product_44 ?_
    refine V_callV 46 (ci := 0) [.int _] _ (s_step M.2.1 Γ S31 (F.ss h32.1) _) dX0_product_46 cb_X0_step ml_RX0_51 im_yX0_step se_yX0_step ((F.ss h32.1).m 0 (Nat.le_of_ble_eq_true rfl)) ((F.ss h32.1).k 0 0 rfl) (Nat.le_of_ble_eq_true rfl) ⟨(Nat.le_of_ble_eq_true rfl), (Nat.le_of_ble_eq_true rfl)⟩ rfl rfl (Nat.le_of_ble_eq_true rfl) ⟨(Nat.le_of_ble_eq_true rfl), (Nat.le_of_ble_eq_true rfl)⟩ (RI.go (fun r38 S36 q37 => ?_))
    have h39 : FZ [g + 8, g + 9] [(g, 2), (g, 3), (g, 4), (g, 5), (g, 6), (g, 7), (g + 7, 2)] S S36 := h32.tr (q37.2.sub (by simp) (by simp))
    refine V_if_eq 49 64 dX0_product_49 (by decide) (fun c40 => ?_) (fun c40 => ?_)
    ·
      refine V_lvw (by repeat (first | exact trivial | refine ⟨rfl, ?_⟩)) (J23 _ _ _ h39 (by first | omega | assumption) hb_x34)
    ·
      refine V_aload_0 52 dX0_product_52 ?_
      refine V_iload_1 53 dX0_product_53 ?_
      refine V_callV 54 (ci := 0) [.int _] _ (s_unit0 M.2.1 Γ S36 (F.ss h39.1) _ hx) dX0_product_54 cb_X0_unit ml_RX0_94 im_yX0_unit se_yX0_unit ((F.ss h39.1).m 0 (Nat.le_of_ble_eq_true rfl)) ((F.ss h39.1).k 0 0 rfl) (Nat.le_of_ble_eq_true rfl) ⟨(Nat.le_of_ble_eq_true rfl), (Nat.le_of_ble_eq_true rfl)⟩ rfl rfl (Nat.le_of_ble_eq_true rfl) ⟨(Nat.le_of_ble_eq_true rfl), (Nat.le_of_ble_eq_true rfl)⟩ (RI.go (fun r44 S42 q43 => ?_))
      have h45 : FZ [g + 8, g + 9] [(g, 2), (g, 3), (g, 4), (g, 5), (g, 6), (g, 7), (g + 7, 2)] S S42 := h39.tr (q43.2.sub (by simp) (by simp))
      refine V_if_eq 57 64 dX0_product_57 (by decide) (fun c46 => ?_) (fun c46 => ?_)
      ·
        refine V_lvw (by repeat (first | exact trivial | refine ⟨rfl, ?_⟩)) (J23 _ _ _ h45 (by first | omega | assumption) hb_x34)
      ·
        refine V_iconst 60 (1) dX0_product_60 (by decide) ?_
        refine V_goto 61 65 dX0_product_61 (by decide) ?_
        refine V_istore_2 65 dX0_product_65 rfl (Nat.le_of_ble_eq_true rfl) ?_
        refine V_aload_0 66 dX0_product_66 ?_
        refine V_getR 67 (c := 0) 1 ((F.ss h45.1).r 0 1 7 rfl) dX0_product_67 fl_RX0_21 ((F.ss h45.1).m 0 (Nat.le_of_ble_eq_true rfl)) ((F.ss h45.1).k 0 0 rfl) (Nat.le_of_ble_eq_true rfl) (Nat.le_of_ble_eq_true rfl) rfl ?_
        refine V_iload_4 70 dX0_product_70 ?_
        refine V_iconst 72 (0) dX0_product_72 (by decide) ?_
        refine V_callV 73 (ci := 2) [.int _, .int _] _ (s_write M.2.1 Γ S42 ((F.ss h45.1).sub 7 lyLaw rfl (by decide)) _ _) dX0_product_73 cb_X2_write ml_RX0_83 im_yX2_write se_yX2_write ((F.ss h45.1).m 7 (Nat.le_of_ble_eq_true rfl)) ((F.ss h45.1).k 7 2 rfl) (Nat.le_of_ble_eq_true rfl) ⟨(Nat.le_of_ble_eq_true rfl), (Nat.le_of_ble_eq_true rfl)⟩ rfl rfl (Nat.le_of_ble_eq_true rfl) ⟨(Nat.le_of_ble_eq_true rfl), (Nat.le_of_ble_eq_true rfl)⟩ (RI.go (fun r50 S48 q49 => ?_))
        have h51 : FZ [g + 8, g + 9] [(g, 2), (g, 3), (g, 4), (g, 5), (g, 6), (g, 7), (g + 7, 2)] S S48 := h45.tr (q49.sub (by simp) (by simp))
        refine V_pop 76 dX0_product_76 rfl ?_
        refine V_iinc_3 77 (1) dX0_product_77 (by decide) rfl (Nat.le_of_ble_eq_true rfl) ?_
        refine V_goto 80 8 dX0_product_80 (by decide) ?_
        rw [← nI_succ]
        refine V_lvw (by repeat (first | exact trivial | refine ⟨rfl, ?_⟩)) (ih15 (i11 + 1, _, _) ⟨by dsimp only; omega, h51, (Or.inr rfl)⟩ (by dsimp only; omega))
  refine V_iload_3 8 dX0_product_8 ?_
  refine V_sipush 9 (400) dX0_product_9 (by decide) ?_
  refine V_icmp_gt 12 83 dX0_product_12 (by decide) (fun c52 => ?_) (fun c52 => ?_)
  ·
    refine V_lvw (by repeat (first | exact trivial | refine ⟨rfl, ?_⟩)) (J3 _ _ _ h14 hb20)
  ·
    have lt54 := nI_ltg (n := 400) (by decide) hi13 c52
    refine V_iload_2 15 dX0_product_15 ?_
    refine V_if_eq 16 83 dX0_product_16 (by decide) (fun c55 => ?_) (fun c55 => ?_)
    ·
      refine V_lvw (by repeat (first | exact trivial | refine ⟨rfl, ?_⟩)) (J3 _ _ _ h14 hb20)
    ·
      refine V_aload_0 19 dX0_product_19 ?_
      refine V_getI 20 (c := 0) 3 dX0_product_20 fl_RX0_36 ((F.ss h14.1).m 0 (Nat.le_of_ble_eq_true rfl)) ((F.ss h14.1).k 0 0 rfl) (Nat.le_of_ble_eq_true rfl) (Nat.le_of_ble_eq_true rfl) rfl ?_
      refine V_bipush 23 (42) dX0_product_23 (by decide) ?_
      refine V_icmp_eq 25 37 dX0_product_25 (by decide) (fun c57 => ?_) (fun c57 => ?_)
      ·
        refine V_lvw (by repeat (first | exact trivial | refine ⟨rfl, ?_⟩)) (J33 _ _ h14 (by first | omega | assumption) hb20)
      ·
        refine V_aload_0 28 dX0_product_28 ?_
        refine V_getI 29 (c := 0) 3 dX0_product_29 fl_RX0_36 ((F.ss h14.1).m 0 (Nat.le_of_ble_eq_true rfl)) ((F.ss h14.1).k 0 0 rfl) (Nat.le_of_ble_eq_true rfl) (Nat.le_of_ble_eq_true rfl) rfl ?_
        refine V_bipush 32 (47) dX0_product_32 (by decide) ?_
        refine V_icmp_ne 34 83 dX0_product_34 (by decide) (fun c59 => ?_) (fun c59 => ?_)
        ·
          refine V_lvw (by repeat (first | exact trivial | refine ⟨rfl, ?_⟩)) (J3 _ _ _ h14 hb20)
        ·
          refine V_lvw (by repeat (first | exact trivial | refine ⟨rfl, ?_⟩)) (J33 _ _ h14 (by first | omega | assumption) hb20)
set_option maxRecDepth 100000 in
set_option maxHeartbeats 8000000 in
theorem s_sum0 (l : Launch) (Γ : GC) (S : PS) {g : Nat} (F : isL lyGrammar Γ.2.2.2.2.1 S g) (x : Int32) (hx : x = 0) : CT l Γ yX0_sum cX0_sum 5 (some .boolean) (22) (0) (0) [.ref g, .int x] S (RI (fun r S' => (r = 0 ∨ r = 1) ∧ FZ [g + 8, g + 9] [(g, 2), (g, 3), (g, 4), (g, 5), (g, 6), (g, 7), (g + 7, 2)] S S')) := by
  refine CT.of RX0 "sum" [some (.ref g), some (.int x), none, none, none] (by decide +kernel) rfl rfl (Nat.le_of_ble_eq_true rfl) rfl (fun M hM => ?_)
  subst hM
  have J3 : ∀ (S1 : PS) (x4 : Int32) (x5 : Int32), FZ [g + 8, g + 9] [(g, 2), (g, 3), (g, 4), (g, 5), (g, 6), (g, 7), (g + 7, 2)] S S1 → (x4 = 0 ∨ x4 = 1) → V M Γ (5, RX0, "sum", (some .boolean), RM (22) (0) (0)) cX0_sum (RQ M Γ (RI (fun r S' => (r = 0 ∨ r = 1) ∧ FZ [g + 8, g + 9] [(g, 2), (g, 3), (g, 4), (g, 5), (g, 6), (g, 7), (g + 7, 2)] S S')) (0) (0)) 0 0 S1 83 [some (.ref g), some (.int x), some (.int x4), some (.int x5), none] [] := by
    intro S1 x4 x5 h2 hb_x4
    refine V_iload_2 83 dX0_sum_83 ?_
    refine V_iret 84 .boolean dX0_sum_84 rfl (nrwB hb_x4) (Nat.le_of_ble_eq_true rfl) (Nat.le_of_ble_eq_true rfl) (RI.mk ⟨hb_x4, h2⟩)
  refine V_aload_0 0 dX0_sum_0 ?_
  refine V_iload_1 1 dX0_sum_1 ?_
  refine V_callV 2 (ci := 0) [.int _] _ (s_product0 M.2.1 Γ S F _ hx) dX0_sum_2 cb_X0_product ml_RX0_91 im_yX0_product se_yX0_product (F.m 0 (Nat.le_of_ble_eq_true rfl)) (F.k 0 0 rfl) (Nat.le_of_ble_eq_true rfl) ⟨(Nat.le_of_ble_eq_true rfl), (Nat.le_of_ble_eq_true rfl)⟩ rfl rfl (Nat.le_of_ble_eq_true rfl) ⟨(Nat.le_of_ble_eq_true rfl), (Nat.le_of_ble_eq_true rfl)⟩ (RI.go (fun r8 S6 q7 => ?_))
  have h9 : FZ [g + 8, g + 9] [(g, 2), (g, 3), (g, 4), (g, 5), (g, 6), (g, 7), (g + 7, 2)] S S6 := (FZ.rf (X := [g + 8, g + 9]) (Y := [(g, 2), (g, 3), (g, 4), (g, 5), (g, 6), (g, 7), (g + 7, 2)]) (S := S)).tr (q7.2.sub (by simp) (by simp))
  refine V_istore_2 5 dX0_sum_5 rfl (Nat.le_of_ble_eq_true rfl) ?_
  refine V_iconst 6 (0) dX0_sum_6 (by decide) ?_
  refine V_istore_3 7 dX0_sum_7 rfl (Nat.le_of_ble_eq_true rfl) ?_
  refine V_lvw (by repeat (first | exact trivial | refine ⟨rfl, ?_⟩)) (V_while (α := Nat × PS × Int32) (fun z10 => 401 - z10.1) (fun z10 => z10.1 ≤ 401 ∧ FZ [g + 8, g + 9] [(g, 2), (g, 3), (g, 4), (g, 5), (g, 6), (g, 7), (g + 7, 2)] S z10.2.1 ∧ (z10.2.2 = 0 ∨ z10.2.2 = 1)) (fun z10 => z10.2.1) (fun z10 => [some (.ref g), some (.int x), some (.int z10.2.2), some (.int (nI z10.1)), none]) (0, _, _) ⟨Nat.zero_le _, h9, q7.1⟩ (fun z10 hx17 ih15 => ?b18))
  obtain ⟨i11, S12, w16⟩ := z10
  obtain ⟨hi13, h14, hb20⟩ := hx17
  dsimp only at hi13 h14 hb20 ih15 ⊢
  have J23 : ∀ (S21 : PS) (x24 : Int32) (x25 : Int32), FZ [g + 8, g + 9] [(g, 2), (g, 3), (g, 4), (g, 5), (g, 6), (g, 7), (g + 7, 2)] S S21 → i11 < 401 → (x24 = 0 ∨ x24 = 1) → V M Γ (5, RX0, "sum", (some .boolean), RM (22) (0) (0)) cX0_sum (RQ M Γ (RI (fun r S' => (r = 0 ∨ r = 1) ∧ FZ [g + 8, g + 9] [(g, 2), (g, 3), (g, 4), (g, 5), (g, 6), (g, 7), (g + 7, 2)] S S')) (0) (0)) 0 0 S21 64 [some (.ref g), some (.int x), some (.int x24), some (.int (nI i11)), some (.int x25)] [] := by
    intro S21 x24 x25 h22 lt26 hb_x24
    refine V_iconst 64 (0) dX0_sum_64 (by decide) ?_
    refine V_istore_2 65 dX0_sum_65 rfl (Nat.le_of_ble_eq_true rfl) ?_
    refine V_aload_0 66 dX0_sum_66 ?_
    refine V_getR 67 (c := 0) 1 ((F.ss h22.1).r 0 1 7 rfl) dX0_sum_67 fl_RX0_21 ((F.ss h22.1).m 0 (Nat.le_of_ble_eq_true rfl)) ((F.ss h22.1).k 0 0 rfl) (Nat.le_of_ble_eq_true rfl) (Nat.le_of_ble_eq_true rfl) rfl ?_
    refine V_iload_4 70 dX0_sum_70 ?_
    refine V_iconst 72 (0) dX0_sum_72 (by decide) ?_
    refine V_callV 73 (ci := 2) [.int _, .int _] _ (s_write M.2.1 Γ S21 ((F.ss h22.1).sub 7 lyLaw rfl (by decide)) _ _) dX0_sum_73 cb_X2_write ml_RX0_83 im_yX2_write se_yX2_write ((F.ss h22.1).m 7 (Nat.le_of_ble_eq_true rfl)) ((F.ss h22.1).k 7 2 rfl) (Nat.le_of_ble_eq_true rfl) ⟨(Nat.le_of_ble_eq_true rfl), (Nat.le_of_ble_eq_true rfl)⟩ rfl rfl (Nat.le_of_ble_eq_true rfl) ⟨(Nat.le_of_ble_eq_true rfl), (Nat.le_of_ble_eq_true rfl)⟩ (RI.go (fun r29 S27 q28 => ?_))
    have h30 : FZ [g + 8, g + 9] [(g, 2), (g, 3), (g, 4), (g, 5), (g, 6), (g, 7), (g + 7, 2)] S S27 := h22.tr (q28.sub (by simp) (by simp))
    refine V_pop 76 dX0_sum_76 rfl ?_
    refine V_iinc_3 77 (1) dX0_sum_77 (by decide) rfl (Nat.le_of_ble_eq_true rfl) ?_
    refine V_goto 80 8 dX0_sum_80 (by decide) ?_
    rw [← nI_succ]
    refine V_lvw (by repeat (first | exact trivial | refine ⟨rfl, ?_⟩)) (ih15 (i11 + 1, _, _) ⟨by dsimp only; omega, h30, (Or.inl rfl)⟩ (by dsimp only; omega))
  have J33 : ∀ (S31 : PS) (x34 : Int32), FZ [g + 8, g + 9] [(g, 2), (g, 3), (g, 4), (g, 5), (g, 6), (g, 7), (g + 7, 2)] S S31 → i11 < 401 → (x34 = 0 ∨ x34 = 1) → V M Γ (5, RX0, "sum", (some .boolean), RM (22) (0) (0)) cX0_sum (RQ M Γ (RI (fun r S' => (r = 0 ∨ r = 1) ∧ FZ [g + 8, g + 9] [(g, 2), (g, 3), (g, 4), (g, 5), (g, 6), (g, 7), (g + 7, 2)] S S')) (0) (0)) 0 0 S31 37 [some (.ref g), some (.int x), some (.int x34), some (.int (nI i11)), none] [] := by
    intro S31 x34 h32 lt35 hb_x34
    refine V_aload_0 37 dX0_sum_37 ?_
    refine V_getI 38 (c := 0) 3 dX0_sum_38 fl_RX0_36 ((F.ss h32.1).m 0 (Nat.le_of_ble_eq_true rfl)) ((F.ss h32.1).k 0 0 rfl) (Nat.le_of_ble_eq_true rfl) (Nat.le_of_ble_eq_true rfl) rfl ?_
    refine V_istore_4 41 dX0_sum_41 rfl (Nat.le_of_ble_eq_true rfl) ?_
    refine V_aload_0 43 dX0_sum_43 ?_
    refine V_iload_4 44 dX0_sum_44 ?_
    refine V_callV 46 (ci := 0) [.int _] _ (s_step M.2.1 Γ S31 (F.ss h32.1) _) dX0_sum_46 cb_X0_step ml_RX0_51 im_yX0_step se_yX0_step ((F.ss h32.1).m 0 (Nat.le_of_ble_eq_true rfl)) ((F.ss h32.1).k 0 0 rfl) (Nat.le_of_ble_eq_true rfl) ⟨(Nat.le_of_ble_eq_true rfl), (Nat.le_of_ble_eq_true rfl)⟩ rfl rfl (Nat.le_of_ble_eq_true rfl) ⟨(Nat.le_of_ble_eq_true rfl), (Nat.le_of_ble_eq_true rfl)⟩ (RI.go (fun r38 S36 q37 => ?_))
    have h39 : FZ [g + 8, g + 9] [(g, 2), (g, 3), (g, 4), (g, 5), (g, 6), (g, 7), (g + 7, 2)] S S36 := h32.tr (q37.2.sub (by simp) (by simp))
    refine V_if_eq 49 64 dX0_sum_49 (by decide) (fun c40 => ?_) (fun c40 => ?_)
    ·
      refine V_lvw (by repeat (first | exact trivial | refine ⟨rfl, ?_⟩)) (J23 _ _ _ h39 (by first | omega | assumption) hb_x34)
    ·
      refine V_aload_0 52 dX0_sum_52 ?_
      refine V_iload_1 53 dX0_sum_53 ?_
      refine V_callV 54 (ci := 0) [.int _] _ (s_product0 M.2.1 Γ S36 (F.ss h39.1) _ hx) dX0_sum_54 cb_X0_product ml_RX0_91 im_yX0_product se_yX0_product ((F.ss h39.1).m 0 (Nat.le_of_ble_eq_true rfl)) ((F.ss h39.1).k 0 0 rfl) (Nat.le_of_ble_eq_true rfl) ⟨(Nat.le_of_ble_eq_true rfl), (Nat.le_of_ble_eq_true rfl)⟩ rfl rfl (Nat.le_of_ble_eq_true rfl) ⟨(Nat.le_of_ble_eq_true rfl), (Nat.le_of_ble_eq_true rfl)⟩ (RI.go (fun r44 S42 q43 => ?_))
      have h45 : FZ [g + 8, g + 9] [(g, 2), (g, 3), (g, 4), (g, 5), (g, 6), (g, 7), (g + 7, 2)] S S42 := h39.tr (q43.2.sub (by simp) (by simp))
      refine V_if_eq 57 64 dX0_sum_57 (by decide) (fun c46 => ?_) (fun c46 => ?_)
      ·
        refine V_lvw (by repeat (first | exact trivial | refine ⟨rfl, ?_⟩)) (J23 _ _ _ h45 (by first | omega | assumption) hb_x34)
      ·
        refine V_iconst 60 (1) dX0_sum_60 (by decide) ?_
        refine V_goto 61 65 dX0_sum_61 (by decide) ?_
        refine V_istore_2 65 dX0_sum_65 rfl (Nat.le_of_ble_eq_true rfl) ?_
        refine V_aload_0 66 dX0_sum_66 ?_
        refine V_getR 67 (c := 0) 1 ((F.ss h45.1).r 0 1 7 rfl) dX0_sum_67 fl_RX0_21 ((F.ss h45.1).m 0 (Nat.le_of_ble_eq_true rfl)) ((F.ss h45.1).k 0 0 rfl) (Nat.le_of_ble_eq_true rfl) (Nat.le_of_ble_eq_true rfl) rfl ?_
        refine V_iload_4 70 dX0_sum_70 ?_
        refine V_iconst 72 (0) dX0_sum_72 (by decide) ?_
        refine V_callV 73 (ci := 2) [.int _, .int _] _ (s_write M.2.1 Γ S42 ((F.ss h45.1).sub 7 lyLaw rfl (by decide)) _ _) dX0_sum_73 cb_X2_write ml_RX0_83 im_yX2_write se_yX2_write ((F.ss h45.1).m 7 (Nat.le_of_ble_eq_true rfl)) ((F.ss h45.1).k 7 2 rfl) (Nat.le_of_ble_eq_true rfl) ⟨(Nat.le_of_ble_eq_true rfl), (Nat.le_of_ble_eq_true rfl)⟩ rfl rfl (Nat.le_of_ble_eq_true rfl) ⟨(Nat.le_of_ble_eq_true rfl), (Nat.le_of_ble_eq_true rfl)⟩ (RI.go (fun r50 S48 q49 => ?_))
        have h51 : FZ [g + 8, g + 9] [(g, 2), (g, 3), (g, 4), (g, 5), (g, 6), (g, 7), (g + 7, 2)] S S48 := h45.tr (q49.sub (by simp) (by simp))
        refine V_pop 76 dX0_sum_76 rfl ?_
        refine V_iinc_3 77 (1) dX0_sum_77 (by decide) rfl (Nat.le_of_ble_eq_true rfl) ?_
        refine V_goto 80 8 dX0_sum_80 (by decide) ?_
        rw [← nI_succ]
        refine V_lvw (by repeat (first | exact trivial | refine ⟨rfl, ?_⟩)) (ih15 (i11 + 1, _, _) ⟨by dsimp only; omega, h51, (Or.inr rfl)⟩ (by dsimp only; omega))
  refine V_iload_3 8 dX0_sum_8 ?_
  refine V_sipush 9 (400) dX0_sum_9 (by decide) ?_
  refine V_icmp_gt 12 83 dX0_sum_12 (by decide) (fun c52 => ?_) (fun c52 => ?_)
  ·
    refine V_lvw (by repeat (first | exact trivial | refine ⟨rfl, ?_⟩)) (J3 _ _ _ h14 hb20)
  ·
    have lt54 := nI_ltg (n := 400) (by decide) hi13 c52
    refine V_iload_2 15 dX0_sum_15 ?_
    refine V_if_eq 16 83 dX0_sum_16 (by decide) (fun c55 => ?_) (fun c55 => ?_)
    ·
      refine V_lvw (by repeat (first | exact trivial | refine ⟨rfl, ?_⟩)) (J3 _ _ _ h14 hb20)
    ·
      refine V_aload_0 19 dX0_sum_19 ?_
      refine V_getI 20 (c := 0) 3 dX0_sum_20 fl_RX0_36 ((F.ss h14.1).m 0 (Nat.le_of_ble_eq_true rfl)) ((F.ss h14.1).k 0 0 rfl) (Nat.le_of_ble_eq_true rfl) (Nat.le_of_ble_eq_true rfl) rfl ?_
      refine V_bipush 23 (43) dX0_sum_23 (by decide) ?_
      refine V_icmp_eq 25 37 dX0_sum_25 (by decide) (fun c57 => ?_) (fun c57 => ?_)
      ·
        refine V_lvw (by repeat (first | exact trivial | refine ⟨rfl, ?_⟩)) (J33 _ _ h14 (by first | omega | assumption) hb20)
      ·
        refine V_aload_0 28 dX0_sum_28 ?_
        refine V_getI 29 (c := 0) 3 dX0_sum_29 fl_RX0_36 ((F.ss h14.1).m 0 (Nat.le_of_ble_eq_true rfl)) ((F.ss h14.1).k 0 0 rfl) (Nat.le_of_ble_eq_true rfl) (Nat.le_of_ble_eq_true rfl) rfl ?_
        refine V_bipush 32 (45) dX0_sum_32 (by decide) ?_
        refine V_icmp_ne 34 83 dX0_sum_34 (by decide) (fun c59 => ?_) (fun c59 => ?_)
        ·
          refine V_lvw (by repeat (first | exact trivial | refine ⟨rfl, ?_⟩)) (J3 _ _ _ h14 hb20)
        ·
          refine V_lvw (by repeat (first | exact trivial | refine ⟨rfl, ?_⟩)) (J33 _ _ h14 (by first | omega | assumption) hb20)

