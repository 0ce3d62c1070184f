/-! Odds.bestWorth from any ints -/
set_option maxRecDepth 100000 in
set_option maxHeartbeats 8000000 in
theorem s_bestWorth (l : Launch) (Γ : GC) (S : PS) {o t : Nat} (F : isL lyOdds Γ.2.2.2.2.1 S o) (Ft : isL lyText Γ.2.2.2.2.1 S t) (x : Int32) : CT l Γ yX4_bestWorth cX4_bestWorth 9 (some .int) (4) (0) (0) [.ref o, .int x, .ref t] S (RI (fun r S' => FZ [] [] S S')) := by
  refine CT.of RX4 "bestWorth" [some (.ref o), some (.int x), some (.ref t), none, none, none, none, none, none] (by decide +kernel) rfl rfl (Nat.le_of_ble_eq_true rfl) rfl (fun M hM => ?_)
  subst hM
  refine V_iconst 0 (0) dX4_bestWorth_0 (by decide) ?_
  refine V_istore_3 1 dX4_bestWorth_1 rfl (Nat.le_of_ble_eq_true rfl) ?_
  refine V_lvw (by repeat (first | exact trivial | refine ⟨rfl, ?_⟩)) (V_while (α := Nat × PS) (fun z1 => 7 - z1.1) (fun z1 => z1.1 ≤ 7 ∧ FZ [] [] S z1.2) (fun z1 => z1.2) (fun z1 => [some (.ref o), some (.int x), some (.ref t), some (.int (nI z1.1)), none, none, none, none, none]) (0, _) ⟨Nat.zero_le _, FZ.rf⟩ (fun z1 hx7 ih6 => ?b8))
  obtain ⟨i2, S3⟩ := z1
  obtain ⟨hi4, h5⟩ := hx7
  dsimp only at hi4 h5 ih6 ⊢
  refine V_iload_3 2 dX4_bestWorth_2 ?_
  refine V_bipush 3 (7) dX4_bestWorth_3 (by decide) ?_
  refine V_icmp_ge 5 26 dX4_bestWorth_5 (by decide) (fun c10 => ?_) (fun c10 => ?_)
  ·
    refine V_iload_1 26 dX4_bestWorth_26 ?_
    refine V_aload_0 27 dX4_bestWorth_27 ?_
    refine V_getR 28 (c := 4) 0 ((F.ss h5.1).r 0 0 1 rfl) dX4_bestWorth_28 fl_RX4_12 ((F.ss h5.1).m 0 (Nat.le_of_ble_eq_true rfl)) ((F.ss h5.1).k 0 4 rfl) (Nat.le_of_ble_eq_true rfl) (Nat.le_of_ble_eq_true rfl) rfl ?_
    refine V_getR 31 (c := 1) 1 ((F.ss h5.1).r 1 1 3 rfl) dX4_bestWorth_31 fl_RX4_50 ((F.ss h5.1).m 1 (Nat.le_of_ble_eq_true rfl)) ((F.ss h5.1).k 1 1 rfl) (Nat.le_of_ble_eq_true rfl) (Nat.le_of_ble_eq_true rfl) rfl ?_
    refine V_iload_3 34 dX4_bestWorth_34 ?_
    refine V_callSN 35 [.ref _, .int _] _ (c_at M.2.1 Γ S3 (a := (o + 3)) ((F.ss h5.1).m 3 (Nat.le_of_ble_eq_true rfl)) ((F.ss h5.1).k 3 14 rfl) (by rw [((F.ss h5.1).l 3 8 rfl)]; decide) _) dX4_bestWorth_35 cb_X11_at ne_RX4_37 sm_yX11_at ⟨(Nat.le_of_ble_eq_true rfl), (Nat.le_of_ble_eq_true rfl)⟩ rfl rfl (Nat.le_of_ble_eq_true rfl) ⟨(Nat.le_of_ble_eq_true rfl), (Nat.le_of_ble_eq_true rfl)⟩ (RI.go (fun r13 S11 q12 => ?_))
    rw [q12.2]
    refine V_isub 38 dX4_bestWorth_38 ?_
    refine V_istore_4 39 dX4_bestWorth_39 rfl (Nat.le_of_ble_eq_true rfl) ?_
    refine V_aload_0 41 dX4_bestWorth_41 ?_
    refine V_getR 42 (c := 4) 1 ((F.ss h5.1).r 0 1 5 rfl) dX4_bestWorth_42 fl_RX4_18 ((F.ss h5.1).m 0 (Nat.le_of_ble_eq_true rfl)) ((F.ss h5.1).k 0 4 rfl) (Nat.le_of_ble_eq_true rfl) (Nat.le_of_ble_eq_true rfl) rfl ?_
    refine V_iload_4 45 dX4_bestWorth_45 ?_
    refine V_callSN 47 [.ref _, .int _] _ (c_at M.2.1 Γ S3 (a := (o + 5)) ((F.ss h5.1).m 5 (Nat.le_of_ble_eq_true rfl)) ((F.ss h5.1).k 5 14 rfl) (by rw [((F.ss h5.1).l 5 1024 rfl)]; decide) _) dX4_bestWorth_47 cb_X11_at ne_RX4_37 sm_yX11_at ⟨(Nat.le_of_ble_eq_true rfl), (Nat.le_of_ble_eq_true rfl)⟩ rfl rfl (Nat.le_of_ble_eq_true rfl) ⟨(Nat.le_of_ble_eq_true rfl), (Nat.le_of_ble_eq_true rfl)⟩ (RI.go (fun r16 S14 q15 => ?_))
    rw [q15.2]
    refine V_istore_5 50 dX4_bestWorth_50 rfl (Nat.le_of_ble_eq_true rfl) ?_
    refine V_iload_3 52 dX4_bestWorth_52 ?_
    refine V_istore_6 53 dX4_bestWorth_53 rfl (Nat.le_of_ble_eq_true rfl) ?_
    refine V_lvw (by repeat (first | exact trivial | refine ⟨rfl, ?_⟩)) (V_while (α := Nat × PS × Int32 × Int32) (fun z17 => 8 - z17.1) (fun z17 => z17.1 ≤ 8 ∧ FZ [] [] S z17.2.1) (fun z17 => z17.2.1) (fun z17 => [some (.ref o), some (.int x), some (.ref t), some (.int (nI i2)), some (.int z17.2.2.1), some (.int z17.2.2.2), some (.int (nI z17.1)), none, none]) (i2, _, _, _) ⟨(by dsimp only; omega), h5⟩ (fun z17 hx25 ih22 => ?b26))
    obtain ⟨i18, S19, w23, w24⟩ := z17
    obtain ⟨hi20, h21⟩ := hx25
    dsimp only at hi20 h21 ih22 ⊢
    have J30 : ∀ (S28 : PS) (x31 : Int32) (x32 : Int32) (x33 : Int32), FZ [] [] S S28 → i18 < 8 → V M Γ (9, RX4, "bestWorth", (some .int), RM (4) (0) (0)) cX4_bestWorth (RQ M Γ (RI (fun r S' => FZ [] [] S S')) (0) (0)) 0 0 S28 144 [some (.ref o), some (.int x), some (.ref t), some (.int (nI i2)), some (.int x31), some (.int x32), some (.int (nI i18)), some (.int x33), none] [] := by
      intro S28 x31 x32 x33 h29 lt34
      refine V_iinc_6 144 (1) dX4_bestWorth_144 (by decide) rfl (Nat.le_of_ble_eq_true rfl) ?_
      refine V_goto 147 55 dX4_bestWorth_147 (by decide) ?_
      rw [← nI_succ]
      refine V_lvw (by repeat (first | exact trivial | refine ⟨rfl, ?_⟩)) (ih22 (i18 + 1, _, _, _) ⟨by dsimp only; omega, h29⟩ (by dsimp only; omega))
    have J37 : ∀ (S35 : PS) (x38 : Int32) (x39 : Int32) (x40 : Int32) (x41 : Int32), FZ [] [] S S35 → i18 < 8 → V M Γ (9, RX4, "bestWorth", (some .int), RM (4) (0) (0)) cX4_bestWorth (RQ M Γ (RI (fun r S' => FZ [] [] S S')) (0) (0)) 0 0 S35 83 [some (.ref o), some (.int x), some (.ref t), some (.int (nI i2)), some (.int x38), some (.int x39), some (.int (nI i18)), none, none] [.int x41, .int x40] := by
      intro S35 x38 x39 x40 x41 h36 lt42
      refine V_isub 83 dX4_bestWorth_83 ?_
      refine V_istore_7 84 dX4_bestWorth_84 rfl (Nat.le_of_ble_eq_true rfl) ?_
      refine V_iload_7 86 dX4_bestWorth_86 ?_
      refine V_if_le 88 144 dX4_bestWorth_88 (by decide) (fun c43 => ?_) (fun c43 => ?_)
      ·
        refine V_lvw (by repeat (first | exact trivial | refine ⟨rfl, ?_⟩)) (J30 _ _ _ _ h36 (by first | omega | assumption))
      ·
        refine V_aload_2 91 dX4_bestWorth_91 ?_
        refine V_iload_3 92 dX4_bestWorth_92 ?_
        refine V_iload_6 93 dX4_bestWorth_93 ?_
        refine V_callS 95 [.ref _, .int _, .int _] _ (s_canPair M.2.1 Γ S35 (Ft.ss h36.1) _ _) dX4_bestWorth_95 cb_X4_canPair ml_RX4_53 sm_yX4_canPair ⟨(Nat.le_of_ble_eq_true rfl), (Nat.le_of_ble_eq_true rfl)⟩ rfl rfl (Nat.le_of_ble_eq_true rfl) ⟨(Nat.le_of_ble_eq_true rfl), (Nat.le_of_ble_eq_true rfl)⟩ (RI.go (fun r47 S45 q46 => ?_))
        have h48 : FZ [] [] S S45 := h36.tr (q46.2.sub (by simp) (by simp))
        refine V_if_eq 98 144 dX4_bestWorth_98 (by decide) (fun c49 => ?_) (fun c49 => ?_)
        ·
          refine V_lvw (by repeat (first | exact trivial | refine ⟨rfl, ?_⟩)) (J30 _ _ _ _ h48 (by first | omega | assumption))
        ·
          refine V_aload_0 101 dX4_bestWorth_101 ?_
          refine V_getR 102 (c := 4) 1 ((F.ss h48.1).r 0 1 5 rfl) dX4_bestWorth_102 fl_RX4_18 ((F.ss h48.1).m 0 (Nat.le_of_ble_eq_true rfl)) ((F.ss h48.1).k 0 4 rfl) (Nat.le_of_ble_eq_true rfl) (Nat.le_of_ble_eq_true rfl) rfl ?_
          refine V_iload_4 105 dX4_bestWorth_105 ?_
          refine V_aload_0 107 dX4_bestWorth_107 ?_
          refine V_getR 108 (c := 4) 0 ((F.ss h48.1).r 0 0 1 rfl) dX4_bestWorth_108 fl_RX4_12 ((F.ss h48.1).m 0 (Nat.le_of_ble_eq_true rfl)) ((F.ss h48.1).k 0 4 rfl) (Nat.le_of_ble_eq_true rfl) (Nat.le_of_ble_eq_true rfl) rfl ?_
          refine V_getR 111 (c := 1) 1 ((F.ss h48.1).r 1 1 3 rfl) dX4_bestWorth_111 fl_RX4_50 ((F.ss h48.1).m 1 (Nat.le_of_ble_eq_true rfl)) ((F.ss h48.1).k 1 1 rfl) (Nat.le_of_ble_eq_true rfl) (Nat.le_of_ble_eq_true rfl) rfl ?_
          refine V_iload_6 114 dX4_bestWorth_114 ?_
          refine V_iaload2 116 dX4_bestWorth_116 ((F.ss h48.1).m 3 (Nat.le_of_ble_eq_true rfl)) ((F.ss h48.1).k 3 14 rfl) ((F.ss h48.1).l 3 8 rfl) ?_ ?_
          · exact vp_in_nI (by omega) (by decide)
          refine V_isub 117 dX4_bestWorth_117 ?_
          refine V_callSN 118 [.ref _, .int _] _ (c_at M.2.1 Γ S45 (a := (o + 5)) ((F.ss h48.1).m 5 (Nat.le_of_ble_eq_true rfl)) ((F.ss h48.1).k 5 14 rfl) (by rw [((F.ss h48.1).l 5 1024 rfl)]; decide) _) dX4_bestWorth_118 cb_X11_at ne_RX4_37 sm_yX11_at ⟨(Nat.le_of_ble_eq_true rfl), (Nat.le_of_ble_eq_true rfl)⟩ rfl rfl (Nat.le_of_ble_eq_true rfl) ⟨(Nat.le_of_ble_eq_true rfl), (Nat.le_of_ble_eq_true rfl)⟩ (RI.go (fun r53 S51 q52 => ?_))
          rw [q52.2]
          refine V_sipush 121 (10000) dX4_bestWorth_121 (by decide) ?_
          refine V_iadd 124 dX4_bestWorth_124 ?_
          refine V_aload_2 125 dX4_bestWorth_125 ?_
          refine V_iload_3 126 dX4_bestWorth_126 ?_
          refine V_iload_6 127 dX4_bestWorth_127 ?_
          refine V_callS 129 [.ref _, .int _, .int _] _ (s_unlikeKinds M.2.1 Γ S45 (Ft.ss h48.1) _ _) dX4_bestWorth_129 cb_X4_unlikeKinds ml_RX4_57 sm_yX4_unlikeKinds ⟨(Nat.le_of_ble_eq_true rfl), (Nat.le_of_ble_eq_true rfl)⟩ rfl rfl (Nat.le_of_ble_eq_true rfl) ⟨(Nat.le_of_ble_eq_true rfl), (Nat.le_of_ble_eq_true rfl)⟩ (RI.go (fun r56 S54 q55 => ?_))
          have h57 : FZ [] [] S S54 := h48.tr (q55.sub (by simp) (by simp))
          refine V_isub 132 dX4_bestWorth_132 ?_
          refine V_istore_8 133 dX4_bestWorth_133 rfl (Nat.le_of_ble_eq_true rfl) ?_
          refine V_iload_5 135 dX4_bestWorth_135 ?_
          refine V_iload_8 137 dX4_bestWorth_137 ?_
          refine V_mmax 139 dX4_bestWorth_139 ml_RX4_61 (Nat.le_of_ble_eq_true rfl) (Nat.le_of_ble_eq_true rfl) (Nat.le_of_ble_eq_true rfl) (Nat.le_of_ble_eq_true rfl) ?_
          refine V_istore_5 142 dX4_bestWorth_142 rfl (Nat.le_of_ble_eq_true rfl) ?_
          refine V_lvw (by repeat (first | exact trivial | refine ⟨rfl, ?_⟩)) (J30 _ _ _ _ h57 (by first | omega | assumption))
    refine V_iload_6 55 dX4_bestWorth_55 ?_
    refine V_bipush 57 (8) dX4_bestWorth_57 (by decide) ?_
    refine V_icmp_ge 59 150 dX4_bestWorth_59 (by decide) (fun c59 => ?_) (fun c59 => ?_)
    ·
      refine V_iload_5 150 dX4_bestWorth_150 ?_
      refine V_iret 152 .int dX4_bestWorth_152 rfl rfl (Nat.le_of_ble_eq_true rfl) (Nat.le_of_ble_eq_true rfl) (RI.mk h21)
    ·
      have lt60 := nI_lt8 (by decide) hi20 c59
      refine V_aload_0 62 dX4_bestWorth_62 ?_
      refine V_getR 63 (c := 4) 0 ((F.ss h21.1).r 0 0 1 rfl) dX4_bestWorth_63 fl_RX4_12 ((F.ss h21.1).m 0 (Nat.le_of_ble_eq_true rfl)) ((F.ss h21.1).k 0 4 rfl) (Nat.le_of_ble_eq_true rfl) (Nat.le_of_ble_eq_true rfl) rfl ?_
      refine V_getR 66 (c := 1) 2 ((F.ss h21.1).r 1 2 4 rfl) dX4_bestWorth_66 fl_RX4_47 ((F.ss h21.1).m 1 (Nat.le_of_ble_eq_true rfl)) ((F.ss h21.1).k 1 1 rfl) (Nat.le_of_ble_eq_true rfl) (Nat.le_of_ble_eq_true rfl) rfl ?_
      refine V_iload_6 69 dX4_bestWorth_69 ?_
      refine V_iaload2 71 dX4_bestWorth_71 ((F.ss h21.1).m 4 (Nat.le_of_ble_eq_true rfl)) ((F.ss h21.1).k 4 14 rfl) ((F.ss h21.1).l 4 8 rfl) ?_ ?_
      · exact vp_in_nI (by omega) (by decide)
      refine V_iload_6 72 dX4_bestWorth_72 ?_
      refine V_iload_3 74 dX4_bestWorth_74 ?_
      refine V_icmp_ne 75 82 dX4_bestWorth_75 (by decide) (fun c61 => ?_) (fun c61 => ?_)
      ·
        refine V_iconst 82 (0) dX4_bestWorth_82 (by decide) ?_
        refine V_lvw (by repeat (first | exact trivial | refine ⟨rfl, ?_⟩)) (J37 _ _ _ _ _ h21 (by first | omega | assumption))
      ·
        refine V_iconst 78 (1) dX4_bestWorth_78 (by decide) ?_
        refine V_goto 79 83 dX4_bestWorth_79 (by decide) ?_
        refine V_lvw (by repeat (first | exact trivial | refine ⟨rfl, ?_⟩)) (J37 _ _ _ _ _ h21 (by first | omega | assumption))
  ·
    have lt64 := nI_lt8 (by decide) hi4 c10
    refine V_aload_0 8 dX4_bestWorth_8 ?_
    refine V_getR 9 (c := 4) 0 ((F.ss h5.1).r 0 0 1 rfl) dX4_bestWorth_9 fl_RX4_12 ((F.ss h5.1).m 0 (Nat.le_of_ble_eq_true rfl)) ((F.ss h5.1).k 0 4 rfl) (Nat.le_of_ble_eq_true rfl) (Nat.le_of_ble_eq_true rfl) rfl ?_
    refine V_getR 12 (c := 1) 2 ((F.ss h5.1).r 1 2 4 rfl) dX4_bestWorth_12 fl_RX4_47 ((F.ss h5.1).m 1 (Nat.le_of_ble_eq_true rfl)) ((F.ss h5.1).k 1 1 rfl) (Nat.le_of_ble_eq_true rfl) (Nat.le_of_ble_eq_true rfl) rfl ?_
    refine V_iload_3 15 dX4_bestWorth_15 ?_
    refine V_iaload2 16 dX4_bestWorth_16 ((F.ss h5.1).m 4 (Nat.le_of_ble_eq_true rfl)) ((F.ss h5.1).k 4 14 rfl) ((F.ss h5.1).l 4 8 rfl) ?_ ?_
    · exact vp_in_nI (by omega) (by decide)
    refine V_if_ne 17 26 dX4_bestWorth_17 (by decide) (fun c65 => ?_) (fun c65 => ?_)
    ·
      refine V_iload_1 26 dX4_bestWorth_26 ?_
      refine V_aload_0 27 dX4_bestWorth_27 ?_
      refine V_getR 28 (c := 4) 0 ((F.ss h5.1).r 0 0 1 rfl) dX4_bestWorth_28 fl_RX4_12 ((F.ss h5.1).m 0 (Nat.le_of_ble_eq_true rfl)) ((F.ss h5.1).k 0 4 rfl) (Nat.le_of_ble_eq_true rfl) (Nat.le_of_ble_eq_true rfl) rfl ?_
      refine V_getR 31 (c := 1) 1 ((F.ss h5.1).r 1 1 3 rfl) dX4_bestWorth_31 fl_RX4_50 ((F.ss h5.1).m 1 (Nat.le_of_ble_eq_true rfl)) ((F.ss h5.1).k 1 1 rfl) (Nat.le_of_ble_eq_true rfl) (Nat.le_of_ble_eq_true rfl) rfl ?_
      refine V_iload_3 34 dX4_bestWorth_34 ?_
      refine V_callSN 35 [.ref _, .int _] _ (c_at M.2.1 Γ S3 (a := (o + 3)) ((F.ss h5.1).m 3 (Nat.le_of_ble_eq_true rfl)) ((F.ss h5.1).k 3 14 rfl) (by rw [((F.ss h5.1).l 3 8 rfl)]; decide) _) dX4_bestWorth_35 cb_X11_at ne_RX4_37 sm_yX11_at ⟨(Nat.le_of_ble_eq_true rfl), (Nat.le_of_ble_eq_true rfl)⟩ rfl rfl (Nat.le_of_ble_eq_true rfl) ⟨(Nat.le_of_ble_eq_true rfl), (Nat.le_of_ble_eq_true rfl)⟩ (RI.go (fun r68 S66 q67 => ?_))
      rw [q67.2]
      refine V_isub 38 dX4_bestWorth_38 ?_
      refine V_istore_4 39 dX4_bestWorth_39 rfl (Nat.le_of_ble_eq_true rfl) ?_
      refine V_aload_0 41 dX4_bestWorth_41 ?_
      refine V_getR 42 (c := 4) 1 ((F.ss h5.1).r 0 1 5 rfl) dX4_bestWorth_42 fl_RX4_18 ((F.ss h5.1).m 0 (Nat.le_of_ble_eq_true rfl)) ((F.ss h5.1).k 0 4 rfl) (Nat.le_of_ble_eq_true rfl) (Nat.le_of_ble_eq_true rfl) rfl ?_
      refine V_iload_4 45 dX4_bestWorth_45 ?_
      refine V_callSN 47 [.ref _, .int _] _ (c_at M.2.1 Γ S3 (a := (o + 5)) ((F.ss h5.1).m 5 (Nat.le_of_ble_eq_true rfl)) ((F.ss h5.1).k 5 14 rfl) (by rw [((F.ss h5.1).l 5 1024 rfl)]; decide) _) dX4_bestWorth_47 cb_X11_at ne_RX4_37 sm_yX11_at ⟨(Nat.le_of_ble_eq_true rfl), (Nat.le_of_ble_eq_true rfl)⟩ rfl rfl (Nat.le_of_ble_eq_true rfl) ⟨(Nat.le_of_ble_eq_true rfl), (Nat.le_of_ble_eq_true rfl)⟩ (RI.go (fun r71 S69 q70 => ?_))
      rw [q70.2]
      refine V_istore_5 50 dX4_bestWorth_50 rfl (Nat.le_of_ble_eq_true rfl) ?_
      refine V_iload_3 52 dX4_bestWorth_52 ?_
      refine V_istore_6 53 dX4_bestWorth_53 rfl (Nat.le_of_ble_eq_true rfl) ?_
      refine V_lvw (by repeat (first | exact trivial | refine ⟨rfl, ?_⟩)) (V_while (α := Nat × PS × Int32 × Int32) (fun z72 => 8 - z72.1) (fun z72 => z72.1 ≤ 8 ∧ FZ [] [] S z72.2.1) (fun z72 => z72.2.1) (fun z72 => [some (.ref o), some (.int x), some (.ref t), some (.int (nI i2)), some (.int z72.2.2.1), some (.int z72.2.2.2), some (.int (nI z72.1)), none, none]) (i2, _, _, _) ⟨(by dsimp only; omega), h5⟩ (fun z72 hx80 ih77 => ?b81))
      obtain ⟨i73, S74, w78, w79⟩ := z72
      obtain ⟨hi75, h76⟩ := hx80
      dsimp only at hi75 h76 ih77 ⊢
      have J85 : ∀ (S83 : PS) (x86 : Int32) (x87 : Int32) (x88 : Int32), FZ [] [] S S83 → i73 < 8 → V M Γ (9, RX4, "bestWorth", (some .int), RM (4) (0) (0)) cX4_bestWorth (RQ M Γ (RI (fun r S' => FZ [] [] S S')) (0) (0)) 0 0 S83 144 [some (.ref o), some (.int x), some (.ref t), some (.int (nI i2)), some (.int x86), some (.int x87), some (.int (nI i73)), some (.int x88), none] [] := by
        intro S83 x86 x87 x88 h84 lt89
        refine V_iinc_6 144 (1) dX4_bestWorth_144 (by decide) rfl (Nat.le_of_ble_eq_true rfl) ?_
        refine V_goto 147 55 dX4_bestWorth_147 (by decide) ?_
        rw [← nI_succ]
        refine V_lvw (by repeat (first | exact trivial | refine ⟨rfl, ?_⟩)) (ih77 (i73 + 1, _, _, _) ⟨by dsimp only; omega, h84⟩ (by dsimp only; omega))
      have J92 : ∀ (S90 : PS) (x93 : Int32) (x94 : Int32) (x95 : Int32) (x96 : Int32), FZ [] [] S S90 → i73 < 8 → V M Γ (9, RX4, "bestWorth", (some .int), RM (4) (0) (0)) cX4_bestWorth (RQ M Γ (RI (fun r S' => FZ [] [] S S')) (0) (0)) 0 0 S90 83 [some (.ref o), some (.int x), some (.ref t), some (.int (nI i2)), some (.int x93), some (.int x94), some (.int (nI i73)), none, none] [.int x96, .int x95] := by
        intro S90 x93 x94 x95 x96 h91 lt97
        refine V_isub 83 dX4_bestWorth_83 ?_
        refine V_istore_7 84 dX4_bestWorth_84 rfl (Nat.le_of_ble_eq_true rfl) ?_
        refine V_iload_7 86 dX4_bestWorth_86 ?_
        refine V_if_le 88 144 dX4_bestWorth_88 (by decide) (fun c98 => ?_) (fun c98 => ?_)
        ·
          refine V_lvw (by repeat (first | exact trivial | refine ⟨rfl, ?_⟩)) (J85 _ _ _ _ h91 (by first | omega | assumption))
        ·
          refine V_aload_2 91 dX4_bestWorth_91 ?_
          refine V_iload_3 92 dX4_bestWorth_92 ?_
          refine V_iload_6 93 dX4_bestWorth_93 ?_
          refine V_callS 95 [.ref _, .int _, .int _] _ (s_canPair M.2.1 Γ S90 (Ft.ss h91.1) _ _) dX4_bestWorth_95 cb_X4_canPair ml_RX4_53 sm_yX4_canPair ⟨(Nat.le_of_ble_eq_true rfl), (Nat.le_of_ble_eq_true rfl)⟩ rfl rfl (Nat.le_of_ble_eq_true rfl) ⟨(Nat.le_of_ble_eq_true rfl), (Nat.le_of_ble_eq_true rfl)⟩ (RI.go (fun r102 S100 q101 => ?_))
          have h103 : FZ [] [] S S100 := h91.tr (q101.2.sub (by simp) (by simp))
          refine V_if_eq 98 144 dX4_bestWorth_98 (by decide) (fun c104 => ?_) (fun c104 => ?_)
          ·
            refine V_lvw (by repeat (first | exact trivial | refine ⟨rfl, ?_⟩)) (J85 _ _ _ _ h103 (by first | omega | assumption))
          ·
            refine V_aload_0 101 dX4_bestWorth_101 ?_
            refine V_getR 102 (c := 4) 1 ((F.ss h103.1).r 0 1 5 rfl) dX4_bestWorth_102 fl_RX4_18 ((F.ss h103.1).m 0 (Nat.le_of_ble_eq_true rfl)) ((F.ss h103.1).k 0 4 rfl) (Nat.le_of_ble_eq_true rfl) (Nat.le_of_ble_eq_true rfl) rfl ?_
            refine V_iload_4 105 dX4_bestWorth_105 ?_
            refine V_aload_0 107 dX4_bestWorth_107 ?_
            refine V_getR 108 (c := 4) 0 ((F.ss h103.1).r 0 0 1 rfl) dX4_bestWorth_108 fl_RX4_12 ((F.ss h103.1).m 0 (Nat.le_of_ble_eq_true rfl)) ((F.ss h103.1).k 0 4 rfl) (Nat.le_of_ble_eq_true rfl) (Nat.le_of_ble_eq_true rfl) rfl ?_
            refine V_getR 111 (c := 1) 1 ((F.ss h103.1).r 1 1 3 rfl) dX4_bestWorth_111 fl_RX4_50 ((F.ss h103.1).m 1 (Nat.le_of_ble_eq_true rfl)) ((F.ss h103.1).k 1 1 rfl) (Nat.le_of_ble_eq_true rfl) (Nat.le_of_ble_eq_true rfl) rfl ?_
            refine V_iload_6 114 dX4_bestWorth_114 ?_
            refine V_iaload2 116 dX4_bestWorth_116 ((F.ss h103.1).m 3 (Nat.le_of_ble_eq_true rfl)) ((F.ss h103.1).k 3 14 rfl) ((F.ss h103.1).l 3 8 rfl) ?_ ?_
            · exact vp_in_nI (by omega) (by decide)
            refine V_isub 117 dX4_bestWorth_117 ?_
            refine V_callSN 118 [.ref _, .int _] _ (c_at M.2.1 Γ S100 (a := (o + 5)) ((F.ss h103.1).m 5 (Nat.le_of_ble_eq_true rfl)) ((F.ss h103.1).k 5 14 rfl) (by rw [((F.ss h103.1).l 5 1024 rfl)]; decide) _) dX4_bestWorth_118 cb_X11_at ne_RX4_37 sm_yX11_at ⟨(Nat.le_of_ble_eq_true rfl), (Nat.le_of_ble_eq_true rfl)⟩ rfl rfl (Nat.le_of_ble_eq_true rfl) ⟨(Nat.le_of_ble_eq_true rfl), (Nat.le_of_ble_eq_true rfl)⟩ (RI.go (fun r108 S106 q107 => ?_))
            rw [q107.2]
            refine V_sipush 121 (10000) dX4_bestWorth_121 (by decide) ?_
            refine V_iadd 124 dX4_bestWorth_124 ?_
            refine V_aload_2 125 dX4_bestWorth_125 ?_
            refine V_iload_3 126 dX4_bestWorth_126 ?_
            refine V_iload_6 127 dX4_bestWorth_127 ?_
            refine V_callS 129 [.ref _, .int _, .int _] _ (s_unlikeKinds M.2.1 Γ S100 (Ft.ss h103.1) _ _) dX4_bestWorth_129 cb_X4_unlikeKinds ml_RX4_57 sm_yX4_unlikeKinds ⟨(Nat.le_of_ble_eq_true rfl), (Nat.le_of_ble_eq_true rfl)⟩ rfl rfl (Nat.le_of_ble_eq_true rfl) ⟨(Nat.le_of_ble_eq_true rfl), (Nat.le_of_ble_eq_true rfl)⟩ (RI.go (fun r111 S109 q110 => ?_))
            have h112 : FZ [] [] S S109 := h103.tr (q110.sub (by simp) (by simp))
            refine V_isub 132 dX4_bestWorth_132 ?_
            refine V_istore_8 133 dX4_bestWorth_133 rfl (Nat.le_of_ble_eq_true rfl) ?_
            refine V_iload_5 135 dX4_bestWorth_135 ?_
            refine V_iload_8 137 dX4_bestWorth_137 ?_
            refine V_mmax 139 dX4_bestWorth_139 ml_RX4_61 (Nat.le_of_ble_eq_true rfl) (Nat.le_of_ble_eq_true rfl) (Nat.le_of_ble_eq_true rfl) (Nat.le_of_ble_eq_true rfl) ?_
            refine V_istore_5 142 dX4_bestWorth_142 rfl (Nat.le_of_ble_eq_true rfl) ?_
            refine V_lvw (by repeat (first | exact trivial | refine ⟨rfl, ?_⟩)) (J85 _ _ _ _ h112 (by first | omega | assumption))
      refine V_iload_6 55 dX4_bestWorth_55 ?_
      refine V_bipush 57 (8) dX4_bestWorth_57 (by decide) ?_
      refine V_icmp_ge 59 150 dX4_bestWorth_59 (by decide) (fun c114 => ?_) (fun c114 => ?_)
      ·
        refine V_iload_5 150 dX4_bestWorth_150 ?_
        refine V_iret 152 .int dX4_bestWorth_152 rfl rfl (Nat.le_of_ble_eq_true rfl) (Nat.le_of_ble_eq_true rfl) (RI.mk h76)
      ·
        have lt115 := nI_lt8 (by decide) hi75 c114
        refine V_aload_0 62 dX4_bestWorth_62 ?_
        refine V_getR 63 (c := 4) 0 ((F.ss h76.1).r 0 0 1 rfl) dX4_bestWorth_63 fl_RX4_12 ((F.ss h76.1).m 0 (Nat.le_of_ble_eq_true rfl)) ((F.ss h76.1).k 0 4 rfl) (Nat.le_of_ble_eq_true rfl) (Nat.le_of_ble_eq_true rfl) rfl ?_
        refine V_getR 66 (c := 1) 2 ((F.ss h76.1).r 1 2 4 rfl) dX4_bestWorth_66 fl_RX4_47 ((F.ss h76.1).m 1 (Nat.le_of_ble_eq_true rfl)) ((F.ss h76.1).k 1 1 rfl) (Nat.le_of_ble_eq_true rfl) (Nat.le_of_ble_eq_true rfl) rfl ?_
        refine V_iload_6 69 dX4_bestWorth_69 ?_
        refine V_iaload2 71 dX4_bestWorth_71 ((F.ss h76.1).m 4 (Nat.le_of_ble_eq_true rfl)) ((F.ss h76.1).k 4 14 rfl) ((F.ss h76.1).l 4 8 rfl) ?_ ?_
        · exact vp_in_nI (by omega) (by decide)
        refine V_iload_6 72 dX4_bestWorth_72 ?_
        refine V_iload_3 74 dX4_bestWorth_74 ?_
        refine V_icmp_ne 75 82 dX4_bestWorth_75 (by decide) (fun c116 => ?_) (fun c116 => ?_)
        ·
          refine V_iconst 82 (0) dX4_bestWorth_82 (by decide) ?_
          refine V_lvw (by repeat (first | exact trivial | refine ⟨rfl, ?_⟩)) (J92 _ _ _ _ _ h76 (by first | omega | assumption))
        ·
          refine V_iconst 78 (1) dX4_bestWorth_78 (by decide) ?_
          refine V_goto 79 83 dX4_bestWorth_79 (by decide) ?_
          refine V_lvw (by repeat (first | exact trivial | refine ⟨rfl, ?_⟩)) (J92 _ _ _ _ _ h76 (by first | omega | assumption))
    ·
      refine V_iinc_3 20 (1) dX4_bestWorth_20 (by decide) rfl (Nat.le_of_ble_eq_true rfl) ?_
      refine V_goto 23 2 dX4_bestWorth_23 (by decide) ?_
      rw [← nI_succ]
      refine V_lvw (by repeat (first | exact trivial | refine ⟨rfl, ?_⟩)) (ih6 (i2 + 1, _) ⟨by dsimp only; omega, h5⟩ (by dsimp only; omega))

