/-! State, Grid from any ints -/
set_option maxRecDepth 100000 in
set_option maxHeartbeats 8000000 in
theorem s_X7_pick (l : Launch) (Γ : GC) (S : PS) {a : Nat} (F : isL lyState Γ.2.2.2.2.1 S a) (x : Int32) : CT l Γ yX7_pick cX7_pick 4 (some .int) (2) (0) (0) [.ref a, .int x] S (RI (fun r S' => FZ [] [] S S')) := by
  refine CT.of RX7 "pick" [some (.ref a), some (.int x), none, none] (by decide +kernel) rfl rfl (Nat.le_of_ble_eq_true rfl) rfl (fun M hM => ?_)
  subst hM
  refine V_aload_0 0 dX7_pick_0 ?_
  refine V_getR 1 (c := 7) 0 (F.r 0 0 1 rfl) dX7_pick_1 fl_RX7_9 (F.m 0 (Nat.le_of_ble_eq_true rfl)) (F.k 0 7 rfl) (Nat.le_of_ble_eq_true rfl) (Nat.le_of_ble_eq_true rfl) rfl ?_
  refine V_callSN 4 [.ref _] _ (c_total M.2.1 Γ S (a := (a + 1)) (F.m 1 (Nat.le_of_ble_eq_true rfl)) (F.k 1 14 rfl) (by rw [(F.l 1 8 rfl)]; decide)) dX7_pick_4 cb_X11_total ne_RX7_55 sm_yX11_total ⟨(Nat.le_of_ble_eq_true rfl), (Nat.le_of_ble_eq_true rfl)⟩ rfl rfl (Nat.le_of_ble_eq_true rfl) ⟨(Nat.le_of_ble_eq_true rfl), (Nat.le_of_ble_eq_true rfl)⟩ (RI.go (fun r3 S1 q2 => ?_))
  rw [q2.2]
  refine V_iload_1 7 dX7_pick_7 ?_
  refine V_aload_0 8 dX7_pick_8 ?_
  refine V_getI 9 (c := 7) 3 dX7_pick_9 fl_RX7_30 (F.m 0 (Nat.le_of_ble_eq_true rfl)) (F.k 0 7 rfl) (Nat.le_of_ble_eq_true rfl) (Nat.le_of_ble_eq_true rfl) rfl ?_
  refine V_callSN 12 [.int _, .int _, .int _] _ (s_chance M.2.1 Γ S _ _ _) dX7_pick_12 cb_X11_chance ne_RX7_66 sm_yX11_chance ⟨(Nat.le_of_ble_eq_true rfl), (Nat.le_of_ble_eq_true rfl)⟩ rfl rfl (Nat.le_of_ble_eq_true rfl) ⟨(Nat.le_of_ble_eq_true rfl), (Nat.le_of_ble_eq_true rfl)⟩ (RI.go (fun r6 S4 q5 => ?_))
  rw [q5]
  refine V_istore_2 15 dX7_pick_15 rfl (Nat.le_of_ble_eq_true rfl) ?_
  refine V_iconst 16 (0) dX7_pick_16 (by decide) ?_
  refine V_istore_3 17 dX7_pick_17 rfl (Nat.le_of_ble_eq_true rfl) ?_
  refine V_lvw (by repeat (first | exact trivial | refine ⟨rfl, ?_⟩)) (V_while (α := Nat × PS × Int32) (fun z7 => 8 - z7.1) (fun z7 => z7.1 ≤ 8 ∧ FZ [] [] S z7.2.1) (fun z7 => z7.2.1) (fun z7 => [some (.ref a), some (.int x), some (.int z7.2.2), some (.int (nI z7.1))]) (0, _, _) ⟨Nat.zero_le _, FZ.rf⟩ (fun z7 hx14 ih12 => ?b15))
  obtain ⟨i8, S9, w13⟩ := z7
  obtain ⟨hi10, h11⟩ := hx14
  dsimp only at hi10 h11 ih12 ⊢
  refine V_iload_3 18 dX7_pick_18 ?_
  refine V_bipush 19 (8) dX7_pick_19 (by decide) ?_
  refine V_icmp_ge 21 51 dX7_pick_21 (by decide) (fun c17 => ?_) (fun c17 => ?_)
  ·
    refine V_iconst 51 (-1) dX7_pick_51 (by decide) ?_
    refine V_iret 52 .int dX7_pick_52 rfl rfl (Nat.le_of_ble_eq_true rfl) (Nat.le_of_ble_eq_true rfl) (RI.mk h11)
  ·
    have lt18 := nI_lt8 (by decide) hi10 c17
    refine V_iload_2 24 dX7_pick_24 ?_
    refine V_aload_0 25 dX7_pick_25 ?_
    refine V_getR 26 (c := 7) 0 ((F.ss h11.1).r 0 0 1 rfl) dX7_pick_26 fl_RX7_9 ((F.ss h11.1).m 0 (Nat.le_of_ble_eq_true rfl)) ((F.ss h11.1).k 0 7 rfl) (Nat.le_of_ble_eq_true rfl) (Nat.le_of_ble_eq_true rfl) rfl ?_
    refine V_iload_3 29 dX7_pick_29 ?_
    refine V_iaload2 30 dX7_pick_30 ((F.ss h11.1).m 1 (Nat.le_of_ble_eq_true rfl)) ((F.ss h11.1).k 1 14 rfl) ((F.ss h11.1).l 1 8 rfl) ?_ ?_
    · exact vp_in_nI (by omega) (by decide)
    refine V_icmp_ge 31 36 dX7_pick_31 (by decide) (fun c19 => ?_) (fun c19 => ?_)
    ·
      refine V_iload_2 36 dX7_pick_36 ?_
      refine V_aload_0 37 dX7_pick_37 ?_
      refine V_getR 38 (c := 7) 0 ((F.ss h11.1).r 0 0 1 rfl) dX7_pick_38 fl_RX7_9 ((F.ss h11.1).m 0 (Nat.le_of_ble_eq_true rfl)) ((F.ss h11.1).k 0 7 rfl) (Nat.le_of_ble_eq_true rfl) (Nat.le_of_ble_eq_true rfl) rfl ?_
      refine V_iload_3 41 dX7_pick_41 ?_
      refine V_iaload2 42 dX7_pick_42 ((F.ss h11.1).m 1 (Nat.le_of_ble_eq_true rfl)) ((F.ss h11.1).k 1 14 rfl) ((F.ss h11.1).l 1 8 rfl) ?_ ?_
      · exact vp_in_nI (by omega) (by decide)
      refine V_isub 43 dX7_pick_43 ?_
      refine V_istore_2 44 dX7_pick_44 rfl (Nat.le_of_ble_eq_true rfl) ?_
      refine V_iinc_3 45 (1) dX7_pick_45 (by decide) rfl (Nat.le_of_ble_eq_true rfl) ?_
      refine V_goto 48 18 dX7_pick_48 (by decide) ?_
      rw [← nI_succ]
      refine V_lvw (by repeat (first | exact trivial | refine ⟨rfl, ?_⟩)) (ih12 (i8 + 1, _, _) ⟨by dsimp only; omega, h11⟩ (by dsimp only; omega))
    ·
      refine V_iload_3 34 dX7_pick_34 ?_
      refine V_iret 35 .int dX7_pick_35 rfl rfl (Nat.le_of_ble_eq_true rfl) (Nat.le_of_ble_eq_true rfl) (RI.mk h11)
set_option maxRecDepth 100000 in
set_option maxHeartbeats 8000000 in
theorem s_X7_goingBack (l : Launch) (Γ : GC) (S : PS) {a t : Nat} (F : isL lyState Γ.2.2.2.2.1 S a) (Ft : isL lyText Γ.2.2.2.2.1 S t) (x : Int32) : CT l Γ yX7_goingBack cX7_goingBack 8 (some .int) (1) (0) (0) [.ref a, .ref t, .int x] S (RI (fun r S' => FZ [] [] S S')) := by
  refine CT.of RX7 "goingBack" [some (.ref a), some (.ref t), some (.int x), none, none, none, none, none] (by decide +kernel) rfl rfl (Nat.le_of_ble_eq_true rfl) rfl (fun M hM => ?_)
  subst hM
  refine V_iconst 0 (-1) dX7_goingBack_0 (by decide) ?_
  refine V_istore_3 1 dX7_goingBack_1 rfl (Nat.le_of_ble_eq_true rfl) ?_
  refine V_iconst 2 (0) dX7_goingBack_2 (by decide) ?_
  refine V_istore_4 3 dX7_goingBack_3 rfl (Nat.le_of_ble_eq_true rfl) ?_
  refine V_iconst 5 (0) dX7_goingBack_5 (by decide) ?_
  refine V_istore_5 6 dX7_goingBack_6 rfl (Nat.le_of_ble_eq_true rfl) ?_
  refine V_lvw (by repeat (first | exact trivial | refine ⟨rfl, ?_⟩)) (V_while (α := Nat × PS × Int32 × Int32) (fun z1 => 8 - z1.1) (fun z1 => z1.1 ≤ 8 ∧ FZ [] [] S z1.2.1) (fun z1 => z1.2.1) (fun z1 => [some (.ref a), some (.ref t), some (.int x), some (.int z1.2.2.1), some (.int z1.2.2.2), some (.int (nI z1.1)), none, none]) (0, _, _, _) ⟨Nat.zero_le _, FZ.rf⟩ (fun z1 hx9 ih6 => ?b10))
  obtain ⟨i2, S3, w7, w8⟩ := z1
  obtain ⟨hi4, h5⟩ := hx9
  dsimp only at hi4 h5 ih6 ⊢
  have J14 : ∀ (S12 : PS) (x15 : Int32) (x16 : Int32) (x17 : Int32) (x18 : Int32), FZ [] [] S S12 → i2 < 8 → V M Γ (8, RX7, "goingBack", (some .int), RM (1) (0) (0)) cX7_goingBack (RQ M Γ (RI (fun r S' => FZ [] [] S S')) (0) (0)) 0 0 S12 94 [some (.ref a), some (.ref t), some (.int x), some (.int x15), some (.int x16), some (.int (nI i2)), some (.int x17), some (.int x18)] [] := by
    intro S12 x15 x16 x17 x18 h13 lt19
    refine V_iinc_5 94 (1) dX7_goingBack_94 (by decide) rfl (Nat.le_of_ble_eq_true rfl) ?_
    refine V_goto 97 8 dX7_goingBack_97 (by decide) ?_
    rw [← nI_succ]
    refine V_lvw (by repeat (first | exact trivial | refine ⟨rfl, ?_⟩)) (ih6 (i2 + 1, _, _, _) ⟨by dsimp only; omega, h13⟩ (by dsimp only; omega))
  have J22 : ∀ (S20 : PS) (x23 : Int32) (x24 : Int32) (x25 : Int32) (x26 : Int32), FZ [] [] S S20 → i2 < 8 → V M Γ (8, RX7, "goingBack", (some .int), RM (1) (0) (0)) cX7_goingBack (RQ M Γ (RI (fun r S' => FZ [] [] S S')) (0) (0)) 0 0 S20 87 [some (.ref a), some (.ref t), some (.int x), some (.int x23), some (.int x24), some (.int (nI i2)), some (.int x25), some (.int x26)] [] := by
    intro S20 x23 x24 x25 x26 h21 lt27
    refine V_iload_5 87 dX7_goingBack_87 ?_
    refine V_istore_3 89 dX7_goingBack_89 rfl (Nat.le_of_ble_eq_true rfl) ?_
    refine V_iload_6 90 dX7_goingBack_90 ?_
    refine V_istore_4 92 dX7_goingBack_92 rfl (Nat.le_of_ble_eq_true rfl) ?_
    refine V_lvw (by repeat (first | exact trivial | refine ⟨rfl, ?_⟩)) (J14 _ _ _ _ _ h21 (by first | omega | assumption))
  have J31 : ∀ (S29 : PS) (x32 : Int32) (x33 : Int32) (x34 : Int32) (x35 : Int32), FZ [] [] S S29 → i2 < 8 → V M Γ (8, RX7, "goingBack", (some .int), RM (1) (0) (0)) cX7_goingBack (RQ M Γ (RI (fun r S' => FZ [] [] S S')) (0) (0)) 0 0 S29 65 [some (.ref a), some (.ref t), some (.int x), some (.int x32), some (.int x33), some (.int (nI i2)), some (.int x34), none] [.int x35] := by
    intro S29 x32 x33 x34 x35 h30 lt36
    refine V_istore_7 65 dX7_goingBack_65 rfl (Nat.le_of_ble_eq_true rfl) ?_
    refine V_aload_0 67 dX7_goingBack_67 ?_
    refine V_getR 68 (c := 7) 1 ((F.ss h30.1).r 0 1 2 rfl) dX7_goingBack_68 fl_RX7_15 ((F.ss h30.1).m 0 (Nat.le_of_ble_eq_true rfl)) ((F.ss h30.1).k 0 7 rfl) (Nat.le_of_ble_eq_true rfl) (Nat.le_of_ble_eq_true rfl) rfl ?_
    refine V_iload_5 71 dX7_goingBack_71 ?_
    refine V_iaload2 73 dX7_goingBack_73 ((F.ss h30.1).m 2 (Nat.le_of_ble_eq_true rfl)) ((F.ss h30.1).k 2 14 rfl) ((F.ss h30.1).l 2 8 rfl) ?_ ?_
    · exact vp_in_nI (by omega) (by decide)
    refine V_if_le 74 94 dX7_goingBack_74 (by decide) (fun c37 => ?_) (fun c37 => ?_)
    ·
      refine V_lvw (by repeat (first | exact trivial | refine ⟨rfl, ?_⟩)) (J14 _ _ _ _ _ h30 (by first | omega | assumption))
    ·
      refine V_iload_3 77 dX7_goingBack_77 ?_
      refine V_iconst 78 (-1) dX7_goingBack_78 (by decide) ?_
      refine V_icmp_eq 79 87 dX7_goingBack_79 (by decide) (fun c39 => ?_) (fun c39 => ?_)
      ·
        refine V_lvw (by repeat (first | exact trivial | refine ⟨rfl, ?_⟩)) (J22 _ _ _ _ _ h30 (by first | omega | assumption))
      ·
        refine V_iload_7 82 dX7_goingBack_82 ?_
        refine V_if_eq 84 94 dX7_goingBack_84 (by decide) (fun c41 => ?_) (fun c41 => ?_)
        ·
          refine V_lvw (by repeat (first | exact trivial | refine ⟨rfl, ?_⟩)) (J14 _ _ _ _ _ h30 (by first | omega | assumption))
        ·
          refine V_lvw (by repeat (first | exact trivial | refine ⟨rfl, ?_⟩)) (J22 _ _ _ _ _ h30 (by first | omega | assumption))
  refine V_iload_5 8 dX7_goingBack_8 ?_
  refine V_bipush 10 (8) dX7_goingBack_10 (by decide) ?_
  refine V_icmp_ge 12 100 dX7_goingBack_12 (by decide) (fun c44 => ?_) (fun c44 => ?_)
  ·
    refine V_iload_3 100 dX7_goingBack_100 ?_
    refine V_iret 101 .int dX7_goingBack_101 rfl rfl (Nat.le_of_ble_eq_true rfl) (Nat.le_of_ble_eq_true rfl) (RI.mk h5)
  ·
    have lt45 := nI_lt8 (by decide) hi4 c44
    refine V_aload_0 15 dX7_goingBack_15 ?_
    refine V_getR 16 (c := 7) 0 ((F.ss h5.1).r 0 0 1 rfl) dX7_goingBack_16 fl_RX7_9 ((F.ss h5.1).m 0 (Nat.le_of_ble_eq_true rfl)) ((F.ss h5.1).k 0 7 rfl) (Nat.le_of_ble_eq_true rfl) (Nat.le_of_ble_eq_true rfl) rfl ?_
    refine V_aload_1 19 dX7_goingBack_19 ?_
    refine V_getR 20 (c := 10) 3 ((Ft.ss h5.1).r 0 3 2 rfl) dX7_goingBack_20 fl_RX7_38 ((Ft.ss h5.1).m 0 (Nat.le_of_ble_eq_true rfl)) ((Ft.ss h5.1).k 0 10 rfl) (Nat.le_of_ble_eq_true rfl) (Nat.le_of_ble_eq_true rfl) rfl ?_
    refine V_iload_5 23 dX7_goingBack_23 ?_
    refine V_callSN 25 [.ref _, .int _] _ (c_at M.2.1 Γ S3 (a := (t + 2)) ((Ft.ss h5.1).m 2 (Nat.le_of_ble_eq_true rfl)) ((Ft.ss h5.1).k 2 14 rfl) (by rw [((Ft.ss h5.1).l 2 8 rfl)]; decide) _) dX7_goingBack_25 cb_X11_at ne_RX7_41 sm_yX11_at ⟨(Nat.le_of_ble_eq_true rfl), (Nat.le_of_ble_eq_true rfl)⟩ rfl rfl (Nat.le_of_ble_eq_true rfl) ⟨(Nat.le_of_ble_eq_true rfl), (Nat.le_of_ble_eq_true rfl)⟩ (RI.go (fun r48 S46 q47 => ?_))
    rw [q47.2]
    refine V_callSN 28 [.ref _, .int _] _ (c_at M.2.1 Γ S3 (a := (a + 1)) ((F.ss h5.1).m 1 (Nat.le_of_ble_eq_true rfl)) ((F.ss h5.1).k 1 14 rfl) (by rw [((F.ss h5.1).l 1 8 rfl)]; decide) _) dX7_goingBack_28 cb_X11_at ne_RX7_41 sm_yX11_at ⟨(Nat.le_of_ble_eq_true rfl), (Nat.le_of_ble_eq_true rfl)⟩ rfl rfl (Nat.le_of_ble_eq_true rfl) ⟨(Nat.le_of_ble_eq_true rfl), (Nat.le_of_ble_eq_true rfl)⟩ (RI.go (fun r51 S49 q50 => ?_))
    rw [q50.2]
    refine V_istore_6 31 dX7_goingBack_31 rfl (Nat.le_of_ble_eq_true rfl) ?_
    refine V_iload_2 33 dX7_goingBack_33 ?_
    refine V_iconst 34 (2) dX7_goingBack_34 (by decide) ?_
    refine V_icmp_ne 35 53 dX7_goingBack_35 (by decide) (fun c52 => ?_) (fun c52 => ?_)
    ·
      refine V_iload_6 53 dX7_goingBack_53 ?_
      refine V_iload_4 55 dX7_goingBack_55 ?_
      refine V_icmp_le 57 64 dX7_goingBack_57 (by decide) (fun c53 => ?_) (fun c53 => ?_)
      ·
        refine V_iconst 64 (0) dX7_goingBack_64 (by decide) ?_
        refine V_lvw (by repeat (first | exact trivial | refine ⟨rfl, ?_⟩)) (J31 _ _ _ _ _ h5 (by first | omega | assumption))
      ·
        refine V_iconst 60 (1) dX7_goingBack_60 (by decide) ?_
        refine V_goto 61 65 dX7_goingBack_61 (by decide) ?_
        refine V_lvw (by repeat (first | exact trivial | refine ⟨rfl, ?_⟩)) (J31 _ _ _ _ _ h5 (by first | omega | assumption))
    ·
      refine V_iload_6 38 dX7_goingBack_38 ?_
      refine V_iload_4 40 dX7_goingBack_40 ?_
      refine V_icmp_ge 42 49 dX7_goingBack_42 (by decide) (fun c56 => ?_) (fun c56 => ?_)
      ·
        refine V_iconst 49 (0) dX7_goingBack_49 (by decide) ?_
        refine V_goto 50 65 dX7_goingBack_50 (by decide) ?_
        refine V_lvw (by repeat (first | exact trivial | refine ⟨rfl, ?_⟩)) (J31 _ _ _ _ _ h5 (by first | omega | assumption))
      ·
        refine V_iconst 45 (1) dX7_goingBack_45 (by decide) ?_
        refine V_goto 46 65 dX7_goingBack_46 (by decide) ?_
        refine V_lvw (by repeat (first | exact trivial | refine ⟨rfl, ?_⟩)) (J31 _ _ _ _ _ h5 (by first | omega | assumption))
set_option maxRecDepth 100000 in
set_option maxHeartbeats 8000000 in
theorem s_X7_drawOne (l : Launch) (Γ : GC) (S : PS) {a t : Nat} (F : isL lyState Γ.2.2.2.2.1 S a) (Ft : isL lyText Γ.2.2.2.2.1 S t) (x y : Int32) : CT l Γ yX7_drawOne cX7_drawOne 6 (some .int) (2) (0) (0) [.ref a, .ref t, .int x, .int y] S (RI (fun r S' => FZ [a + 1, a + 2, a + 3] [(a, 3), (a, 4)] S S')) := by
  refine CT.of RX7 "drawOne" [some (.ref a), some (.ref t), some (.int x), some (.int y), none, none] (by decide +kernel) rfl rfl (Nat.le_of_ble_eq_true rfl) rfl (fun M hM => ?_)
  subst hM
  have J3 : ∀ (S1 : PS) (x4 : Int32), FZ [a + 1, a + 2, a + 3] [(a, 3), (a, 4)] S S1 → V M Γ (6, RX7, "drawOne", (some .int), RM (2) (0) (0)) cX7_drawOne (RQ M Γ (RI (fun r S' => FZ [a + 1, a + 2, a + 3] [(a, 3), (a, 4)] S S')) (0) (0)) 0 0 S1 165 [some (.ref a), some (.ref t), some (.int x), some (.int y), some (.int x4), none] [] := by
    intro S1 x4 h2
    refine V_iconst 165 (2) dX7_drawOne_165 (by decide) ?_
    refine V_iret 166 .int dX7_drawOne_166 rfl rfl (Nat.le_of_ble_eq_true rfl) (Nat.le_of_ble_eq_true rfl) (RI.mk h2)
  have J7 : ∀ (S5 : PS) (x8 : Int32), FZ [a + 1, a + 2, a + 3] [(a, 3), (a, 4)] S S5 → V M Γ (6, RX7, "drawOne", (some .int), RM (2) (0) (0)) cX7_drawOne (RQ M Γ (RI (fun r S' => FZ [a + 1, a + 2, a + 3] [(a, 3), (a, 4)] S S')) (0) (0)) 0 0 S5 102 [some (.ref a), some (.ref t), some (.int x), some (.int y), some (.int x8), none] [] := by
    intro S5 x8 h6
    refine V_aload_0 102 dX7_drawOne_102 ?_
    refine V_aload_1 103 dX7_drawOne_103 ?_
    refine V_iload_3 104 dX7_drawOne_104 ?_
    refine V_callV 105 (ci := 7) [.ref _, .int _] _ (s_X7_goingBack M.2.1 Γ S5 (F.ss h6.1) (Ft.ss h6.1) _) dX7_drawOne_105 cb_X7_goingBack ml_RX7_62 im_yX7_goingBack se_yX7_goingBack ((F.ss h6.1).m 0 (Nat.le_of_ble_eq_true rfl)) ((F.ss h6.1).k 0 7 rfl) (Nat.le_of_ble_eq_true rfl) ⟨(Nat.le_of_ble_eq_true rfl), (Nat.le_of_ble_eq_true rfl)⟩ rfl rfl (Nat.le_of_ble_eq_true rfl) ⟨(Nat.le_of_ble_eq_true rfl), (Nat.le_of_ble_eq_true rfl)⟩ (RI.go (fun r11 S9 q10 => ?_))
    have h12 : FZ [a + 1, a + 2, a + 3] [(a, 3), (a, 4)] S S9 := h6.tr (q10.sub (by simp) (by simp))
    refine V_istore_5 108 dX7_drawOne_108 rfl (Nat.le_of_ble_eq_true rfl) ?_
    refine V_aload_0 110 dX7_drawOne_110 ?_
    refine V_getR 111 (c := 7) 1 ((F.ss h12.1).r 0 1 2 rfl) dX7_drawOne_111 fl_RX7_15 ((F.ss h12.1).m 0 (Nat.le_of_ble_eq_true rfl)) ((F.ss h12.1).k 0 7 rfl) (Nat.le_of_ble_eq_true rfl) (Nat.le_of_ble_eq_true rfl) rfl ?_
    refine V_iload_5 114 dX7_drawOne_114 ?_
    refine V_iconst 116 (-1) dX7_drawOne_116 (by decide) ?_
    refine V_callSN 117 [.ref _, .int _, .int _] _ (c_add M.2.1 Γ S9 (a := (a + 2)) ((F.ss h12.1).m 2 (Nat.le_of_ble_eq_true rfl)) ((F.ss h12.1).k 2 14 rfl) (by rw [((F.ss h12.1).l 2 8 rfl)]; decide) _ _) dX7_drawOne_117 cb_X11_add ne_RX7_45 sm_yX11_add ⟨(Nat.le_of_ble_eq_true rfl), (Nat.le_of_ble_eq_true rfl)⟩ rfl rfl (Nat.le_of_ble_eq_true rfl) ⟨(Nat.le_of_ble_eq_true rfl), (Nat.le_of_ble_eq_true rfl)⟩ (RV.go (fun S13 q14 => ?_))
    have h16 : FZ [a + 1, a + 2, a + 3] [(a, 3), (a, 4)] S S13 := h12.tr ((fr_add q14).sub (by simp) (by simp))
    refine V_aload_0 120 dX7_drawOne_120 ?_
    refine V_getR 121 (c := 7) 0 ((F.ss h16.1).r 0 0 1 rfl) dX7_drawOne_121 fl_RX7_9 ((F.ss h16.1).m 0 (Nat.le_of_ble_eq_true rfl)) ((F.ss h16.1).k 0 7 rfl) (Nat.le_of_ble_eq_true rfl) (Nat.le_of_ble_eq_true rfl) rfl ?_
    refine V_iload_5 124 dX7_drawOne_124 ?_
    refine V_iconst 126 (1) dX7_drawOne_126 (by decide) ?_
    refine V_callSN 127 [.ref _, .int _, .int _] _ (c_add M.2.1 Γ S13 (a := (a + 1)) ((F.ss h16.1).m 1 (Nat.le_of_ble_eq_true rfl)) ((F.ss h16.1).k 1 14 rfl) (by rw [((F.ss h16.1).l 1 8 rfl)]; decide) _ _) dX7_drawOne_127 cb_X11_add ne_RX7_45 sm_yX11_add ⟨(Nat.le_of_ble_eq_true rfl), (Nat.le_of_ble_eq_true rfl)⟩ rfl rfl (Nat.le_of_ble_eq_true rfl) ⟨(Nat.le_of_ble_eq_true rfl), (Nat.le_of_ble_eq_true rfl)⟩ (RV.go (fun S17 q18 => ?_))
    have h20 : FZ [a + 1, a + 2, a + 3] [(a, 3), (a, 4)] S S17 := h16.tr ((fr_add q18).sub (by simp) (by simp))
    refine V_aload_0 130 dX7_drawOne_130 ?_
    refine V_getR 131 (c := 7) 1 ((F.ss h20.1).r 0 1 2 rfl) dX7_drawOne_131 fl_RX7_15 ((F.ss h20.1).m 0 (Nat.le_of_ble_eq_true rfl)) ((F.ss h20.1).k 0 7 rfl) (Nat.le_of_ble_eq_true rfl) (Nat.le_of_ble_eq_true rfl) rfl ?_
    refine V_iload_2 134 dX7_drawOne_134 ?_
    refine V_iconst 135 (1) dX7_drawOne_135 (by decide) ?_
    refine V_callSN 136 [.ref _, .int _, .int _] _ (c_add M.2.1 Γ S17 (a := (a + 2)) ((F.ss h20.1).m 2 (Nat.le_of_ble_eq_true rfl)) ((F.ss h20.1).k 2 14 rfl) (by rw [((F.ss h20.1).l 2 8 rfl)]; decide) _ _) dX7_drawOne_136 cb_X11_add ne_RX7_45 sm_yX11_add ⟨(Nat.le_of_ble_eq_true rfl), (Nat.le_of_ble_eq_true rfl)⟩ rfl rfl (Nat.le_of_ble_eq_true rfl) ⟨(Nat.le_of_ble_eq_true rfl), (Nat.le_of_ble_eq_true rfl)⟩ (RV.go (fun S21 q22 => ?_))
    have h24 : FZ [a + 1, a + 2, a + 3] [(a, 3), (a, 4)] S S21 := h20.tr ((fr_add q22).sub (by simp) (by simp))
    refine V_goto 139 165 dX7_drawOne_139 (by decide) ?_
    refine V_lvw (by repeat (first | exact trivial | refine ⟨rfl, ?_⟩)) (J3 _ _ h24)
  refine V_aload_1 0 dX7_drawOne_0 ?_
  refine V_getR 1 (c := 10) 3 (Ft.r 0 3 2 rfl) dX7_drawOne_1 fl_RX7_38 (Ft.m 0 (Nat.le_of_ble_eq_true rfl)) (Ft.k 0 10 rfl) (Nat.le_of_ble_eq_true rfl) (Nat.le_of_ble_eq_true rfl) rfl ?_
  refine V_iload_2 4 dX7_drawOne_4 ?_
  refine V_callSN 5 [.ref _, .int _] _ (c_at M.2.1 Γ S (a := (t + 2)) (Ft.m 2 (Nat.le_of_ble_eq_true rfl)) (Ft.k 2 14 rfl) (by rw [(Ft.l 2 8 rfl)]; decide) _) dX7_drawOne_5 cb_X11_at ne_RX7_41 sm_yX11_at ⟨(Nat.le_of_ble_eq_true rfl), (Nat.le_of_ble_eq_true rfl)⟩ rfl rfl (Nat.le_of_ble_eq_true rfl) ⟨(Nat.le_of_ble_eq_true rfl), (Nat.le_of_ble_eq_true rfl)⟩ (RI.go (fun r28 S26 q27 => ?_))
  rw [q27.2]
  refine V_istore_4 8 dX7_drawOne_8 rfl (Nat.le_of_ble_eq_true rfl) ?_
  refine V_aload_0 10 dX7_drawOne_10 ?_
  refine V_getR 11 (c := 7) 0 (F.r 0 0 1 rfl) dX7_drawOne_11 fl_RX7_9 (F.m 0 (Nat.le_of_ble_eq_true rfl)) (F.k 0 7 rfl) (Nat.le_of_ble_eq_true rfl) (Nat.le_of_ble_eq_true rfl) rfl ?_
  refine V_iload_2 14 dX7_drawOne_14 ?_
  refine V_iconst 15 (-1) dX7_drawOne_15 (by decide) ?_
  refine V_callSN 16 [.ref _, .int _, .int _] _ (c_add M.2.1 Γ S (a := (a + 1)) (F.m 1 (Nat.le_of_ble_eq_true rfl)) (F.k 1 14 rfl) (by rw [(F.l 1 8 rfl)]; decide) _ _) dX7_drawOne_16 cb_X11_add ne_RX7_45 sm_yX11_add ⟨(Nat.le_of_ble_eq_true rfl), (Nat.le_of_ble_eq_true rfl)⟩ rfl rfl (Nat.le_of_ble_eq_true rfl) ⟨(Nat.le_of_ble_eq_true rfl), (Nat.le_of_ble_eq_true rfl)⟩ (RV.go (fun S29 q30 => ?_))
  have h32 : FZ [a + 1, a + 2, a + 3] [(a, 3), (a, 4)] S S29 := (FZ.rf (X := [a + 1, a + 2, a + 3]) (Y := [(a, 3), (a, 4)]) (S := S)).tr ((fr_add q30).sub (by simp) (by simp))
  refine V_aload_0 19 dX7_drawOne_19 ?_
  refine V_dup 20 dX7_drawOne_20 rfl ?_
  refine V_getI 21 (c := 7) 3 dX7_drawOne_21 fl_RX7_30 ((F.ss h32.1).m 0 (Nat.le_of_ble_eq_true rfl)) ((F.ss h32.1).k 0 7 rfl) (Nat.le_of_ble_eq_true rfl) (Nat.le_of_ble_eq_true rfl) rfl ?_
  refine V_iconst 24 (1) dX7_drawOne_24 (by decide) ?_
  refine V_iadd 25 dX7_drawOne_25 ?_
  refine V_putI 26 (c := 7) 3 dX7_drawOne_26 fl_RX7_30 ((F.ss h32.1).m 0 (Nat.le_of_ble_eq_true rfl)) ((F.ss h32.1).k 0 7 rfl) (Nat.le_of_ble_eq_true rfl) (Nat.le_of_ble_eq_true rfl) rfl (Or.inl rfl) ?_
  refine V_abs (FZ [a + 1, a + 2, a + 3] [(a, 3), (a, 4)] S) (h32.uI (by simp)) (fun S33 h34 => ?_)
  refine V_aload_0 29 dX7_drawOne_29 ?_
  refine V_getR 30 (c := 7) 1 ((F.ss h34.1).r 0 1 2 rfl) dX7_drawOne_30 fl_RX7_15 ((F.ss h34.1).m 0 (Nat.le_of_ble_eq_true rfl)) ((F.ss h34.1).k 0 7 rfl) (Nat.le_of_ble_eq_true rfl) (Nat.le_of_ble_eq_true rfl) rfl ?_
  refine V_iload_4 33 dX7_drawOne_33 ?_
  refine V_callSN 35 [.ref _, .int _] _ (c_at M.2.1 Γ S33 (a := (a + 2)) ((F.ss h34.1).m 2 (Nat.le_of_ble_eq_true rfl)) ((F.ss h34.1).k 2 14 rfl) (by rw [((F.ss h34.1).l 2 8 rfl)]; decide) _) dX7_drawOne_35 cb_X11_at ne_RX7_41 sm_yX11_at ⟨(Nat.le_of_ble_eq_true rfl), (Nat.le_of_ble_eq_true rfl)⟩ rfl rfl (Nat.le_of_ble_eq_true rfl) ⟨(Nat.le_of_ble_eq_true rfl), (Nat.le_of_ble_eq_true rfl)⟩ (RI.go (fun r37 S35 q36 => ?_))
  rw [q36.2]
  refine V_if_le 38 67 dX7_drawOne_38 (by decide) (fun c38 => ?_) (fun c38 => ?_)
  ·
    refine V_aload_0 67 dX7_drawOne_67 ?_
    refine V_getR 68 (c := 7) 1 ((F.ss h34.1).r 0 1 2 rfl) dX7_drawOne_68 fl_RX7_15 ((F.ss h34.1).m 0 (Nat.le_of_ble_eq_true rfl)) ((F.ss h34.1).k 0 7 rfl) (Nat.le_of_ble_eq_true rfl) (Nat.le_of_ble_eq_true rfl) rfl ?_
    refine V_callSN 71 [.ref _] _ (c_total M.2.1 Γ S33 (a := (a + 2)) ((F.ss h34.1).m 2 (Nat.le_of_ble_eq_true rfl)) ((F.ss h34.1).k 2 14 rfl) (by rw [((F.ss h34.1).l 2 8 rfl)]; decide)) dX7_drawOne_71 cb_X11_total ne_RX7_55 sm_yX11_total ⟨(Nat.le_of_ble_eq_true rfl), (Nat.le_of_ble_eq_true rfl)⟩ rfl rfl (Nat.le_of_ble_eq_true rfl) ⟨(Nat.le_of_ble_eq_true rfl), (Nat.le_of_ble_eq_true rfl)⟩ (RI.go (fun r41 S39 q40 => ?_))
    rw [q40.2]
    refine V_aload_1 74 dX7_drawOne_74 ?_
    refine V_getI 75 (c := 10) 9 dX7_drawOne_75 fl_RX7_59 ((Ft.ss h34.1).m 0 (Nat.le_of_ble_eq_true rfl)) ((Ft.ss h34.1).k 0 10 rfl) (Nat.le_of_ble_eq_true rfl) (Nat.le_of_ble_eq_true rfl) rfl ?_
    refine V_icmp_ge 78 92 dX7_drawOne_78 (by decide) (fun c42 => ?_) (fun c42 => ?_)
    ·
      refine V_iload_3 92 dX7_drawOne_92 ?_
      refine V_iconst 93 (2) dX7_drawOne_93 (by decide) ?_
      refine V_icmp_eq 94 102 dX7_drawOne_94 (by decide) (fun c43 => ?_) (fun c43 => ?_)
      ·
        refine V_lvw (by repeat (first | exact trivial | refine ⟨rfl, ?_⟩)) (J7 _ _ h34)
      ·
        refine V_iload_3 97 dX7_drawOne_97 ?_
        refine V_iconst 98 (3) dX7_drawOne_98 (by decide) ?_
        refine V_icmp_ne 99 142 dX7_drawOne_99 (by decide) (fun c45 => ?_) (fun c45 => ?_)
        ·
          refine V_aload_0 142 dX7_drawOne_142 ?_
          refine V_getR 143 (c := 7) 0 ((F.ss h34.1).r 0 0 1 rfl) dX7_drawOne_143 fl_RX7_9 ((F.ss h34.1).m 0 (Nat.le_of_ble_eq_true rfl)) ((F.ss h34.1).k 0 7 rfl) (Nat.le_of_ble_eq_true rfl) (Nat.le_of_ble_eq_true rfl) rfl ?_
          refine V_iload_2 146 dX7_drawOne_146 ?_
          refine V_iconst 147 (1) dX7_drawOne_147 (by decide) ?_
          refine V_callSN 148 [.ref _, .int _, .int _] _ (c_add M.2.1 Γ S33 (a := (a + 1)) ((F.ss h34.1).m 1 (Nat.le_of_ble_eq_true rfl)) ((F.ss h34.1).k 1 14 rfl) (by rw [((F.ss h34.1).l 1 8 rfl)]; decide) _ _) dX7_drawOne_148 cb_X11_add ne_RX7_45 sm_yX11_add ⟨(Nat.le_of_ble_eq_true rfl), (Nat.le_of_ble_eq_true rfl)⟩ rfl rfl (Nat.le_of_ble_eq_true rfl) ⟨(Nat.le_of_ble_eq_true rfl), (Nat.le_of_ble_eq_true rfl)⟩ (RV.go (fun S46 q47 => ?_))
          have h49 : FZ [a + 1, a + 2, a + 3] [(a, 3), (a, 4)] S S46 := h34.tr ((fr_add q47).sub (by simp) (by simp))
          refine V_aload_0 151 dX7_drawOne_151 ?_
          refine V_iload_3 152 dX7_drawOne_152 ?_
          refine V_iconst 153 (1) dX7_drawOne_153 (by decide) ?_
          refine V_icmp_ne 154 161 dX7_drawOne_154 (by decide) (fun c50 => ?_) (fun c50 => ?_)
          ·
            refine V_iconst 161 (0) dX7_drawOne_161 (by decide) ?_
            refine V_putI 162 (c := 7) 4 dX7_drawOne_162 fl_RX7_34 ((F.ss h49.1).m 0 (Nat.le_of_ble_eq_true rfl)) ((F.ss h49.1).k 0 7 rfl) (Nat.le_of_ble_eq_true rfl) (Nat.le_of_ble_eq_true rfl) rfl (Or.inr ⟨rfl, (Or.inl rfl)⟩) ?_
            refine V_abs (FZ [a + 1, a + 2, a + 3] [(a, 3), (a, 4)] S) (h49.uI (by simp)) (fun S51 h52 => ?_)
            refine V_lvw (by repeat (first | exact trivial | refine ⟨rfl, ?_⟩)) (J3 _ _ h52)
          ·
            refine V_iconst 157 (1) dX7_drawOne_157 (by decide) ?_
            refine V_goto 158 162 dX7_drawOne_158 (by decide) ?_
            refine V_putI 162 (c := 7) 4 dX7_drawOne_162 fl_RX7_34 ((F.ss h49.1).m 0 (Nat.le_of_ble_eq_true rfl)) ((F.ss h49.1).k 0 7 rfl) (Nat.le_of_ble_eq_true rfl) (Nat.le_of_ble_eq_true rfl) rfl (Or.inr ⟨rfl, (Or.inr rfl)⟩) ?_
            refine V_abs (FZ [a + 1, a + 2, a + 3] [(a, 3), (a, 4)] S) (h49.uI (by simp)) (fun S54 h55 => ?_)
            refine V_lvw (by repeat (first | exact trivial | refine ⟨rfl, ?_⟩)) (J3 _ _ h55)
        ·
          refine V_lvw (by repeat (first | exact trivial | refine ⟨rfl, ?_⟩)) (J7 _ _ h34)
    ·
      refine V_aload_0 81 dX7_drawOne_81 ?_
      refine V_getR 82 (c := 7) 1 ((F.ss h34.1).r 0 1 2 rfl) dX7_drawOne_82 fl_RX7_15 ((F.ss h34.1).m 0 (Nat.le_of_ble_eq_true rfl)) ((F.ss h34.1).k 0 7 rfl) (Nat.le_of_ble_eq_true rfl) (Nat.le_of_ble_eq_true rfl) rfl ?_
      refine V_iload_2 85 dX7_drawOne_85 ?_
      refine V_iconst 86 (1) dX7_drawOne_86 (by decide) ?_
      refine V_callSN 87 [.ref _, .int _, .int _] _ (c_add M.2.1 Γ S33 (a := (a + 2)) ((F.ss h34.1).m 2 (Nat.le_of_ble_eq_true rfl)) ((F.ss h34.1).k 2 14 rfl) (by rw [((F.ss h34.1).l 2 8 rfl)]; decide) _ _) dX7_drawOne_87 cb_X11_add ne_RX7_45 sm_yX11_add ⟨(Nat.le_of_ble_eq_true rfl), (Nat.le_of_ble_eq_true rfl)⟩ rfl rfl (Nat.le_of_ble_eq_true rfl) ⟨(Nat.le_of_ble_eq_true rfl), (Nat.le_of_ble_eq_true rfl)⟩ (RV.go (fun S58 q59 => ?_))
      have h61 : FZ [a + 1, a + 2, a + 3] [(a, 3), (a, 4)] S S58 := h34.tr ((fr_add q59).sub (by simp) (by simp))
      refine V_iconst 90 (0) dX7_drawOne_90 (by decide) ?_
      refine V_iret 91 .int dX7_drawOne_91 rfl rfl (Nat.le_of_ble_eq_true rfl) (Nat.le_of_ble_eq_true rfl) (RI.mk h61)
  ·
    refine V_aload_0 41 dX7_drawOne_41 ?_
    refine V_getR 42 (c := 7) 1 ((F.ss h34.1).r 0 1 2 rfl) dX7_drawOne_42 fl_RX7_15 ((F.ss h34.1).m 0 (Nat.le_of_ble_eq_true rfl)) ((F.ss h34.1).k 0 7 rfl) (Nat.le_of_ble_eq_true rfl) (Nat.le_of_ble_eq_true rfl) rfl ?_
    refine V_iload_4 45 dX7_drawOne_45 ?_
    refine V_iconst 47 (-1) dX7_drawOne_47 (by decide) ?_
    refine V_callSN 48 [.ref _, .int _, .int _] _ (c_add M.2.1 Γ S33 (a := (a + 2)) ((F.ss h34.1).m 2 (Nat.le_of_ble_eq_true rfl)) ((F.ss h34.1).k 2 14 rfl) (by rw [((F.ss h34.1).l 2 8 rfl)]; decide) _ _) dX7_drawOne_48 cb_X11_add ne_RX7_45 sm_yX11_add ⟨(Nat.le_of_ble_eq_true rfl), (Nat.le_of_ble_eq_true rfl)⟩ rfl rfl (Nat.le_of_ble_eq_true rfl) ⟨(Nat.le_of_ble_eq_true rfl), (Nat.le_of_ble_eq_true rfl)⟩ (RV.go (fun S62 q63 => ?_))
    have h65 : FZ [a + 1, a + 2, a + 3] [(a, 3), (a, 4)] S S62 := h34.tr ((fr_add q63).sub (by simp) (by simp))
    refine V_aload_0 51 dX7_drawOne_51 ?_
    refine V_getR 52 (c := 7) 2 ((F.ss h65.1).r 0 2 3 rfl) dX7_drawOne_52 fl_RX7_18 ((F.ss h65.1).m 0 (Nat.le_of_ble_eq_true rfl)) ((F.ss h65.1).k 0 7 rfl) (Nat.le_of_ble_eq_true rfl) (Nat.le_of_ble_eq_true rfl) rfl ?_
    refine V_iload_2 55 dX7_drawOne_55 ?_
    refine V_iload_4 56 dX7_drawOne_56 ?_
    refine V_mmin 58 dX7_drawOne_58 ml_RX7_49 (Nat.le_of_ble_eq_true rfl) (Nat.le_of_ble_eq_true rfl) (Nat.le_of_ble_eq_true rfl) (Nat.le_of_ble_eq_true rfl) ?_
    refine V_iconst 61 (1) dX7_drawOne_61 (by decide) ?_
    refine V_callSN 62 [.ref _, .int _, .int _] _ (c_add M.2.1 Γ S62 (a := (a + 3)) ((F.ss h65.1).m 3 (Nat.le_of_ble_eq_true rfl)) ((F.ss h65.1).k 3 14 rfl) (by rw [((F.ss h65.1).l 3 8 rfl)]; decide) _ _) dX7_drawOne_62 cb_X11_add ne_RX7_45 sm_yX11_add ⟨(Nat.le_of_ble_eq_true rfl), (Nat.le_of_ble_eq_true rfl)⟩ rfl rfl (Nat.le_of_ble_eq_true rfl) ⟨(Nat.le_of_ble_eq_true rfl), (Nat.le_of_ble_eq_true rfl)⟩ (RV.go (fun S66 q67 => ?_))
    have h69 : FZ [a + 1, a + 2, a + 3] [(a, 3), (a, 4)] S S66 := h65.tr ((fr_add q67).sub (by simp) (by simp))
    refine V_iconst 65 (1) dX7_drawOne_65 (by decide) ?_
    refine V_iret 66 .int dX7_drawOne_66 rfl rfl (Nat.le_of_ble_eq_true rfl) (Nat.le_of_ble_eq_true rfl) (RI.mk h69)
set_option maxRecDepth 100000 in
set_option maxHeartbeats 8000000 in
theorem s_X7_takeAway (l : Launch) (Γ : GC) (S : PS) {a : Nat} (F : isL lyState Γ.2.2.2.2.1 S a) (x : Int32) : CT l Γ yX7_takeAway cX7_takeAway 2 none (1) (0) (0) [.ref a, .int x] S (RV (fun S' => FZ [a + 1, a + 2, a + 3] [(a, 3), (a, 4)] S S')) := by
  refine CT.of RX7 "takeAway" [some (.ref a), some (.int x)] (by decide +kernel) rfl rfl (Nat.le_of_ble_eq_true rfl) rfl (fun M hM => ?_)
  subst hM
  refine V_aload_0 0 dX7_takeAway_0 ?_
  refine V_getR 1 (c := 7) 1 (F.r 0 1 2 rfl) dX7_takeAway_1 fl_RX7_15 (F.m 0 (Nat.le_of_ble_eq_true rfl)) (F.k 0 7 rfl) (Nat.le_of_ble_eq_true rfl) (Nat.le_of_ble_eq_true rfl) rfl ?_
  refine V_iload_1 4 dX7_takeAway_4 ?_
  refine V_iconst 5 (-1) dX7_takeAway_5 (by decide) ?_
  refine V_callSN 6 [.ref _, .int _, .int _] _ (c_add M.2.1 Γ S (a := (a + 2)) (F.m 2 (Nat.le_of_ble_eq_true rfl)) (F.k 2 14 rfl) (by rw [(F.l 2 8 rfl)]; decide) _ _) dX7_takeAway_6 cb_X11_add ne_RX7_45 sm_yX11_add ⟨(Nat.le_of_ble_eq_true rfl), (Nat.le_of_ble_eq_true rfl)⟩ rfl rfl (Nat.le_of_ble_eq_true rfl) ⟨(Nat.le_of_ble_eq_true rfl), (Nat.le_of_ble_eq_true rfl)⟩ (RV.go (fun S1 q2 => ?_))
  have h4 : FZ [a + 1, a + 2, a + 3] [(a, 3), (a, 4)] S S1 := (FZ.rf (X := [a + 1, a + 2, a + 3]) (Y := [(a, 3), (a, 4)]) (S := S)).tr ((fr_add q2).sub (by simp) (by simp))
  refine V_aload_0 9 dX7_takeAway_9 ?_
  refine V_getR 10 (c := 7) 0 ((F.ss h4.1).r 0 0 1 rfl) dX7_takeAway_10 fl_RX7_9 ((F.ss h4.1).m 0 (Nat.le_of_ble_eq_true rfl)) ((F.ss h4.1).k 0 7 rfl) (Nat.le_of_ble_eq_true rfl) (Nat.le_of_ble_eq_true rfl) rfl ?_
  refine V_iload_1 13 dX7_takeAway_13 ?_
  refine V_iconst 14 (1) dX7_takeAway_14 (by decide) ?_
  refine V_callSN 15 [.ref _, .int _, .int _] _ (c_add M.2.1 Γ S1 (a := (a + 1)) ((F.ss h4.1).m 1 (Nat.le_of_ble_eq_true rfl)) ((F.ss h4.1).k 1 14 rfl) (by rw [((F.ss h4.1).l 1 8 rfl)]; decide) _ _) dX7_takeAway_15 cb_X11_add ne_RX7_45 sm_yX11_add ⟨(Nat.le_of_ble_eq_true rfl), (Nat.le_of_ble_eq_true rfl)⟩ rfl rfl (Nat.le_of_ble_eq_true rfl) ⟨(Nat.le_of_ble_eq_true rfl), (Nat.le_of_ble_eq_true rfl)⟩ (RV.go (fun S5 q6 => ?_))
  have h8 : FZ [a + 1, a + 2, a + 3] [(a, 3), (a, 4)] S S5 := h4.tr ((fr_add q6).sub (by simp) (by simp))
  refine V_aload_0 18 dX7_takeAway_18 ?_
  refine V_iconst 19 (0) dX7_takeAway_19 (by decide) ?_
  refine V_putI 20 (c := 7) 4 dX7_takeAway_20 fl_RX7_34 ((F.ss h8.1).m 0 (Nat.le_of_ble_eq_true rfl)) ((F.ss h8.1).k 0 7 rfl) (Nat.le_of_ble_eq_true rfl) (Nat.le_of_ble_eq_true rfl) rfl (Or.inr ⟨rfl, (Or.inl rfl)⟩) ?_
  refine V_abs (FZ [a + 1, a + 2, a + 3] [(a, 3), (a, 4)] S) (h8.uI (by simp)) (fun S9 h10 => ?_)
  refine V_vret 23 dX7_takeAway_23 rfl (Nat.le_of_ble_eq_true rfl) (Nat.le_of_ble_eq_true rfl) (RV.mk h10)
set_option maxRecDepth 100000 in
set_option maxHeartbeats 8000000 in
theorem s_X1_begin (l : Launch) (Γ : GC) (S : PS) {g a : Nat} (F : isL lyGrid Γ.2.2.2.2.1 S g) (ha : a ∈ PL Γ.2.2.2.2.1 S) (hk : sK S a = 14) (hl : sL S a = 8) : CT l Γ yX1_begin cX1_begin 4 none (1) (0) (0) [.ref g, .ref a] S (RV (fun S' => FZ [g + 1, g + 2, g + 3] [(g, 3)] S S')) := by
  refine CT.of RX1 "begin" [some (.ref g), some (.ref a), none, none] (by decide +kernel) rfl rfl (Nat.le_of_ble_eq_true rfl) rfl (fun M hM => ?_)
  subst hM
  refine V_iconst 0 (1) dX1_begin_0 (by decide) ?_
  refine V_istore_2 1 dX1_begin_1 rfl (Nat.le_of_ble_eq_true rfl) ?_
  refine V_iconst 2 (0) dX1_begin_2 (by decide) ?_
  refine V_istore_3 3 dX1_begin_3 rfl (Nat.le_of_ble_eq_true rfl) ?_
  refine V_lvw (by repeat (first | exact trivial | refine ⟨rfl, ?_⟩)) (V_while (α := Nat × PS × Int32) (fun z1 => 8 - z1.1) (fun z1 => z1.1 ≤ 8 ∧ FZ [g + 1, g + 2, g + 3] [(g, 3)] S z1.2.1) (fun z1 => z1.2.1) (fun z1 => [some (.ref g), some (.ref a), some (.int z1.2.2), some (.int (nI z1.1))]) (0, _, _) ⟨Nat.zero_le _, FZ.rf⟩ (fun z1 hx8 ih6 => ?b9))
  obtain ⟨i2, S3, w7⟩ := z1
  obtain ⟨hi4, h5⟩ := hx8
  dsimp only at hi4 h5 ih6 ⊢
  refine V_iload_3 4 dX1_begin_4 ?_
  refine V_bipush 5 (8) dX1_begin_5 (by decide) ?_
  refine V_icmp_ge 7 52 dX1_begin_7 (by decide) (fun c11 => ?_) (fun c11 => ?_)
  ·
    refine V_aload_0 52 dX1_begin_52 ?_
    refine V_iload_2 53 dX1_begin_53 ?_
    refine V_sipush 54 (11664) dX1_begin_54 (by decide) ?_
    refine V_mmin 57 dX1_begin_57 ml_RX1_25 (Nat.le_of_ble_eq_true rfl) (Nat.le_of_ble_eq_true rfl) (Nat.le_of_ble_eq_true rfl) (Nat.le_of_ble_eq_true rfl) ?_
    refine V_putI 60 (c := 1) 3 dX1_begin_60 fl_RX1_31 ((F.ss h5.1).m 0 (Nat.le_of_ble_eq_true rfl)) ((F.ss h5.1).k 0 1 rfl) (Nat.le_of_ble_eq_true rfl) (Nat.le_of_ble_eq_true rfl) rfl (Or.inl rfl) ?_
    refine V_abs (FZ [g + 1, g + 2, g + 3] [(g, 3)] S) (h5.uI (by simp)) (fun S12 h13 => ?_)
    refine V_vret 63 dX1_begin_63 rfl (Nat.le_of_ble_eq_true rfl) (Nat.le_of_ble_eq_true rfl) (RV.mk h13)
  ·
    have lt14 := nI_lt8 (by decide) hi4 c11
    refine V_aload_0 10 dX1_begin_10 ?_
    refine V_getR 11 (c := 1) 0 ((F.ss h5.1).r 0 0 1 rfl) dX1_begin_11 fl_RX1_9 ((F.ss h5.1).m 0 (Nat.le_of_ble_eq_true rfl)) ((F.ss h5.1).k 0 1 rfl) (Nat.le_of_ble_eq_true rfl) (Nat.le_of_ble_eq_true rfl) rfl ?_
    refine V_iload_3 14 dX1_begin_14 ?_
    refine V_aload_1 15 dX1_begin_15 ?_
    refine V_iload_3 16 dX1_begin_16 ?_
    refine V_callSN 17 [.ref _, .int _] _ (c_at M.2.1 Γ S3 (a := a) (PL_ss h5.1 ha) (by rw [h5.1.2.1]; exact hk) (by rw [h5.1.2.2.2.1, hl]; decide) _) dX1_begin_17 cb_X11_at ne_RX1_21 sm_yX11_at ⟨(Nat.le_of_ble_eq_true rfl), (Nat.le_of_ble_eq_true rfl)⟩ rfl rfl (Nat.le_of_ble_eq_true rfl) ⟨(Nat.le_of_ble_eq_true rfl), (Nat.le_of_ble_eq_true rfl)⟩ (RI.go (fun r17 S15 q16 => ?_))
    rw [q16.2]
    refine V_iastore2 20 dX1_begin_20 ((F.ss h5.1).m 1 (Nat.le_of_ble_eq_true rfl)) ((F.ss h5.1).k 1 14 rfl) ((F.ss h5.1).l 1 8 rfl) ?_ ?_
    · exact vp_in_nI (by omega) (by decide)
    refine V_abs (FZ [g + 1, g + 2, g + 3] [(g, 3)] S) (h5.uA (by simp)) (fun S18 h19 => ?_)
    refine V_aload_0 21 dX1_begin_21 ?_
    refine V_getR 22 (c := 1) 2 ((F.ss h19.1).r 0 2 3 rfl) dX1_begin_22 fl_RX1_18 ((F.ss h19.1).m 0 (Nat.le_of_ble_eq_true rfl)) ((F.ss h19.1).k 0 1 rfl) (Nat.le_of_ble_eq_true rfl) (Nat.le_of_ble_eq_true rfl) rfl ?_
    refine V_iload_3 25 dX1_begin_25 ?_
    refine V_iconst 26 (0) dX1_begin_26 (by decide) ?_
    refine V_iastore2 27 dX1_begin_27 ((F.ss h19.1).m 3 (Nat.le_of_ble_eq_true rfl)) ((F.ss h19.1).k 3 14 rfl) ((F.ss h19.1).l 3 8 rfl) ?_ ?_
    · exact vp_in_nI (by omega) (by decide)
    refine V_abs (FZ [g + 1, g + 2, g + 3] [(g, 3)] S) (h19.uA (by simp)) (fun S20 h21 => ?_)
    refine V_aload_0 28 dX1_begin_28 ?_
    refine V_getR 29 (c := 1) 1 ((F.ss h21.1).r 0 1 2 rfl) dX1_begin_29 fl_RX1_15 ((F.ss h21.1).m 0 (Nat.le_of_ble_eq_true rfl)) ((F.ss h21.1).k 0 1 rfl) (Nat.le_of_ble_eq_true rfl) (Nat.le_of_ble_eq_true rfl) rfl ?_
    refine V_iload_3 32 dX1_begin_32 ?_
    refine V_iload_2 33 dX1_begin_33 ?_
    refine V_iastore2 34 dX1_begin_34 ((F.ss h21.1).m 2 (Nat.le_of_ble_eq_true rfl)) ((F.ss h21.1).k 2 14 rfl) ((F.ss h21.1).l 2 8 rfl) ?_ ?_
    · exact vp_in_nI (by omega) (by decide)
    refine V_abs (FZ [g + 1, g + 2, g + 3] [(g, 3)] S) (h21.uA (by simp)) (fun S22 h23 => ?_)
    refine V_iload_2 35 dX1_begin_35 ?_
    refine V_aload_0 36 dX1_begin_36 ?_
    refine V_getR 37 (c := 1) 0 ((F.ss h23.1).r 0 0 1 rfl) dX1_begin_37 fl_RX1_9 ((F.ss h23.1).m 0 (Nat.le_of_ble_eq_true rfl)) ((F.ss h23.1).k 0 1 rfl) (Nat.le_of_ble_eq_true rfl) (Nat.le_of_ble_eq_true rfl) rfl ?_
    refine V_iload_3 40 dX1_begin_40 ?_
    refine V_iaload2 41 dX1_begin_41 ((F.ss h23.1).m 1 (Nat.le_of_ble_eq_true rfl)) ((F.ss h23.1).k 1 14 rfl) ((F.ss h23.1).l 1 8 rfl) ?_ ?_
    · exact vp_in_nI (by omega) (by decide)
    refine V_iconst 42 (1) dX1_begin_42 (by decide) ?_
    refine V_iadd 43 dX1_begin_43 ?_
    refine V_imul 44 dX1_begin_44 ?_
    refine V_istore_2 45 dX1_begin_45 rfl (Nat.le_of_ble_eq_true rfl) ?_
    refine V_iinc_3 46 (1) dX1_begin_46 (by decide) rfl (Nat.le_of_ble_eq_true rfl) ?_
    refine V_goto 49 4 dX1_begin_49 (by decide) ?_
    rw [← nI_succ]
    refine V_lvw (by repeat (first | exact trivial | refine ⟨rfl, ?_⟩)) (ih6 (i2 + 1, _, _) ⟨by dsimp only; omega, h23⟩ (by dsimp only; omega))
set_option maxRecDepth 100000 in
set_option maxHeartbeats 8000000 in
theorem s_X1_step (l : Launch) (Γ : GC) (S : PS) {g : Nat} (F : isL lyGrid Γ.2.2.2.2.1 S g) : CT l Γ yX1_step cX1_step 2 none (0) (0) (0) [.ref g] S (RV (fun S' => FZ [g + 1, g + 2, g + 3] [(g, 3)] S S')) := by
  refine CT.of RX1 "step" [some (.ref g), none] (by decide +kernel) rfl rfl (Nat.le_of_ble_eq_true rfl) rfl (fun M hM => ?_)
  subst hM
  refine V_iconst 0 (0) dX1_step_0 (by decide) ?_
  refine V_istore_1 1 dX1_step_1 rfl (Nat.le_of_ble_eq_true rfl) ?_
  refine V_lvw (by repeat (first | exact trivial | refine ⟨rfl, ?_⟩)) (V_while (α := Nat × PS) (fun z1 => 8 - z1.1) (fun z1 => z1.1 ≤ 8 ∧ FZ [g + 1, g + 2, g + 3] [(g, 3)] S z1.2) (fun z1 => z1.2) (fun z1 => [some (.ref g), some (.int (nI z1.1))]) (0, _) ⟨Nat.zero_le _, FZ.rf⟩ (fun z1 hx7 ih6 => ?b8))
  obtain ⟨i2, S3⟩ := z1
  obtain ⟨hi4, h5⟩ := hx7
  dsimp only at hi4 h5 ih6 ⊢
  refine V_iload_1 2 dX1_step_2 ?_
  refine V_bipush 3 (8) dX1_step_3 (by decide) ?_
  refine V_icmp_ge 5 36 dX1_step_5 (by decide) (fun c10 => ?_) (fun c10 => ?_)
  ·
    refine V_iload_1 36 dX1_step_36 ?_
    refine V_bipush 37 (8) dX1_step_37 (by decide) ?_
    refine V_icmp_ge 39 52 dX1_step_39 (by decide) (fun c11 => ?_) (fun c11 => ?_)
    ·
      refine V_vret 52 dX1_step_52 rfl (Nat.le_of_ble_eq_true rfl) (Nat.le_of_ble_eq_true rfl) (RV.mk h5)
    ·
      have lt12 := nI_lt8 (by decide) hi4 c11
      refine V_aload_0 42 dX1_step_42 ?_
      refine V_getR 43 (c := 1) 2 ((F.ss h5.1).r 0 2 3 rfl) dX1_step_43 fl_RX1_18 ((F.ss h5.1).m 0 (Nat.le_of_ble_eq_true rfl)) ((F.ss h5.1).k 0 1 rfl) (Nat.le_of_ble_eq_true rfl) (Nat.le_of_ble_eq_true rfl) rfl ?_
      refine V_iload_1 46 dX1_step_46 ?_
      refine V_dup2 47 dX1_step_47 rfl rfl ?_
      refine V_iaload2 48 dX1_step_48 ((F.ss h5.1).m 3 (Nat.le_of_ble_eq_true rfl)) ((F.ss h5.1).k 3 14 rfl) ((F.ss h5.1).l 3 8 rfl) ?_ ?_
      · exact vp_in_nI (by omega) (by decide)
      refine V_iconst 49 (1) dX1_step_49 (by decide) ?_
      refine V_iadd 50 dX1_step_50 ?_
      refine V_iastore2 51 dX1_step_51 ((F.ss h5.1).m 3 (Nat.le_of_ble_eq_true rfl)) ((F.ss h5.1).k 3 14 rfl) ((F.ss h5.1).l 3 8 rfl) ?_ ?_
      · exact vp_in_nI (by omega) (by decide)
      refine V_abs (FZ [g + 1, g + 2, g + 3] [(g, 3)] S) (h5.uA (by simp)) (fun S13 h14 => ?_)
      refine V_vret 52 dX1_step_52 rfl (Nat.le_of_ble_eq_true rfl) (Nat.le_of_ble_eq_true rfl) (RV.mk h14)
  ·
    have lt15 := nI_lt8 (by decide) hi4 c10
    refine V_aload_0 8 dX1_step_8 ?_
    refine V_getR 9 (c := 1) 2 ((F.ss h5.1).r 0 2 3 rfl) dX1_step_9 fl_RX1_18 ((F.ss h5.1).m 0 (Nat.le_of_ble_eq_true rfl)) ((F.ss h5.1).k 0 1 rfl) (Nat.le_of_ble_eq_true rfl) (Nat.le_of_ble_eq_true rfl) rfl ?_
    refine V_iload_1 12 dX1_step_12 ?_
    refine V_iaload2 13 dX1_step_13 ((F.ss h5.1).m 3 (Nat.le_of_ble_eq_true rfl)) ((F.ss h5.1).k 3 14 rfl) ((F.ss h5.1).l 3 8 rfl) ?_ ?_
    · exact vp_in_nI (by omega) (by decide)
    refine V_aload_0 14 dX1_step_14 ?_
    refine V_getR 15 (c := 1) 0 ((F.ss h5.1).r 0 0 1 rfl) dX1_step_15 fl_RX1_9 ((F.ss h5.1).m 0 (Nat.le_of_ble_eq_true rfl)) ((F.ss h5.1).k 0 1 rfl) (Nat.le_of_ble_eq_true rfl) (Nat.le_of_ble_eq_true rfl) rfl ?_
    refine V_iload_1 18 dX1_step_18 ?_
    refine V_iaload2 19 dX1_step_19 ((F.ss h5.1).m 1 (Nat.le_of_ble_eq_true rfl)) ((F.ss h5.1).k 1 14 rfl) ((F.ss h5.1).l 1 8 rfl) ?_ ?_
    · exact vp_in_nI (by omega) (by decide)
    refine V_icmp_lt 20 36 dX1_step_20 (by decide) (fun c16 => ?_) (fun c16 => ?_)
    ·
      refine V_iload_1 36 dX1_step_36 ?_
      refine V_bipush 37 (8) dX1_step_37 (by decide) ?_
      refine V_icmp_ge 39 52 dX1_step_39 (by decide) (fun c17 => ?_) (fun c17 => ?_)
      ·
        refine V_vret 52 dX1_step_52 rfl (Nat.le_of_ble_eq_true rfl) (Nat.le_of_ble_eq_true rfl) (RV.mk h5)
      ·
        have lt18 := nI_lt8 (by decide) hi4 c17
        refine V_aload_0 42 dX1_step_42 ?_
        refine V_getR 43 (c := 1) 2 ((F.ss h5.1).r 0 2 3 rfl) dX1_step_43 fl_RX1_18 ((F.ss h5.1).m 0 (Nat.le_of_ble_eq_true rfl)) ((F.ss h5.1).k 0 1 rfl) (Nat.le_of_ble_eq_true rfl) (Nat.le_of_ble_eq_true rfl) rfl ?_
        refine V_iload_1 46 dX1_step_46 ?_
        refine V_dup2 47 dX1_step_47 rfl rfl ?_
        refine V_iaload2 48 dX1_step_48 ((F.ss h5.1).m 3 (Nat.le_of_ble_eq_true rfl)) ((F.ss h5.1).k 3 14 rfl) ((F.ss h5.1).l 3 8 rfl) ?_ ?_
        · exact vp_in_nI (by omega) (by decide)
        refine V_iconst 49 (1) dX1_step_49 (by decide) ?_
        refine V_iadd 50 dX1_step_50 ?_
        refine V_iastore2 51 dX1_step_51 ((F.ss h5.1).m 3 (Nat.le_of_ble_eq_true rfl)) ((F.ss h5.1).k 3 14 rfl) ((F.ss h5.1).l 3 8 rfl) ?_ ?_
        · exact vp_in_nI (by omega) (by decide)
        refine V_abs (FZ [g + 1, g + 2, g + 3] [(g, 3)] S) (h5.uA (by simp)) (fun S19 h20 => ?_)
        refine V_vret 52 dX1_step_52 rfl (Nat.le_of_ble_eq_true rfl) (Nat.le_of_ble_eq_true rfl) (RV.mk h20)
    ·
      refine V_aload_0 23 dX1_step_23 ?_
      refine V_getR 24 (c := 1) 2 ((F.ss h5.1).r 0 2 3 rfl) dX1_step_24 fl_RX1_18 ((F.ss h5.1).m 0 (Nat.le_of_ble_eq_true rfl)) ((F.ss h5.1).k 0 1 rfl) (Nat.le_of_ble_eq_true rfl) (Nat.le_of_ble_eq_true rfl) rfl ?_
      refine V_iload_1 27 dX1_step_27 ?_
      refine V_iconst 28 (0) dX1_step_28 (by decide) ?_
      refine V_iastore2 29 dX1_step_29 ((F.ss h5.1).m 3 (Nat.le_of_ble_eq_true rfl)) ((F.ss h5.1).k 3 14 rfl) ((F.ss h5.1).l 3 8 rfl) ?_ ?_
      · exact vp_in_nI (by omega) (by decide)
      refine V_abs (FZ [g + 1, g + 2, g + 3] [(g, 3)] S) (h5.uA (by simp)) (fun S21 h22 => ?_)
      refine V_iinc_1 30 (1) dX1_step_30 (by decide) rfl (Nat.le_of_ble_eq_true rfl) ?_
      refine V_goto 33 2 dX1_step_33 (by decide) ?_
      rw [← nI_succ]
      refine V_lvw (by repeat (first | exact trivial | refine ⟨rfl, ?_⟩)) (ih6 (i2 + 1, _) ⟨by dsimp only; omega, h22⟩ (by dsimp only; omega))

