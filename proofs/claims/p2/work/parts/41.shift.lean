/-! Losses' and Seen's addShifted from any ints -/
set_option maxRecDepth 100000 in
set_option maxHeartbeats 8000000 in
theorem s_X3_addShifted (l : Launch) (Γ : GC) (S : PS) {o : Nat} (F : isL lyLosses Γ.2.2.2.2.1 S o) (x : Int32) (y : Int64) : CT l Γ yX3_addShifted cX3_addShifted 5 none (1) (0) (0) [.ref o, .int x, .long y] S (RV (fun S' => FZ [] [] S S')) := by
  refine CT.of RX3 "addShifted" [some (.ref o), some (.int x), some (.long y), none, none] (by decide +kernel) rfl rfl (Nat.le_of_ble_eq_true rfl) rfl (fun M hM => ?_)
  subst hM
  refine V_iconst 0 (0) dX3_addShifted_0 (by decide) ?_
  refine V_istore_4 1 dX3_addShifted_1 rfl (Nat.le_of_ble_eq_true rfl) ?_
  refine V_lvw (by repeat (first | exact trivial | refine ⟨rfl, ?_⟩)) (V_while (α := Nat × PS) (fun z1 => 19 - z1.1) (fun z1 => z1.1 ≤ 19 ∧ FZ [] [] S z1.2) (fun z1 => z1.2) (fun z1 => [some (.ref o), some (.int x), some (.long y), none, some (.int (nI z1.1))]) (0, _) ⟨Nat.zero_le _, FZ.rf⟩ (fun z1 hx7 ih6 => ?b8))
  obtain ⟨i2, S3⟩ := z1
  obtain ⟨hi4, h5⟩ := hx7
  dsimp only at hi4 h5 ih6 ⊢
  refine V_iload_4 3 dX3_addShifted_3 ?_
  refine V_aload_0 5 dX3_addShifted_5 ?_
  refine V_getR 6 (c := 3) 1 ((F.ss h5.1).r 0 1 2 rfl) dX3_addShifted_6 fl_RX3_15 ((F.ss h5.1).m 0 (Nat.le_of_ble_eq_true rfl)) ((F.ss h5.1).k 0 3 rfl) (Nat.le_of_ble_eq_true rfl) (Nat.le_of_ble_eq_true rfl) rfl ?_
  refine V_alen2 9 dX3_addShifted_9 ((F.ss h5.1).m 2 (Nat.le_of_ble_eq_true rfl)) ((F.ss h5.1).k 2 15 rfl) (Nat.le_of_ble_eq_true rfl) (Nat.le_of_ble_eq_true rfl) ((F.ss h5.1).l 2 19 rfl) ?_
  refine V_icmp_ge 10 42 dX3_addShifted_10 (by decide) (fun c10 => ?_) (fun c10 => ?_)
  ·
    refine V_vret 42 dX3_addShifted_42 rfl (Nat.le_of_ble_eq_true rfl) (Nat.le_of_ble_eq_true rfl) (RV.mk h5)
  ·
    have lt11 := nI_lt8 (by decide) hi4 c10
    refine V_aload_0 13 dX3_addShifted_13 ?_
    refine V_getR 14 (c := 3) 1 ((F.ss h5.1).r 0 1 2 rfl) dX3_addShifted_14 fl_RX3_15 ((F.ss h5.1).m 0 (Nat.le_of_ble_eq_true rfl)) ((F.ss h5.1).k 0 3 rfl) (Nat.le_of_ble_eq_true rfl) (Nat.le_of_ble_eq_true rfl) rfl ?_
    refine V_iload_4 17 dX3_addShifted_17 ?_
    refine V_dup2 19 dX3_addShifted_19 rfl rfl ?_
    refine V_laload2 20 dX3_addShifted_20 ((F.ss h5.1).m 2 (Nat.le_of_ble_eq_true rfl)) ((F.ss h5.1).k 2 15 rfl) ((F.ss h5.1).l 2 19 rfl) ?_ ?_
    · exact vp_in_nI (by omega) (by decide)
    refine V_aload_0 21 dX3_addShifted_21 ?_
    refine V_getR 22 (c := 3) 0 ((F.ss h5.1).r 0 0 1 rfl) dX3_addShifted_22 fl_RX3_9 ((F.ss h5.1).m 0 (Nat.le_of_ble_eq_true rfl)) ((F.ss h5.1).k 0 3 rfl) (Nat.le_of_ble_eq_true rfl) (Nat.le_of_ble_eq_true rfl) rfl ?_
    refine V_iload_4 25 dX3_addShifted_25 ?_
    refine V_iload_1 27 dX3_addShifted_27 ?_
    refine V_isub 28 dX3_addShifted_28 ?_
    refine V_callSN 29 [.ref _, .int _] _ (c_longAt M.2.1 Γ S3 (a := (o + 1)) ((F.ss h5.1).m 1 (Nat.le_of_ble_eq_true rfl)) ((F.ss h5.1).k 1 15 rfl) (by rw [((F.ss h5.1).l 1 19 rfl)]; decide) _) dX3_addShifted_29 cb_X11_longAt ne_RX3_60 sm_yX11_longAt ⟨(Nat.le_of_ble_eq_true rfl), (Nat.le_of_ble_eq_true rfl)⟩ rfl rfl (Nat.le_of_ble_eq_true rfl) ⟨(Nat.le_of_ble_eq_true rfl), (Nat.le_of_ble_eq_true rfl)⟩ (RLg.go (fun r14 S12 q13 => ?_))
    rw [q13.2]
    refine V_lload_2 32 dX3_addShifted_32 ?_
    refine V_lmul 33 dX3_addShifted_33 ?_
    refine V_ladd 34 dX3_addShifted_34 ?_
    refine V_lastore2 35 dX3_addShifted_35 ((F.ss h5.1).m 2 (Nat.le_of_ble_eq_true rfl)) ((F.ss h5.1).k 2 15 rfl) ((F.ss h5.1).l 2 19 rfl) ?_ ?_
    · exact vp_in_nI (by omega) (by decide)
    refine V_abs (FZ [] [] S) (h5.uJ) (fun S15 h16 => ?_)
    refine V_iinc_4 36 (1) dX3_addShifted_36 (by decide) rfl (Nat.le_of_ble_eq_true rfl) ?_
    refine V_goto 39 3 dX3_addShifted_39 (by decide) ?_
    rw [← nI_succ]
    refine V_lvw (by repeat (first | exact trivial | refine ⟨rfl, ?_⟩)) (ih6 (i2 + 1, _) ⟨by dsimp only; omega, h16⟩ (by dsimp only; omega))
set_option maxRecDepth 100000 in
set_option maxHeartbeats 8000000 in
theorem s_X6_addShifted (l : Launch) (Γ : GC) (S : PS) {o : Nat} (F : isL lySeen Γ.2.2.2.2.1 S o) (x : Int32) : CT l Γ yX6_addShifted cX6_addShifted 3 none (1) (0) (0) [.ref o, .int x] S (RV (fun S' => FZ [] [] S S')) := by
  refine CT.of RX6 "addShifted" [some (.ref o), some (.int x), none] (by decide +kernel) rfl rfl (Nat.le_of_ble_eq_true rfl) rfl (fun M hM => ?_)
  subst hM
  refine V_iconst 0 (0) dX6_addShifted_0 (by decide) ?_
  refine V_istore_2 1 dX6_addShifted_1 rfl (Nat.le_of_ble_eq_true rfl) ?_
  refine V_lvw (by repeat (first | exact trivial | refine ⟨rfl, ?_⟩)) (V_while (α := Nat × PS) (fun z1 => 19 - z1.1) (fun z1 => z1.1 ≤ 19 ∧ FZ [] [] S z1.2) (fun z1 => z1.2) (fun z1 => [some (.ref o), some (.int x), some (.int (nI z1.1))]) (0, _) ⟨Nat.zero_le _, FZ.rf⟩ (fun z1 hx7 ih6 => ?b8))
  obtain ⟨i2, S3⟩ := z1
  obtain ⟨hi4, h5⟩ := hx7
  dsimp only at hi4 h5 ih6 ⊢
  refine V_iload_2 2 dX6_addShifted_2 ?_
  refine V_aload_0 3 dX6_addShifted_3 ?_
  refine V_getR 4 (c := 6) 4 ((F.ss h5.1).r 0 4 4 rfl) dX6_addShifted_4 fl_RX6_22 ((F.ss h5.1).m 0 (Nat.le_of_ble_eq_true rfl)) ((F.ss h5.1).k 0 6 rfl) (Nat.le_of_ble_eq_true rfl) (Nat.le_of_ble_eq_true rfl) rfl ?_
  refine V_alen2 7 dX6_addShifted_7 ((F.ss h5.1).m 4 (Nat.le_of_ble_eq_true rfl)) ((F.ss h5.1).k 4 15 rfl) (Nat.le_of_ble_eq_true rfl) (Nat.le_of_ble_eq_true rfl) ((F.ss h5.1).l 4 19 rfl) ?_
  refine V_icmp_ge 8 36 dX6_addShifted_8 (by decide) (fun c10 => ?_) (fun c10 => ?_)
  ·
    refine V_vret 36 dX6_addShifted_36 rfl (Nat.le_of_ble_eq_true rfl) (Nat.le_of_ble_eq_true rfl) (RV.mk h5)
  ·
    have lt11 := nI_lt8 (by decide) hi4 c10
    refine V_aload_0 11 dX6_addShifted_11 ?_
    refine V_getR 12 (c := 6) 4 ((F.ss h5.1).r 0 4 4 rfl) dX6_addShifted_12 fl_RX6_22 ((F.ss h5.1).m 0 (Nat.le_of_ble_eq_true rfl)) ((F.ss h5.1).k 0 6 rfl) (Nat.le_of_ble_eq_true rfl) (Nat.le_of_ble_eq_true rfl) rfl ?_
    refine V_iload_2 15 dX6_addShifted_15 ?_
    refine V_dup2 16 dX6_addShifted_16 rfl rfl ?_
    refine V_laload2 17 dX6_addShifted_17 ((F.ss h5.1).m 4 (Nat.le_of_ble_eq_true rfl)) ((F.ss h5.1).k 4 15 rfl) ((F.ss h5.1).l 4 19 rfl) ?_ ?_
    · exact vp_in_nI (by omega) (by decide)
    refine V_aload_0 18 dX6_addShifted_18 ?_
    refine V_getR 19 (c := 6) 3 ((F.ss h5.1).r 0 3 3 rfl) dX6_addShifted_19 fl_RX6_18 ((F.ss h5.1).m 0 (Nat.le_of_ble_eq_true rfl)) ((F.ss h5.1).k 0 6 rfl) (Nat.le_of_ble_eq_true rfl) (Nat.le_of_ble_eq_true rfl) rfl ?_
    refine V_iload_2 22 dX6_addShifted_22 ?_
    refine V_iload_1 23 dX6_addShifted_23 ?_
    refine V_isub 24 dX6_addShifted_24 ?_
    refine V_callSN 25 [.ref _, .int _] _ (c_longAt M.2.1 Γ S3 (a := (o + 3)) ((F.ss h5.1).m 3 (Nat.le_of_ble_eq_true rfl)) ((F.ss h5.1).k 3 15 rfl) (by rw [((F.ss h5.1).l 3 19 rfl)]; decide) _) dX6_addShifted_25 cb_X11_longAt ne_RX6_38 sm_yX11_longAt ⟨(Nat.le_of_ble_eq_true rfl), (Nat.le_of_ble_eq_true rfl)⟩ rfl rfl (Nat.le_of_ble_eq_true rfl) ⟨(Nat.le_of_ble_eq_true rfl), (Nat.le_of_ble_eq_true rfl)⟩ (RLg.go (fun r14 S12 q13 => ?_))
    rw [q13.2]
    refine V_ladd 28 dX6_addShifted_28 ?_
    refine V_lastore2 29 dX6_addShifted_29 ((F.ss h5.1).m 4 (Nat.le_of_ble_eq_true rfl)) ((F.ss h5.1).k 4 15 rfl) ((F.ss h5.1).l 4 19 rfl) ?_ ?_
    · exact vp_in_nI (by omega) (by decide)
    refine V_abs (FZ [] [] S) (h5.uJ) (fun S15 h16 => ?_)
    refine V_iinc_2 30 (1) dX6_addShifted_30 (by decide) rfl (Nat.le_of_ble_eq_true rfl) ?_
    refine V_goto 33 2 dX6_addShifted_33 (by decide) ?_
    rw [← nI_succ]
    refine V_lvw (by repeat (first | exact trivial | refine ⟨rfl, ?_⟩)) (ih6 (i2 + 1, _) ⟨by dsimp only; omega, h16⟩ (by dsimp only; omega))

