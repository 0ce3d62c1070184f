/-! Law, Orders' and Odds' small ones, from any ints -/
section TSW
variable {M : MC} {Γ : GC} {μ : MI} {cc : ByteArray} {Q : State → Prop} {k sl pc : Nat} {S : PS} {lv : List (Option Value)} {st : List Value} {x : Int32}
theorem V_tsw (lo hi : Int) (ko : x.toInt < lo ∨ hi < x.toInt → V M Γ μ cc Q k sl S pc lv (.int x :: st)) (ki : ¬ (x.toInt < lo ∨ hi < x.toInt) → V M Γ μ cc Q k sl S pc lv (.int x :: st)) : V M Γ μ cc Q k sl S pc lv (.int x :: st) := by
  by_cases q : x.toInt < lo ∨ hi < x.toInt
  · exact ko q
  · exact ki q
theorem V_teq (v : Int) (h1 : x.toInt = v → V M Γ μ cc Q k sl S pc lv (.int x :: st)) (h2 : ¬ x.toInt = v → V M Γ μ cc Q k sl S pc lv (.int x :: st)) : V M Γ μ cc Q k sl S pc lv (.int x :: st) := by
  by_cases q : x.toInt = v
  · exact h1 q
  · exact h2 q
end TSW
set_option maxRecDepth 100000 in
set_option maxHeartbeats 8000000 in
theorem s_write (l : Launch) (Γ : GC) (S : PS) {t : Nat} (F : isL lyLaw Γ.2.2.2.2.1 S t) (x y : Int32) : CT l Γ yX2_write cX2_write 3 (some .int) (1) (0) (0) [.ref t, .int x, .int y] S (RI (fun r S' => FZ [t + 1, t + 2] [(t, 2)] S S')) := by
  refine CT.of RX2 "write" [some (.ref t), some (.int x), some (.int y)] (by decide +kernel) rfl rfl (Nat.le_of_ble_eq_true rfl) rfl (fun M hM => ?_)
  subst hM
  refine V_aload_0 0 dX2_write_0 ?_
  refine V_getR 1 (c := 2) 0 (F.r 0 0 1 rfl) dX2_write_1 fl_RX2_9 (F.m 0 (Nat.le_of_ble_eq_true rfl)) (F.k 0 2 rfl) (Nat.le_of_ble_eq_true rfl) (Nat.le_of_ble_eq_true rfl) rfl ?_
  refine V_aload_0 4 dX2_write_4 ?_
  refine V_getI 5 (c := 2) 2 dX2_write_5 fl_RX2_21 (F.m 0 (Nat.le_of_ble_eq_true rfl)) (F.k 0 2 rfl) (Nat.le_of_ble_eq_true rfl) (Nat.le_of_ble_eq_true rfl) rfl ?_
  refine V_iload_1 8 dX2_write_8 ?_
  refine V_callSN 9 [.ref _, .int _, .int _] _ (c_put M.2.1 Γ S (a := (t + 1)) (F.m 1 (Nat.le_of_ble_eq_true rfl)) (F.k 1 14 rfl) (by rw [(F.l 1 402 rfl)]; decide) _ _) dX2_write_9 cb_X11_put ne_RX2_29 sm_yX11_put ⟨(Nat.le_of_ble_eq_true rfl), (Nat.le_of_ble_eq_true rfl)⟩ rfl rfl (Nat.le_of_ble_eq_true rfl) ⟨(Nat.le_of_ble_eq_true rfl), (Nat.le_of_ble_eq_true rfl)⟩ (RV.go (fun S1 q2 => ?_))
  have h4 : FZ [t + 1, t + 2] [(t, 2)] S S1 := (FZ.rf (X := [t + 1, t + 2]) (Y := [(t, 2)]) (S := S)).tr ((fr_put q2).sub (by simp) (by simp))
  refine V_aload_0 12 dX2_write_12 ?_
  refine V_getR 13 (c := 2) 1 ((F.ss h4.1).r 0 1 2 rfl) dX2_write_13 fl_RX2_15 ((F.ss h4.1).m 0 (Nat.le_of_ble_eq_true rfl)) ((F.ss h4.1).k 0 2 rfl) (Nat.le_of_ble_eq_true rfl) (Nat.le_of_ble_eq_true rfl) rfl ?_
  refine V_aload_0 16 dX2_write_16 ?_
  refine V_getI 17 (c := 2) 2 dX2_write_17 fl_RX2_21 ((F.ss h4.1).m 0 (Nat.le_of_ble_eq_true rfl)) ((F.ss h4.1).k 0 2 rfl) (Nat.le_of_ble_eq_true rfl) (Nat.le_of_ble_eq_true rfl) rfl ?_
  refine V_iload_2 20 dX2_write_20 ?_
  refine V_callSN 21 [.ref _, .int _, .int _] _ (c_put M.2.1 Γ S1 (a := (t + 2)) ((F.ss h4.1).m 2 (Nat.le_of_ble_eq_true rfl)) ((F.ss h4.1).k 2 14 rfl) (by rw [((F.ss h4.1).l 2 402 rfl)]; decide) _ _) dX2_write_21 cb_X11_put ne_RX2_29 sm_yX11_put ⟨(Nat.le_of_ble_eq_true rfl), (Nat.le_of_ble_eq_true rfl)⟩ rfl rfl (Nat.le_of_ble_eq_true rfl) ⟨(Nat.le_of_ble_eq_true rfl), (Nat.le_of_ble_eq_true rfl)⟩ (RV.go (fun S5 q6 => ?_))
  have h8 : FZ [t + 1, t + 2] [(t, 2)] S S5 := h4.tr ((fr_put q6).sub (by simp) (by simp))
  refine V_aload_0 24 dX2_write_24 ?_
  refine V_dup 25 dX2_write_25 rfl ?_
  refine V_getI 26 (c := 2) 2 dX2_write_26 fl_RX2_21 ((F.ss h8.1).m 0 (Nat.le_of_ble_eq_true rfl)) ((F.ss h8.1).k 0 2 rfl) (Nat.le_of_ble_eq_true rfl) (Nat.le_of_ble_eq_true rfl) rfl ?_
  refine V_iconst 29 (1) dX2_write_29 (by decide) ?_
  refine V_iadd 30 dX2_write_30 ?_
  refine V_putI 31 (c := 2) 2 dX2_write_31 fl_RX2_21 ((F.ss h8.1).m 0 (Nat.le_of_ble_eq_true rfl)) ((F.ss h8.1).k 0 2 rfl) (Nat.le_of_ble_eq_true rfl) (Nat.le_of_ble_eq_true rfl) rfl (Or.inl rfl) ?_
  refine V_abs (FZ [t + 1, t + 2] [(t, 2)] S) (h8.uI (by simp)) (fun S9 h10 => ?_)
  refine V_aload_0 34 dX2_write_34 ?_
  refine V_getI 35 (c := 2) 2 dX2_write_35 fl_RX2_21 ((F.ss h10.1).m 0 (Nat.le_of_ble_eq_true rfl)) ((F.ss h10.1).k 0 2 rfl) (Nat.le_of_ble_eq_true rfl) (Nat.le_of_ble_eq_true rfl) rfl ?_
  refine V_iconst 38 (1) dX2_write_38 (by decide) ?_
  refine V_isub 39 dX2_write_39 ?_
  refine V_iret 40 .int dX2_write_40 rfl rfl (Nat.le_of_ble_eq_true rfl) (Nat.le_of_ble_eq_true rfl) (RI.mk h10)
set_option maxRecDepth 100000 in
set_option maxHeartbeats 8000000 in
theorem s_aim (l : Launch) (Γ : GC) (S : PS) {t : Nat} (F : isL lyLaw Γ.2.2.2.2.1 S t) (x : Int32) : CT l Γ yX2_aim cX2_aim 2 none (1) (0) (0) [.ref t, .int x] S (RV (fun S' => FZ [t + 2] [] S S')) := by
  refine CT.of RX2 "aim" [some (.ref t), some (.int x)] (by decide +kernel) rfl rfl (Nat.le_of_ble_eq_true rfl) rfl (fun M hM => ?_)
  subst hM
  refine V_aload_0 0 dX2_aim_0 ?_
  refine V_getR 1 (c := 2) 1 (F.r 0 1 2 rfl) dX2_aim_1 fl_RX2_15 (F.m 0 (Nat.le_of_ble_eq_true rfl)) (F.k 0 2 rfl) (Nat.le_of_ble_eq_true rfl) (Nat.le_of_ble_eq_true rfl) rfl ?_
  refine V_iload_1 4 dX2_aim_4 ?_
  refine V_aload_0 5 dX2_aim_5 ?_
  refine V_getI 6 (c := 2) 2 dX2_aim_6 fl_RX2_21 (F.m 0 (Nat.le_of_ble_eq_true rfl)) (F.k 0 2 rfl) (Nat.le_of_ble_eq_true rfl) (Nat.le_of_ble_eq_true rfl) rfl ?_
  refine V_callSN 9 [.ref _, .int _, .int _] _ (c_put M.2.1 Γ S (a := (t + 2)) (F.m 2 (Nat.le_of_ble_eq_true rfl)) (F.k 2 14 rfl) (by rw [(F.l 2 402 rfl)]; decide) _ _) dX2_aim_9 cb_X11_put ne_RX2_29 sm_yX11_put ⟨(Nat.le_of_ble_eq_true rfl), (Nat.le_of_ble_eq_true rfl)⟩ rfl rfl (Nat.le_of_ble_eq_true rfl) ⟨(Nat.le_of_ble_eq_true rfl), (Nat.le_of_ble_eq_true rfl)⟩ (RV.go (fun S1 q2 => ?_))
  have h4 : FZ [t + 2] [] S S1 := (FZ.rf (X := [t + 2]) (Y := []) (S := S)).tr ((fr_put q2).sub (by simp) (by simp))
  refine V_vret 12 dX2_aim_12 rfl (Nat.le_of_ble_eq_true rfl) (Nat.le_of_ble_eq_true rfl) (RV.mk h4)
set_option maxRecDepth 100000 in
set_option maxHeartbeats 8000000 in
theorem s_lawclear (l : Launch) (Γ : GC) (S : PS) {t : Nat} (F : isL lyLaw Γ.2.2.2.2.1 S t) : CT l Γ yX2_clear cX2_clear 1 none (0) (0) (0) [.ref t] S (RV (fun S' => FZ [] [(t, 2)] S S')) := by
  refine CT.of RX2 "clear" [some (.ref t)] (by decide +kernel) rfl rfl (Nat.le_of_ble_eq_true rfl) rfl (fun M hM => ?_)
  subst hM
  refine V_aload_0 0 dX2_clear_0 ?_
  refine V_iconst 1 (0) dX2_clear_1 (by decide) ?_
  refine V_putI 2 (c := 2) 2 dX2_clear_2 fl_RX2_21 (F.m 0 (Nat.le_of_ble_eq_true rfl)) (F.k 0 2 rfl) (Nat.le_of_ble_eq_true rfl) (Nat.le_of_ble_eq_true rfl) rfl (Or.inl rfl) ?_
  refine V_abs (FZ [] [(t, 2)] S) ((FZ.rf (X := []) (Y := [(t, 2)]) (S := S)).uI (by simp)) (fun S1 h2 => ?_)
  refine V_vret 5 dX2_clear_5 rfl (Nat.le_of_ble_eq_true rfl) (Nat.le_of_ble_eq_true rfl) (RV.mk h2)
set_option maxRecDepth 100000 in
set_option maxHeartbeats 8000000 in
theorem s_joined (l : Launch) (Γ : GC) (S : PS) (x y z : Int32) : CT l Γ yX2_joined cX2_joined 3 (some .int) (0) (0) (0) [.int x, .int y, .int z] S (RI (fun r S' => FZ [] [] S S')) := by
  refine CT.of RX2 "joined" [some (.int x), some (.int y), some (.int z)] (by decide +kernel) rfl rfl (Nat.le_of_ble_eq_true rfl) rfl (fun M hM => ?_)
  subst hM
  have J3 : ∀ (S1 : PS) (x4 : Int32), FZ [] [] S S1 → V M Γ (3, RX2, "joined", (some .int), RM (0) (0) (0)) cX2_joined (RQ M Γ (RI (fun r S' => FZ [] [] S S')) (0) (0)) 0 0 S1 55 [some (.int x), some (.int y), some (.int z)] [.int x4] := by
    intro S1 x4 h2
    refine V_iret 55 .int dX2_joined_55 rfl rfl (Nat.le_of_ble_eq_true rfl) (Nat.le_of_ble_eq_true rfl) (RI.mk h2)
  refine V_iload_0 0 dX2_joined_0 ?_
  refine V_tsw (42) (45) (fun q5 => ?_) (fun q5 => ?_)
  ·
    refine V_tableOut 1 44 dX2_joined_1 q5 (by decide) ?_
    refine V_iload_2 44 dX2_joined_44 ?_
    refine V_if_ne 45 52 dX2_joined_45 (by decide) (fun c6 => ?_) (fun c6 => ?_)
    ·
      refine V_iload_1 52 dX2_joined_52 ?_
      refine V_iload_2 53 dX2_joined_53 ?_
      refine V_idiv 54 dX2_joined_54 (by assumption) ?_
      refine V_lvw (by repeat (first | exact trivial | refine ⟨rfl, ?_⟩)) (J3 _ _ FZ.rf)
    ·
      refine V_iconst 48 (0) dX2_joined_48 (by decide) ?_
      refine V_goto 49 55 dX2_joined_49 (by decide) ?_
      refine V_lvw (by repeat (first | exact trivial | refine ⟨rfl, ?_⟩)) (J3 _ _ FZ.rf)
  refine V_teq (42) (fun e9 => ?_) (fun e9 => ?_)
  ·
    refine V_tableIn 1 40 (off := 39) dX2_joined_1 (by omega) (by omega) (by rw [e9]; rfl) (by decide) ?_
    refine V_iload_1 40 dX2_joined_40 ?_
    refine V_iload_2 41 dX2_joined_41 ?_
    refine V_imul 42 dX2_joined_42 ?_
    refine V_iret 43 .int dX2_joined_43 rfl rfl (Nat.le_of_ble_eq_true rfl) (Nat.le_of_ble_eq_true rfl) (RI.mk FZ.rf)
  refine V_teq (43) (fun e10 => ?_) (fun e10 => ?_)
  ·
    refine V_tableIn 1 32 (off := 31) dX2_joined_1 (by omega) (by omega) (by rw [e10]; rfl) (by decide) ?_
    refine V_iload_1 32 dX2_joined_32 ?_
    refine V_iload_2 33 dX2_joined_33 ?_
    refine V_iadd 34 dX2_joined_34 ?_
    refine V_iret 35 .int dX2_joined_35 rfl rfl (Nat.le_of_ble_eq_true rfl) (Nat.le_of_ble_eq_true rfl) (RI.mk FZ.rf)
  refine V_teq (44) (fun e11 => ?_) (fun e11 => ?_)
  ·
    refine V_tableIn 1 44 (off := 43) dX2_joined_1 (by omega) (by omega) (by rw [e11]; rfl) (by decide) ?_
    refine V_iload_2 44 dX2_joined_44 ?_
    refine V_if_ne 45 52 dX2_joined_45 (by decide) (fun c12 => ?_) (fun c12 => ?_)
    ·
      refine V_iload_1 52 dX2_joined_52 ?_
      refine V_iload_2 53 dX2_joined_53 ?_
      refine V_idiv 54 dX2_joined_54 (by assumption) ?_
      refine V_lvw (by repeat (first | exact trivial | refine ⟨rfl, ?_⟩)) (J3 _ _ FZ.rf)
    ·
      refine V_iconst 48 (0) dX2_joined_48 (by decide) ?_
      refine V_goto 49 55 dX2_joined_49 (by decide) ?_
      refine V_lvw (by repeat (first | exact trivial | refine ⟨rfl, ?_⟩)) (J3 _ _ FZ.rf)
  refine V_teq (45) (fun e15 => ?_) (fun e15 => ?_)
  ·
    refine V_tableIn 1 36 (off := 35) dX2_joined_1 (by omega) (by omega) (by rw [e15]; rfl) (by decide) ?_
    refine V_iload_1 36 dX2_joined_36 ?_
    refine V_iload_2 37 dX2_joined_37 ?_
    refine V_isub 38 dX2_joined_38 ?_
    refine V_iret 39 .int dX2_joined_39 rfl rfl (Nat.le_of_ble_eq_true rfl) (Nat.le_of_ble_eq_true rfl) (RI.mk FZ.rf)
  exact absurd (by omega) q5
set_option maxRecDepth 100000 in
set_option maxHeartbeats 8000000 in
theorem s_waysTo (l : Launch) (Γ : GC) (S : PS) {o : Nat} (F : isL lyOrders Γ.2.2.2.2.1 S o) (x : Int32) : CT l Γ yX5_waysTo cX5_waysTo 6 (some .long) (1) (0) (0) [.ref o, .int x] S (RLg (fun r S' => FZ [] [] S S')) := by
  refine CT.of RX5 "waysTo" [some (.ref o), some (.int x), none, none, none, none] (by decide +kernel) rfl rfl (Nat.le_of_ble_eq_true rfl) rfl (fun M hM => ?_)
  subst hM
  refine V_lconst 0 0 dX5_waysTo_0 (by decide) ?_
  refine V_lstore_2 1 dX5_waysTo_1 rfl (Nat.le_of_ble_eq_true rfl) ?_
  refine V_iconst 2 (0) dX5_waysTo_2 (by decide) ?_
  refine V_istore_4 3 dX5_waysTo_3 rfl (Nat.le_of_ble_eq_true rfl) ?_
  refine V_lvw (by repeat (first | exact trivial | refine ⟨rfl, ?_⟩)) (V_while (α := Nat × PS × Int64) (fun z1 => 8 - z1.1) (fun z1 => z1.1 ≤ 8 ∧ FZ [] [] S z1.2.1) (fun z1 => z1.2.1) (fun z1 => [some (.ref o), some (.int x), some (.long z1.2.2), none, some (.int (nI z1.1)), none]) (0, _, _) ⟨Nat.zero_le _, FZ.rf⟩ (fun z1 hx8 ih6 => ?b9))
  obtain ⟨i2, S3, w7⟩ := z1
  obtain ⟨hi4, h5⟩ := hx8
  dsimp only at hi4 h5 ih6 ⊢
  have J13 : ∀ (S11 : PS) (y14 : Int64) (x15 : Int32), FZ [] [] S S11 → i2 < 8 → V M Γ (6, RX5, "waysTo", (some .long), RM (1) (0) (0)) cX5_waysTo (RQ M Γ (RLg (fun r S' => FZ [] [] S S')) (0) (0)) 0 0 S11 65 [some (.ref o), some (.int x), some (.long y14), none, some (.int (nI i2)), some (.int x15)] [] := by
    intro S11 y14 x15 h12 lt16
    refine V_iinc_4 65 (1) dX5_waysTo_65 (by decide) rfl (Nat.le_of_ble_eq_true rfl) ?_
    refine V_goto 68 5 dX5_waysTo_68 (by decide) ?_
    rw [← nI_succ]
    refine V_lvw (by repeat (first | exact trivial | refine ⟨rfl, ?_⟩)) (ih6 (i2 + 1, _, _) ⟨by dsimp only; omega, h12⟩ (by dsimp only; omega))
  refine V_iload_4 5 dX5_waysTo_5 ?_
  refine V_bipush 7 (8) dX5_waysTo_7 (by decide) ?_
  refine V_icmp_ge 9 71 dX5_waysTo_9 (by decide) (fun c17 => ?_) (fun c17 => ?_)
  ·
    refine V_lload_2 71 dX5_waysTo_71 ?_
    refine V_lret 72 dX5_waysTo_72 rfl (Nat.le_of_ble_eq_true rfl) (Nat.le_of_ble_eq_true rfl) (RLg.mk h5)
  ·
    have lt18 := nI_lt8 (by decide) hi4 c17
    refine V_aload_0 12 dX5_waysTo_12 ?_
    refine V_getR 13 (c := 5) 4 ((F.ss h5.1).r 0 4 4 rfl) dX5_waysTo_13 fl_RX5_24 ((F.ss h5.1).m 0 (Nat.le_of_ble_eq_true rfl)) ((F.ss h5.1).k 0 5 rfl) (Nat.le_of_ble_eq_true rfl) (Nat.le_of_ble_eq_true rfl) rfl ?_
    refine V_getR 16 (c := 1) 2 ((F.ss h5.1).r 4 2 7 rfl) dX5_waysTo_16 fl_RX5_116 ((F.ss h5.1).m 4 (Nat.le_of_ble_eq_true rfl)) ((F.ss h5.1).k 4 1 rfl) (Nat.le_of_ble_eq_true rfl) (Nat.le_of_ble_eq_true rfl) rfl ?_
    refine V_iload_4 19 dX5_waysTo_19 ?_
    refine V_iaload2 21 dX5_waysTo_21 ((F.ss h5.1).m 7 (Nat.le_of_ble_eq_true rfl)) ((F.ss h5.1).k 7 14 rfl) ((F.ss h5.1).l 7 8 rfl) ?_ ?_
    · exact vp_in_nI (by omega) (by decide)
    refine V_istore_5 22 dX5_waysTo_22 rfl (Nat.le_of_ble_eq_true rfl) ?_
    refine V_iload_5 24 dX5_waysTo_24 ?_
    refine V_if_le 26 65 dX5_waysTo_26 (by decide) (fun c19 => ?_) (fun c19 => ?_)
    ·
      refine V_lvw (by repeat (first | exact trivial | refine ⟨rfl, ?_⟩)) (J13 _ _ _ h5 (by first | omega | assumption))
    ·
      refine V_lload_2 29 dX5_waysTo_29 ?_
      refine V_aload_0 30 dX5_waysTo_30 ?_
      refine V_getR 31 (c := 5) 5 ((F.ss h5.1).r 0 5 8 rfl) dX5_waysTo_31 fl_RX5_28 ((F.ss h5.1).m 0 (Nat.le_of_ble_eq_true rfl)) ((F.ss h5.1).k 0 5 rfl) (Nat.le_of_ble_eq_true rfl) (Nat.le_of_ble_eq_true rfl) rfl ?_
      refine V_iload_1 34 dX5_waysTo_34 ?_
      refine V_aload_0 35 dX5_waysTo_35 ?_
      refine V_getR 36 (c := 5) 4 ((F.ss h5.1).r 0 4 4 rfl) dX5_waysTo_36 fl_RX5_24 ((F.ss h5.1).m 0 (Nat.le_of_ble_eq_true rfl)) ((F.ss h5.1).k 0 5 rfl) (Nat.le_of_ble_eq_true rfl) (Nat.le_of_ble_eq_true rfl) rfl ?_
      refine V_getR 39 (c := 1) 1 ((F.ss h5.1).r 4 1 6 rfl) dX5_waysTo_39 fl_RX5_119 ((F.ss h5.1).m 4 (Nat.le_of_ble_eq_true rfl)) ((F.ss h5.1).k 4 1 rfl) (Nat.le_of_ble_eq_true rfl) (Nat.le_of_ble_eq_true rfl) rfl ?_
      refine V_iload_4 42 dX5_waysTo_42 ?_
      refine V_iaload2 44 dX5_waysTo_44 ((F.ss h5.1).m 6 (Nat.le_of_ble_eq_true rfl)) ((F.ss h5.1).k 6 14 rfl) ((F.ss h5.1).l 6 8 rfl) ?_ ?_
      · exact vp_in_nI (by omega) (by decide)
      refine V_isub 45 dX5_waysTo_45 ?_
      refine V_callSN 46 [.ref _, .int _] _ (c_longAt M.2.1 Γ S3 (a := (o + 8)) ((F.ss h5.1).m 8 (Nat.le_of_ble_eq_true rfl)) ((F.ss h5.1).k 8 15 rfl) (by rw [((F.ss h5.1).l 8 11664 rfl)]; decide) _) dX5_waysTo_46 cb_X11_longAt ne_RX5_112 sm_yX11_longAt ⟨(Nat.le_of_ble_eq_true rfl), (Nat.le_of_ble_eq_true rfl)⟩ rfl rfl (Nat.le_of_ble_eq_true rfl) ⟨(Nat.le_of_ble_eq_true rfl), (Nat.le_of_ble_eq_true rfl)⟩ (RLg.go (fun r23 S21 q22 => ?_))
      rw [q22.2]
      refine V_aload_0 49 dX5_waysTo_49 ?_
      refine V_getR 50 (c := 5) 0 ((F.ss h5.1).r 0 0 1 rfl) dX5_waysTo_50 fl_RX5_9 ((F.ss h5.1).m 0 (Nat.le_of_ble_eq_true rfl)) ((F.ss h5.1).k 0 5 rfl) (Nat.le_of_ble_eq_true rfl) (Nat.le_of_ble_eq_true rfl) rfl ?_
      refine V_iload_4 53 dX5_waysTo_53 ?_
      refine V_iaload2 55 dX5_waysTo_55 ((F.ss h5.1).m 1 (Nat.le_of_ble_eq_true rfl)) ((F.ss h5.1).k 1 14 rfl) ((F.ss h5.1).l 1 8 rfl) ?_ ?_
      · exact vp_in_nI (by omega) (by decide)
      refine V_iload_5 56 dX5_waysTo_56 ?_
      refine V_isub 58 dX5_waysTo_58 ?_
      refine V_iconst 59 (1) dX5_waysTo_59 (by decide) ?_
      refine V_iadd 60 dX5_waysTo_60 ?_
      refine V_i2l 61 dX5_waysTo_61 ?_
      refine V_lmul 62 dX5_waysTo_62 ?_
      refine V_ladd 63 dX5_waysTo_63 ?_
      refine V_lstore_2 64 dX5_waysTo_64 rfl (Nat.le_of_ble_eq_true rfl) ?_
      refine V_lvw (by repeat (first | exact trivial | refine ⟨rfl, ?_⟩)) (J13 _ _ _ h5 (by first | omega | assumption))

