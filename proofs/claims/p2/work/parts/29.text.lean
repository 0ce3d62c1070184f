/-! Text from any ints -/
theorem dn32 {i : Int32} (h : ¬ i < 0) : ((i + (-1)).toInt + 1).toNat < (i.toInt + 1).toNat := by
  have h1 : ¬ i.toInt < 0 := fun q => h (Int32.lt_iff_toInt_lt.mpr q)
  obtain ⟨j, hj, rfl⟩ := nI_of h
  cases j with
  | zero => decide
  | succ j =>
    have e : nI (j + 1) + (-1) = nI j := by
      have q := nI_pred j
      rw [Int32.sub_eq_add_neg] at q
      exact q
    rw [e, nI_toInt hj, nI_toInt (by omega)]
    omega
set_option maxRecDepth 100000 in
set_option maxHeartbeats 8000000 in
theorem s_X10_unlikeness (l : Launch) (Γ : GC) (S : PS) {t : Nat} (F : isL lyText Γ.2.2.2.2.1 S t) (x y : Int32) : CT l Γ yX10_unlikeness cX10_unlikeness 3 (some .int) (1) (0) (0) [.ref t, .int x, .int y] S (RI (fun r S' => FZ [] [] S S')) := by
  refine CT.of RX10 "unlikeness" [some (.ref t), some (.int x), some (.int y)] (by decide +kernel) rfl rfl (Nat.le_of_ble_eq_true rfl) rfl (fun M hM => ?_)
  subst hM
  refine V_aload_0 0 dX10_unlikeness_0 ?_
  refine V_getR 1 (c := 10) 7 (F.r 0 7 6 rfl) dX10_unlikeness_1 fl_RX10_28 (F.m 0 (Nat.le_of_ble_eq_true rfl)) (F.k 0 10 rfl) (Nat.le_of_ble_eq_true rfl) (Nat.le_of_ble_eq_true rfl) rfl ?_
  refine V_iload_1 4 dX10_unlikeness_4 ?_
  refine V_bipush 5 (8) dX10_unlikeness_5 (by decide) ?_
  refine V_imul 7 dX10_unlikeness_7 ?_
  refine V_iload_2 8 dX10_unlikeness_8 ?_
  refine V_iadd 9 dX10_unlikeness_9 ?_
  refine V_callSN 10 [.ref _, .int _] _ (c_at M.2.1 Γ S (a := (t + 6)) (F.m 6 (Nat.le_of_ble_eq_true rfl)) (F.k 6 14 rfl) (by rw [(F.l 6 64 rfl)]; decide) _) dX10_unlikeness_10 cb_X11_at ne_RX10_88 sm_yX11_at ⟨(Nat.le_of_ble_eq_true rfl), (Nat.le_of_ble_eq_true rfl)⟩ rfl rfl (Nat.le_of_ble_eq_true rfl) ⟨(Nat.le_of_ble_eq_true rfl), (Nat.le_of_ble_eq_true rfl)⟩ (RI.go (fun r3 S1 q2 => ?_))
  rw [q2.2]
  refine V_iret 13 .int dX10_unlikeness_13 rfl rfl (Nat.le_of_ble_eq_true rfl) (Nat.le_of_ble_eq_true rfl) (RI.mk FZ.rf)
set_option maxRecDepth 100000 in
set_option maxHeartbeats 8000000 in
theorem s_X10_find (l : Launch) (Γ : GC) (S : PS) {t : Nat} (F : isL lyText Γ.2.2.2.2.1 S t) (x : Int64) : CT l Γ yX10_find cX10_find 4 (some .int) (0) (0) (0) [.ref t, .long x] S (RI (fun r S' => FZ [] [] S S')) := by
  refine CT.of RX10 "find" [some (.ref t), some (.long x), none, none] (by decide +kernel) rfl rfl (Nat.le_of_ble_eq_true rfl) rfl (fun M hM => ?_)
  subst hM
  have J3 : ∀ (S1 : PS) (x4 : Int32), FZ [] [] S S1 → V M Γ (4, RX10, "find", (some .int), RM (0) (0) (0)) cX10_find (RQ M Γ (RI (fun r S' => FZ [] [] S S')) (0) (0)) 0 0 S1 38 [some (.ref t), some (.long x), none, some (.int x4)] [] := by
    intro S1 x4 h2
    refine V_iconst 38 (-1) dX10_find_38 (by decide) ?_
    refine V_iret 39 .int dX10_find_39 rfl rfl (Nat.le_of_ble_eq_true rfl) (Nat.le_of_ble_eq_true rfl) (RI.mk h2)
  refine V_iconst 0 (0) dX10_find_0 (by decide) ?_
  refine V_istore_3 1 dX10_find_1 rfl (Nat.le_of_ble_eq_true rfl) ?_
  refine V_lvw (by repeat (first | exact trivial | refine ⟨rfl, ?_⟩)) (V_while (α := Nat × PS) (fun z5 => 8 - z5.1) (fun z5 => z5.1 ≤ 8 ∧ FZ [] [] S z5.2) (fun z5 => z5.2) (fun z5 => [some (.ref t), some (.long x), none, some (.int (nI z5.1))]) (0, _) ⟨Nat.zero_le _, FZ.rf⟩ (fun z5 hx11 ih10 => ?b12))
  obtain ⟨i6, S7⟩ := z5
  obtain ⟨hi8, h9⟩ := hx11
  dsimp only at hi8 h9 ih10 ⊢
  refine V_iload_3 2 dX10_find_2 ?_
  refine V_aload_0 3 dX10_find_3 ?_
  refine V_getI 4 (c := 10) 1 dX10_find_4 fl_RX10_54 ((F.ss h9.1).m 0 (Nat.le_of_ble_eq_true rfl)) ((F.ss h9.1).k 0 10 rfl) (Nat.le_of_ble_eq_true rfl) (Nat.le_of_ble_eq_true rfl) rfl ?_
  refine V_icmp_ge 7 38 dX10_find_7 (by decide) (fun c14 => ?_) (fun c14 => ?_)
  ·
    refine V_lvw (by repeat (first | exact trivial | refine ⟨rfl, ?_⟩)) (J3 _ _ h9)
  ·
    refine V_iload_3 10 dX10_find_10 ?_
    refine V_aload_0 11 dX10_find_11 ?_
    refine V_getR 12 (c := 10) 5 ((F.ss h9.1).r 0 5 4 rfl) dX10_find_12 fl_RX10_21 ((F.ss h9.1).m 0 (Nat.le_of_ble_eq_true rfl)) ((F.ss h9.1).k 0 10 rfl) (Nat.le_of_ble_eq_true rfl) (Nat.le_of_ble_eq_true rfl) rfl ?_
    refine V_alen2 15 dX10_find_15 ((F.ss h9.1).m 4 (Nat.le_of_ble_eq_true rfl)) ((F.ss h9.1).k 4 15 rfl) (Nat.le_of_ble_eq_true rfl) (Nat.le_of_ble_eq_true rfl) ((F.ss h9.1).l 4 8 rfl) ?_
    refine V_icmp_ge 16 38 dX10_find_16 (by decide) (fun c16 => ?_) (fun c16 => ?_)
    ·
      refine V_lvw (by repeat (first | exact trivial | refine ⟨rfl, ?_⟩)) (J3 _ _ h9)
    ·
      have lt18 := nI_lt8 (by decide) hi8 c16
      refine V_aload_0 19 dX10_find_19 ?_
      refine V_getR 20 (c := 10) 5 ((F.ss h9.1).r 0 5 4 rfl) dX10_find_20 fl_RX10_21 ((F.ss h9.1).m 0 (Nat.le_of_ble_eq_true rfl)) ((F.ss h9.1).k 0 10 rfl) (Nat.le_of_ble_eq_true rfl) (Nat.le_of_ble_eq_true rfl) rfl ?_
      refine V_iload_3 23 dX10_find_23 ?_
      refine V_laload2 24 dX10_find_24 ((F.ss h9.1).m 4 (Nat.le_of_ble_eq_true rfl)) ((F.ss h9.1).k 4 15 rfl) ((F.ss h9.1).l 4 8 rfl) ?_ ?_
      · exact vp_in_nI (by omega) (by decide)
      refine V_lload_1 25 dX10_find_25 ?_
      refine V_lcmp 26 dX10_find_26 ?_
      refine V_if_ne 27 32 dX10_find_27 (by decide) (fun c19 => ?_) (fun c19 => ?_)
      ·
        refine V_iinc_3 32 (1) dX10_find_32 (by decide) rfl (Nat.le_of_ble_eq_true rfl) ?_
        refine V_goto 35 2 dX10_find_35 (by decide) ?_
        rw [← nI_succ]
        refine V_lvw (by repeat (first | exact trivial | refine ⟨rfl, ?_⟩)) (ih10 (i6 + 1, _) ⟨by dsimp only; omega, h9⟩ (by dsimp only; omega))
      ·
        refine V_iload_3 30 dX10_find_30 ?_
        refine V_iret 31 .int dX10_find_31 rfl rfl (Nat.le_of_ble_eq_true rfl) (Nat.le_of_ble_eq_true rfl) (RI.mk h9)
set_option maxRecDepth 100000 in
set_option maxHeartbeats 8000000 in
theorem s_X10_addKind (l : Launch) (Γ : GC) (S : PS) {t : Nat} (F : isL lyText Γ.2.2.2.2.1 S t) (x y : Int32) : CT l Γ yX10_addKind cX10_addKind 3 none (1) (0) (0) [.ref t, .int x, .int y] S (RV (fun S' => FZ [t + 1, t + 2, t + 3] [(t, 0), (t, 1), (t, 13)] S S')) := by
  refine CT.of RX10 "addKind" [some (.ref t), some (.int x), some (.int y)] (by decide +kernel) rfl rfl (Nat.le_of_ble_eq_true rfl) rfl (fun M hM => ?_)
  subst hM
  refine V_aload_0 0 dX10_addKind_0 ?_
  refine V_getR 1 (c := 10) 2 (F.r 0 2 1 rfl) dX10_addKind_1 fl_RX10_9 (F.m 0 (Nat.le_of_ble_eq_true rfl)) (F.k 0 10 rfl) (Nat.le_of_ble_eq_true rfl) (Nat.le_of_ble_eq_true rfl) rfl ?_
  refine V_aload_0 4 dX10_addKind_4 ?_
  refine V_getI 5 (c := 10) 0 dX10_addKind_5 fl_RX10_50 (F.m 0 (Nat.le_of_ble_eq_true rfl)) (F.k 0 10 rfl) (Nat.le_of_ble_eq_true rfl) (Nat.le_of_ble_eq_true rfl) rfl ?_
  refine V_iload_1 8 dX10_addKind_8 ?_
  refine V_callSN 9 [.ref _, .int _, .int _] _ (c_put M.2.1 Γ S (a := (t + 1)) (F.m 1 (Nat.le_of_ble_eq_true rfl)) (F.k 1 14 rfl) (by rw [(F.l 1 8 rfl)]; decide) _ _) dX10_addKind_9 cb_X11_put ne_RX10_57 sm_yX11_put ⟨(Nat.le_of_ble_eq_true rfl), (Nat.le_of_ble_eq_true rfl)⟩ rfl rfl (Nat.le_of_ble_eq_true rfl) ⟨(Nat.le_of_ble_eq_true rfl), (Nat.le_of_ble_eq_true rfl)⟩ (RV.go (fun S1 q2 => ?_))
  have h4 : FZ [t + 1, t + 2, t + 3] [(t, 0), (t, 1), (t, 13)] S S1 := (FZ.rf (X := [t + 1, t + 2, t + 3]) (Y := [(t, 0), (t, 1), (t, 13)]) (S := S)).tr ((fr_put q2).sub (by simp) (by simp))
  refine V_aload_0 12 dX10_addKind_12 ?_
  refine V_getR 13 (c := 10) 3 ((F.ss h4.1).r 0 3 2 rfl) dX10_addKind_13 fl_RX10_15 ((F.ss h4.1).m 0 (Nat.le_of_ble_eq_true rfl)) ((F.ss h4.1).k 0 10 rfl) (Nat.le_of_ble_eq_true rfl) (Nat.le_of_ble_eq_true rfl) rfl ?_
  refine V_aload_0 16 dX10_addKind_16 ?_
  refine V_getI 17 (c := 10) 0 dX10_addKind_17 fl_RX10_50 ((F.ss h4.1).m 0 (Nat.le_of_ble_eq_true rfl)) ((F.ss h4.1).k 0 10 rfl) (Nat.le_of_ble_eq_true rfl) (Nat.le_of_ble_eq_true rfl) rfl ?_
  refine V_iload_2 20 dX10_addKind_20 ?_
  refine V_callSN 21 [.ref _, .int _, .int _] _ (c_put M.2.1 Γ S1 (a := (t + 2)) ((F.ss h4.1).m 2 (Nat.le_of_ble_eq_true rfl)) ((F.ss h4.1).k 2 14 rfl) (by rw [((F.ss h4.1).l 2 8 rfl)]; decide) _ _) dX10_addKind_21 cb_X11_put ne_RX10_57 sm_yX11_put ⟨(Nat.le_of_ble_eq_true rfl), (Nat.le_of_ble_eq_true rfl)⟩ rfl rfl (Nat.le_of_ble_eq_true rfl) ⟨(Nat.le_of_ble_eq_true rfl), (Nat.le_of_ble_eq_true rfl)⟩ (RV.go (fun S5 q6 => ?_))
  have h8 : FZ [t + 1, t + 2, t + 3] [(t, 0), (t, 1), (t, 13)] S S5 := h4.tr ((fr_put q6).sub (by simp) (by simp))
  refine V_aload_0 24 dX10_addKind_24 ?_
  refine V_getR 25 (c := 10) 4 ((F.ss h8.1).r 0 4 3 rfl) dX10_addKind_25 fl_RX10_18 ((F.ss h8.1).m 0 (Nat.le_of_ble_eq_true rfl)) ((F.ss h8.1).k 0 10 rfl) (Nat.le_of_ble_eq_true rfl) (Nat.le_of_ble_eq_true rfl) rfl ?_
  refine V_aload_0 28 dX10_addKind_28 ?_
  refine V_getI 29 (c := 10) 0 dX10_addKind_29 fl_RX10_50 ((F.ss h8.1).m 0 (Nat.le_of_ble_eq_true rfl)) ((F.ss h8.1).k 0 10 rfl) (Nat.le_of_ble_eq_true rfl) (Nat.le_of_ble_eq_true rfl) rfl ?_
  refine V_aload_0 32 dX10_addKind_32 ?_
  refine V_getI 33 (c := 10) 1 dX10_addKind_33 fl_RX10_54 ((F.ss h8.1).m 0 (Nat.le_of_ble_eq_true rfl)) ((F.ss h8.1).k 0 10 rfl) (Nat.le_of_ble_eq_true rfl) (Nat.le_of_ble_eq_true rfl) rfl ?_
  refine V_callSN 36 [.ref _, .int _, .int _] _ (c_put M.2.1 Γ S5 (a := (t + 3)) ((F.ss h8.1).m 3 (Nat.le_of_ble_eq_true rfl)) ((F.ss h8.1).k 3 14 rfl) (by rw [((F.ss h8.1).l 3 8 rfl)]; decide) _ _) dX10_addKind_36 cb_X11_put ne_RX10_57 sm_yX11_put ⟨(Nat.le_of_ble_eq_true rfl), (Nat.le_of_ble_eq_true rfl)⟩ rfl rfl (Nat.le_of_ble_eq_true rfl) ⟨(Nat.le_of_ble_eq_true rfl), (Nat.le_of_ble_eq_true rfl)⟩ (RV.go (fun S9 q10 => ?_))
  have h12 : FZ [t + 1, t + 2, t + 3] [(t, 0), (t, 1), (t, 13)] S S9 := h8.tr ((fr_put q10).sub (by simp) (by simp))
  refine V_aload_0 39 dX10_addKind_39 ?_
  refine V_dup 40 dX10_addKind_40 rfl ?_
  refine V_getI 41 (c := 10) 0 dX10_addKind_41 fl_RX10_50 ((F.ss h12.1).m 0 (Nat.le_of_ble_eq_true rfl)) ((F.ss h12.1).k 0 10 rfl) (Nat.le_of_ble_eq_true rfl) (Nat.le_of_ble_eq_true rfl) rfl ?_
  refine V_iconst 44 (1) dX10_addKind_44 (by decide) ?_
  refine V_iadd 45 dX10_addKind_45 ?_
  refine V_putI 46 (c := 10) 0 dX10_addKind_46 fl_RX10_50 ((F.ss h12.1).m 0 (Nat.le_of_ble_eq_true rfl)) ((F.ss h12.1).k 0 10 rfl) (Nat.le_of_ble_eq_true rfl) (Nat.le_of_ble_eq_true rfl) rfl (Or.inl rfl) ?_
  refine V_abs (FZ [t + 1, t + 2, t + 3] [(t, 0), (t, 1), (t, 13)] S) (h12.uI (by simp)) (fun S13 h14 => ?_)
  refine V_vret 49 dX10_addKind_49 rfl (Nat.le_of_ble_eq_true rfl) (Nat.le_of_ble_eq_true rfl) (RV.mk h14)
set_option maxRecDepth 100000 in
set_option maxHeartbeats 8000000 in
theorem s_X10_addName (l : Launch) (Γ : GC) (S : PS) {t : Nat} (F : isL lyText Γ.2.2.2.2.1 S t) (x : Int64) (y : Int32) : CT l Γ yX10_addName cX10_addName 4 none (1) (0) (0) [.ref t, .long x, .int y] S (RV (fun S' => FZ [t + 5] [(t, 0), (t, 1), (t, 13)] S S')) := by
  refine CT.of RX10 "addName" [some (.ref t), some (.long x), none, some (.int y)] (by decide +kernel) rfl rfl (Nat.le_of_ble_eq_true rfl) rfl (fun M hM => ?_)
  subst hM
  have J3 : ∀ (S1 : PS) , FZ [t + 5] [(t, 0), (t, 1), (t, 13)] S S1 → V M Γ (4, RX10, "addName", none, RM (1) (0) (0)) cX10_addName (RQ M Γ (RV (fun S' => FZ [t + 5] [(t, 0), (t, 1), (t, 13)] S S')) (0) (0)) 0 0 S1 51 [some (.ref t), some (.long x), none, some (.int y)] [] := by
    intro S1  h2
    refine V_vret 51 dX10_addName_51 rfl (Nat.le_of_ble_eq_true rfl) (Nat.le_of_ble_eq_true rfl) (RV.mk h2)
  refine V_aload_0 0 dX10_addName_0 ?_
  refine V_getI 1 (c := 10) 1 dX10_addName_1 fl_RX10_54 (F.m 0 (Nat.le_of_ble_eq_true rfl)) (F.k 0 10 rfl) (Nat.le_of_ble_eq_true rfl) (Nat.le_of_ble_eq_true rfl) rfl ?_
  refine V_if_lt 4 51 dX10_addName_4 (by decide) (fun c4 => ?_) (fun c4 => ?_)
  ·
    refine V_lvw (by repeat (first | exact trivial | refine ⟨rfl, ?_⟩)) (J3 _ FZ.rf)
  ·
    refine V_aload_0 7 dX10_addName_7 ?_
    refine V_getI 8 (c := 10) 1 dX10_addName_8 fl_RX10_54 (F.m 0 (Nat.le_of_ble_eq_true rfl)) (F.k 0 10 rfl) (Nat.le_of_ble_eq_true rfl) (Nat.le_of_ble_eq_true rfl) rfl ?_
    refine V_aload_0 11 dX10_addName_11 ?_
    refine V_getR 12 (c := 10) 5 (F.r 0 5 4 rfl) dX10_addName_12 fl_RX10_21 (F.m 0 (Nat.le_of_ble_eq_true rfl)) (F.k 0 10 rfl) (Nat.le_of_ble_eq_true rfl) (Nat.le_of_ble_eq_true rfl) rfl ?_
    refine V_alen2 15 dX10_addName_15 (F.m 4 (Nat.le_of_ble_eq_true rfl)) (F.k 4 15 rfl) (Nat.le_of_ble_eq_true rfl) (Nat.le_of_ble_eq_true rfl) (F.l 4 8 rfl) ?_
    refine V_icmp_ge 16 51 dX10_addName_16 (by decide) (fun c6 => ?_) (fun c6 => ?_)
    ·
      refine V_lvw (by repeat (first | exact trivial | refine ⟨rfl, ?_⟩)) (J3 _ FZ.rf)
    ·
      refine V_aload_0 19 dX10_addName_19 ?_
      refine V_getR 20 (c := 10) 5 (F.r 0 5 4 rfl) dX10_addName_20 fl_RX10_21 (F.m 0 (Nat.le_of_ble_eq_true rfl)) (F.k 0 10 rfl) (Nat.le_of_ble_eq_true rfl) (Nat.le_of_ble_eq_true rfl) rfl ?_
      refine V_aload_0 23 dX10_addName_23 ?_
      refine V_getI 24 (c := 10) 1 dX10_addName_24 fl_RX10_54 (F.m 0 (Nat.le_of_ble_eq_true rfl)) (F.k 0 10 rfl) (Nat.le_of_ble_eq_true rfl) (Nat.le_of_ble_eq_true rfl) rfl ?_
      refine V_lload_1 27 dX10_addName_27 ?_
      refine V_lastore2 28 dX10_addName_28 (F.m 4 (Nat.le_of_ble_eq_true rfl)) (F.k 4 15 rfl) (F.l 4 8 rfl) ?_ ?_
      · exact in_of (by decide) (by assumption) (by assumption)
      refine V_abs (FZ [t + 5] [(t, 0), (t, 1), (t, 13)] S) ((FZ.rf (X := [t + 5]) (Y := [(t, 0), (t, 1), (t, 13)]) (S := S)).uJ) (fun S8 h9 => ?_)
      refine V_aload_0 29 dX10_addName_29 ?_
      refine V_getR 30 (c := 10) 6 ((F.ss h9.1).r 0 6 5 rfl) dX10_addName_30 fl_RX10_25 ((F.ss h9.1).m 0 (Nat.le_of_ble_eq_true rfl)) ((F.ss h9.1).k 0 10 rfl) (Nat.le_of_ble_eq_true rfl) (Nat.le_of_ble_eq_true rfl) rfl ?_
      refine V_aload_0 33 dX10_addName_33 ?_
      refine V_getI 34 (c := 10) 1 dX10_addName_34 fl_RX10_54 ((F.ss h9.1).m 0 (Nat.le_of_ble_eq_true rfl)) ((F.ss h9.1).k 0 10 rfl) (Nat.le_of_ble_eq_true rfl) (Nat.le_of_ble_eq_true rfl) rfl ?_
      refine V_iload_3 37 dX10_addName_37 ?_
      refine V_callSN 38 [.ref _, .int _, .int _] _ (c_put M.2.1 Γ S8 (a := (t + 5)) ((F.ss h9.1).m 5 (Nat.le_of_ble_eq_true rfl)) ((F.ss h9.1).k 5 14 rfl) (by rw [((F.ss h9.1).l 5 8 rfl)]; decide) _ _) dX10_addName_38 cb_X11_put ne_RX10_57 sm_yX11_put ⟨(Nat.le_of_ble_eq_true rfl), (Nat.le_of_ble_eq_true rfl)⟩ rfl rfl (Nat.le_of_ble_eq_true rfl) ⟨(Nat.le_of_ble_eq_true rfl), (Nat.le_of_ble_eq_true rfl)⟩ (RV.go (fun S10 q11 => ?_))
      have h13 : FZ [t + 5] [(t, 0), (t, 1), (t, 13)] S S10 := h9.tr ((fr_put q11).sub (by simp) (by simp))
      refine V_aload_0 41 dX10_addName_41 ?_
      refine V_dup 42 dX10_addName_42 rfl ?_
      refine V_getI 43 (c := 10) 1 dX10_addName_43 fl_RX10_54 ((F.ss h13.1).m 0 (Nat.le_of_ble_eq_true rfl)) ((F.ss h13.1).k 0 10 rfl) (Nat.le_of_ble_eq_true rfl) (Nat.le_of_ble_eq_true rfl) rfl ?_
      refine V_iconst 46 (1) dX10_addName_46 (by decide) ?_
      refine V_iadd 47 dX10_addName_47 ?_
      refine V_putI 48 (c := 10) 1 dX10_addName_48 fl_RX10_54 ((F.ss h13.1).m 0 (Nat.le_of_ble_eq_true rfl)) ((F.ss h13.1).k 0 10 rfl) (Nat.le_of_ble_eq_true rfl) (Nat.le_of_ble_eq_true rfl) rfl (Or.inl rfl) ?_
      refine V_abs (FZ [t + 5] [(t, 0), (t, 1), (t, 13)] S) (h13.uI (by simp)) (fun S14 h15 => ?_)
      refine V_lvw (by repeat (first | exact trivial | refine ⟨rfl, ?_⟩)) (J3 _ h15)
set_option maxRecDepth 100000 in
set_option maxHeartbeats 8000000 in
theorem s_X10_tellUnlike (l : Launch) (Γ : GC) (S : PS) {t : Nat} (F : isL lyText Γ.2.2.2.2.1 S t) (x y z : Int32) : CT l Γ yX10_tellUnlike cX10_tellUnlike 4 none (1) (0) (0) [.ref t, .int x, .int y, .int z] S (RV (fun S' => FZ [t + 6] [] S S')) := by
  refine CT.of RX10 "tellUnlike" [some (.ref t), some (.int x), some (.int y), some (.int z)] (by decide +kernel) rfl rfl (Nat.le_of_ble_eq_true rfl) rfl (fun M hM => ?_)
  subst hM
  refine V_aload_0 0 dX10_tellUnlike_0 ?_
  refine V_getR 1 (c := 10) 7 (F.r 0 7 6 rfl) dX10_tellUnlike_1 fl_RX10_28 (F.m 0 (Nat.le_of_ble_eq_true rfl)) (F.k 0 10 rfl) (Nat.le_of_ble_eq_true rfl) (Nat.le_of_ble_eq_true rfl) rfl ?_
  refine V_iload_1 4 dX10_tellUnlike_4 ?_
  refine V_bipush 5 (8) dX10_tellUnlike_5 (by decide) ?_
  refine V_imul 7 dX10_tellUnlike_7 ?_
  refine V_iload_2 8 dX10_tellUnlike_8 ?_
  refine V_iadd 9 dX10_tellUnlike_9 ?_
  refine V_iload_3 10 dX10_tellUnlike_10 ?_
  refine V_callSN 11 [.ref _, .int _, .int _] _ (c_put M.2.1 Γ S (a := (t + 6)) (F.m 6 (Nat.le_of_ble_eq_true rfl)) (F.k 6 14 rfl) (by rw [(F.l 6 64 rfl)]; decide) _ _) dX10_tellUnlike_11 cb_X11_put ne_RX10_57 sm_yX11_put ⟨(Nat.le_of_ble_eq_true rfl), (Nat.le_of_ble_eq_true rfl)⟩ rfl rfl (Nat.le_of_ble_eq_true rfl) ⟨(Nat.le_of_ble_eq_true rfl), (Nat.le_of_ble_eq_true rfl)⟩ (RV.go (fun S1 q2 => ?_))
  have h4 : FZ [t + 6] [] S S1 := (FZ.rf (X := [t + 6]) (Y := []) (S := S)).tr ((fr_put q2).sub (by simp) (by simp))
  refine V_aload_0 14 dX10_tellUnlike_14 ?_
  refine V_getR 15 (c := 10) 7 ((F.ss h4.1).r 0 7 6 rfl) dX10_tellUnlike_15 fl_RX10_28 ((F.ss h4.1).m 0 (Nat.le_of_ble_eq_true rfl)) ((F.ss h4.1).k 0 10 rfl) (Nat.le_of_ble_eq_true rfl) (Nat.le_of_ble_eq_true rfl) rfl ?_
  refine V_iload_2 18 dX10_tellUnlike_18 ?_
  refine V_bipush 19 (8) dX10_tellUnlike_19 (by decide) ?_
  refine V_imul 21 dX10_tellUnlike_21 ?_
  refine V_iload_1 22 dX10_tellUnlike_22 ?_
  refine V_iadd 23 dX10_tellUnlike_23 ?_
  refine V_iload_3 24 dX10_tellUnlike_24 ?_
  refine V_callSN 25 [.ref _, .int _, .int _] _ (c_put M.2.1 Γ S1 (a := (t + 6)) ((F.ss h4.1).m 6 (Nat.le_of_ble_eq_true rfl)) ((F.ss h4.1).k 6 14 rfl) (by rw [((F.ss h4.1).l 6 64 rfl)]; decide) _ _) dX10_tellUnlike_25 cb_X11_put ne_RX10_57 sm_yX11_put ⟨(Nat.le_of_ble_eq_true rfl), (Nat.le_of_ble_eq_true rfl)⟩ rfl rfl (Nat.le_of_ble_eq_true rfl) ⟨(Nat.le_of_ble_eq_true rfl), (Nat.le_of_ble_eq_true rfl)⟩ (RV.go (fun S5 q6 => ?_))
  have h8 : FZ [t + 6] [] S S5 := h4.tr ((fr_put q6).sub (by simp) (by simp))
  refine V_vret 28 dX10_tellUnlike_28 rfl (Nat.le_of_ble_eq_true rfl) (Nat.le_of_ble_eq_true rfl) (RV.mk h8)
set_option maxRecDepth 100000 in
set_option maxHeartbeats 8000000 in
theorem s_X10_hang (l : Launch) (Γ : GC) (S : PS) {t : Nat} (F : isL lyText Γ.2.2.2.2.1 S t) (x : Int32) : CT l Γ yX10_hang cX10_hang 2 (some .boolean) (1) (0) (0) [.ref t, .int x] S (RI (fun r S' => (r = 0 ∨ r = 1) ∧ FZ [t + 7, t + 8] [(t, 0), (t, 1), (t, 13)] S S')) := by
  refine CT.of RX10 "hang" [some (.ref t), some (.int x)] (by decide +kernel) rfl rfl (Nat.le_of_ble_eq_true rfl) rfl (fun M hM => ?_)
  subst hM
  refine V_aload_0 0 dX10_hang_0 ?_
  refine V_getR 1 (c := 10) 14 (F.r 0 14 8 rfl) dX10_hang_1 fl_RX10_34 (F.m 0 (Nat.le_of_ble_eq_true rfl)) (F.k 0 10 rfl) (Nat.le_of_ble_eq_true rfl) (Nat.le_of_ble_eq_true rfl) rfl ?_
  refine V_iload_1 4 dX10_hang_4 ?_
  refine V_callSN 5 [.ref _, .int _] _ (c_at M.2.1 Γ S (a := (t + 8)) (F.m 8 (Nat.le_of_ble_eq_true rfl)) (F.k 8 14 rfl) (by rw [(F.l 8 8 rfl)]; decide) _) dX10_hang_5 cb_X11_at ne_RX10_88 sm_yX11_at ⟨(Nat.le_of_ble_eq_true rfl), (Nat.le_of_ble_eq_true rfl)⟩ rfl rfl (Nat.le_of_ble_eq_true rfl) ⟨(Nat.le_of_ble_eq_true rfl), (Nat.le_of_ble_eq_true rfl)⟩ (RI.go (fun r3 S1 q2 => ?_))
  rw [q2.2]
  refine V_aload_0 8 dX10_hang_8 ?_
  refine V_getR 9 (c := 10) 2 (F.r 0 2 1 rfl) dX10_hang_9 fl_RX10_9 (F.m 0 (Nat.le_of_ble_eq_true rfl)) (F.k 0 10 rfl) (Nat.le_of_ble_eq_true rfl) (Nat.le_of_ble_eq_true rfl) rfl ?_
  refine V_iload_1 12 dX10_hang_12 ?_
  refine V_callSN 13 [.ref _, .int _] _ (c_at M.2.1 Γ S (a := (t + 1)) (F.m 1 (Nat.le_of_ble_eq_true rfl)) (F.k 1 14 rfl) (by rw [(F.l 1 8 rfl)]; decide) _) dX10_hang_13 cb_X11_at ne_RX10_88 sm_yX11_at ⟨(Nat.le_of_ble_eq_true rfl), (Nat.le_of_ble_eq_true rfl)⟩ rfl rfl (Nat.le_of_ble_eq_true rfl) ⟨(Nat.le_of_ble_eq_true rfl), (Nat.le_of_ble_eq_true rfl)⟩ (RI.go (fun r6 S4 q5 => ?_))
  rw [q5.2]
  refine V_icmp_lt 16 21 dX10_hang_16 (by decide) (fun c7 => ?_) (fun c7 => ?_)
  ·
    refine V_aload_0 21 dX10_hang_21 ?_
    refine V_getR 22 (c := 10) 14 (F.r 0 14 8 rfl) dX10_hang_22 fl_RX10_34 (F.m 0 (Nat.le_of_ble_eq_true rfl)) (F.k 0 10 rfl) (Nat.le_of_ble_eq_true rfl) (Nat.le_of_ble_eq_true rfl) rfl ?_
    refine V_iload_1 25 dX10_hang_25 ?_
    refine V_iconst 26 (1) dX10_hang_26 (by decide) ?_
    refine V_callSN 27 [.ref _, .int _, .int _] _ (c_add M.2.1 Γ S (a := (t + 8)) (F.m 8 (Nat.le_of_ble_eq_true rfl)) (F.k 8 14 rfl) (by rw [(F.l 8 8 rfl)]; decide) _ _) dX10_hang_27 cb_X11_add ne_RX10_92 sm_yX11_add ⟨(Nat.le_of_ble_eq_true rfl), (Nat.le_of_ble_eq_true rfl)⟩ rfl rfl (Nat.le_of_ble_eq_true rfl) ⟨(Nat.le_of_ble_eq_true rfl), (Nat.le_of_ble_eq_true rfl)⟩ (RV.go (fun S8 q9 => ?_))
    have h11 : FZ [t + 7, t + 8] [(t, 0), (t, 1), (t, 13)] S S8 := (FZ.rf (X := [t + 7, t + 8]) (Y := [(t, 0), (t, 1), (t, 13)]) (S := S)).tr ((fr_add q9).sub (by simp) (by simp))
    refine V_aload_0 30 dX10_hang_30 ?_
    refine V_getR 31 (c := 10) 12 ((F.ss h11.1).r 0 12 7 rfl) dX10_hang_31 fl_RX10_31 ((F.ss h11.1).m 0 (Nat.le_of_ble_eq_true rfl)) ((F.ss h11.1).k 0 10 rfl) (Nat.le_of_ble_eq_true rfl) (Nat.le_of_ble_eq_true rfl) rfl ?_
    refine V_aload_0 34 dX10_hang_34 ?_
    refine V_getI 35 (c := 10) 13 dX10_hang_35 fl_RX10_81 ((F.ss h11.1).m 0 (Nat.le_of_ble_eq_true rfl)) ((F.ss h11.1).k 0 10 rfl) (Nat.le_of_ble_eq_true rfl) (Nat.le_of_ble_eq_true rfl) rfl ?_
    refine V_iload_1 38 dX10_hang_38 ?_
    refine V_callSN 39 [.ref _, .int _, .int _] _ (c_put M.2.1 Γ S8 (a := (t + 7)) ((F.ss h11.1).m 7 (Nat.le_of_ble_eq_true rfl)) ((F.ss h11.1).k 7 14 rfl) (by rw [((F.ss h11.1).l 7 18 rfl)]; decide) _ _) dX10_hang_39 cb_X11_put ne_RX10_57 sm_yX11_put ⟨(Nat.le_of_ble_eq_true rfl), (Nat.le_of_ble_eq_true rfl)⟩ rfl rfl (Nat.le_of_ble_eq_true rfl) ⟨(Nat.le_of_ble_eq_true rfl), (Nat.le_of_ble_eq_true rfl)⟩ (RV.go (fun S12 q13 => ?_))
    have h15 : FZ [t + 7, t + 8] [(t, 0), (t, 1), (t, 13)] S S12 := h11.tr ((fr_put q13).sub (by simp) (by simp))
    refine V_aload_0 42 dX10_hang_42 ?_
    refine V_dup 43 dX10_hang_43 rfl ?_
    refine V_getI 44 (c := 10) 13 dX10_hang_44 fl_RX10_81 ((F.ss h15.1).m 0 (Nat.le_of_ble_eq_true rfl)) ((F.ss h15.1).k 0 10 rfl) (Nat.le_of_ble_eq_true rfl) (Nat.le_of_ble_eq_true rfl) rfl ?_
    refine V_iconst 47 (1) dX10_hang_47 (by decide) ?_
    refine V_iadd 48 dX10_hang_48 ?_
    refine V_putI 49 (c := 10) 13 dX10_hang_49 fl_RX10_81 ((F.ss h15.1).m 0 (Nat.le_of_ble_eq_true rfl)) ((F.ss h15.1).k 0 10 rfl) (Nat.le_of_ble_eq_true rfl) (Nat.le_of_ble_eq_true rfl) rfl (Or.inl rfl) ?_
    refine V_abs (FZ [t + 7, t + 8] [(t, 0), (t, 1), (t, 13)] S) (h15.uI (by simp)) (fun S16 h17 => ?_)
    refine V_iconst 52 (1) dX10_hang_52 (by decide) ?_
    refine V_iret 53 .boolean dX10_hang_53 rfl (nrwB (Or.inr rfl)) (Nat.le_of_ble_eq_true rfl) (Nat.le_of_ble_eq_true rfl) (RI.mk ⟨by decide, h17⟩)
  ·
    refine V_iconst 19 (0) dX10_hang_19 (by decide) ?_
    refine V_iret 20 .boolean dX10_hang_20 rfl (nrwB (Or.inl rfl)) (Nat.le_of_ble_eq_true rfl) (Nat.le_of_ble_eq_true rfl) (RI.mk ⟨by decide, FZ.rf⟩)
set_option maxRecDepth 100000 in
set_option maxHeartbeats 8000000 in
theorem s_X10_mostOut (l : Launch) (Γ : GC) (S : PS) {t : Nat} (F : isL lyText Γ.2.2.2.2.1 S t) (x y : Int32) : CT l Γ yX10_mostOut cX10_mostOut 8 (some .int) (1) (0) (0) [.ref t, .int x, .int y] S (RI (fun r S' => FZ [t + 9] [] S S')) := by
  refine CT.of RX10 "mostOut" [some (.ref t), some (.int x), some (.int y), none, none, none, none, none] (by decide +kernel) rfl rfl (Nat.le_of_ble_eq_true rfl) rfl (fun M hM => ?_)
  subst hM
  refine V_iconst 0 (0) dX10_mostOut_0 (by decide) ?_
  refine V_istore_3 1 dX10_mostOut_1 rfl (Nat.le_of_ble_eq_true rfl) ?_
  refine V_lvw (by repeat (first | exact trivial | refine ⟨rfl, ?_⟩)) (V_while (α := Nat × PS) (fun z1 => 8 - z1.1) (fun z1 => z1.1 ≤ 8 ∧ FZ [t + 9] [] S z1.2) (fun z1 => z1.2) (fun z1 => [some (.ref t), some (.int x), some (.int y), some (.int (nI z1.1)), none, none, none, none]) (0, _) ⟨Nat.zero_le _, FZ.rf⟩ (fun z1 hx7 ih6 => ?b8))
  obtain ⟨i2, S3⟩ := z1
  obtain ⟨hi4, h5⟩ := hx7
  dsimp only at hi4 h5 ih6 ⊢
  refine V_iload_3 2 dX10_mostOut_2 ?_
  refine V_aload_0 3 dX10_mostOut_3 ?_
  refine V_getR 4 (c := 10) 15 ((F.ss h5.1).r 0 15 9 rfl) dX10_mostOut_4 fl_RX10_37 ((F.ss h5.1).m 0 (Nat.le_of_ble_eq_true rfl)) ((F.ss h5.1).k 0 10 rfl) (Nat.le_of_ble_eq_true rfl) (Nat.le_of_ble_eq_true rfl) rfl ?_
  refine V_alen2 7 dX10_mostOut_7 ((F.ss h5.1).m 9 (Nat.le_of_ble_eq_true rfl)) ((F.ss h5.1).k 9 14 rfl) (Nat.le_of_ble_eq_true rfl) (Nat.le_of_ble_eq_true rfl) ((F.ss h5.1).l 9 8 rfl) ?_
  refine V_icmp_ge 8 24 dX10_mostOut_8 (by decide) (fun c10 => ?_) (fun c10 => ?_)
  ·
    refine V_iconst 24 (0) dX10_mostOut_24 (by decide) ?_
    refine V_istore_3 25 dX10_mostOut_25 rfl (Nat.le_of_ble_eq_true rfl) ?_
    refine V_iconst 26 (0) dX10_mostOut_26 (by decide) ?_
    refine V_istore_4 27 dX10_mostOut_27 rfl (Nat.le_of_ble_eq_true rfl) ?_
    refine V_aload_0 29 dX10_mostOut_29 ?_
    refine V_getI 30 (c := 10) 13 dX10_mostOut_30 fl_RX10_81 ((F.ss h5.1).m 0 (Nat.le_of_ble_eq_true rfl)) ((F.ss h5.1).k 0 10 rfl) (Nat.le_of_ble_eq_true rfl) (Nat.le_of_ble_eq_true rfl) rfl ?_
    refine V_iconst 33 (1) dX10_mostOut_33 (by decide) ?_
    refine V_isub 34 dX10_mostOut_34 ?_
    refine V_istore_5 35 dX10_mostOut_35 rfl (Nat.le_of_ble_eq_true rfl) ?_
    refine V_lvw (by repeat (first | exact trivial | refine ⟨rfl, ?_⟩)) (V_while (α := Int32 × PS × Int32 × Int32) (fun z11 => (z11.1.toInt + 1).toNat) (fun z11 => FZ [t + 9] [] S z11.2.1) (fun z11 => z11.2.1) (fun z11 => [some (.ref t), some (.int x), some (.int y), some (.int z11.2.2.1), some (.int z11.2.2.2), some (.int z11.1), none, none]) (_, _, _, _) (h5) (fun z11 h15 ih16 => ?b20))
    obtain ⟨i12, S13, w17, w18⟩ := z11
    dsimp only at h15 ih16 ⊢
    have J24 : ∀ (S22 : PS) (x25 : Int32) (x26 : Int32) (x27 : Int32) (x28 : Int32), FZ [t + 9] [] S S22 → ¬ i12 < 0 → V M Γ (8, RX10, "mostOut", (some .int), RM (1) (0) (0)) cX10_mostOut (RQ M Γ (RI (fun r S' => FZ [t + 9] [] S S')) (0) (0)) 0 0 S22 125 [some (.ref t), some (.int x), some (.int y), some (.int x25), some (.int x26), some (.int i12), some (.int x27), some (.int x28)] [] := by
      intro S22 x25 x26 x27 x28 h23 lt29
      refine V_iload_4 125 dX10_mostOut_125 ?_
      refine V_iload_3 127 dX10_mostOut_127 ?_
      refine V_mmax 128 dX10_mostOut_128 ml_RX10_95 (Nat.le_of_ble_eq_true rfl) (Nat.le_of_ble_eq_true rfl) (Nat.le_of_ble_eq_true rfl) (Nat.le_of_ble_eq_true rfl) ?_
      refine V_istore_4 131 dX10_mostOut_131 rfl (Nat.le_of_ble_eq_true rfl) ?_
      refine V_iinc_5 133 (-1) dX10_mostOut_133 (by decide) rfl (Nat.le_of_ble_eq_true rfl) ?_
      refine V_goto 136 37 dX10_mostOut_136 (by decide) ?_
      refine V_lvw (by repeat (first | exact trivial | refine ⟨rfl, ?_⟩)) (ih16 (_, _, _, _) (h23) (dn32 (by assumption)))
    refine V_iload_5 37 dX10_mostOut_37 ?_
    refine V_if_lt 39 139 dX10_mostOut_39 (by decide) (fun c30 => ?_) (fun c30 => ?_)
    ·
      refine V_iload_4 139 dX10_mostOut_139 ?_
      refine V_iret 141 .int dX10_mostOut_141 rfl rfl (Nat.le_of_ble_eq_true rfl) (Nat.le_of_ble_eq_true rfl) (RI.mk h15)
    ·
      refine V_aload_0 42 dX10_mostOut_42 ?_
      refine V_getR 43 (c := 10) 12 ((F.ss h15.1).r 0 12 7 rfl) dX10_mostOut_43 fl_RX10_31 ((F.ss h15.1).m 0 (Nat.le_of_ble_eq_true rfl)) ((F.ss h15.1).k 0 10 rfl) (Nat.le_of_ble_eq_true rfl) (Nat.le_of_ble_eq_true rfl) rfl ?_
      refine V_iload_5 46 dX10_mostOut_46 ?_
      refine V_iload_1 48 dX10_mostOut_48 ?_
      refine V_icmp_ne 49 56 dX10_mostOut_49 (by decide) (fun c31 => ?_) (fun c31 => ?_)
      ·
        refine V_iload_5 56 dX10_mostOut_56 ?_
        refine V_iload_2 58 dX10_mostOut_58 ?_
        refine V_icmp_ne 59 66 dX10_mostOut_59 (by decide) (fun c32 => ?_) (fun c32 => ?_)
        ·
          refine V_iload_5 66 dX10_mostOut_66 ?_
          refine V_callSN 68 [.ref _, .int _] _ (c_at M.2.1 Γ S13 (a := (t + 7)) ((F.ss h15.1).m 7 (Nat.le_of_ble_eq_true rfl)) ((F.ss h15.1).k 7 14 rfl) (by rw [((F.ss h15.1).l 7 18 rfl)]; decide) _) dX10_mostOut_68 cb_X11_at ne_RX10_88 sm_yX11_at ⟨(Nat.le_of_ble_eq_true rfl), (Nat.le_of_ble_eq_true rfl)⟩ rfl rfl (Nat.le_of_ble_eq_true rfl) ⟨(Nat.le_of_ble_eq_true rfl), (Nat.le_of_ble_eq_true rfl)⟩ (RI.go (fun r35 S33 q34 => ?_))
          rw [q34.2]
          refine V_istore_6 71 dX10_mostOut_71 rfl (Nat.le_of_ble_eq_true rfl) ?_
          refine V_aload_0 73 dX10_mostOut_73 ?_
          refine V_getR 74 (c := 10) 3 ((F.ss h15.1).r 0 3 2 rfl) dX10_mostOut_74 fl_RX10_15 ((F.ss h15.1).m 0 (Nat.le_of_ble_eq_true rfl)) ((F.ss h15.1).k 0 10 rfl) (Nat.le_of_ble_eq_true rfl) (Nat.le_of_ble_eq_true rfl) rfl ?_
          refine V_iload_6 77 dX10_mostOut_77 ?_
          refine V_callSN 79 [.ref _, .int _] _ (c_at M.2.1 Γ S13 (a := (t + 2)) ((F.ss h15.1).m 2 (Nat.le_of_ble_eq_true rfl)) ((F.ss h15.1).k 2 14 rfl) (by rw [((F.ss h15.1).l 2 8 rfl)]; decide) _) dX10_mostOut_79 cb_X11_at ne_RX10_88 sm_yX11_at ⟨(Nat.le_of_ble_eq_true rfl), (Nat.le_of_ble_eq_true rfl)⟩ rfl rfl (Nat.le_of_ble_eq_true rfl) ⟨(Nat.le_of_ble_eq_true rfl), (Nat.le_of_ble_eq_true rfl)⟩ (RI.go (fun r38 S36 q37 => ?_))
          rw [q37.2]
          refine V_istore_7 82 dX10_mostOut_82 rfl (Nat.le_of_ble_eq_true rfl) ?_
          refine V_aload_0 84 dX10_mostOut_84 ?_
          refine V_getR 85 (c := 10) 15 ((F.ss h15.1).r 0 15 9 rfl) dX10_mostOut_85 fl_RX10_37 ((F.ss h15.1).m 0 (Nat.le_of_ble_eq_true rfl)) ((F.ss h15.1).k 0 10 rfl) (Nat.le_of_ble_eq_true rfl) (Nat.le_of_ble_eq_true rfl) rfl ?_
          refine V_iload_7 88 dX10_mostOut_88 ?_
          refine V_callSN 90 [.ref _, .int _] _ (c_at M.2.1 Γ S13 (a := (t + 9)) ((F.ss h15.1).m 9 (Nat.le_of_ble_eq_true rfl)) ((F.ss h15.1).k 9 14 rfl) (by rw [((F.ss h15.1).l 9 8 rfl)]; decide) _) dX10_mostOut_90 cb_X11_at ne_RX10_88 sm_yX11_at ⟨(Nat.le_of_ble_eq_true rfl), (Nat.le_of_ble_eq_true rfl)⟩ rfl rfl (Nat.le_of_ble_eq_true rfl) ⟨(Nat.le_of_ble_eq_true rfl), (Nat.le_of_ble_eq_true rfl)⟩ (RI.go (fun r41 S39 q40 => ?_))
          rw [q40.2]
          refine V_if_le 93 112 dX10_mostOut_93 (by decide) (fun c42 => ?_) (fun c42 => ?_)
          ·
            refine V_aload_0 112 dX10_mostOut_112 ?_
            refine V_getR 113 (c := 10) 15 ((F.ss h15.1).r 0 15 9 rfl) dX10_mostOut_113 fl_RX10_37 ((F.ss h15.1).m 0 (Nat.le_of_ble_eq_true rfl)) ((F.ss h15.1).k 0 10 rfl) (Nat.le_of_ble_eq_true rfl) (Nat.le_of_ble_eq_true rfl) rfl ?_
            refine V_iload_6 116 dX10_mostOut_116 ?_
            refine V_iconst 118 (1) dX10_mostOut_118 (by decide) ?_
            refine V_callSN 119 [.ref _, .int _, .int _] _ (c_add M.2.1 Γ S13 (a := (t + 9)) ((F.ss h15.1).m 9 (Nat.le_of_ble_eq_true rfl)) ((F.ss h15.1).k 9 14 rfl) (by rw [((F.ss h15.1).l 9 8 rfl)]; decide) _ _) dX10_mostOut_119 cb_X11_add ne_RX10_92 sm_yX11_add ⟨(Nat.le_of_ble_eq_true rfl), (Nat.le_of_ble_eq_true rfl)⟩ rfl rfl (Nat.le_of_ble_eq_true rfl) ⟨(Nat.le_of_ble_eq_true rfl), (Nat.le_of_ble_eq_true rfl)⟩ (RV.go (fun S43 q44 => ?_))
            have h46 : FZ [t + 9] [] S S43 := h15.tr ((fr_add q44).sub (by simp) (by simp))
            refine V_iinc_3 122 (1) dX10_mostOut_122 (by decide) rfl (Nat.le_of_ble_eq_true rfl) ?_
            refine V_lvw (by repeat (first | exact trivial | refine ⟨rfl, ?_⟩)) (J24 _ _ _ _ _ h46 (by first | omega | assumption))
          ·
            refine V_aload_0 96 dX10_mostOut_96 ?_
            refine V_getR 97 (c := 10) 15 ((F.ss h15.1).r 0 15 9 rfl) dX10_mostOut_97 fl_RX10_37 ((F.ss h15.1).m 0 (Nat.le_of_ble_eq_true rfl)) ((F.ss h15.1).k 0 10 rfl) (Nat.le_of_ble_eq_true rfl) (Nat.le_of_ble_eq_true rfl) rfl ?_
            refine V_iload_7 100 dX10_mostOut_100 ?_
            refine V_iconst 102 (-1) dX10_mostOut_102 (by decide) ?_
            refine V_callSN 103 [.ref _, .int _, .int _] _ (c_add M.2.1 Γ S13 (a := (t + 9)) ((F.ss h15.1).m 9 (Nat.le_of_ble_eq_true rfl)) ((F.ss h15.1).k 9 14 rfl) (by rw [((F.ss h15.1).l 9 8 rfl)]; decide) _ _) dX10_mostOut_103 cb_X11_add ne_RX10_92 sm_yX11_add ⟨(Nat.le_of_ble_eq_true rfl), (Nat.le_of_ble_eq_true rfl)⟩ rfl rfl (Nat.le_of_ble_eq_true rfl) ⟨(Nat.le_of_ble_eq_true rfl), (Nat.le_of_ble_eq_true rfl)⟩ (RV.go (fun S48 q49 => ?_))
            have h51 : FZ [t + 9] [] S S48 := h15.tr ((fr_add q49).sub (by simp) (by simp))
            refine V_iinc_3 106 (-1) dX10_mostOut_106 (by decide) rfl (Nat.le_of_ble_eq_true rfl) ?_
            refine V_goto 109 125 dX10_mostOut_109 (by decide) ?_
            refine V_lvw (by repeat (first | exact trivial | refine ⟨rfl, ?_⟩)) (J24 _ _ _ _ _ h51 (by first | omega | assumption))
        ·
          refine V_iload_1 62 dX10_mostOut_62 ?_
          refine V_goto 63 68 dX10_mostOut_63 (by decide) ?_
          refine V_callSN 68 [.ref _, .int _] _ (c_at M.2.1 Γ S13 (a := (t + 7)) ((F.ss h15.1).m 7 (Nat.le_of_ble_eq_true rfl)) ((F.ss h15.1).k 7 14 rfl) (by rw [((F.ss h15.1).l 7 18 rfl)]; decide) _) dX10_mostOut_68 cb_X11_at ne_RX10_88 sm_yX11_at ⟨(Nat.le_of_ble_eq_true rfl), (Nat.le_of_ble_eq_true rfl)⟩ rfl rfl (Nat.le_of_ble_eq_true rfl) ⟨(Nat.le_of_ble_eq_true rfl), (Nat.le_of_ble_eq_true rfl)⟩ (RI.go (fun r55 S53 q54 => ?_))
          rw [q54.2]
          refine V_istore_6 71 dX10_mostOut_71 rfl (Nat.le_of_ble_eq_true rfl) ?_
          refine V_aload_0 73 dX10_mostOut_73 ?_
          refine V_getR 74 (c := 10) 3 ((F.ss h15.1).r 0 3 2 rfl) dX10_mostOut_74 fl_RX10_15 ((F.ss h15.1).m 0 (Nat.le_of_ble_eq_true rfl)) ((F.ss h15.1).k 0 10 rfl) (Nat.le_of_ble_eq_true rfl) (Nat.le_of_ble_eq_true rfl) rfl ?_
          refine V_iload_6 77 dX10_mostOut_77 ?_
          refine V_callSN 79 [.ref _, .int _] _ (c_at M.2.1 Γ S13 (a := (t + 2)) ((F.ss h15.1).m 2 (Nat.le_of_ble_eq_true rfl)) ((F.ss h15.1).k 2 14 rfl) (by rw [((F.ss h15.1).l 2 8 rfl)]; decide) _) dX10_mostOut_79 cb_X11_at ne_RX10_88 sm_yX11_at ⟨(Nat.le_of_ble_eq_true rfl), (Nat.le_of_ble_eq_true rfl)⟩ rfl rfl (Nat.le_of_ble_eq_true rfl) ⟨(Nat.le_of_ble_eq_true rfl), (Nat.le_of_ble_eq_true rfl)⟩ (RI.go (fun r58 S56 q57 => ?_))
          rw [q57.2]
          refine V_istore_7 82 dX10_mostOut_82 rfl (Nat.le_of_ble_eq_true rfl) ?_
          refine V_aload_0 84 dX10_mostOut_84 ?_
          refine V_getR 85 (c := 10) 15 ((F.ss h15.1).r 0 15 9 rfl) dX10_mostOut_85 fl_RX10_37 ((F.ss h15.1).m 0 (Nat.le_of_ble_eq_true rfl)) ((F.ss h15.1).k 0 10 rfl) (Nat.le_of_ble_eq_true rfl) (Nat.le_of_ble_eq_true rfl) rfl ?_
          refine V_iload_7 88 dX10_mostOut_88 ?_
          refine V_callSN 90 [.ref _, .int _] _ (c_at M.2.1 Γ S13 (a := (t + 9)) ((F.ss h15.1).m 9 (Nat.le_of_ble_eq_true rfl)) ((F.ss h15.1).k 9 14 rfl) (by rw [((F.ss h15.1).l 9 8 rfl)]; decide) _) dX10_mostOut_90 cb_X11_at ne_RX10_88 sm_yX11_at ⟨(Nat.le_of_ble_eq_true rfl), (Nat.le_of_ble_eq_true rfl)⟩ rfl rfl (Nat.le_of_ble_eq_true rfl) ⟨(Nat.le_of_ble_eq_true rfl), (Nat.le_of_ble_eq_true rfl)⟩ (RI.go (fun r61 S59 q60 => ?_))
          rw [q60.2]
          refine V_if_le 93 112 dX10_mostOut_93 (by decide) (fun c62 => ?_) (fun c62 => ?_)
          ·
            refine V_aload_0 112 dX10_mostOut_112 ?_
            refine V_getR 113 (c := 10) 15 ((F.ss h15.1).r 0 15 9 rfl) dX10_mostOut_113 fl_RX10_37 ((F.ss h15.1).m 0 (Nat.le_of_ble_eq_true rfl)) ((F.ss h15.1).k 0 10 rfl) (Nat.le_of_ble_eq_true rfl) (Nat.le_of_ble_eq_true rfl) rfl ?_
            refine V_iload_6 116 dX10_mostOut_116 ?_
            refine V_iconst 118 (1) dX10_mostOut_118 (by decide) ?_
            refine V_callSN 119 [.ref _, .int _, .int _] _ (c_add M.2.1 Γ S13 (a := (t + 9)) ((F.ss h15.1).m 9 (Nat.le_of_ble_eq_true rfl)) ((F.ss h15.1).k 9 14 rfl) (by rw [((F.ss h15.1).l 9 8 rfl)]; decide) _ _) dX10_mostOut_119 cb_X11_add ne_RX10_92 sm_yX11_add ⟨(Nat.le_of_ble_eq_true rfl), (Nat.le_of_ble_eq_true rfl)⟩ rfl rfl (Nat.le_of_ble_eq_true rfl) ⟨(Nat.le_of_ble_eq_true rfl), (Nat.le_of_ble_eq_true rfl)⟩ (RV.go (fun S63 q64 => ?_))
            have h66 : FZ [t + 9] [] S S63 := h15.tr ((fr_add q64).sub (by simp) (by simp))
            refine V_iinc_3 122 (1) dX10_mostOut_122 (by decide) rfl (Nat.le_of_ble_eq_true rfl) ?_
            refine V_lvw (by repeat (first | exact trivial | refine ⟨rfl, ?_⟩)) (J24 _ _ _ _ _ h66 (by first | omega | assumption))
          ·
            refine V_aload_0 96 dX10_mostOut_96 ?_
            refine V_getR 97 (c := 10) 15 ((F.ss h15.1).r 0 15 9 rfl) dX10_mostOut_97 fl_RX10_37 ((F.ss h15.1).m 0 (Nat.le_of_ble_eq_true rfl)) ((F.ss h15.1).k 0 10 rfl) (Nat.le_of_ble_eq_true rfl) (Nat.le_of_ble_eq_true rfl) rfl ?_
            refine V_iload_7 100 dX10_mostOut_100 ?_
            refine V_iconst 102 (-1) dX10_mostOut_102 (by decide) ?_
            refine V_callSN 103 [.ref _, .int _, .int _] _ (c_add M.2.1 Γ S13 (a := (t + 9)) ((F.ss h15.1).m 9 (Nat.le_of_ble_eq_true rfl)) ((F.ss h15.1).k 9 14 rfl) (by rw [((F.ss h15.1).l 9 8 rfl)]; decide) _ _) dX10_mostOut_103 cb_X11_add ne_RX10_92 sm_yX11_add ⟨(Nat.le_of_ble_eq_true rfl), (Nat.le_of_ble_eq_true rfl)⟩ rfl rfl (Nat.le_of_ble_eq_true rfl) ⟨(Nat.le_of_ble_eq_true rfl), (Nat.le_of_ble_eq_true rfl)⟩ (RV.go (fun S68 q69 => ?_))
            have h71 : FZ [t + 9] [] S S68 := h15.tr ((fr_add q69).sub (by simp) (by simp))
            refine V_iinc_3 106 (-1) dX10_mostOut_106 (by decide) rfl (Nat.le_of_ble_eq_true rfl) ?_
            refine V_goto 109 125 dX10_mostOut_109 (by decide) ?_
            refine V_lvw (by repeat (first | exact trivial | refine ⟨rfl, ?_⟩)) (J24 _ _ _ _ _ h71 (by first | omega | assumption))
      ·
        refine V_iload_2 52 dX10_mostOut_52 ?_
        refine V_goto 53 68 dX10_mostOut_53 (by decide) ?_
        refine V_callSN 68 [.ref _, .int _] _ (c_at M.2.1 Γ S13 (a := (t + 7)) ((F.ss h15.1).m 7 (Nat.le_of_ble_eq_true rfl)) ((F.ss h15.1).k 7 14 rfl) (by rw [((F.ss h15.1).l 7 18 rfl)]; decide) _) dX10_mostOut_68 cb_X11_at ne_RX10_88 sm_yX11_at ⟨(Nat.le_of_ble_eq_true rfl), (Nat.le_of_ble_eq_true rfl)⟩ rfl rfl (Nat.le_of_ble_eq_true rfl) ⟨(Nat.le_of_ble_eq_true rfl), (Nat.le_of_ble_eq_true rfl)⟩ (RI.go (fun r75 S73 q74 => ?_))
        rw [q74.2]
        refine V_istore_6 71 dX10_mostOut_71 rfl (Nat.le_of_ble_eq_true rfl) ?_
        refine V_aload_0 73 dX10_mostOut_73 ?_
        refine V_getR 74 (c := 10) 3 ((F.ss h15.1).r 0 3 2 rfl) dX10_mostOut_74 fl_RX10_15 ((F.ss h15.1).m 0 (Nat.le_of_ble_eq_true rfl)) ((F.ss h15.1).k 0 10 rfl) (Nat.le_of_ble_eq_true rfl) (Nat.le_of_ble_eq_true rfl) rfl ?_
        refine V_iload_6 77 dX10_mostOut_77 ?_
        refine V_callSN 79 [.ref _, .int _] _ (c_at M.2.1 Γ S13 (a := (t + 2)) ((F.ss h15.1).m 2 (Nat.le_of_ble_eq_true rfl)) ((F.ss h15.1).k 2 14 rfl) (by rw [((F.ss h15.1).l 2 8 rfl)]; decide) _) dX10_mostOut_79 cb_X11_at ne_RX10_88 sm_yX11_at ⟨(Nat.le_of_ble_eq_true rfl), (Nat.le_of_ble_eq_true rfl)⟩ rfl rfl (Nat.le_of_ble_eq_true rfl) ⟨(Nat.le_of_ble_eq_true rfl), (Nat.le_of_ble_eq_true rfl)⟩ (RI.go (fun r78 S76 q77 => ?_))
        rw [q77.2]
        refine V_istore_7 82 dX10_mostOut_82 rfl (Nat.le_of_ble_eq_true rfl) ?_
        refine V_aload_0 84 dX10_mostOut_84 ?_
        refine V_getR 85 (c := 10) 15 ((F.ss h15.1).r 0 15 9 rfl) dX10_mostOut_85 fl_RX10_37 ((F.ss h15.1).m 0 (Nat.le_of_ble_eq_true rfl)) ((F.ss h15.1).k 0 10 rfl) (Nat.le_of_ble_eq_true rfl) (Nat.le_of_ble_eq_true rfl) rfl ?_
        refine V_iload_7 88 dX10_mostOut_88 ?_
        refine V_callSN 90 [.ref _, .int _] _ (c_at M.2.1 Γ S13 (a := (t + 9)) ((F.ss h15.1).m 9 (Nat.le_of_ble_eq_true rfl)) ((F.ss h15.1).k 9 14 rfl) (by rw [((F.ss h15.1).l 9 8 rfl)]; decide) _) dX10_mostOut_90 cb_X11_at ne_RX10_88 sm_yX11_at ⟨(Nat.le_of_ble_eq_true rfl), (Nat.le_of_ble_eq_true rfl)⟩ rfl rfl (Nat.le_of_ble_eq_true rfl) ⟨(Nat.le_of_ble_eq_true rfl), (Nat.le_of_ble_eq_true rfl)⟩ (RI.go (fun r81 S79 q80 => ?_))
        rw [q80.2]
        refine V_if_le 93 112 dX10_mostOut_93 (by decide) (fun c82 => ?_) (fun c82 => ?_)
        ·
          refine V_aload_0 112 dX10_mostOut_112 ?_
          refine V_getR 113 (c := 10) 15 ((F.ss h15.1).r 0 15 9 rfl) dX10_mostOut_113 fl_RX10_37 ((F.ss h15.1).m 0 (Nat.le_of_ble_eq_true rfl)) ((F.ss h15.1).k 0 10 rfl) (Nat.le_of_ble_eq_true rfl) (Nat.le_of_ble_eq_true rfl) rfl ?_
          refine V_iload_6 116 dX10_mostOut_116 ?_
          refine V_iconst 118 (1) dX10_mostOut_118 (by decide) ?_
          refine V_callSN 119 [.ref _, .int _, .int _] _ (c_add M.2.1 Γ S13 (a := (t + 9)) ((F.ss h15.1).m 9 (Nat.le_of_ble_eq_true rfl)) ((F.ss h15.1).k 9 14 rfl) (by rw [((F.ss h15.1).l 9 8 rfl)]; decide) _ _) dX10_mostOut_119 cb_X11_add ne_RX10_92 sm_yX11_add ⟨(Nat.le_of_ble_eq_true rfl), (Nat.le_of_ble_eq_true rfl)⟩ rfl rfl (Nat.le_of_ble_eq_true rfl) ⟨(Nat.le_of_ble_eq_true rfl), (Nat.le_of_ble_eq_true rfl)⟩ (RV.go (fun S83 q84 => ?_))
          have h86 : FZ [t + 9] [] S S83 := h15.tr ((fr_add q84).sub (by simp) (by simp))
          refine V_iinc_3 122 (1) dX10_mostOut_122 (by decide) rfl (Nat.le_of_ble_eq_true rfl) ?_
          refine V_lvw (by repeat (first | exact trivial | refine ⟨rfl, ?_⟩)) (J24 _ _ _ _ _ h86 (by first | omega | assumption))
        ·
          refine V_aload_0 96 dX10_mostOut_96 ?_
          refine V_getR 97 (c := 10) 15 ((F.ss h15.1).r 0 15 9 rfl) dX10_mostOut_97 fl_RX10_37 ((F.ss h15.1).m 0 (Nat.le_of_ble_eq_true rfl)) ((F.ss h15.1).k 0 10 rfl) (Nat.le_of_ble_eq_true rfl) (Nat.le_of_ble_eq_true rfl) rfl ?_
          refine V_iload_7 100 dX10_mostOut_100 ?_
          refine V_iconst 102 (-1) dX10_mostOut_102 (by decide) ?_
          refine V_callSN 103 [.ref _, .int _, .int _] _ (c_add M.2.1 Γ S13 (a := (t + 9)) ((F.ss h15.1).m 9 (Nat.le_of_ble_eq_true rfl)) ((F.ss h15.1).k 9 14 rfl) (by rw [((F.ss h15.1).l 9 8 rfl)]; decide) _ _) dX10_mostOut_103 cb_X11_add ne_RX10_92 sm_yX11_add ⟨(Nat.le_of_ble_eq_true rfl), (Nat.le_of_ble_eq_true rfl)⟩ rfl rfl (Nat.le_of_ble_eq_true rfl) ⟨(Nat.le_of_ble_eq_true rfl), (Nat.le_of_ble_eq_true rfl)⟩ (RV.go (fun S88 q89 => ?_))
          have h91 : FZ [t + 9] [] S S88 := h15.tr ((fr_add q89).sub (by simp) (by simp))
          refine V_iinc_3 106 (-1) dX10_mostOut_106 (by decide) rfl (Nat.le_of_ble_eq_true rfl) ?_
          refine V_goto 109 125 dX10_mostOut_109 (by decide) ?_
          refine V_lvw (by repeat (first | exact trivial | refine ⟨rfl, ?_⟩)) (J24 _ _ _ _ _ h91 (by first | omega | assumption))
  ·
    have lt93 := nI_lt8 (by decide) hi4 c10
    refine V_aload_0 11 dX10_mostOut_11 ?_
    refine V_getR 12 (c := 10) 15 ((F.ss h5.1).r 0 15 9 rfl) dX10_mostOut_12 fl_RX10_37 ((F.ss h5.1).m 0 (Nat.le_of_ble_eq_true rfl)) ((F.ss h5.1).k 0 10 rfl) (Nat.le_of_ble_eq_true rfl) (Nat.le_of_ble_eq_true rfl) rfl ?_
    refine V_iload_3 15 dX10_mostOut_15 ?_
    refine V_iconst 16 (0) dX10_mostOut_16 (by decide) ?_
    refine V_iastore2 17 dX10_mostOut_17 ((F.ss h5.1).m 9 (Nat.le_of_ble_eq_true rfl)) ((F.ss h5.1).k 9 14 rfl) ((F.ss h5.1).l 9 8 rfl) ?_ ?_
    · exact vp_in_nI (by omega) (by decide)
    refine V_abs (FZ [t + 9] [] S) (h5.uA (by simp)) (fun S94 h95 => ?_)
    refine V_iinc_3 18 (1) dX10_mostOut_18 (by decide) rfl (Nat.le_of_ble_eq_true rfl) ?_
    refine V_goto 21 2 dX10_mostOut_21 (by decide) ?_
    rw [← nI_succ]
    refine V_lvw (by repeat (first | exact trivial | refine ⟨rfl, ?_⟩)) (ih6 (i2 + 1, _) ⟨by dsimp only; omega, h95⟩ (by dsimp only; omega))

