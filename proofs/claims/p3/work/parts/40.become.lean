/-! Law's and Text's become, takeLineAway, Teller's fail and names, from any ints -/
set_option maxRecDepth 100000 in
set_option maxHeartbeats 8000000 in
theorem s_lawbecome (l : Launch) (Γ : GC) (S : PS) {t u : Nat} (F : isL lyLaw Γ.2.2.2.2.1 S t) (G : isL lyLaw Γ.2.2.2.2.1 S u) : CT l Γ yX2_become cX2_become 2 none (1) (0) (0) [.ref t, .ref u] S (RV (fun S' => FZ [t + 1, t + 2] [(t, 2)] S S')) := by
  refine CT.of RX2 "become" [some (.ref t), some (.ref u)] (by decide +kernel) rfl rfl (Nat.le_of_ble_eq_true rfl) rfl (fun M hM => ?_)
  subst hM
  refine V_aload_1 0 dX2_become_0 ?_
  refine V_getR 1 (c := 2) 0 (G.r 0 0 1 rfl) dX2_become_1 fl_RX2_9 (G.m 0 (Nat.le_of_ble_eq_true rfl)) (G.k 0 2 rfl) (Nat.le_of_ble_eq_true rfl) (Nat.le_of_ble_eq_true rfl) rfl ?_
  refine V_aload_0 4 dX2_become_4 ?_
  refine V_getR 5 (c := 2) 0 (F.r 0 0 1 rfl) dX2_become_5 fl_RX2_9 (F.m 0 (Nat.le_of_ble_eq_true rfl)) (F.k 0 2 rfl) (Nat.le_of_ble_eq_true rfl) (Nat.le_of_ble_eq_true rfl) rfl ?_
  refine V_callSN 8 [.ref _, .ref _] _ (c_copyRow M.2.1 Γ S (a := (u + 1)) (b := (t + 1)) (G.m 1 (Nat.le_of_ble_eq_true rfl)) (G.k 1 14 rfl) (by rw [(G.l 1 402 rfl)]; decide) (F.m 1 (Nat.le_of_ble_eq_true rfl)) (F.k 1 14 rfl) (((F.l 1 402 rfl)).trans ((G.l 1 402 rfl)).symm)) dX2_become_8 cb_X11_copyRow ne_RX2_25 sm_yX11_copyRow ⟨(Nat.le_of_ble_eq_true rfl), (Nat.le_of_ble_eq_true rfl)⟩ rfl rfl (Nat.le_of_ble_eq_true rfl) ⟨(Nat.le_of_ble_eq_true rfl), (Nat.le_of_ble_eq_true rfl)⟩ (RV.go (fun S1 q2 => ?_))
  have h4 : FZ [t + 1, t + 2] [(t, 2)] S S1 := (FZ.rf (X := [t + 1, t + 2]) (Y := [(t, 2)]) (S := S)).tr ((fr_cpy q2).sub (by simp) (by simp))
  refine V_aload_1 11 dX2_become_11 ?_
  refine V_getR 12 (c := 2) 1 ((G.ss h4.1).r 0 1 2 rfl) dX2_become_12 fl_RX2_15 ((G.ss h4.1).m 0 (Nat.le_of_ble_eq_true rfl)) ((G.ss h4.1).k 0 2 rfl) (Nat.le_of_ble_eq_true rfl) (Nat.le_of_ble_eq_true rfl) rfl ?_
  refine V_aload_0 15 dX2_become_15 ?_
  refine V_getR 16 (c := 2) 1 ((F.ss h4.1).r 0 1 2 rfl) dX2_become_16 fl_RX2_15 ((F.ss h4.1).m 0 (Nat.le_of_ble_eq_true rfl)) ((F.ss h4.1).k 0 2 rfl) (Nat.le_of_ble_eq_true rfl) (Nat.le_of_ble_eq_true rfl) rfl ?_
  refine V_callSN 19 [.ref _, .ref _] _ (c_copyRow M.2.1 Γ S1 (a := (u + 2)) (b := (t + 2)) ((G.ss h4.1).m 2 (Nat.le_of_ble_eq_true rfl)) ((G.ss h4.1).k 2 14 rfl) (by rw [((G.ss h4.1).l 2 402 rfl)]; decide) ((F.ss h4.1).m 2 (Nat.le_of_ble_eq_true rfl)) ((F.ss h4.1).k 2 14 rfl) ((((F.ss h4.1).l 2 402 rfl)).trans (((G.ss h4.1).l 2 402 rfl)).symm)) dX2_become_19 cb_X11_copyRow ne_RX2_25 sm_yX11_copyRow ⟨(Nat.le_of_ble_eq_true rfl), (Nat.le_of_ble_eq_true rfl)⟩ rfl rfl (Nat.le_of_ble_eq_true rfl) ⟨(Nat.le_of_ble_eq_true rfl), (Nat.le_of_ble_eq_true rfl)⟩ (RV.go (fun S5 q6 => ?_))
  have h8 : FZ [t + 1, t + 2] [(t, 2)] S S5 := h4.tr ((fr_cpy q6).sub (by simp) (by simp))
  refine V_aload_0 22 dX2_become_22 ?_
  refine V_aload_1 23 dX2_become_23 ?_
  refine V_getI 24 (c := 2) 2 dX2_become_24 fl_RX2_21 ((G.ss h8.1).m 0 (Nat.le_of_ble_eq_true rfl)) ((G.ss h8.1).k 0 2 rfl) (Nat.le_of_ble_eq_true rfl) (Nat.le_of_ble_eq_true rfl) rfl ?_
  refine V_putI 27 (c := 2) 2 dX2_become_27 fl_RX2_21 ((F.ss h8.1).m 0 (Nat.le_of_ble_eq_true rfl)) ((F.ss h8.1).k 0 2 rfl) (Nat.le_of_ble_eq_true rfl) (Nat.le_of_ble_eq_true rfl) rfl (Or.inl rfl) ?_
  refine V_abs (FZ [t + 1, t + 2] [(t, 2)] S) (h8.uI (by simp)) (fun S9 h10 => ?_)
  refine V_vret 30 dX2_become_30 rfl (Nat.le_of_ble_eq_true rfl) (Nat.le_of_ble_eq_true rfl) (RV.mk h10)
set_option maxRecDepth 100000 in
set_option maxHeartbeats 8000000 in
theorem s_takeLine (l : Launch) (Γ : GC) (S : PS) {t : Nat} (F : isL lyText Γ.2.2.2.2.1 S t) : CT l Γ yX10_takeLineAway cX10_takeLineAway 2 none (0) (0) (0) [.ref t] S (RV (fun S' => FZ [t + 8] [(t, 13)] S S')) := by
  refine CT.of RX10 "takeLineAway" [some (.ref t), none] (by decide +kernel) rfl rfl (Nat.le_of_ble_eq_true rfl) rfl (fun M hM => ?_)
  subst hM
  refine V_aload_0 0 dX10_takeLineAway_0 ?_
  refine V_iconst 1 (0) dX10_takeLineAway_1 (by decide) ?_
  refine V_putI 2 (c := 10) 13 dX10_takeLineAway_2 fl_RX10_81 (F.m 0 (Nat.le_of_ble_eq_true rfl)) (F.k 0 10 rfl) (Nat.le_of_ble_eq_true rfl) (Nat.le_of_ble_eq_true rfl) rfl (Or.inl rfl) ?_
  refine V_abs (FZ [t + 8] [(t, 13)] S) ((FZ.rf (X := [t + 8]) (Y := [(t, 13)]) (S := S)).uI (by simp)) (fun S1 h2 => ?_)
  refine V_iconst 5 (0) dX10_takeLineAway_5 (by decide) ?_
  refine V_istore_1 6 dX10_takeLineAway_6 rfl (Nat.le_of_ble_eq_true rfl) ?_
  refine V_lvw (by repeat (first | exact trivial | refine ⟨rfl, ?_⟩)) (V_while (α := Nat × PS) (fun z3 => 8 - z3.1) (fun z3 => z3.1 ≤ 8 ∧ FZ [t + 8] [(t, 13)] S z3.2) (fun z3 => z3.2) (fun z3 => [some (.ref t), some (.int (nI z3.1))]) (0, _) ⟨Nat.zero_le _, h2⟩ (fun z3 hx9 ih8 => ?b10))
  obtain ⟨i4, S5⟩ := z3
  obtain ⟨hi6, h7⟩ := hx9
  dsimp only at hi6 h7 ih8 ⊢
  refine V_iload_1 7 dX10_takeLineAway_7 ?_
  refine V_aload_0 8 dX10_takeLineAway_8 ?_
  refine V_getR 9 (c := 10) 14 ((F.ss h7.1).r 0 14 8 rfl) dX10_takeLineAway_9 fl_RX10_34 ((F.ss h7.1).m 0 (Nat.le_of_ble_eq_true rfl)) ((F.ss h7.1).k 0 10 rfl) (Nat.le_of_ble_eq_true rfl) (Nat.le_of_ble_eq_true rfl) rfl ?_
  refine V_alen2 12 dX10_takeLineAway_12 ((F.ss h7.1).m 8 (Nat.le_of_ble_eq_true rfl)) ((F.ss h7.1).k 8 14 rfl) (Nat.le_of_ble_eq_true rfl) (Nat.le_of_ble_eq_true rfl) ((F.ss h7.1).l 8 8 rfl) ?_
  refine V_icmp_ge 13 29 dX10_takeLineAway_13 (by decide) (fun c12 => ?_) (fun c12 => ?_)
  ·
    refine V_vret 29 dX10_takeLineAway_29 rfl (Nat.le_of_ble_eq_true rfl) (Nat.le_of_ble_eq_true rfl) (RV.mk h7)
  ·
    have lt13 := nI_lt8 (by decide) hi6 c12
    refine V_aload_0 16 dX10_takeLineAway_16 ?_
    refine V_getR 17 (c := 10) 14 ((F.ss h7.1).r 0 14 8 rfl) dX10_takeLineAway_17 fl_RX10_34 ((F.ss h7.1).m 0 (Nat.le_of_ble_eq_true rfl)) ((F.ss h7.1).k 0 10 rfl) (Nat.le_of_ble_eq_true rfl) (Nat.le_of_ble_eq_true rfl) rfl ?_
    refine V_iload_1 20 dX10_takeLineAway_20 ?_
    refine V_iconst 21 (0) dX10_takeLineAway_21 (by decide) ?_
    refine V_iastore2 22 dX10_takeLineAway_22 ((F.ss h7.1).m 8 (Nat.le_of_ble_eq_true rfl)) ((F.ss h7.1).k 8 14 rfl) ((F.ss h7.1).l 8 8 rfl) ?_ ?_
    · exact vp_in_nI (by omega) (by decide)
    refine V_abs (FZ [t + 8] [(t, 13)] S) (h7.uA (by simp)) (fun S14 h15 => ?_)
    refine V_iinc_1 23 (1) dX10_takeLineAway_23 (by decide) rfl (Nat.le_of_ble_eq_true rfl) ?_
    refine V_goto 26 7 dX10_takeLineAway_26 (by decide) ?_
    rw [← nI_succ]
    refine V_lvw (by repeat (first | exact trivial | refine ⟨rfl, ?_⟩)) (ih8 (i4 + 1, _) ⟨by dsimp only; omega, h15⟩ (by dsimp only; omega))
set_option maxRecDepth 100000 in
set_option maxHeartbeats 8000000 in
theorem s_X10_become (l : Launch) (Γ : GC) (S : PS) {t u : Nat} (F : isL lyText Γ.2.2.2.2.1 S t) (G : isL lyText Γ.2.2.2.2.1 S u) : CT l Γ yX10_become cX10_become 2 none (2) (0) (0) [.ref t, .ref u] S (RV (fun S' => FZ [t + 1, t + 2, t + 3, t + 6, t + 7, t + 11, t + 12] [(t, 0), (t, 1), (t, 8), (t, 9), (t, 10), (t, 11), (t, 13), (t + 10, 2)] S S')) := by
  refine CT.of RX10 "become" [some (.ref t), some (.ref u)] (by decide +kernel) rfl rfl (Nat.le_of_ble_eq_true rfl) rfl (fun M hM => ?_)
  subst hM
  refine V_aload_0 0 dX10_become_0 ?_
  refine V_aload_1 1 dX10_become_1 ?_
  refine V_getI 2 (c := 10) 0 dX10_become_2 fl_RX10_50 (G.m 0 (Nat.le_of_ble_eq_true rfl)) (G.k 0 10 rfl) (Nat.le_of_ble_eq_true rfl) (Nat.le_of_ble_eq_true rfl) rfl ?_
  refine V_putI 5 (c := 10) 0 dX10_become_5 fl_RX10_50 (F.m 0 (Nat.le_of_ble_eq_true rfl)) (F.k 0 10 rfl) (Nat.le_of_ble_eq_true rfl) (Nat.le_of_ble_eq_true rfl) rfl (Or.inl rfl) ?_
  refine V_abs (FZ [t + 1, t + 2, t + 3, t + 6, t + 7, t + 11, t + 12] [(t, 0), (t, 1), (t, 8), (t, 9), (t, 10), (t, 11), (t, 13), (t + 10, 2)] S) ((FZ.rf (X := [t + 1, t + 2, t + 3, t + 6, t + 7, t + 11, t + 12]) (Y := [(t, 0), (t, 1), (t, 8), (t, 9), (t, 10), (t, 11), (t, 13), (t + 10, 2)]) (S := S)).uI (by simp)) (fun S1 h2 => ?_)
  refine V_aload_0 8 dX10_become_8 ?_
  refine V_aload_1 9 dX10_become_9 ?_
  refine V_getI 10 (c := 10) 1 dX10_become_10 fl_RX10_54 ((G.ss h2.1).m 0 (Nat.le_of_ble_eq_true rfl)) ((G.ss h2.1).k 0 10 rfl) (Nat.le_of_ble_eq_true rfl) (Nat.le_of_ble_eq_true rfl) rfl ?_
  refine V_putI 13 (c := 10) 1 dX10_become_13 fl_RX10_54 ((F.ss h2.1).m 0 (Nat.le_of_ble_eq_true rfl)) ((F.ss h2.1).k 0 10 rfl) (Nat.le_of_ble_eq_true rfl) (Nat.le_of_ble_eq_true rfl) rfl (Or.inl rfl) ?_
  refine V_abs (FZ [t + 1, t + 2, t + 3, t + 6, t + 7, t + 11, t + 12] [(t, 0), (t, 1), (t, 8), (t, 9), (t, 10), (t, 11), (t, 13), (t + 10, 2)] S) (h2.uI (by simp)) (fun S3 h4 => ?_)
  refine V_aload_1 16 dX10_become_16 ?_
  refine V_getR 17 (c := 10) 2 ((G.ss h4.1).r 0 2 1 rfl) dX10_become_17 fl_RX10_9 ((G.ss h4.1).m 0 (Nat.le_of_ble_eq_true rfl)) ((G.ss h4.1).k 0 10 rfl) (Nat.le_of_ble_eq_true rfl) (Nat.le_of_ble_eq_true rfl) rfl ?_
  refine V_aload_0 20 dX10_become_20 ?_
  refine V_getR 21 (c := 10) 2 ((F.ss h4.1).r 0 2 1 rfl) dX10_become_21 fl_RX10_9 ((F.ss h4.1).m 0 (Nat.le_of_ble_eq_true rfl)) ((F.ss h4.1).k 0 10 rfl) (Nat.le_of_ble_eq_true rfl) (Nat.le_of_ble_eq_true rfl) rfl ?_
  refine V_callSN 24 [.ref _, .ref _] _ (c_copyRow M.2.1 Γ S3 (a := (u + 1)) (b := (t + 1)) ((G.ss h4.1).m 1 (Nat.le_of_ble_eq_true rfl)) ((G.ss h4.1).k 1 14 rfl) (by rw [((G.ss h4.1).l 1 8 rfl)]; decide) ((F.ss h4.1).m 1 (Nat.le_of_ble_eq_true rfl)) ((F.ss h4.1).k 1 14 rfl) ((((F.ss h4.1).l 1 8 rfl)).trans (((G.ss h4.1).l 1 8 rfl)).symm)) dX10_become_24 cb_X11_copyRow ne_RX10_77 sm_yX11_copyRow ⟨(Nat.le_of_ble_eq_true rfl), (Nat.le_of_ble_eq_true rfl)⟩ rfl rfl (Nat.le_of_ble_eq_true rfl) ⟨(Nat.le_of_ble_eq_true rfl), (Nat.le_of_ble_eq_true rfl)⟩ (RV.go (fun S5 q6 => ?_))
  have h8 : FZ [t + 1, t + 2, t + 3, t + 6, t + 7, t + 11, t + 12] [(t, 0), (t, 1), (t, 8), (t, 9), (t, 10), (t, 11), (t, 13), (t + 10, 2)] S S5 := h4.tr ((fr_cpy q6).sub (by simp) (by simp))
  refine V_aload_1 27 dX10_become_27 ?_
  refine V_getR 28 (c := 10) 3 ((G.ss h8.1).r 0 3 2 rfl) dX10_become_28 fl_RX10_15 ((G.ss h8.1).m 0 (Nat.le_of_ble_eq_true rfl)) ((G.ss h8.1).k 0 10 rfl) (Nat.le_of_ble_eq_true rfl) (Nat.le_of_ble_eq_true rfl) rfl ?_
  refine V_aload_0 31 dX10_become_31 ?_
  refine V_getR 32 (c := 10) 3 ((F.ss h8.1).r 0 3 2 rfl) dX10_become_32 fl_RX10_15 ((F.ss h8.1).m 0 (Nat.le_of_ble_eq_true rfl)) ((F.ss h8.1).k 0 10 rfl) (Nat.le_of_ble_eq_true rfl) (Nat.le_of_ble_eq_true rfl) rfl ?_
  refine V_callSN 35 [.ref _, .ref _] _ (c_copyRow M.2.1 Γ S5 (a := (u + 2)) (b := (t + 2)) ((G.ss h8.1).m 2 (Nat.le_of_ble_eq_true rfl)) ((G.ss h8.1).k 2 14 rfl) (by rw [((G.ss h8.1).l 2 8 rfl)]; decide) ((F.ss h8.1).m 2 (Nat.le_of_ble_eq_true rfl)) ((F.ss h8.1).k 2 14 rfl) ((((F.ss h8.1).l 2 8 rfl)).trans (((G.ss h8.1).l 2 8 rfl)).symm)) dX10_become_35 cb_X11_copyRow ne_RX10_77 sm_yX11_copyRow ⟨(Nat.le_of_ble_eq_true rfl), (Nat.le_of_ble_eq_true rfl)⟩ rfl rfl (Nat.le_of_ble_eq_true rfl) ⟨(Nat.le_of_ble_eq_true rfl), (Nat.le_of_ble_eq_true rfl)⟩ (RV.go (fun S9 q10 => ?_))
  have h12 : FZ [t + 1, t + 2, t + 3, t + 6, t + 7, t + 11, t + 12] [(t, 0), (t, 1), (t, 8), (t, 9), (t, 10), (t, 11), (t, 13), (t + 10, 2)] S S9 := h8.tr ((fr_cpy q10).sub (by simp) (by simp))
  refine V_aload_1 38 dX10_become_38 ?_
  refine V_getR 39 (c := 10) 4 ((G.ss h12.1).r 0 4 3 rfl) dX10_become_39 fl_RX10_18 ((G.ss h12.1).m 0 (Nat.le_of_ble_eq_true rfl)) ((G.ss h12.1).k 0 10 rfl) (Nat.le_of_ble_eq_true rfl) (Nat.le_of_ble_eq_true rfl) rfl ?_
  refine V_aload_0 42 dX10_become_42 ?_
  refine V_getR 43 (c := 10) 4 ((F.ss h12.1).r 0 4 3 rfl) dX10_become_43 fl_RX10_18 ((F.ss h12.1).m 0 (Nat.le_of_ble_eq_true rfl)) ((F.ss h12.1).k 0 10 rfl) (Nat.le_of_ble_eq_true rfl) (Nat.le_of_ble_eq_true rfl) rfl ?_
  refine V_callSN 46 [.ref _, .ref _] _ (c_copyRow M.2.1 Γ S9 (a := (u + 3)) (b := (t + 3)) ((G.ss h12.1).m 3 (Nat.le_of_ble_eq_true rfl)) ((G.ss h12.1).k 3 14 rfl) (by rw [((G.ss h12.1).l 3 8 rfl)]; decide) ((F.ss h12.1).m 3 (Nat.le_of_ble_eq_true rfl)) ((F.ss h12.1).k 3 14 rfl) ((((F.ss h12.1).l 3 8 rfl)).trans (((G.ss h12.1).l 3 8 rfl)).symm)) dX10_become_46 cb_X11_copyRow ne_RX10_77 sm_yX11_copyRow ⟨(Nat.le_of_ble_eq_true rfl), (Nat.le_of_ble_eq_true rfl)⟩ rfl rfl (Nat.le_of_ble_eq_true rfl) ⟨(Nat.le_of_ble_eq_true rfl), (Nat.le_of_ble_eq_true rfl)⟩ (RV.go (fun S13 q14 => ?_))
  have h16 : FZ [t + 1, t + 2, t + 3, t + 6, t + 7, t + 11, t + 12] [(t, 0), (t, 1), (t, 8), (t, 9), (t, 10), (t, 11), (t, 13), (t + 10, 2)] S S13 := h12.tr ((fr_cpy q14).sub (by simp) (by simp))
  refine V_aload_1 49 dX10_become_49 ?_
  refine V_getR 50 (c := 10) 7 ((G.ss h16.1).r 0 7 6 rfl) dX10_become_50 fl_RX10_28 ((G.ss h16.1).m 0 (Nat.le_of_ble_eq_true rfl)) ((G.ss h16.1).k 0 10 rfl) (Nat.le_of_ble_eq_true rfl) (Nat.le_of_ble_eq_true rfl) rfl ?_
  refine V_aload_0 53 dX10_become_53 ?_
  refine V_getR 54 (c := 10) 7 ((F.ss h16.1).r 0 7 6 rfl) dX10_become_54 fl_RX10_28 ((F.ss h16.1).m 0 (Nat.le_of_ble_eq_true rfl)) ((F.ss h16.1).k 0 10 rfl) (Nat.le_of_ble_eq_true rfl) (Nat.le_of_ble_eq_true rfl) rfl ?_
  refine V_callSN 57 [.ref _, .ref _] _ (c_copyRow M.2.1 Γ S13 (a := (u + 6)) (b := (t + 6)) ((G.ss h16.1).m 6 (Nat.le_of_ble_eq_true rfl)) ((G.ss h16.1).k 6 14 rfl) (by rw [((G.ss h16.1).l 6 64 rfl)]; decide) ((F.ss h16.1).m 6 (Nat.le_of_ble_eq_true rfl)) ((F.ss h16.1).k 6 14 rfl) ((((F.ss h16.1).l 6 64 rfl)).trans (((G.ss h16.1).l 6 64 rfl)).symm)) dX10_become_57 cb_X11_copyRow ne_RX10_77 sm_yX11_copyRow ⟨(Nat.le_of_ble_eq_true rfl), (Nat.le_of_ble_eq_true rfl)⟩ rfl rfl (Nat.le_of_ble_eq_true rfl) ⟨(Nat.le_of_ble_eq_true rfl), (Nat.le_of_ble_eq_true rfl)⟩ (RV.go (fun S17 q18 => ?_))
  have h20 : FZ [t + 1, t + 2, t + 3, t + 6, t + 7, t + 11, t + 12] [(t, 0), (t, 1), (t, 8), (t, 9), (t, 10), (t, 11), (t, 13), (t + 10, 2)] S S17 := h16.tr ((fr_cpy q18).sub (by simp) (by simp))
  refine V_aload_0 60 dX10_become_60 ?_
  refine V_aload_1 61 dX10_become_61 ?_
  refine V_getI 62 (c := 10) 8 dX10_become_62 fl_RX10_61 ((G.ss h20.1).m 0 (Nat.le_of_ble_eq_true rfl)) ((G.ss h20.1).k 0 10 rfl) (Nat.le_of_ble_eq_true rfl) (Nat.le_of_ble_eq_true rfl) rfl ?_
  refine V_putI 65 (c := 10) 8 dX10_become_65 fl_RX10_61 ((F.ss h20.1).m 0 (Nat.le_of_ble_eq_true rfl)) ((F.ss h20.1).k 0 10 rfl) (Nat.le_of_ble_eq_true rfl) (Nat.le_of_ble_eq_true rfl) rfl (Or.inl rfl) ?_
  refine V_abs (FZ [t + 1, t + 2, t + 3, t + 6, t + 7, t + 11, t + 12] [(t, 0), (t, 1), (t, 8), (t, 9), (t, 10), (t, 11), (t, 13), (t + 10, 2)] S) (h20.uI (by simp)) (fun S21 h22 => ?_)
  refine V_aload_0 68 dX10_become_68 ?_
  refine V_aload_1 69 dX10_become_69 ?_
  refine V_getI 70 (c := 10) 9 dX10_become_70 fl_RX10_64 ((G.ss h22.1).m 0 (Nat.le_of_ble_eq_true rfl)) ((G.ss h22.1).k 0 10 rfl) (Nat.le_of_ble_eq_true rfl) (Nat.le_of_ble_eq_true rfl) rfl ?_
  refine V_putI 73 (c := 10) 9 dX10_become_73 fl_RX10_64 ((F.ss h22.1).m 0 (Nat.le_of_ble_eq_true rfl)) ((F.ss h22.1).k 0 10 rfl) (Nat.le_of_ble_eq_true rfl) (Nat.le_of_ble_eq_true rfl) rfl (Or.inl rfl) ?_
  refine V_abs (FZ [t + 1, t + 2, t + 3, t + 6, t + 7, t + 11, t + 12] [(t, 0), (t, 1), (t, 8), (t, 9), (t, 10), (t, 11), (t, 13), (t + 10, 2)] S) (h22.uI (by simp)) (fun S23 h24 => ?_)
  refine V_aload_0 76 dX10_become_76 ?_
  refine V_aload_1 77 dX10_become_77 ?_
  refine V_getI 78 (c := 10) 10 dX10_become_78 fl_RX10_67 ((G.ss h24.1).m 0 (Nat.le_of_ble_eq_true rfl)) ((G.ss h24.1).k 0 10 rfl) (Nat.le_of_ble_eq_true rfl) (Nat.le_of_ble_eq_true rfl) rfl ?_
  refine V_putI 81 (c := 10) 10 dX10_become_81 fl_RX10_67 ((F.ss h24.1).m 0 (Nat.le_of_ble_eq_true rfl)) ((F.ss h24.1).k 0 10 rfl) (Nat.le_of_ble_eq_true rfl) (Nat.le_of_ble_eq_true rfl) rfl (Or.inl rfl) ?_
  refine V_abs (FZ [t + 1, t + 2, t + 3, t + 6, t + 7, t + 11, t + 12] [(t, 0), (t, 1), (t, 8), (t, 9), (t, 10), (t, 11), (t, 13), (t + 10, 2)] S) (h24.uI (by simp)) (fun S25 h26 => ?_)
  refine V_aload_0 84 dX10_become_84 ?_
  refine V_aload_1 85 dX10_become_85 ?_
  refine V_getI 86 (c := 10) 11 dX10_become_86 fl_RX10_70 ((G.ss h26.1).m 0 (Nat.le_of_ble_eq_true rfl)) ((G.ss h26.1).k 0 10 rfl) (Nat.le_of_ble_eq_true rfl) (Nat.le_of_ble_eq_true rfl) rfl ?_
  refine V_putI 89 (c := 10) 11 dX10_become_89 fl_RX10_70 ((F.ss h26.1).m 0 (Nat.le_of_ble_eq_true rfl)) ((F.ss h26.1).k 0 10 rfl) (Nat.le_of_ble_eq_true rfl) (Nat.le_of_ble_eq_true rfl) rfl (Or.inl rfl) ?_
  refine V_abs (FZ [t + 1, t + 2, t + 3, t + 6, t + 7, t + 11, t + 12] [(t, 0), (t, 1), (t, 8), (t, 9), (t, 10), (t, 11), (t, 13), (t + 10, 2)] S) (h26.uI (by simp)) (fun S27 h28 => ?_)
  refine V_aload_1 92 dX10_become_92 ?_
  refine V_getR 93 (c := 10) 12 ((G.ss h28.1).r 0 12 7 rfl) dX10_become_93 fl_RX10_31 ((G.ss h28.1).m 0 (Nat.le_of_ble_eq_true rfl)) ((G.ss h28.1).k 0 10 rfl) (Nat.le_of_ble_eq_true rfl) (Nat.le_of_ble_eq_true rfl) rfl ?_
  refine V_aload_0 96 dX10_become_96 ?_
  refine V_getR 97 (c := 10) 12 ((F.ss h28.1).r 0 12 7 rfl) dX10_become_97 fl_RX10_31 ((F.ss h28.1).m 0 (Nat.le_of_ble_eq_true rfl)) ((F.ss h28.1).k 0 10 rfl) (Nat.le_of_ble_eq_true rfl) (Nat.le_of_ble_eq_true rfl) rfl ?_
  refine V_callSN 100 [.ref _, .ref _] _ (c_copyRow M.2.1 Γ S27 (a := (u + 7)) (b := (t + 7)) ((G.ss h28.1).m 7 (Nat.le_of_ble_eq_true rfl)) ((G.ss h28.1).k 7 14 rfl) (by rw [((G.ss h28.1).l 7 18 rfl)]; decide) ((F.ss h28.1).m 7 (Nat.le_of_ble_eq_true rfl)) ((F.ss h28.1).k 7 14 rfl) ((((F.ss h28.1).l 7 18 rfl)).trans (((G.ss h28.1).l 7 18 rfl)).symm)) dX10_become_100 cb_X11_copyRow ne_RX10_77 sm_yX11_copyRow ⟨(Nat.le_of_ble_eq_true rfl), (Nat.le_of_ble_eq_true rfl)⟩ rfl rfl (Nat.le_of_ble_eq_true rfl) ⟨(Nat.le_of_ble_eq_true rfl), (Nat.le_of_ble_eq_true rfl)⟩ (RV.go (fun S29 q30 => ?_))
  have h32 : FZ [t + 1, t + 2, t + 3, t + 6, t + 7, t + 11, t + 12] [(t, 0), (t, 1), (t, 8), (t, 9), (t, 10), (t, 11), (t, 13), (t + 10, 2)] S S29 := h28.tr ((fr_cpy q30).sub (by simp) (by simp))
  refine V_aload_0 103 dX10_become_103 ?_
  refine V_aload_1 104 dX10_become_104 ?_
  refine V_getI 105 (c := 10) 13 dX10_become_105 fl_RX10_81 ((G.ss h32.1).m 0 (Nat.le_of_ble_eq_true rfl)) ((G.ss h32.1).k 0 10 rfl) (Nat.le_of_ble_eq_true rfl) (Nat.le_of_ble_eq_true rfl) rfl ?_
  refine V_putI 108 (c := 10) 13 dX10_become_108 fl_RX10_81 ((F.ss h32.1).m 0 (Nat.le_of_ble_eq_true rfl)) ((F.ss h32.1).k 0 10 rfl) (Nat.le_of_ble_eq_true rfl) (Nat.le_of_ble_eq_true rfl) rfl (Or.inl rfl) ?_
  refine V_abs (FZ [t + 1, t + 2, t + 3, t + 6, t + 7, t + 11, t + 12] [(t, 0), (t, 1), (t, 8), (t, 9), (t, 10), (t, 11), (t, 13), (t + 10, 2)] S) (h32.uI (by simp)) (fun S33 h34 => ?_)
  refine V_aload_0 111 dX10_become_111 ?_
  refine V_getR 112 (c := 10) 16 ((F.ss h34.1).r 0 16 10 rfl) dX10_become_112 fl_RX10_43 ((F.ss h34.1).m 0 (Nat.le_of_ble_eq_true rfl)) ((F.ss h34.1).k 0 10 rfl) (Nat.le_of_ble_eq_true rfl) (Nat.le_of_ble_eq_true rfl) rfl ?_
  refine V_aload_1 115 dX10_become_115 ?_
  refine V_getR 116 (c := 10) 16 ((G.ss h34.1).r 0 16 10 rfl) dX10_become_116 fl_RX10_43 ((G.ss h34.1).m 0 (Nat.le_of_ble_eq_true rfl)) ((G.ss h34.1).k 0 10 rfl) (Nat.le_of_ble_eq_true rfl) (Nat.le_of_ble_eq_true rfl) rfl ?_
  refine V_callV 119 (ci := 2) [.ref _] _ (s_lawbecome M.2.1 Γ S33 ((F.ss h34.1).sub 10 lyLaw rfl (by decide)) ((G.ss h34.1).sub 10 lyLaw rfl (by decide))) dX10_become_119 cb_X2_become ml_RX10_84 im_yX2_become se_yX2_become ((F.ss h34.1).m 10 (Nat.le_of_ble_eq_true rfl)) ((F.ss h34.1).k 10 2 rfl) (Nat.le_of_ble_eq_true rfl) ⟨(Nat.le_of_ble_eq_true rfl), (Nat.le_of_ble_eq_true rfl)⟩ rfl rfl (Nat.le_of_ble_eq_true rfl) ⟨(Nat.le_of_ble_eq_true rfl), (Nat.le_of_ble_eq_true rfl)⟩ (RV.go (fun S35 q36 => ?_))
  have h38 : FZ [t + 1, t + 2, t + 3, t + 6, t + 7, t + 11, t + 12] [(t, 0), (t, 1), (t, 8), (t, 9), (t, 10), (t, 11), (t, 13), (t + 10, 2)] S S35 := h34.tr (q36.sub (by simp) (by simp))
  refine V_vret 122 dX10_become_122 rfl (Nat.le_of_ble_eq_true rfl) (Nat.le_of_ble_eq_true rfl) (RV.mk h38)
set_option maxRecDepth 100000 in
set_option maxHeartbeats 8000000 in
theorem s_tfail (l : Launch) (Γ : GC) (S : PS) {t : Nat} (F : isL lyTeller Γ.2.2.2.2.1 S t) (x y : Int32) : CT l Γ yX9_fail cX9_fail 3 none (0) (0) (0) [.ref t, .int x, .int y] S (RV (fun S' => FZ [] [(t, 3), (t, 4)] S S')) := by
  refine CT.of RX9 "fail" [some (.ref t), some (.int x), some (.int y)] (by decide +kernel) rfl rfl (Nat.le_of_ble_eq_true rfl) rfl (fun M hM => ?_)
  subst hM
  have J3 : ∀ (S1 : PS) , FZ [] [(t, 3), (t, 4)] S S1 → V M Γ (3, RX9, "fail", none, RM (0) (0) (0)) cX9_fail (RQ M Γ (RV (fun S' => FZ [] [(t, 3), (t, 4)] S S')) (0) (0)) 0 0 S1 17 [some (.ref t), some (.int x), some (.int y)] [] := by
    intro S1  h2
    refine V_vret 17 dX9_fail_17 rfl (Nat.le_of_ble_eq_true rfl) (Nat.le_of_ble_eq_true rfl) (RV.mk h2)
  refine V_aload_0 0 dX9_fail_0 ?_
  refine V_getI 1 (c := 9) 3 dX9_fail_1 fl_RX9_44 (F.m 0 (Nat.le_of_ble_eq_true rfl)) (F.k 0 9 rfl) (Nat.le_of_ble_eq_true rfl) (Nat.le_of_ble_eq_true rfl) rfl ?_
  refine V_if_ne 4 17 dX9_fail_4 (by decide) (fun c4 => ?_) (fun c4 => ?_)
  ·
    refine V_lvw (by repeat (first | exact trivial | refine ⟨rfl, ?_⟩)) (J3 _ FZ.rf)
  ·
    refine V_aload_0 7 dX9_fail_7 ?_
    refine V_iload_1 8 dX9_fail_8 ?_
    refine V_putI 9 (c := 9) 3 dX9_fail_9 fl_RX9_44 (F.m 0 (Nat.le_of_ble_eq_true rfl)) (F.k 0 9 rfl) (Nat.le_of_ble_eq_true rfl) (Nat.le_of_ble_eq_true rfl) rfl (Or.inl rfl) ?_
    refine V_abs (FZ [] [(t, 3), (t, 4)] S) ((FZ.rf (X := []) (Y := [(t, 3), (t, 4)]) (S := S)).uI (by simp)) (fun S6 h7 => ?_)
    refine V_aload_0 12 dX9_fail_12 ?_
    refine V_iload_2 13 dX9_fail_13 ?_
    refine V_putI 14 (c := 9) 4 dX9_fail_14 fl_RX9_48 ((F.ss h7.1).m 0 (Nat.le_of_ble_eq_true rfl)) ((F.ss h7.1).k 0 9 rfl) (Nat.le_of_ble_eq_true rfl) (Nat.le_of_ble_eq_true rfl) rfl (Or.inl rfl) ?_
    refine V_abs (FZ [] [(t, 3), (t, 4)] S) (h7.uI (by simp)) (fun S8 h9 => ?_)
    refine V_lvw (by repeat (first | exact trivial | refine ⟨rfl, ?_⟩)) (J3 _ h9)
set_option maxRecDepth 100000 in
set_option maxHeartbeats 8000000 in
theorem s_newName (l : Launch) (Γ : GC) (S : PS) {t : Nat} (F : isL lyTeller Γ.2.2.2.2.1 S t) (x : Int32) : CT l Γ yX9_newName cX9_newName 2 none (2) (0) (0) [.ref t, .int x] S (RV (fun S' => FZ [] [(t, 3), (t, 4)] S S')) := by
  refine CT.of RX9 "newName" [some (.ref t), some (.int x)] (by decide +kernel) rfl rfl (Nat.le_of_ble_eq_true rfl) rfl (fun M hM => ?_)
  subst hM
  have J3 : ∀ (S1 : PS) , FZ [] [(t, 3), (t, 4)] S S1 → V M Γ (2, RX9, "newName", none, RM (2) (0) (0)) cX9_newName (RQ M Γ (RV (fun S' => FZ [] [(t, 3), (t, 4)] S S')) (0) (0)) 0 0 S1 25 [some (.ref t), some (.int x)] [] := by
    intro S1  h2
    refine V_vret 25 dX9_newName_25 rfl (Nat.le_of_ble_eq_true rfl) (Nat.le_of_ble_eq_true rfl) (RV.mk h2)
  refine V_aload_0 0 dX9_newName_0 ?_
  refine V_getR 1 (c := 9) 2 (F.r 0 2 12 rfl) dX9_newName_1 fl_RX9_26 (F.m 0 (Nat.le_of_ble_eq_true rfl)) (F.k 0 9 rfl) (Nat.le_of_ble_eq_true rfl) (Nat.le_of_ble_eq_true rfl) rfl ?_
  refine V_aload_0 4 dX9_newName_4 ?_
  refine V_getR 5 (c := 9) 1 (F.r 0 1 2 rfl) dX9_newName_5 fl_RX9_22 (F.m 0 (Nat.le_of_ble_eq_true rfl)) (F.k 0 9 rfl) (Nat.le_of_ble_eq_true rfl) (Nat.le_of_ble_eq_true rfl) rfl ?_
  refine V_iload_1 8 dX9_newName_8 ?_
  refine V_callV 9 (ci := 8) [.int _] _ (s_valueAt M.2.1 Γ S (F.sub 2 lyTape rfl (by decide)) _) dX9_newName_9 cb_X8_valueAt ml_RX9_115 im_yX8_valueAt se_yX8_valueAt (F.m 2 (Nat.le_of_ble_eq_true rfl)) (F.k 2 8 rfl) (Nat.le_of_ble_eq_true rfl) ⟨(Nat.le_of_ble_eq_true rfl), (Nat.le_of_ble_eq_true rfl)⟩ rfl rfl (Nat.le_of_ble_eq_true rfl) ⟨(Nat.le_of_ble_eq_true rfl), (Nat.le_of_ble_eq_true rfl)⟩ (RLg.go (fun r6 S4 q5 => ?_))
  have h7 : FZ [] [(t, 3), (t, 4)] S S4 := (FZ.rf (X := []) (Y := [(t, 3), (t, 4)]) (S := S)).tr (q5.sub (by simp) (by simp))
  refine V_callV 12 (ci := 10) [.long _] _ (s_X10_find M.2.1 Γ S4 ((F.ss h7.1).sub 12 lyText rfl (by decide)) _) dX9_newName_12 cb_X10_find ml_RX9_150 im_yX10_find se_yX10_find ((F.ss h7.1).m 12 (Nat.le_of_ble_eq_true rfl)) ((F.ss h7.1).k 12 10 rfl) (Nat.le_of_ble_eq_true rfl) ⟨(Nat.le_of_ble_eq_true rfl), (Nat.le_of_ble_eq_true rfl)⟩ rfl rfl (Nat.le_of_ble_eq_true rfl) ⟨(Nat.le_of_ble_eq_true rfl), (Nat.le_of_ble_eq_true rfl)⟩ (RI.go (fun r10 S8 q9 => ?_))
  have h11 : FZ [] [(t, 3), (t, 4)] S S8 := h7.tr (q9.sub (by simp) (by simp))
  refine V_iconst 15 (-1) dX9_newName_15 (by decide) ?_
  refine V_icmp_eq 16 25 dX9_newName_16 (by decide) (fun c12 => ?_) (fun c12 => ?_)
  ·
    refine V_lvw (by repeat (first | exact trivial | refine ⟨rfl, ?_⟩)) (J3 _ h11)
  ·
    refine V_aload_0 19 dX9_newName_19 ?_
    refine V_iconst 20 (3) dX9_newName_20 (by decide) ?_
    refine V_iload_1 21 dX9_newName_21 ?_
    refine V_callV 22 (ci := 9) [.int _, .int _] _ (s_tfail M.2.1 Γ S8 (F.ss h11.1) _ _) dX9_newName_22 cb_X9_fail ml_RX9_105 im_yX9_fail se_yX9_fail ((F.ss h11.1).m 0 (Nat.le_of_ble_eq_true rfl)) ((F.ss h11.1).k 0 9 rfl) (Nat.le_of_ble_eq_true rfl) ⟨(Nat.le_of_ble_eq_true rfl), (Nat.le_of_ble_eq_true rfl)⟩ rfl rfl (Nat.le_of_ble_eq_true rfl) ⟨(Nat.le_of_ble_eq_true rfl), (Nat.le_of_ble_eq_true rfl)⟩ (RV.go (fun S14 q15 => ?_))
    have h17 : FZ [] [(t, 3), (t, 4)] S S14 := h11.tr (q15.sub (by simp) (by simp))
    refine V_lvw (by repeat (first | exact trivial | refine ⟨rfl, ?_⟩)) (J3 _ h17)
set_option maxRecDepth 100000 in
set_option maxHeartbeats 8000000 in
theorem s_oldName (l : Launch) (Γ : GC) (S : PS) {t : Nat} (F : isL lyTeller Γ.2.2.2.2.1 S t) (x : Int32) : CT l Γ yX9_oldName cX9_oldName 3 (some .int) (2) (0) (0) [.ref t, .int x] S (RI (fun r S' => FZ [] [(t, 3), (t, 4)] S S')) := by
  refine CT.of RX9 "oldName" [some (.ref t), some (.int x), none] (by decide +kernel) rfl rfl (Nat.le_of_ble_eq_true rfl) rfl (fun M hM => ?_)
  subst hM
  have J3 : ∀ (S1 : PS) (x4 : Int32), FZ [] [(t, 3), (t, 4)] S S1 → V M Γ (3, RX9, "oldName", (some .int), RM (2) (0) (0)) cX9_oldName (RQ M Γ (RI (fun r S' => FZ [] [(t, 3), (t, 4)] S S')) (0) (0)) 0 0 S1 27 [some (.ref t), some (.int x), some (.int x4)] [] := by
    intro S1 x4 h2
    refine V_iload_2 27 dX9_oldName_27 ?_
    refine V_iret 28 .int dX9_oldName_28 rfl rfl (Nat.le_of_ble_eq_true rfl) (Nat.le_of_ble_eq_true rfl) (RI.mk h2)
  refine V_aload_0 0 dX9_oldName_0 ?_
  refine V_getR 1 (c := 9) 2 (F.r 0 2 12 rfl) dX9_oldName_1 fl_RX9_26 (F.m 0 (Nat.le_of_ble_eq_true rfl)) (F.k 0 9 rfl) (Nat.le_of_ble_eq_true rfl) (Nat.le_of_ble_eq_true rfl) rfl ?_
  refine V_aload_0 4 dX9_oldName_4 ?_
  refine V_getR 5 (c := 9) 1 (F.r 0 1 2 rfl) dX9_oldName_5 fl_RX9_22 (F.m 0 (Nat.le_of_ble_eq_true rfl)) (F.k 0 9 rfl) (Nat.le_of_ble_eq_true rfl) (Nat.le_of_ble_eq_true rfl) rfl ?_
  refine V_iload_1 8 dX9_oldName_8 ?_
  refine V_callV 9 (ci := 8) [.int _] _ (s_valueAt M.2.1 Γ S (F.sub 2 lyTape rfl (by decide)) _) dX9_oldName_9 cb_X8_valueAt ml_RX9_115 im_yX8_valueAt se_yX8_valueAt (F.m 2 (Nat.le_of_ble_eq_true rfl)) (F.k 2 8 rfl) (Nat.le_of_ble_eq_true rfl) ⟨(Nat.le_of_ble_eq_true rfl), (Nat.le_of_ble_eq_true rfl)⟩ rfl rfl (Nat.le_of_ble_eq_true rfl) ⟨(Nat.le_of_ble_eq_true rfl), (Nat.le_of_ble_eq_true rfl)⟩ (RLg.go (fun r7 S5 q6 => ?_))
  have h8 : FZ [] [(t, 3), (t, 4)] S S5 := (FZ.rf (X := []) (Y := [(t, 3), (t, 4)]) (S := S)).tr (q6.sub (by simp) (by simp))
  refine V_callV 12 (ci := 10) [.long _] _ (s_X10_find M.2.1 Γ S5 ((F.ss h8.1).sub 12 lyText rfl (by decide)) _) dX9_oldName_12 cb_X10_find ml_RX9_150 im_yX10_find se_yX10_find ((F.ss h8.1).m 12 (Nat.le_of_ble_eq_true rfl)) ((F.ss h8.1).k 12 10 rfl) (Nat.le_of_ble_eq_true rfl) ⟨(Nat.le_of_ble_eq_true rfl), (Nat.le_of_ble_eq_true rfl)⟩ rfl rfl (Nat.le_of_ble_eq_true rfl) ⟨(Nat.le_of_ble_eq_true rfl), (Nat.le_of_ble_eq_true rfl)⟩ (RI.go (fun r11 S9 q10 => ?_))
  have h12 : FZ [] [(t, 3), (t, 4)] S S9 := h8.tr (q10.sub (by simp) (by simp))
  refine V_istore_2 15 dX9_oldName_15 rfl (Nat.le_of_ble_eq_true rfl) ?_
  refine V_iload_2 16 dX9_oldName_16 ?_
  refine V_iconst 17 (-1) dX9_oldName_17 (by decide) ?_
  refine V_icmp_ne 18 27 dX9_oldName_18 (by decide) (fun c13 => ?_) (fun c13 => ?_)
  ·
    refine V_lvw (by repeat (first | exact trivial | refine ⟨rfl, ?_⟩)) (J3 _ _ h12)
  ·
    refine V_aload_0 21 dX9_oldName_21 ?_
    refine V_iconst 22 (4) dX9_oldName_22 (by decide) ?_
    refine V_iload_1 23 dX9_oldName_23 ?_
    refine V_callV 24 (ci := 9) [.int _, .int _] _ (s_tfail M.2.1 Γ S9 (F.ss h12.1) _ _) dX9_oldName_24 cb_X9_fail ml_RX9_105 im_yX9_fail se_yX9_fail ((F.ss h12.1).m 0 (Nat.le_of_ble_eq_true rfl)) ((F.ss h12.1).k 0 9 rfl) (Nat.le_of_ble_eq_true rfl) ⟨(Nat.le_of_ble_eq_true rfl), (Nat.le_of_ble_eq_true rfl)⟩ rfl rfl (Nat.le_of_ble_eq_true rfl) ⟨(Nat.le_of_ble_eq_true rfl), (Nat.le_of_ble_eq_true rfl)⟩ (RV.go (fun S15 q16 => ?_))
    have h18 : FZ [] [(t, 3), (t, 4)] S S15 := h12.tr (q16.sub (by simp) (by simp))
    refine V_lvw (by repeat (first | exact trivial | refine ⟨rfl, ?_⟩)) (J3 _ _ h18)

