/-! State's begin and become from any ints: the frame -/
set_option maxRecDepth 100000 in
set_option maxHeartbeats 8000000 in
theorem s_stbegin (l : Launch) (Γ : GC) (S : PS) {s t : Nat} (F : isL lyState Γ.2.2.2.2.1 S s) (Ft : isL lyText Γ.2.2.2.2.1 S t) : CT l Γ yX7_begin cX7_begin 3 none (1) (0) (0) [.ref s, .ref t] S (RV (fun S' => FZ [s + 1, s + 2, s + 3] [(s, 3), (s, 4)] S S')) := by
  refine CT.of RX7 "begin" [some (.ref s), some (.ref t), none] (by decide +kernel) rfl rfl (Nat.le_of_ble_eq_true rfl) rfl (fun M hM => ?_)
  subst hM
  refine V_aload_1 0 dX7_begin_0 ?_
  refine V_getR 1 (c := 10) 2 (Ft.r 0 2 1 rfl) dX7_begin_1 fl_RX7_21 (Ft.m 0 (Nat.le_of_ble_eq_true rfl)) (Ft.k 0 10 rfl) (Nat.le_of_ble_eq_true rfl) (Nat.le_of_ble_eq_true rfl) rfl ?_
  refine V_aload_0 4 dX7_begin_4 ?_
  refine V_getR 5 (c := 7) 0 (F.r 0 0 1 rfl) dX7_begin_5 fl_RX7_9 (F.m 0 (Nat.le_of_ble_eq_true rfl)) (F.k 0 7 rfl) (Nat.le_of_ble_eq_true rfl) (Nat.le_of_ble_eq_true rfl) rfl ?_
  refine V_callSN 8 [.ref _, .ref _] _ (c_copyRow M.2.1 Γ S (a := (t + 1)) (b := (s + 1)) (Ft.m 1 (Nat.le_of_ble_eq_true rfl)) (Ft.k 1 14 rfl) (by rw [(Ft.l 1 8 rfl)]; decide) (F.m 1 (Nat.le_of_ble_eq_true rfl)) (F.k 1 14 rfl) (((F.l 1 8 rfl)).trans ((Ft.l 1 8 rfl)).symm)) dX7_begin_8 cb_X11_copyRow ne_RX7_26 sm_yX11_copyRow ⟨(Nat.le_of_ble_eq_true rfl), (Nat.le_of_ble_eq_true rfl)⟩ rfl rfl (Nat.le_of_ble_eq_true rfl) ⟨(Nat.le_of_ble_eq_true rfl), (Nat.le_of_ble_eq_true rfl)⟩ (RV.go (fun S1 q2 => ?_))
  have h4 : FZ [s + 1, s + 2, s + 3] [(s, 3), (s, 4)] S S1 := (FZ.rf (X := [s + 1, s + 2, s + 3]) (Y := [(s, 3), (s, 4)]) (S := S)).tr ((fr_cpy q2).sub (by simp) (by simp))
  refine V_iconst 11 (0) dX7_begin_11 (by decide) ?_
  refine V_istore_2 12 dX7_begin_12 rfl (Nat.le_of_ble_eq_true rfl) ?_
  refine V_lvw (by repeat (first | exact trivial | refine ⟨rfl, ?_⟩)) (V_while (α := Nat × PS) (fun z5 => 8 - z5.1) (fun z5 => z5.1 ≤ 8 ∧ FZ [s + 1, s + 2, s + 3] [(s, 3), (s, 4)] S z5.2) (fun z5 => z5.2) (fun z5 => [some (.ref s), some (.ref t), some (.int (nI z5.1))]) (0, _) ⟨Nat.zero_le _, h4⟩ (fun z5 hx11 ih10 => ?b12))
  obtain ⟨i6, S7⟩ := z5
  obtain ⟨hi8, h9⟩ := hx11
  dsimp only at hi8 h9 ih10 ⊢
  refine V_iload_2 13 dX7_begin_13 ?_
  refine V_bipush 14 (8) dX7_begin_14 (by decide) ?_
  refine V_icmp_ge 16 39 dX7_begin_16 (by decide) (fun c14 => ?_) (fun c14 => ?_)
  ·
    refine V_aload_0 39 dX7_begin_39 ?_
    refine V_iconst 40 (0) dX7_begin_40 (by decide) ?_
    refine V_putI 41 (c := 7) 3 dX7_begin_41 fl_RX7_30 ((F.ss h9.1).m 0 (Nat.le_of_ble_eq_true rfl)) ((F.ss h9.1).k 0 7 rfl) (Nat.le_of_ble_eq_true rfl) (Nat.le_of_ble_eq_true rfl) rfl (Or.inl rfl) ?_
    refine V_abs (FZ [s + 1, s + 2, s + 3] [(s, 3), (s, 4)] S) (h9.uI (by simp)) (fun S15 h16 => ?_)
    refine V_aload_0 44 dX7_begin_44 ?_
    refine V_iconst 45 (0) dX7_begin_45 (by decide) ?_
    refine V_putI 46 (c := 7) 4 dX7_begin_46 fl_RX7_34 ((F.ss h16.1).m 0 (Nat.le_of_ble_eq_true rfl)) ((F.ss h16.1).k 0 7 rfl) (Nat.le_of_ble_eq_true rfl) (Nat.le_of_ble_eq_true rfl) rfl (Or.inr ⟨rfl, (Or.inl rfl)⟩) ?_
    refine V_abs (FZ [s + 1, s + 2, s + 3] [(s, 3), (s, 4)] S) (h16.uI (by simp)) (fun S17 h18 => ?_)
    refine V_vret 49 dX7_begin_49 rfl (Nat.le_of_ble_eq_true rfl) (Nat.le_of_ble_eq_true rfl) (RV.mk h18)
  ·
    have lt19 := nI_lt8 (by decide) hi8 c14
    refine V_aload_0 19 dX7_begin_19 ?_
    refine V_getR 20 (c := 7) 1 ((F.ss h9.1).r 0 1 2 rfl) dX7_begin_20 fl_RX7_15 ((F.ss h9.1).m 0 (Nat.le_of_ble_eq_true rfl)) ((F.ss h9.1).k 0 7 rfl) (Nat.le_of_ble_eq_true rfl) (Nat.le_of_ble_eq_true rfl) rfl ?_
    refine V_iload_2 23 dX7_begin_23 ?_
    refine V_iconst 24 (0) dX7_begin_24 (by decide) ?_
    refine V_iastore2 25 dX7_begin_25 ((F.ss h9.1).m 2 (Nat.le_of_ble_eq_true rfl)) ((F.ss h9.1).k 2 14 rfl) ((F.ss h9.1).l 2 8 rfl) ?_ ?_
    · exact vp_in_nI (by omega) (by decide)
    refine V_abs (FZ [s + 1, s + 2, s + 3] [(s, 3), (s, 4)] S) (h9.uA (by simp)) (fun S20 h21 => ?_)
    refine V_aload_0 26 dX7_begin_26 ?_
    refine V_getR 27 (c := 7) 2 ((F.ss h21.1).r 0 2 3 rfl) dX7_begin_27 fl_RX7_18 ((F.ss h21.1).m 0 (Nat.le_of_ble_eq_true rfl)) ((F.ss h21.1).k 0 7 rfl) (Nat.le_of_ble_eq_true rfl) (Nat.le_of_ble_eq_true rfl) rfl ?_
    refine V_iload_2 30 dX7_begin_30 ?_
    refine V_iconst 31 (0) dX7_begin_31 (by decide) ?_
    refine V_iastore2 32 dX7_begin_32 ((F.ss h21.1).m 3 (Nat.le_of_ble_eq_true rfl)) ((F.ss h21.1).k 3 14 rfl) ((F.ss h21.1).l 3 8 rfl) ?_ ?_
    · exact vp_in_nI (by omega) (by decide)
    refine V_abs (FZ [s + 1, s + 2, s + 3] [(s, 3), (s, 4)] S) (h21.uA (by simp)) (fun S22 h23 => ?_)
    refine V_iinc_2 33 (1) dX7_begin_33 (by decide) rfl (Nat.le_of_ble_eq_true rfl) ?_
    refine V_goto 36 13 dX7_begin_36 (by decide) ?_
    rw [← nI_succ]
    refine V_lvw (by repeat (first | exact trivial | refine ⟨rfl, ?_⟩)) (ih10 (i6 + 1, _) ⟨by dsimp only; omega, h23⟩ (by dsimp only; omega))
set_option maxRecDepth 100000 in
set_option maxHeartbeats 8000000 in
theorem s_stbecome (l : Launch) (Γ : GC) (S : PS) {s t : Nat} (F : isL lyState Γ.2.2.2.2.1 S s) (Ft : isL lyState Γ.2.2.2.2.1 S t) (hn : t ≠ s) (hb : sI S t 4 = 0 ∨ sI S t 4 = 1) : CT l Γ yX7_become cX7_become 2 none (1) (0) (0) [.ref s, .ref t] S (RV (fun S' => FZ [s + 1, s + 2, s + 3] [(s, 3), (s, 4)] S S')) := by
  refine CT.of RX7 "become" [some (.ref s), some (.ref t)] (by decide +kernel) rfl rfl (Nat.le_of_ble_eq_true rfl) rfl (fun M hM => ?_)
  subst hM
  refine V_aload_1 0 dX7_become_0 ?_
  refine V_getR 1 (c := 7) 0 (Ft.r 0 0 1 rfl) dX7_become_1 fl_RX7_9 (Ft.m 0 (Nat.le_of_ble_eq_true rfl)) (Ft.k 0 7 rfl) (Nat.le_of_ble_eq_true rfl) (Nat.le_of_ble_eq_true rfl) rfl ?_
  refine V_aload_0 4 dX7_become_4 ?_
  refine V_getR 5 (c := 7) 0 (F.r 0 0 1 rfl) dX7_become_5 fl_RX7_9 (F.m 0 (Nat.le_of_ble_eq_true rfl)) (F.k 0 7 rfl) (Nat.le_of_ble_eq_true rfl) (Nat.le_of_ble_eq_true rfl) rfl ?_
  refine V_callSN 8 [.ref _, .ref _] _ (c_copyRow M.2.1 Γ S (a := (t + 1)) (b := (s + 1)) (Ft.m 1 (Nat.le_of_ble_eq_true rfl)) (Ft.k 1 14 rfl) (by rw [(Ft.l 1 8 rfl)]; decide) (F.m 1 (Nat.le_of_ble_eq_true rfl)) (F.k 1 14 rfl) (((F.l 1 8 rfl)).trans ((Ft.l 1 8 rfl)).symm)) dX7_become_8 cb_X11_copyRow ne_RX7_26 sm_yX11_copyRow ⟨(Nat.le_of_ble_eq_true rfl), (Nat.le_of_ble_eq_true rfl)⟩ rfl rfl (Nat.le_of_ble_eq_true rfl) ⟨(Nat.le_of_ble_eq_true rfl), (Nat.le_of_ble_eq_true rfl)⟩ (RV.go (fun S1 q2 => ?_))
  have h4 : FZ [s + 1, s + 2, s + 3] [(s, 3), (s, 4)] S S1 := (FZ.rf (X := [s + 1, s + 2, s + 3]) (Y := [(s, 3), (s, 4)]) (S := S)).tr ((fr_cpy q2).sub (by simp) (by simp))
  refine V_aload_1 11 dX7_become_11 ?_
  refine V_getR 12 (c := 7) 1 ((Ft.ss h4.1).r 0 1 2 rfl) dX7_become_12 fl_RX7_15 ((Ft.ss h4.1).m 0 (Nat.le_of_ble_eq_true rfl)) ((Ft.ss h4.1).k 0 7 rfl) (Nat.le_of_ble_eq_true rfl) (Nat.le_of_ble_eq_true rfl) rfl ?_
  refine V_aload_0 15 dX7_become_15 ?_
  refine V_getR 16 (c := 7) 1 ((F.ss h4.1).r 0 1 2 rfl) dX7_become_16 fl_RX7_15 ((F.ss h4.1).m 0 (Nat.le_of_ble_eq_true rfl)) ((F.ss h4.1).k 0 7 rfl) (Nat.le_of_ble_eq_true rfl) (Nat.le_of_ble_eq_true rfl) rfl ?_
  refine V_callSN 19 [.ref _, .ref _] _ (c_copyRow M.2.1 Γ S1 (a := (t + 2)) (b := (s + 2)) ((Ft.ss h4.1).m 2 (Nat.le_of_ble_eq_true rfl)) ((Ft.ss h4.1).k 2 14 rfl) (by rw [((Ft.ss h4.1).l 2 8 rfl)]; decide) ((F.ss h4.1).m 2 (Nat.le_of_ble_eq_true rfl)) ((F.ss h4.1).k 2 14 rfl) ((((F.ss h4.1).l 2 8 rfl)).trans (((Ft.ss h4.1).l 2 8 rfl)).symm)) dX7_become_19 cb_X11_copyRow ne_RX7_26 sm_yX11_copyRow ⟨(Nat.le_of_ble_eq_true rfl), (Nat.le_of_ble_eq_true rfl)⟩ rfl rfl (Nat.le_of_ble_eq_true rfl) ⟨(Nat.le_of_ble_eq_true rfl), (Nat.le_of_ble_eq_true rfl)⟩ (RV.go (fun S5 q6 => ?_))
  have h8 : FZ [s + 1, s + 2, s + 3] [(s, 3), (s, 4)] S S5 := h4.tr ((fr_cpy q6).sub (by simp) (by simp))
  refine V_aload_1 22 dX7_become_22 ?_
  refine V_getR 23 (c := 7) 2 ((Ft.ss h8.1).r 0 2 3 rfl) dX7_become_23 fl_RX7_18 ((Ft.ss h8.1).m 0 (Nat.le_of_ble_eq_true rfl)) ((Ft.ss h8.1).k 0 7 rfl) (Nat.le_of_ble_eq_true rfl) (Nat.le_of_ble_eq_true rfl) rfl ?_
  refine V_aload_0 26 dX7_become_26 ?_
  refine V_getR 27 (c := 7) 2 ((F.ss h8.1).r 0 2 3 rfl) dX7_become_27 fl_RX7_18 ((F.ss h8.1).m 0 (Nat.le_of_ble_eq_true rfl)) ((F.ss h8.1).k 0 7 rfl) (Nat.le_of_ble_eq_true rfl) (Nat.le_of_ble_eq_true rfl) rfl ?_
  refine V_callSN 30 [.ref _, .ref _] _ (c_copyRow M.2.1 Γ S5 (a := (t + 3)) (b := (s + 3)) ((Ft.ss h8.1).m 3 (Nat.le_of_ble_eq_true rfl)) ((Ft.ss h8.1).k 3 14 rfl) (by rw [((Ft.ss h8.1).l 3 8 rfl)]; decide) ((F.ss h8.1).m 3 (Nat.le_of_ble_eq_true rfl)) ((F.ss h8.1).k 3 14 rfl) ((((F.ss h8.1).l 3 8 rfl)).trans (((Ft.ss h8.1).l 3 8 rfl)).symm)) dX7_become_30 cb_X11_copyRow ne_RX7_26 sm_yX11_copyRow ⟨(Nat.le_of_ble_eq_true rfl), (Nat.le_of_ble_eq_true rfl)⟩ rfl rfl (Nat.le_of_ble_eq_true rfl) ⟨(Nat.le_of_ble_eq_true rfl), (Nat.le_of_ble_eq_true rfl)⟩ (RV.go (fun S9 q10 => ?_))
  have h12 : FZ [s + 1, s + 2, s + 3] [(s, 3), (s, 4)] S S9 := h8.tr ((fr_cpy q10).sub (by simp) (by simp))
  refine V_aload_0 33 dX7_become_33 ?_
  refine V_aload_1 34 dX7_become_34 ?_
  refine V_getI 35 (c := 7) 3 dX7_become_35 fl_RX7_30 ((Ft.ss h12.1).m 0 (Nat.le_of_ble_eq_true rfl)) ((Ft.ss h12.1).k 0 7 rfl) (Nat.le_of_ble_eq_true rfl) (Nat.le_of_ble_eq_true rfl) rfl ?_
  refine V_putI 38 (c := 7) 3 dX7_become_38 fl_RX7_30 ((F.ss h12.1).m 0 (Nat.le_of_ble_eq_true rfl)) ((F.ss h12.1).k 0 7 rfl) (Nat.le_of_ble_eq_true rfl) (Nat.le_of_ble_eq_true rfl) rfl (Or.inl rfl) ?_
  refine V_abs (FZ [s + 1, s + 2, s + 3] [(s, 3), (s, 4)] S) (h12.uI (by simp)) (fun S13 h14 => ?_)
  refine V_aload_0 41 dX7_become_41 ?_
  refine V_aload_1 42 dX7_become_42 ?_
  refine V_getI 43 (c := 7) 4 dX7_become_43 fl_RX7_34 ((Ft.ss h14.1).m 0 (Nat.le_of_ble_eq_true rfl)) ((Ft.ss h14.1).k 0 7 rfl) (Nat.le_of_ble_eq_true rfl) (Nat.le_of_ble_eq_true rfl) rfl ?_
  refine V_putI 46 (c := 7) 4 dX7_become_46 fl_RX7_34 ((F.ss h14.1).m 0 (Nat.le_of_ble_eq_true rfl)) ((F.ss h14.1).k 0 7 rfl) (Nat.le_of_ble_eq_true rfl) (Nat.le_of_ble_eq_true rfl) rfl (Or.inr ⟨rfl, (by rw [h14.2.2 t 4 (by simp [hn])]; exact hb)⟩) ?_
  refine V_abs (FZ [s + 1, s + 2, s + 3] [(s, 3), (s, 4)] S) (h14.uI (by simp)) (fun S15 h16 => ?_)
  refine V_vret 49 dX7_become_49 rfl (Nat.le_of_ble_eq_true rfl) (Nat.le_of_ble_eq_true rfl) (RV.mk h16)

