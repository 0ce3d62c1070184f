/-! Odds.pairUp from any ints -/
set_option maxRecDepth 100000 in
set_option maxHeartbeats 8000000 in
theorem s_pairUp (l : Launch) (Γ : GC) (S : PS) {o t a : Nat} (F : isL lyOdds Γ.2.2.2.2.1 S o) (ha : a ∈ PL Γ.2.2.2.2.1 S) (hk : sK S a = 14) (hl : sL S a = 8) (Ft : isL lyText Γ.2.2.2.2.1 S t) : CT l Γ yX4_pairUp cX4_pairUp 4 none (5) (0) (0) [.ref o, .ref a, .ref t] S (RV (fun S' => FZ [o + 2, o + 3, o + 4, o + 5] [(o + 1, 3), (o, 2), (o, 3)] S S')) := by
  refine CT.of RX4 "pairUp" [some (.ref o), some (.ref a), some (.ref t), none] (by decide +kernel) rfl rfl (Nat.le_of_ble_eq_true rfl) rfl (fun M hM => ?_)
  subst hM
  have J3 : ∀ (S1 : PS) (x4 : Int32), FZ [o + 2, o + 3, o + 4, o + 5] [(o + 1, 3), (o, 2), (o, 3)] S S1 → V M Γ (4, RX4, "pairUp", none, RM (5) (0) (0)) cX4_pairUp (RQ M Γ (RV (fun S' => FZ [o + 2, o + 3, o + 4, o + 5] [(o + 1, 3), (o, 2), (o, 3)] S S')) (0) (0)) 0 0 S1 62 [some (.ref o), some (.ref a), some (.ref t), some (.int x4)] [] := by
    intro S1 x4 h2
    refine V_aload_0 62 dX4_pairUp_62 ?_
    refine V_getR 63 (c := 4) 1 ((F.ss h2.1).r 0 1 5 rfl) dX4_pairUp_63 fl_RX4_18 ((F.ss h2.1).m 0 (Nat.le_of_ble_eq_true rfl)) ((F.ss h2.1).k 0 4 rfl) (Nat.le_of_ble_eq_true rfl) (Nat.le_of_ble_eq_true rfl) rfl ?_
    refine V_aload_0 66 dX4_pairUp_66 ?_
    refine V_getR 67 (c := 4) 0 ((F.ss h2.1).r 0 0 1 rfl) dX4_pairUp_67 fl_RX4_12 ((F.ss h2.1).m 0 (Nat.le_of_ble_eq_true rfl)) ((F.ss h2.1).k 0 4 rfl) (Nat.le_of_ble_eq_true rfl) (Nat.le_of_ble_eq_true rfl) rfl ?_
    refine V_getI 70 (c := 1) 3 dX4_pairUp_70 fl_RX4_26 ((F.ss h2.1).m 1 (Nat.le_of_ble_eq_true rfl)) ((F.ss h2.1).k 1 1 rfl) (Nat.le_of_ble_eq_true rfl) (Nat.le_of_ble_eq_true rfl) rfl ?_
    refine V_iconst 73 (1) dX4_pairUp_73 (by decide) ?_
    refine V_isub 74 dX4_pairUp_74 ?_
    refine V_callSN 75 [.ref _, .int _] _ (c_at M.2.1 Γ S1 (a := (o + 5)) ((F.ss h2.1).m 5 (Nat.le_of_ble_eq_true rfl)) ((F.ss h2.1).k 5 14 rfl) (by rw [((F.ss h2.1).l 5 1024 rfl)]; decide) _) dX4_pairUp_75 cb_X11_at ne_RX4_37 sm_yX11_at ⟨(Nat.le_of_ble_eq_true rfl), (Nat.le_of_ble_eq_true rfl)⟩ rfl rfl (Nat.le_of_ble_eq_true rfl) ⟨(Nat.le_of_ble_eq_true rfl), (Nat.le_of_ble_eq_true rfl)⟩ (RI.go (fun r7 S5 q6 => ?_))
    rw [q6.2]
    refine V_istore_3 78 dX4_pairUp_78 rfl (Nat.le_of_ble_eq_true rfl) ?_
    refine V_aload_0 79 dX4_pairUp_79 ?_
    refine V_iload_3 80 dX4_pairUp_80 ?_
    refine V_sipush 81 (10000) dX4_pairUp_81 (by decide) ?_
    refine V_iadd 84 dX4_pairUp_84 ?_
    refine V_iconst 85 (1) dX4_pairUp_85 (by decide) ?_
    refine V_isub 86 dX4_pairUp_86 ?_
    refine V_sipush 87 (10000) dX4_pairUp_87 (by decide) ?_
    refine V_idiv 90 dX4_pairUp_90 (by decide) ?_
    refine V_putI 91 (c := 4) 2 dX4_pairUp_91 fl_RX4_41 ((F.ss h2.1).m 0 (Nat.le_of_ble_eq_true rfl)) ((F.ss h2.1).k 0 4 rfl) (Nat.le_of_ble_eq_true rfl) (Nat.le_of_ble_eq_true rfl) rfl (Or.inl rfl) ?_
    refine V_abs (FZ [o + 2, o + 3, o + 4, o + 5] [(o + 1, 3), (o, 2), (o, 3)] S) (h2.uI (by simp)) (fun S8 h9 => ?_)
    refine V_aload_0 94 dX4_pairUp_94 ?_
    refine V_aload_0 95 dX4_pairUp_95 ?_
    refine V_getI 96 (c := 4) 2 dX4_pairUp_96 fl_RX4_41 ((F.ss h9.1).m 0 (Nat.le_of_ble_eq_true rfl)) ((F.ss h9.1).k 0 4 rfl) (Nat.le_of_ble_eq_true rfl) (Nat.le_of_ble_eq_true rfl) rfl ?_
    refine V_sipush 99 (10000) dX4_pairUp_99 (by decide) ?_
    refine V_imul 102 dX4_pairUp_102 ?_
    refine V_iload_3 103 dX4_pairUp_103 ?_
    refine V_isub 104 dX4_pairUp_104 ?_
    refine V_putI 105 (c := 4) 3 dX4_pairUp_105 fl_RX4_44 ((F.ss h9.1).m 0 (Nat.le_of_ble_eq_true rfl)) ((F.ss h9.1).k 0 4 rfl) (Nat.le_of_ble_eq_true rfl) (Nat.le_of_ble_eq_true rfl) rfl (Or.inl rfl) ?_
    refine V_abs (FZ [o + 2, o + 3, o + 4, o + 5] [(o + 1, 3), (o, 2), (o, 3)] S) (h9.uI (by simp)) (fun S10 h11 => ?_)
    refine V_vret 108 dX4_pairUp_108 rfl (Nat.le_of_ble_eq_true rfl) (Nat.le_of_ble_eq_true rfl) (RV.mk h11)
  refine V_aload_0 0 dX4_pairUp_0 ?_
  refine V_getR 1 (c := 4) 0 (F.r 0 0 1 rfl) dX4_pairUp_1 fl_RX4_12 (F.m 0 (Nat.le_of_ble_eq_true rfl)) (F.k 0 4 rfl) (Nat.le_of_ble_eq_true rfl) (Nat.le_of_ble_eq_true rfl) rfl ?_
  refine V_aload_1 4 dX4_pairUp_4 ?_
  refine V_callV 5 (ci := 1) [.ref _] _ (s_X1_begin M.2.1 Γ S (F.sub 1 lyGrid rfl (by decide)) (PL_ss SSm.rf ha) (by rw [SSm.rf.2.1]; exact hk) (by rw [SSm.rf.2.2.2.1, hl])) dX4_pairUp_5 cb_X1_begin ml_RX4_22 im_yX1_begin se_yX1_begin (F.m 1 (Nat.le_of_ble_eq_true rfl)) (F.k 1 1 rfl) (Nat.le_of_ble_eq_true rfl) ⟨(Nat.le_of_ble_eq_true rfl), (Nat.le_of_ble_eq_true rfl)⟩ rfl rfl (Nat.le_of_ble_eq_true rfl) ⟨(Nat.le_of_ble_eq_true rfl), (Nat.le_of_ble_eq_true rfl)⟩ (RV.go (fun S12 q13 => ?_))
  have h15 : FZ [o + 2, o + 3, o + 4, o + 5] [(o + 1, 3), (o, 2), (o, 3)] S S12 := (FZ.rf (X := [o + 2, o + 3, o + 4, o + 5]) (Y := [(o + 1, 3), (o, 2), (o, 3)]) (S := S)).tr (q13.sub (by simp) (by simp))
  refine V_aload_0 8 dX4_pairUp_8 ?_
  refine V_getR 9 (c := 4) 1 ((F.ss h15.1).r 0 1 5 rfl) dX4_pairUp_9 fl_RX4_18 ((F.ss h15.1).m 0 (Nat.le_of_ble_eq_true rfl)) ((F.ss h15.1).k 0 4 rfl) (Nat.le_of_ble_eq_true rfl) (Nat.le_of_ble_eq_true rfl) rfl ?_
  refine V_iconst 12 (0) dX4_pairUp_12 (by decide) ?_
  refine V_iconst 13 (0) dX4_pairUp_13 (by decide) ?_
  refine V_iastore2 14 dX4_pairUp_14 ((F.ss h15.1).m 5 (Nat.le_of_ble_eq_true rfl)) ((F.ss h15.1).k 5 14 rfl) ((F.ss h15.1).l 5 1024 rfl) ?_ ?_
  · exact (by unfold vp_in; decide)
  refine V_abs (FZ [o + 2, o + 3, o + 4, o + 5] [(o + 1, 3), (o, 2), (o, 3)] S) (h15.uA (by simp)) (fun S16 h17 => ?_)
  refine V_iconst 15 (1) dX4_pairUp_15 (by decide) ?_
  refine V_istore_3 16 dX4_pairUp_16 rfl (Nat.le_of_ble_eq_true rfl) ?_
  refine V_lvw (by repeat (first | exact trivial | refine ⟨rfl, ?_⟩)) (V_while (α := Nat × PS) (fun z18 => 1024 - z18.1) (fun z18 => z18.1 ≤ 1024 ∧ FZ [o + 2, o + 3, o + 4, o + 5] [(o + 1, 3), (o, 2), (o, 3)] S z18.2) (fun z18 => z18.2) (fun z18 => [some (.ref o), some (.ref a), some (.ref t), some (.int (nI z18.1))]) (1, _) ⟨(by dsimp only; omega), h17⟩ (fun z18 hx24 ih23 => ?b25))
  obtain ⟨i19, S20⟩ := z18
  obtain ⟨hi21, h22⟩ := hx24
  dsimp only at hi21 h22 ih23 ⊢
  refine V_iload_3 17 dX4_pairUp_17 ?_
  refine V_aload_0 18 dX4_pairUp_18 ?_
  refine V_getR 19 (c := 4) 0 ((F.ss h22.1).r 0 0 1 rfl) dX4_pairUp_19 fl_RX4_12 ((F.ss h22.1).m 0 (Nat.le_of_ble_eq_true rfl)) ((F.ss h22.1).k 0 4 rfl) (Nat.le_of_ble_eq_true rfl) (Nat.le_of_ble_eq_true rfl) rfl ?_
  refine V_getI 22 (c := 1) 3 dX4_pairUp_22 fl_RX4_26 ((F.ss h22.1).m 1 (Nat.le_of_ble_eq_true rfl)) ((F.ss h22.1).k 1 1 rfl) (Nat.le_of_ble_eq_true rfl) (Nat.le_of_ble_eq_true rfl) rfl ?_
  refine V_icmp_ge 25 62 dX4_pairUp_25 (by decide) (fun c27 => ?_) (fun c27 => ?_)
  ·
    refine V_lvw (by repeat (first | exact trivial | refine ⟨rfl, ?_⟩)) (J3 _ _ h22)
  ·
    refine V_iload_3 28 dX4_pairUp_28 ?_
    refine V_aload_0 29 dX4_pairUp_29 ?_
    refine V_getR 30 (c := 4) 1 ((F.ss h22.1).r 0 1 5 rfl) dX4_pairUp_30 fl_RX4_18 ((F.ss h22.1).m 0 (Nat.le_of_ble_eq_true rfl)) ((F.ss h22.1).k 0 4 rfl) (Nat.le_of_ble_eq_true rfl) (Nat.le_of_ble_eq_true rfl) rfl ?_
    refine V_alen2 33 dX4_pairUp_33 ((F.ss h22.1).m 5 (Nat.le_of_ble_eq_true rfl)) ((F.ss h22.1).k 5 14 rfl) (Nat.le_of_ble_eq_true rfl) (Nat.le_of_ble_eq_true rfl) ((F.ss h22.1).l 5 1024 rfl) ?_
    refine V_icmp_ge 34 62 dX4_pairUp_34 (by decide) (fun c29 => ?_) (fun c29 => ?_)
    ·
      refine V_lvw (by repeat (first | exact trivial | refine ⟨rfl, ?_⟩)) (J3 _ _ h22)
    ·
      have lt31 := nI_lt8 (by decide) hi21 c29
      refine V_aload_0 37 dX4_pairUp_37 ?_
      refine V_getR 38 (c := 4) 0 ((F.ss h22.1).r 0 0 1 rfl) dX4_pairUp_38 fl_RX4_12 ((F.ss h22.1).m 0 (Nat.le_of_ble_eq_true rfl)) ((F.ss h22.1).k 0 4 rfl) (Nat.le_of_ble_eq_true rfl) (Nat.le_of_ble_eq_true rfl) rfl ?_
      refine V_callV 41 (ci := 1) [] _ (s_X1_step M.2.1 Γ S20 ((F.ss h22.1).sub 1 lyGrid rfl (by decide))) dX4_pairUp_41 cb_X1_step ml_RX4_30 im_yX1_step se_yX1_step ((F.ss h22.1).m 1 (Nat.le_of_ble_eq_true rfl)) ((F.ss h22.1).k 1 1 rfl) (Nat.le_of_ble_eq_true rfl) ⟨(Nat.le_of_ble_eq_true rfl), (Nat.le_of_ble_eq_true rfl)⟩ rfl rfl (Nat.le_of_ble_eq_true rfl) ⟨(Nat.le_of_ble_eq_true rfl), (Nat.le_of_ble_eq_true rfl)⟩ (RV.go (fun S32 q33 => ?_))
      have h35 : FZ [o + 2, o + 3, o + 4, o + 5] [(o + 1, 3), (o, 2), (o, 3)] S S32 := h22.tr (q33.sub (by simp) (by simp))
      refine V_aload_0 44 dX4_pairUp_44 ?_
      refine V_getR 45 (c := 4) 1 ((F.ss h35.1).r 0 1 5 rfl) dX4_pairUp_45 fl_RX4_18 ((F.ss h35.1).m 0 (Nat.le_of_ble_eq_true rfl)) ((F.ss h35.1).k 0 4 rfl) (Nat.le_of_ble_eq_true rfl) (Nat.le_of_ble_eq_true rfl) rfl ?_
      refine V_iload_3 48 dX4_pairUp_48 ?_
      refine V_aload_0 49 dX4_pairUp_49 ?_
      refine V_iload_3 50 dX4_pairUp_50 ?_
      refine V_aload_2 51 dX4_pairUp_51 ?_
      refine V_callV 52 (ci := 4) [.int _, .ref _] _ (s_bestWorth M.2.1 Γ S32 (F.ss h35.1) (Ft.ss h35.1) _) dX4_pairUp_52 cb_X4_bestWorth ml_RX4_33 im_yX4_bestWorth se_yX4_bestWorth ((F.ss h35.1).m 0 (Nat.le_of_ble_eq_true rfl)) ((F.ss h35.1).k 0 4 rfl) (Nat.le_of_ble_eq_true rfl) ⟨(Nat.le_of_ble_eq_true rfl), (Nat.le_of_ble_eq_true rfl)⟩ rfl rfl (Nat.le_of_ble_eq_true rfl) ⟨(Nat.le_of_ble_eq_true rfl), (Nat.le_of_ble_eq_true rfl)⟩ (RI.go (fun r38 S36 q37 => ?_))
      have h39 : FZ [o + 2, o + 3, o + 4, o + 5] [(o + 1, 3), (o, 2), (o, 3)] S S36 := h35.tr (q37.sub (by simp) (by simp))
      refine V_iastore2 55 dX4_pairUp_55 ((F.ss h39.1).m 5 (Nat.le_of_ble_eq_true rfl)) ((F.ss h39.1).k 5 14 rfl) ((F.ss h39.1).l 5 1024 rfl) ?_ ?_
      · exact vp_in_nI (by omega) (by decide)
      refine V_abs (FZ [o + 2, o + 3, o + 4, o + 5] [(o + 1, 3), (o, 2), (o, 3)] S) (h39.uA (by simp)) (fun S40 h41 => ?_)
      refine V_iinc_3 56 (1) dX4_pairUp_56 (by decide) rfl (Nat.le_of_ble_eq_true rfl) ?_
      refine V_goto 59 17 dX4_pairUp_59 (by decide) ?_
      rw [← nI_succ]
      refine V_lvw (by repeat (first | exact trivial | refine ⟨rfl, ?_⟩)) (ih23 (i19 + 1, _) ⟨by dsimp only; omega, h41⟩ (by dsimp only; omega))

