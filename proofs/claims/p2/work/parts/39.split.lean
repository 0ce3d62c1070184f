/-! Tape's splitOff and split from any ints -/
set_option maxRecDepth 100000 in
set_option maxHeartbeats 8000000 in
theorem s_splitOff (l : Launch) (Γ : GC) (S : PS) {t : Nat} (F : isL lyTape Γ.2.2.2.2.1 S t) (x : Int32) : CT l Γ yX8_splitOff cX8_splitOff 3 (some .int) (5) (0) (0) [.ref t, .int x] S (RI (fun r S' => FZ [t + 2, t + 4] [(t, 5)] S S')) := by
  refine CT.of RX8 "splitOff" [some (.ref t), some (.int x), none] (by decide +kernel) rfl rfl (Nat.le_of_ble_eq_true rfl) rfl (fun M hM => ?_)
  subst hM
  refine V_aload_0 0 dX8_splitOff_0 ?_
  refine V_getR 1 (c := 8) 0 (F.r 0 0 1 rfl) dX8_splitOff_1 fl_RX8_9 (F.m 0 (Nat.le_of_ble_eq_true rfl)) (F.k 0 8 rfl) (Nat.le_of_ble_eq_true rfl) (Nat.le_of_ble_eq_true rfl) rfl ?_
  refine V_iload_1 4 dX8_splitOff_4 ?_
  refine V_callSN 5 [.ref _, .int _] _ (c_at M.2.1 Γ S (a := (t + 1)) (F.m 1 (Nat.le_of_ble_eq_true rfl)) (F.k 1 14 rfl) (by rw [(F.l 1 2000 rfl)]; decide) _) dX8_splitOff_5 cb_X11_at ne_RX8_69 sm_yX11_at ⟨(Nat.le_of_ble_eq_true rfl), (Nat.le_of_ble_eq_true rfl)⟩ rfl rfl (Nat.le_of_ble_eq_true rfl) ⟨(Nat.le_of_ble_eq_true rfl), (Nat.le_of_ble_eq_true rfl)⟩ (RI.go (fun r3 S1 q2 => ?_))
  rw [q2.2]
  refine V_istore_2 8 dX8_splitOff_8 rfl (Nat.le_of_ble_eq_true rfl) ?_
  refine V_iload_2 9 dX8_splitOff_9 ?_
  refine V_callS 10 [.int _] _ (s_isLetter M.2.1 Γ S _) dX8_splitOff_10 cb_X8_isLetter ml_RX8_77 sm_yX8_isLetter ⟨(Nat.le_of_ble_eq_true rfl), (Nat.le_of_ble_eq_true rfl)⟩ rfl rfl (Nat.le_of_ble_eq_true rfl) ⟨(Nat.le_of_ble_eq_true rfl), (Nat.le_of_ble_eq_true rfl)⟩ (RI.go (fun r6 S4 q5 => ?_))
  have h7 : FZ [t + 2, t + 4] [(t, 5)] S S4 := (FZ.rf (X := [t + 2, t + 4]) (Y := [(t, 5)]) (S := S)).tr (q5.2.sub (by simp) (by simp))
  refine V_if_eq 13 22 dX8_splitOff_13 (by decide) (fun c8 => ?_) (fun c8 => ?_)
  ·
    refine V_iload_2 22 dX8_splitOff_22 ?_
    refine V_callS 23 [.int _] _ (s_isDigit M.2.1 Γ S4 _) dX8_splitOff_23 cb_X8_isDigit ml_RX8_83 sm_yX8_isDigit ⟨(Nat.le_of_ble_eq_true rfl), (Nat.le_of_ble_eq_true rfl)⟩ rfl rfl (Nat.le_of_ble_eq_true rfl) ⟨(Nat.le_of_ble_eq_true rfl), (Nat.le_of_ble_eq_true rfl)⟩ (RI.go (fun r11 S9 q10 => ?_))
    have h12 : FZ [t + 2, t + 4] [(t, 5)] S S9 := h7.tr (q10.2.sub (by simp) (by simp))
    refine V_if_eq 26 35 dX8_splitOff_26 (by decide) (fun c13 => ?_) (fun c13 => ?_)
    ·
      refine V_aload_0 35 dX8_splitOff_35 ?_
      refine V_iload_2 36 dX8_splitOff_36 ?_
      refine V_callS 37 [.int _] _ (s_isSign M.2.1 Γ S9 _) dX8_splitOff_37 cb_X8_isSign ml_RX8_89 sm_yX8_isSign ⟨(Nat.le_of_ble_eq_true rfl), (Nat.le_of_ble_eq_true rfl)⟩ rfl rfl (Nat.le_of_ble_eq_true rfl) ⟨(Nat.le_of_ble_eq_true rfl), (Nat.le_of_ble_eq_true rfl)⟩ (RI.go (fun r16 S14 q15 => ?_))
      have h17 : FZ [t + 2, t + 4] [(t, 5)] S S14 := h12.tr (q15.2.sub (by simp) (by simp))
      refine V_if_eq 40 47 dX8_splitOff_40 (by decide) (fun c18 => ?_) (fun c18 => ?_)
      ·
        refine V_iconst 47 (3) dX8_splitOff_47 (by decide) ?_
        refine V_lconst 48 0 dX8_splitOff_48 (by decide) ?_
        refine V_iload_1 49 dX8_splitOff_49 ?_
        refine V_callV 50 (ci := 8) [.int _, .long _, .int _] _ (s_addToken M.2.1 Γ S14 (F.ss h17.1) _ _ _) dX8_splitOff_50 cb_X8_addToken ml_RX8_61 im_yX8_addToken se_yX8_addToken ((F.ss h17.1).m 0 (Nat.le_of_ble_eq_true rfl)) ((F.ss h17.1).k 0 8 rfl) (Nat.le_of_ble_eq_true rfl) ⟨(Nat.le_of_ble_eq_true rfl), (Nat.le_of_ble_eq_true rfl)⟩ rfl rfl (Nat.le_of_ble_eq_true rfl) ⟨(Nat.le_of_ble_eq_true rfl), (Nat.le_of_ble_eq_true rfl)⟩ (RV.go (fun S19 q20 => ?_))
        have h22 : FZ [t + 2, t + 4] [(t, 5)] S S19 := h17.tr (q20.sub (by simp) (by simp))
        refine V_iload_1 53 dX8_splitOff_53 ?_
        refine V_iconst 54 (1) dX8_splitOff_54 (by decide) ?_
        refine V_iadd 55 dX8_splitOff_55 ?_
        refine V_iret 56 .int dX8_splitOff_56 rfl rfl (Nat.le_of_ble_eq_true rfl) (Nat.le_of_ble_eq_true rfl) (RI.mk h22)
      ·
        refine V_iload_2 43 dX8_splitOff_43 ?_
        refine V_goto 44 48 dX8_splitOff_44 (by decide) ?_
        refine V_lconst 48 0 dX8_splitOff_48 (by decide) ?_
        refine V_iload_1 49 dX8_splitOff_49 ?_
        refine V_callV 50 (ci := 8) [.int _, .long _, .int _] _ (s_addToken M.2.1 Γ S14 (F.ss h17.1) _ _ _) dX8_splitOff_50 cb_X8_addToken ml_RX8_61 im_yX8_addToken se_yX8_addToken ((F.ss h17.1).m 0 (Nat.le_of_ble_eq_true rfl)) ((F.ss h17.1).k 0 8 rfl) (Nat.le_of_ble_eq_true rfl) ⟨(Nat.le_of_ble_eq_true rfl), (Nat.le_of_ble_eq_true rfl)⟩ rfl rfl (Nat.le_of_ble_eq_true rfl) ⟨(Nat.le_of_ble_eq_true rfl), (Nat.le_of_ble_eq_true rfl)⟩ (RV.go (fun S23 q24 => ?_))
        have h26 : FZ [t + 2, t + 4] [(t, 5)] S S23 := h17.tr (q24.sub (by simp) (by simp))
        refine V_iload_1 53 dX8_splitOff_53 ?_
        refine V_iconst 54 (1) dX8_splitOff_54 (by decide) ?_
        refine V_iadd 55 dX8_splitOff_55 ?_
        refine V_iret 56 .int dX8_splitOff_56 rfl rfl (Nat.le_of_ble_eq_true rfl) (Nat.le_of_ble_eq_true rfl) (RI.mk h26)
    ·
      refine V_aload_0 29 dX8_splitOff_29 ?_
      refine V_iload_1 30 dX8_splitOff_30 ?_
      refine V_callV 31 (ci := 8) [.int _] _ (s_splitOffDigits M.2.1 Γ S9 (F.ss h12.1) _) dX8_splitOff_31 cb_X8_splitOffDigits ml_RX8_86 im_yX8_splitOffDigits se_yX8_splitOffDigits ((F.ss h12.1).m 0 (Nat.le_of_ble_eq_true rfl)) ((F.ss h12.1).k 0 8 rfl) (Nat.le_of_ble_eq_true rfl) ⟨(Nat.le_of_ble_eq_true rfl), (Nat.le_of_ble_eq_true rfl)⟩ rfl rfl (Nat.le_of_ble_eq_true rfl) ⟨(Nat.le_of_ble_eq_true rfl), (Nat.le_of_ble_eq_true rfl)⟩ (RI.go (fun r29 S27 q28 => ?_))
      have h30 : FZ [t + 2, t + 4] [(t, 5)] S S27 := h12.tr (q28.sub (by simp) (by simp))
      refine V_iret 34 .int dX8_splitOff_34 rfl rfl (Nat.le_of_ble_eq_true rfl) (Nat.le_of_ble_eq_true rfl) (RI.mk h30)
  ·
    refine V_aload_0 16 dX8_splitOff_16 ?_
    refine V_iload_1 17 dX8_splitOff_17 ?_
    refine V_callV 18 (ci := 8) [.int _] _ (s_splitOffLetters M.2.1 Γ S4 (F.ss h7.1) _) dX8_splitOff_18 cb_X8_splitOffLetters ml_RX8_80 im_yX8_splitOffLetters se_yX8_splitOffLetters ((F.ss h7.1).m 0 (Nat.le_of_ble_eq_true rfl)) ((F.ss h7.1).k 0 8 rfl) (Nat.le_of_ble_eq_true rfl) ⟨(Nat.le_of_ble_eq_true rfl), (Nat.le_of_ble_eq_true rfl)⟩ rfl rfl (Nat.le_of_ble_eq_true rfl) ⟨(Nat.le_of_ble_eq_true rfl), (Nat.le_of_ble_eq_true rfl)⟩ (RI.go (fun r33 S31 q32 => ?_))
    have h34 : FZ [t + 2, t + 4] [(t, 5)] S S31 := h7.tr (q32.sub (by simp) (by simp))
    refine V_iret 21 .int dX8_splitOff_21 rfl rfl (Nat.le_of_ble_eq_true rfl) (Nat.le_of_ble_eq_true rfl) (RI.mk h34)
set_option maxRecDepth 100000 in
set_option maxHeartbeats 8000000 in
theorem s_split (l : Launch) (Γ : GC) (S : PS) {t : Nat} (F : isL lyTape Γ.2.2.2.2.1 S t) : CT l Γ yX8_split cX8_split 3 none (6) (0) (0) [.ref t] S (RV (fun S' => FZ [t + 2, t + 4] [(t, 5)] S S')) := by
  refine CT.of RX8 "split" [some (.ref t), none, none] (by decide +kernel) rfl rfl (Nat.le_of_ble_eq_true rfl) rfl (fun M hM => ?_)
  subst hM
  have J3 : ∀ (S1 : PS) (x4 : Int32) (x5 : Int32), FZ [t + 2, t + 4] [(t, 5)] S S1 → V M Γ (3, RX8, "split", none, RM (6) (0) (0)) cX8_split (RQ M Γ (RV (fun S' => FZ [t + 2, t + 4] [(t, 5)] S S')) (0) (0)) 0 0 S1 44 [some (.ref t), some (.int x4), some (.int x5)] [] := by
    intro S1 x4 x5 h2
    refine V_aload_0 44 dX8_split_44 ?_
    refine V_iconst 45 (0) dX8_split_45 (by decide) ?_
    refine V_lconst 46 0 dX8_split_46 (by decide) ?_
    refine V_aload_0 47 dX8_split_47 ?_
    refine V_getI 48 (c := 8) 1 dX8_split_48 fl_RX8_44 ((F.ss h2.1).m 0 (Nat.le_of_ble_eq_true rfl)) ((F.ss h2.1).k 0 8 rfl) (Nat.le_of_ble_eq_true rfl) (Nat.le_of_ble_eq_true rfl) rfl ?_
    refine V_callV 51 (ci := 8) [.int _, .long _, .int _] _ (s_addToken M.2.1 Γ S1 (F.ss h2.1) _ _ _) dX8_split_51 cb_X8_addToken ml_RX8_61 im_yX8_addToken se_yX8_addToken ((F.ss h2.1).m 0 (Nat.le_of_ble_eq_true rfl)) ((F.ss h2.1).k 0 8 rfl) (Nat.le_of_ble_eq_true rfl) ⟨(Nat.le_of_ble_eq_true rfl), (Nat.le_of_ble_eq_true rfl)⟩ rfl rfl (Nat.le_of_ble_eq_true rfl) ⟨(Nat.le_of_ble_eq_true rfl), (Nat.le_of_ble_eq_true rfl)⟩ (RV.go (fun S6 q7 => ?_))
    have h9 : FZ [t + 2, t + 4] [(t, 5)] S S6 := h2.tr (q7.sub (by simp) (by simp))
    refine V_vret 54 dX8_split_54 rfl (Nat.le_of_ble_eq_true rfl) (Nat.le_of_ble_eq_true rfl) (RV.mk h9)
  refine V_aload_0 0 dX8_split_0 ?_
  refine V_iconst 1 (0) dX8_split_1 (by decide) ?_
  refine V_putI 2 (c := 8) 5 dX8_split_2 fl_RX8_51 (F.m 0 (Nat.le_of_ble_eq_true rfl)) (F.k 0 8 rfl) (Nat.le_of_ble_eq_true rfl) (Nat.le_of_ble_eq_true rfl) rfl (Or.inl rfl) ?_
  refine V_abs (FZ [t + 2, t + 4] [(t, 5)] S) ((FZ.rf (X := [t + 2, t + 4]) (Y := [(t, 5)]) (S := S)).uI (by simp)) (fun S10 h11 => ?_)
  refine V_aload_0 5 dX8_split_5 ?_
  refine V_iconst 6 (0) dX8_split_6 (by decide) ?_
  refine V_callV 7 (ci := 8) [.int _] _ (s_afterBlanks M.2.1 Γ S10 (F.ss h11.1) _) dX8_split_7 cb_X8_afterBlanks ml_RX8_54 im_yX8_afterBlanks se_yX8_afterBlanks ((F.ss h11.1).m 0 (Nat.le_of_ble_eq_true rfl)) ((F.ss h11.1).k 0 8 rfl) (Nat.le_of_ble_eq_true rfl) ⟨(Nat.le_of_ble_eq_true rfl), (Nat.le_of_ble_eq_true rfl)⟩ rfl rfl (Nat.le_of_ble_eq_true rfl) ⟨(Nat.le_of_ble_eq_true rfl), (Nat.le_of_ble_eq_true rfl)⟩ (RI.go (fun r14 S12 q13 => ?_))
  have h15 : FZ [t + 2, t + 4] [(t, 5)] S S12 := h11.tr (q13.sub (by simp) (by simp))
  refine V_istore_1 10 dX8_split_10 rfl (Nat.le_of_ble_eq_true rfl) ?_
  refine V_iconst 11 (0) dX8_split_11 (by decide) ?_
  refine V_istore_2 12 dX8_split_12 rfl (Nat.le_of_ble_eq_true rfl) ?_
  refine V_lvw (by repeat (first | exact trivial | refine ⟨rfl, ?_⟩)) (V_while (α := Nat × PS × Int32) (fun z16 => 401 - z16.1) (fun z16 => z16.1 ≤ 401 ∧ FZ [t + 2, t + 4] [(t, 5)] S z16.2.1) (fun z16 => z16.2.1) (fun z16 => [some (.ref t), some (.int z16.2.2), some (.int (nI z16.1))]) (0, _, _) ⟨Nat.zero_le _, h15⟩ (fun z16 hx23 ih21 => ?b24))
  obtain ⟨i17, S18, w22⟩ := z16
  obtain ⟨hi19, h20⟩ := hx23
  dsimp only at hi19 h20 ih21 ⊢
  refine V_iload_2 13 dX8_split_13 ?_
  refine V_sipush 14 (400) dX8_split_14 (by decide) ?_
  refine V_icmp_gt 17 44 dX8_split_17 (by decide) (fun c26 => ?_) (fun c26 => ?_)
  ·
    refine V_lvw (by repeat (first | exact trivial | refine ⟨rfl, ?_⟩)) (J3 _ _ _ h20)
  ·
    have lt28 := nI_ltg (n := 400) (by decide) hi19 c26
    refine V_iload_1 20 dX8_split_20 ?_
    refine V_aload_0 21 dX8_split_21 ?_
    refine V_getI 22 (c := 8) 1 dX8_split_22 fl_RX8_44 ((F.ss h20.1).m 0 (Nat.le_of_ble_eq_true rfl)) ((F.ss h20.1).k 0 8 rfl) (Nat.le_of_ble_eq_true rfl) (Nat.le_of_ble_eq_true rfl) rfl ?_
    refine V_icmp_ge 25 44 dX8_split_25 (by decide) (fun c29 => ?_) (fun c29 => ?_)
    ·
      refine V_lvw (by repeat (first | exact trivial | refine ⟨rfl, ?_⟩)) (J3 _ _ _ h20)
    ·
      refine V_aload_0 28 dX8_split_28 ?_
      refine V_aload_0 29 dX8_split_29 ?_
      refine V_iload_1 30 dX8_split_30 ?_
      refine V_callV 31 (ci := 8) [.int _] _ (s_splitOff M.2.1 Γ S18 (F.ss h20.1) _) dX8_split_31 cb_X8_splitOff ml_RX8_58 im_yX8_splitOff se_yX8_splitOff ((F.ss h20.1).m 0 (Nat.le_of_ble_eq_true rfl)) ((F.ss h20.1).k 0 8 rfl) (Nat.le_of_ble_eq_true rfl) ⟨(Nat.le_of_ble_eq_true rfl), (Nat.le_of_ble_eq_true rfl)⟩ rfl rfl (Nat.le_of_ble_eq_true rfl) ⟨(Nat.le_of_ble_eq_true rfl), (Nat.le_of_ble_eq_true rfl)⟩ (RI.go (fun r33 S31 q32 => ?_))
      have h34 : FZ [t + 2, t + 4] [(t, 5)] S S31 := h20.tr (q32.sub (by simp) (by simp))
      refine V_callV 34 (ci := 8) [.int _] _ (s_afterBlanks M.2.1 Γ S31 (F.ss h34.1) _) dX8_split_34 cb_X8_afterBlanks ml_RX8_54 im_yX8_afterBlanks se_yX8_afterBlanks ((F.ss h34.1).m 0 (Nat.le_of_ble_eq_true rfl)) ((F.ss h34.1).k 0 8 rfl) (Nat.le_of_ble_eq_true rfl) ⟨(Nat.le_of_ble_eq_true rfl), (Nat.le_of_ble_eq_true rfl)⟩ rfl rfl (Nat.le_of_ble_eq_true rfl) ⟨(Nat.le_of_ble_eq_true rfl), (Nat.le_of_ble_eq_true rfl)⟩ (RI.go (fun r37 S35 q36 => ?_))
      have h38 : FZ [t + 2, t + 4] [(t, 5)] S S35 := h34.tr (q36.sub (by simp) (by simp))
      refine V_istore_1 37 dX8_split_37 rfl (Nat.le_of_ble_eq_true rfl) ?_
      refine V_iinc_2 38 (1) dX8_split_38 (by decide) rfl (Nat.le_of_ble_eq_true rfl) ?_
      refine V_goto 41 13 dX8_split_41 (by decide) ?_
      rw [← nI_succ]
      refine V_lvw (by repeat (first | exact trivial | refine ⟨rfl, ?_⟩)) (ih21 (i17 + 1, _, _) ⟨by dsimp only; omega, h38⟩ (by dsimp only; omega))

