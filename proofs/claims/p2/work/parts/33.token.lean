/-! Tape: tokens, from any ints -/
set_option maxRecDepth 100000 in
set_option maxHeartbeats 8000000 in
theorem s_addToken (l : Launch) (Γ : GC) (S : PS) {t : Nat} (F : isL lyTape Γ.2.2.2.2.1 S t) (x : Int32) (y : Int64) (z : Int32) : CT l Γ yX8_addToken cX8_addToken 5 none (0) (0) (0) [.ref t, .int x, .long y, .int z] S (RV (fun S' => FZ [t + 2, t + 4] [(t, 5)] S S')) := by
  refine CT.of RX8 "addToken" [some (.ref t), some (.int x), some (.long y), none, some (.int z)] (by decide +kernel) rfl rfl (Nat.le_of_ble_eq_true rfl) rfl (fun M hM => ?_)
  subst hM
  generalize hn : sI S t 5 = n
  refine V_aload_0 0 dX8_addToken_0 ?_
  refine V_getI 1 (c := 8) 5 dX8_addToken_1 fl_RX8_51 (F.m 0 (Nat.le_of_ble_eq_true rfl)) (F.k 0 8 rfl) (Nat.le_of_ble_eq_true rfl) (Nat.le_of_ble_eq_true rfl) rfl ?_
  rw [hn]
  refine V_if_lt 4 84 dX8_addToken_4 (by decide) (fun c => ?_) (fun c => ?_)
  ·
    refine V_vret 84 dX8_addToken_84 rfl (Nat.le_of_ble_eq_true rfl) (Nat.le_of_ble_eq_true rfl) (RV.mk FZ.rf)
  ·
    refine V_aload_0 7 dX8_addToken_7 ?_
    refine V_getI 8 (c := 8) 5 dX8_addToken_8 fl_RX8_51 (F.m 0 (Nat.le_of_ble_eq_true rfl)) (F.k 0 8 rfl) (Nat.le_of_ble_eq_true rfl) (Nat.le_of_ble_eq_true rfl) rfl ?_
    rw [hn]
    refine V_aload_0 11 dX8_addToken_11 ?_
    refine V_getR 12 (c := 8) 2 (F.r 0 2 2 rfl) dX8_addToken_12 fl_RX8_15 (F.m 0 (Nat.le_of_ble_eq_true rfl)) (F.k 0 8 rfl) (Nat.le_of_ble_eq_true rfl) (Nat.le_of_ble_eq_true rfl) rfl ?_
    refine V_alen2 15 dX8_addToken_15 (F.m 2 (Nat.le_of_ble_eq_true rfl)) (F.k 2 14 rfl) (Nat.le_of_ble_eq_true rfl) (Nat.le_of_ble_eq_true rfl) (F.l 2 402 rfl) ?_
    refine V_icmp_ge 16 84 dX8_addToken_16 (by decide) (fun c2 => ?_) (fun c2 => ?_)
    ·
      refine V_vret 84 dX8_addToken_84 rfl (Nat.le_of_ble_eq_true rfl) (Nat.le_of_ble_eq_true rfl) (RV.mk FZ.rf)
    ·
      refine V_aload_0 19 dX8_addToken_19 ?_
      refine V_getI 20 (c := 8) 5 dX8_addToken_20 fl_RX8_51 (F.m 0 (Nat.le_of_ble_eq_true rfl)) (F.k 0 8 rfl) (Nat.le_of_ble_eq_true rfl) (Nat.le_of_ble_eq_true rfl) rfl ?_
      rw [hn]
      refine V_aload_0 23 dX8_addToken_23 ?_
      refine V_getR 24 (c := 8) 3 (F.r 0 3 3 rfl) dX8_addToken_24 fl_RX8_18 (F.m 0 (Nat.le_of_ble_eq_true rfl)) (F.k 0 8 rfl) (Nat.le_of_ble_eq_true rfl) (Nat.le_of_ble_eq_true rfl) rfl ?_
      refine V_alen2 27 dX8_addToken_27 (F.m 3 (Nat.le_of_ble_eq_true rfl)) (F.k 3 15 rfl) (Nat.le_of_ble_eq_true rfl) (Nat.le_of_ble_eq_true rfl) (F.l 3 402 rfl) ?_
      refine V_icmp_ge 28 84 dX8_addToken_28 (by decide) (fun c3 => ?_) (fun c3 => ?_)
      ·
        refine V_vret 84 dX8_addToken_84 rfl (Nat.le_of_ble_eq_true rfl) (Nat.le_of_ble_eq_true rfl) (RV.mk FZ.rf)
      ·
        refine V_aload_0 31 dX8_addToken_31 ?_
        refine V_getI 32 (c := 8) 5 dX8_addToken_32 fl_RX8_51 (F.m 0 (Nat.le_of_ble_eq_true rfl)) (F.k 0 8 rfl) (Nat.le_of_ble_eq_true rfl) (Nat.le_of_ble_eq_true rfl) rfl ?_
        rw [hn]
        refine V_aload_0 35 dX8_addToken_35 ?_
        refine V_getR 36 (c := 8) 4 (F.r 0 4 4 rfl) dX8_addToken_36 fl_RX8_22 (F.m 0 (Nat.le_of_ble_eq_true rfl)) (F.k 0 8 rfl) (Nat.le_of_ble_eq_true rfl) (Nat.le_of_ble_eq_true rfl) rfl ?_
        refine V_alen2 39 dX8_addToken_39 (F.m 4 (Nat.le_of_ble_eq_true rfl)) (F.k 4 14 rfl) (Nat.le_of_ble_eq_true rfl) (Nat.le_of_ble_eq_true rfl) (F.l 4 402 rfl) ?_
        refine V_icmp_ge 40 84 dX8_addToken_40 (by decide) (fun c4 => ?_) (fun c4 => ?_)
        ·
          refine V_vret 84 dX8_addToken_84 rfl (Nat.le_of_ble_eq_true rfl) (Nat.le_of_ble_eq_true rfl) (RV.mk FZ.rf)
        ·
          refine V_aload_0 43 dX8_addToken_43 ?_
          refine V_getR 44 (c := 8) 2 (F.r 0 2 2 rfl) dX8_addToken_44 fl_RX8_15 (F.m 0 (Nat.le_of_ble_eq_true rfl)) (F.k 0 8 rfl) (Nat.le_of_ble_eq_true rfl) (Nat.le_of_ble_eq_true rfl) rfl ?_
          refine V_aload_0 47 dX8_addToken_47 ?_
          refine V_getI 48 (c := 8) 5 dX8_addToken_48 fl_RX8_51 (F.m 0 (Nat.le_of_ble_eq_true rfl)) (F.k 0 8 rfl) (Nat.le_of_ble_eq_true rfl) (Nat.le_of_ble_eq_true rfl) rfl ?_
          rw [hn]
          refine V_iload_1 51 dX8_addToken_51 ?_
          refine V_iastore2 52 dX8_addToken_52 (F.m 2 (Nat.le_of_ble_eq_true rfl)) (F.k 2 14 rfl) (F.l 2 402 rfl) ?_ ?_
          · exact in_of (by decide) c c2
          refine V_abs (RO [t + 2, t + 4] S) (RO.rf.uA (by simp)) (fun S1 h1 => ?_)
          have F1 := F.ss h1.1
          refine V_aload_0 53 dX8_addToken_53 ?_
          refine V_getR 54 (c := 8) 3 (F1.r 0 3 3 rfl) dX8_addToken_54 fl_RX8_18 (F1.m 0 (Nat.le_of_ble_eq_true rfl)) (F1.k 0 8 rfl) (Nat.le_of_ble_eq_true rfl) (Nat.le_of_ble_eq_true rfl) rfl ?_
          refine V_aload_0 57 dX8_addToken_57 ?_
          refine V_getI 58 (c := 8) 5 dX8_addToken_58 fl_RX8_51 (F1.m 0 (Nat.le_of_ble_eq_true rfl)) (F1.k 0 8 rfl) (Nat.le_of_ble_eq_true rfl) (Nat.le_of_ble_eq_true rfl) rfl ?_
          rw [h1.2.1, hn]
          refine V_lload_2 61 dX8_addToken_61 ?_
          refine V_lastore2 62 dX8_addToken_62 (F1.m 3 (Nat.le_of_ble_eq_true rfl)) (F1.k 3 15 rfl) (F1.l 3 402 rfl) ?_ ?_
          · exact in_of (by decide) c c3
          refine V_abs (fun T => SSm S T ∧ sI T = sI S ∧ ∀ a, a ∉ [t + 2, t + 4] → sA T a = sA S a) ⟨h1.1.tr ⟨rfl, rfl, rfl, rfl, rfl⟩, h1.2.1, h1.2.2.2⟩ (fun S2 h2 => ?_)
          have F2 := F.ss h2.1
          refine V_aload_0 63 dX8_addToken_63 ?_
          refine V_getR 64 (c := 8) 4 (F2.r 0 4 4 rfl) dX8_addToken_64 fl_RX8_22 (F2.m 0 (Nat.le_of_ble_eq_true rfl)) (F2.k 0 8 rfl) (Nat.le_of_ble_eq_true rfl) (Nat.le_of_ble_eq_true rfl) rfl ?_
          refine V_aload_0 67 dX8_addToken_67 ?_
          refine V_getI 68 (c := 8) 5 dX8_addToken_68 fl_RX8_51 (F2.m 0 (Nat.le_of_ble_eq_true rfl)) (F2.k 0 8 rfl) (Nat.le_of_ble_eq_true rfl) (Nat.le_of_ble_eq_true rfl) rfl ?_
          rw [h2.2.1, hn]
          refine V_iload_4 71 dX8_addToken_71 ?_
          refine V_iastore2 73 dX8_addToken_73 (F2.m 4 (Nat.le_of_ble_eq_true rfl)) (F2.k 4 14 rfl) (F2.l 4 402 rfl) ?_ ?_
          · exact in_of (by decide) c c4
          refine V_abs (FZ [t + 2, t + 4] [(t, 5)] S) ⟨h2.1.tr ⟨rfl, rfl, rfl, rfl, rfl⟩, fun a ha => by rw [sA_uA, up2_an _ _ (fun q => ha (by rw [q]; simp))]; exact h2.2.2 a ha, fun a j _ => by rw [sI_uA, h2.2.1]⟩ (fun S3 h3 => ?_)
          have F3 := F.ss h3.1
          refine V_aload_0 74 dX8_addToken_74 ?_
          refine V_dup 75 dX8_addToken_75 rfl ?_
          refine V_getI 76 (c := 8) 5 dX8_addToken_76 fl_RX8_51 (F3.m 0 (Nat.le_of_ble_eq_true rfl)) (F3.k 0 8 rfl) (Nat.le_of_ble_eq_true rfl) (Nat.le_of_ble_eq_true rfl) rfl ?_
          refine V_iconst 79 (1) dX8_addToken_79 (by decide) ?_
          refine V_iadd 80 dX8_addToken_80 ?_
          refine V_putI 81 (c := 8) 5 dX8_addToken_81 fl_RX8_51 (F3.m 0 (Nat.le_of_ble_eq_true rfl)) (F3.k 0 8 rfl) (Nat.le_of_ble_eq_true rfl) (Nat.le_of_ble_eq_true rfl) rfl (Or.inl rfl) ?_
          refine V_vret 84 dX8_addToken_84 rfl (Nat.le_of_ble_eq_true rfl) (Nat.le_of_ble_eq_true rfl) (RV.mk (h3.uI (by simp)))
set_option maxRecDepth 100000 in
set_option maxHeartbeats 8000000 in
theorem s_splitOffLetters (l : Launch) (Γ : GC) (S : PS) {t : Nat} (F : isL lyTape Γ.2.2.2.2.1 S t) (x : Int32) : CT l Γ yX8_splitOffLetters cX8_splitOffLetters 5 (some .int) (1) (0) (0) [.ref t, .int x] S (RI (fun r S' => FZ [t + 2, t + 4] [(t, 5)] S S')) := by
  refine CT.of RX8 "splitOffLetters" [some (.ref t), some (.int x), none, none, none] (by decide +kernel) rfl rfl (Nat.le_of_ble_eq_true rfl) rfl (fun M hM => ?_)
  subst hM
  have J3 : ∀ (S1 : PS) (x4 : Int32) (y5 : Int64), FZ [t + 2, t + 4] [(t, 5)] S S1 → V M Γ (5, RX8, "splitOffLetters", (some .int), RM (1) (0) (0)) cX8_splitOffLetters (RQ M Γ (RI (fun r S' => FZ [t + 2, t + 4] [(t, 5)] S S')) (0) (0)) 0 0 S1 57 [some (.ref t), some (.int x), some (.int x4), some (.long y5), none] [] := by
    intro S1 x4 y5 h2
    refine V_aload_0 57 dX8_splitOffLetters_57 ?_
    refine V_iload_2 58 dX8_splitOffLetters_58 ?_
    refine V_iload_1 59 dX8_splitOffLetters_59 ?_
    refine V_isub 60 dX8_splitOffLetters_60 ?_
    refine V_bipush 61 (8) dX8_splitOffLetters_61 (by decide) ?_
    refine V_icmp_le 63 70 dX8_splitOffLetters_63 (by decide) (fun c6 => ?_) (fun c6 => ?_)
    ·
      refine V_aload_0 70 dX8_splitOffLetters_70 ?_
      refine V_lload_3 71 dX8_splitOffLetters_71 ?_
      refine V_callV 72 (ci := 8) [.long _] _ (s_typeOfLetters M.2.1 Γ S1 (F.ss h2.1) _) dX8_splitOffLetters_72 cb_X8_typeOfLetters ml_RX8_92 im_yX8_typeOfLetters se_yX8_typeOfLetters ((F.ss h2.1).m 0 (Nat.le_of_ble_eq_true rfl)) ((F.ss h2.1).k 0 8 rfl) (Nat.le_of_ble_eq_true rfl) ⟨(Nat.le_of_ble_eq_true rfl), (Nat.le_of_ble_eq_true rfl)⟩ rfl rfl (Nat.le_of_ble_eq_true rfl) ⟨(Nat.le_of_ble_eq_true rfl), (Nat.le_of_ble_eq_true rfl)⟩ (RI.go (fun r9 S7 q8 => ?_))
      have h10 : FZ [t + 2, t + 4] [(t, 5)] S S7 := h2.tr (q8.sub (by simp) (by simp))
      refine V_lload_3 75 dX8_splitOffLetters_75 ?_
      refine V_iload_1 76 dX8_splitOffLetters_76 ?_
      refine V_callV 77 (ci := 8) [.int _, .long _, .int _] _ (s_addToken M.2.1 Γ S7 (F.ss h10.1) _ _ _) dX8_splitOffLetters_77 cb_X8_addToken ml_RX8_61 im_yX8_addToken se_yX8_addToken ((F.ss h10.1).m 0 (Nat.le_of_ble_eq_true rfl)) ((F.ss h10.1).k 0 8 rfl) (Nat.le_of_ble_eq_true rfl) ⟨(Nat.le_of_ble_eq_true rfl), (Nat.le_of_ble_eq_true rfl)⟩ rfl rfl (Nat.le_of_ble_eq_true rfl) ⟨(Nat.le_of_ble_eq_true rfl), (Nat.le_of_ble_eq_true rfl)⟩ (RV.go (fun S11 q12 => ?_))
      have h14 : FZ [t + 2, t + 4] [(t, 5)] S S11 := h10.tr (q12.sub (by simp) (by simp))
      refine V_iload_2 80 dX8_splitOffLetters_80 ?_
      refine V_iret 81 .int dX8_splitOffLetters_81 rfl rfl (Nat.le_of_ble_eq_true rfl) (Nat.le_of_ble_eq_true rfl) (RI.mk h14)
    ·
      refine V_iconst 66 (3) dX8_splitOffLetters_66 (by decide) ?_
      refine V_goto 67 75 dX8_splitOffLetters_67 (by decide) ?_
      refine V_lload_3 75 dX8_splitOffLetters_75 ?_
      refine V_iload_1 76 dX8_splitOffLetters_76 ?_
      refine V_callV 77 (ci := 8) [.int _, .long _, .int _] _ (s_addToken M.2.1 Γ S1 (F.ss h2.1) _ _ _) dX8_splitOffLetters_77 cb_X8_addToken ml_RX8_61 im_yX8_addToken se_yX8_addToken ((F.ss h2.1).m 0 (Nat.le_of_ble_eq_true rfl)) ((F.ss h2.1).k 0 8 rfl) (Nat.le_of_ble_eq_true rfl) ⟨(Nat.le_of_ble_eq_true rfl), (Nat.le_of_ble_eq_true rfl)⟩ rfl rfl (Nat.le_of_ble_eq_true rfl) ⟨(Nat.le_of_ble_eq_true rfl), (Nat.le_of_ble_eq_true rfl)⟩ (RV.go (fun S15 q16 => ?_))
      have h18 : FZ [t + 2, t + 4] [(t, 5)] S S15 := h2.tr (q16.sub (by simp) (by simp))
      refine V_iload_2 80 dX8_splitOffLetters_80 ?_
      refine V_iret 81 .int dX8_splitOffLetters_81 rfl rfl (Nat.le_of_ble_eq_true rfl) (Nat.le_of_ble_eq_true rfl) (RI.mk h18)
  refine V_iload_1 0 dX8_splitOffLetters_0 ?_
  refine V_istore_2 1 dX8_splitOffLetters_1 rfl (Nat.le_of_ble_eq_true rfl) ?_
  refine V_lconst 2 0 dX8_splitOffLetters_2 (by decide) ?_
  refine V_lstore_3 3 dX8_splitOffLetters_3 rfl (Nat.le_of_ble_eq_true rfl) ?_
  refine V_lvw (by repeat (first | exact trivial | refine ⟨rfl, ?_⟩)) (V_while (α := Int32 × PS × Int64) (fun z19 => ((sI S t 1).toInt - z19.1.toInt).toNat) (fun z19 => FZ [t + 2, t + 4] [(t, 5)] S z19.2.1) (fun z19 => z19.2.1) (fun z19 => [some (.ref t), some (.int x), some (.int z19.1), some (.long z19.2.2), none]) (_, _, _) (FZ.rf) (fun z19 h23 ih24 => ?b27))
  obtain ⟨i20, S21, w25⟩ := z19
  dsimp only at h23 ih24 ⊢
  have J31 : ∀ (S29 : PS) (y32 : Int64) (x33 : Int64), FZ [t + 2, t + 4] [(t, 5)] S S29 → ¬ sI S t 1 ≤ i20 → V M Γ (5, RX8, "splitOffLetters", (some .int), RM (1) (0) (0)) cX8_splitOffLetters (RQ M Γ (RI (fun r S' => FZ [t + 2, t + 4] [(t, 5)] S S')) (0) (0)) 0 0 S29 50 [some (.ref t), some (.int x), some (.int i20), some (.long y32), none] [.long x33] := by
    intro S29 y32 x33 h30 lt34
    refine V_lstore_3 50 dX8_splitOffLetters_50 rfl (Nat.le_of_ble_eq_true rfl) ?_
    refine V_iinc_2 51 (1) dX8_splitOffLetters_51 (by decide) rfl (Nat.le_of_ble_eq_true rfl) ?_
    refine V_goto 54 4 dX8_splitOffLetters_54 (by decide) ?_
    refine V_lvw (by repeat (first | exact trivial | refine ⟨rfl, ?_⟩)) (ih24 (_, _, _) (h30) (up32 (by first | assumption | (rw [← h23.2.2 t 1 (by simp)]; assumption))))
  refine V_iload_2 4 dX8_splitOffLetters_4 ?_
  refine V_aload_0 5 dX8_splitOffLetters_5 ?_
  refine V_getI 6 (c := 8) 1 dX8_splitOffLetters_6 fl_RX8_44 ((F.ss h23.1).m 0 (Nat.le_of_ble_eq_true rfl)) ((F.ss h23.1).k 0 8 rfl) (Nat.le_of_ble_eq_true rfl) (Nat.le_of_ble_eq_true rfl) rfl ?_
  refine V_icmp_ge 9 57 dX8_splitOffLetters_9 (by decide) (fun c35 => ?_) (fun c35 => ?_)
  ·
    refine V_lvw (by repeat (first | exact trivial | refine ⟨rfl, ?_⟩)) (J3 _ _ _ h23)
  ·
    refine V_aload_0 12 dX8_splitOffLetters_12 ?_
    refine V_getR 13 (c := 8) 0 ((F.ss h23.1).r 0 0 1 rfl) dX8_splitOffLetters_13 fl_RX8_9 ((F.ss h23.1).m 0 (Nat.le_of_ble_eq_true rfl)) ((F.ss h23.1).k 0 8 rfl) (Nat.le_of_ble_eq_true rfl) (Nat.le_of_ble_eq_true rfl) rfl ?_
    refine V_iload_2 16 dX8_splitOffLetters_16 ?_
    refine V_callSN 17 [.ref _, .int _] _ (c_at M.2.1 Γ S21 (a := (t + 1)) ((F.ss h23.1).m 1 (Nat.le_of_ble_eq_true rfl)) ((F.ss h23.1).k 1 14 rfl) (by rw [((F.ss h23.1).l 1 2000 rfl)]; decide) _) dX8_splitOffLetters_17 cb_X11_at ne_RX8_69 sm_yX11_at ⟨(Nat.le_of_ble_eq_true rfl), (Nat.le_of_ble_eq_true rfl)⟩ rfl rfl (Nat.le_of_ble_eq_true rfl) ⟨(Nat.le_of_ble_eq_true rfl), (Nat.le_of_ble_eq_true rfl)⟩ (RI.go (fun r39 S37 q38 => ?_))
    rw [q38.2]
    refine V_callS 20 [.int _] _ (s_isLetter M.2.1 Γ S21 _) dX8_splitOffLetters_20 cb_X8_isLetter ml_RX8_77 sm_yX8_isLetter ⟨(Nat.le_of_ble_eq_true rfl), (Nat.le_of_ble_eq_true rfl)⟩ rfl rfl (Nat.le_of_ble_eq_true rfl) ⟨(Nat.le_of_ble_eq_true rfl), (Nat.le_of_ble_eq_true rfl)⟩ (RI.go (fun r42 S40 q41 => ?_))
    have h43 : FZ [t + 2, t + 4] [(t, 5)] S S40 := h23.tr (q41.2.sub (by simp) (by simp))
    refine V_if_eq 23 57 dX8_splitOffLetters_23 (by decide) (fun c44 => ?_) (fun c44 => ?_)
    ·
      refine V_lvw (by repeat (first | exact trivial | refine ⟨rfl, ?_⟩)) (J3 _ _ _ h43)
    ·
      refine V_iload_2 26 dX8_splitOffLetters_26 ?_
      refine V_iload_1 27 dX8_splitOffLetters_27 ?_
      refine V_isub 28 dX8_splitOffLetters_28 ?_
      refine V_bipush 29 (8) dX8_splitOffLetters_29 (by decide) ?_
      refine V_icmp_ge 31 49 dX8_splitOffLetters_31 (by decide) (fun c46 => ?_) (fun c46 => ?_)
      ·
        refine V_lload_3 49 dX8_splitOffLetters_49 ?_
        refine V_lvw (by repeat (first | exact trivial | refine ⟨rfl, ?_⟩)) (J31 _ _ _ h43 (by first | omega | assumption | (rw [← h23.2.2 t 1 (by simp)]; assumption)))
      ·
        refine V_lload_3 34 dX8_splitOffLetters_34 ?_
        refine V_aload_0 35 dX8_splitOffLetters_35 ?_
        refine V_getR 36 (c := 8) 0 ((F.ss h43.1).r 0 0 1 rfl) dX8_splitOffLetters_36 fl_RX8_9 ((F.ss h43.1).m 0 (Nat.le_of_ble_eq_true rfl)) ((F.ss h43.1).k 0 8 rfl) (Nat.le_of_ble_eq_true rfl) (Nat.le_of_ble_eq_true rfl) rfl ?_
        refine V_iload_2 39 dX8_splitOffLetters_39 ?_
        refine V_callSN 40 [.ref _, .int _] _ (c_at M.2.1 Γ S40 (a := (t + 1)) ((F.ss h43.1).m 1 (Nat.le_of_ble_eq_true rfl)) ((F.ss h43.1).k 1 14 rfl) (by rw [((F.ss h43.1).l 1 2000 rfl)]; decide) _) dX8_splitOffLetters_40 cb_X11_at ne_RX8_69 sm_yX11_at ⟨(Nat.le_of_ble_eq_true rfl), (Nat.le_of_ble_eq_true rfl)⟩ rfl rfl (Nat.le_of_ble_eq_true rfl) ⟨(Nat.le_of_ble_eq_true rfl), (Nat.le_of_ble_eq_true rfl)⟩ (RI.go (fun r50 S48 q49 => ?_))
        rw [q49.2]
        refine V_callS 43 [.long _, .int _] _ (s_withLetter M.2.1 Γ S40 _ _) dX8_splitOffLetters_43 cb_X8_withLetter ml_RX8_40 sm_yX8_withLetter ⟨(Nat.le_of_ble_eq_true rfl), (Nat.le_of_ble_eq_true rfl)⟩ rfl rfl (Nat.le_of_ble_eq_true rfl) ⟨(Nat.le_of_ble_eq_true rfl), (Nat.le_of_ble_eq_true rfl)⟩ (RLg.go (fun r53 S51 q52 => ?_))
        have h54 : FZ [t + 2, t + 4] [(t, 5)] S S51 := h43.tr (q52.sub (by simp) (by simp))
        refine V_goto 46 50 dX8_splitOffLetters_46 (by decide) ?_
        refine V_lvw (by repeat (first | exact trivial | refine ⟨rfl, ?_⟩)) (J31 _ _ _ h54 (by first | omega | assumption | (rw [← h23.2.2 t 1 (by simp)]; assumption)))
set_option maxRecDepth 100000 in
set_option maxHeartbeats 8000000 in
theorem s_splitOffDigits (l : Launch) (Γ : GC) (S : PS) {t : Nat} (F : isL lyTape Γ.2.2.2.2.1 S t) (x : Int32) : CT l Γ yX8_splitOffDigits cX8_splitOffDigits 4 (some .int) (1) (0) (0) [.ref t, .int x] S (RI (fun r S' => FZ [t + 2, t + 4] [(t, 5)] S S')) := by
  refine CT.of RX8 "splitOffDigits" [some (.ref t), some (.int x), none, none] (by decide +kernel) rfl rfl (Nat.le_of_ble_eq_true rfl) rfl (fun M hM => ?_)
  subst hM
  have J3 : ∀ (S1 : PS) (x4 : Int32) (x5 : Int32), FZ [t + 2, t + 4] [(t, 5)] S S1 → V M Γ (4, RX8, "splitOffDigits", (some .int), RM (1) (0) (0)) cX8_splitOffDigits (RQ M Γ (RI (fun r S' => FZ [t + 2, t + 4] [(t, 5)] S S')) (0) (0)) 0 0 S1 60 [some (.ref t), some (.int x), some (.int x4), some (.int x5)] [] := by
    intro S1 x4 x5 h2
    refine V_aload_0 60 dX8_splitOffDigits_60 ?_
    refine V_iload_2 61 dX8_splitOffDigits_61 ?_
    refine V_iload_1 62 dX8_splitOffDigits_62 ?_
    refine V_isub 63 dX8_splitOffDigits_63 ?_
    refine V_iconst 64 (4) dX8_splitOffDigits_64 (by decide) ?_
    refine V_icmp_le 65 72 dX8_splitOffDigits_65 (by decide) (fun c6 => ?_) (fun c6 => ?_)
    ·
      refine V_iconst 72 (2) dX8_splitOffDigits_72 (by decide) ?_
      refine V_iload_3 73 dX8_splitOffDigits_73 ?_
      refine V_i2l 74 dX8_splitOffDigits_74 ?_
      refine V_iload_1 75 dX8_splitOffDigits_75 ?_
      refine V_callV 76 (ci := 8) [.int _, .long _, .int _] _ (s_addToken M.2.1 Γ S1 (F.ss h2.1) _ _ _) dX8_splitOffDigits_76 cb_X8_addToken ml_RX8_61 im_yX8_addToken se_yX8_addToken ((F.ss h2.1).m 0 (Nat.le_of_ble_eq_true rfl)) ((F.ss h2.1).k 0 8 rfl) (Nat.le_of_ble_eq_true rfl) ⟨(Nat.le_of_ble_eq_true rfl), (Nat.le_of_ble_eq_true rfl)⟩ rfl rfl (Nat.le_of_ble_eq_true rfl) ⟨(Nat.le_of_ble_eq_true rfl), (Nat.le_of_ble_eq_true rfl)⟩ (RV.go (fun S7 q8 => ?_))
      have h10 : FZ [t + 2, t + 4] [(t, 5)] S S7 := h2.tr (q8.sub (by simp) (by simp))
      refine V_iload_2 79 dX8_splitOffDigits_79 ?_
      refine V_iret 80 .int dX8_splitOffDigits_80 rfl rfl (Nat.le_of_ble_eq_true rfl) (Nat.le_of_ble_eq_true rfl) (RI.mk h10)
    ·
      refine V_iconst 68 (3) dX8_splitOffDigits_68 (by decide) ?_
      refine V_goto 69 73 dX8_splitOffDigits_69 (by decide) ?_
      refine V_iload_3 73 dX8_splitOffDigits_73 ?_
      refine V_i2l 74 dX8_splitOffDigits_74 ?_
      refine V_iload_1 75 dX8_splitOffDigits_75 ?_
      refine V_callV 76 (ci := 8) [.int _, .long _, .int _] _ (s_addToken M.2.1 Γ S1 (F.ss h2.1) _ _ _) dX8_splitOffDigits_76 cb_X8_addToken ml_RX8_61 im_yX8_addToken se_yX8_addToken ((F.ss h2.1).m 0 (Nat.le_of_ble_eq_true rfl)) ((F.ss h2.1).k 0 8 rfl) (Nat.le_of_ble_eq_true rfl) ⟨(Nat.le_of_ble_eq_true rfl), (Nat.le_of_ble_eq_true rfl)⟩ rfl rfl (Nat.le_of_ble_eq_true rfl) ⟨(Nat.le_of_ble_eq_true rfl), (Nat.le_of_ble_eq_true rfl)⟩ (RV.go (fun S11 q12 => ?_))
      have h14 : FZ [t + 2, t + 4] [(t, 5)] S S11 := h2.tr (q12.sub (by simp) (by simp))
      refine V_iload_2 79 dX8_splitOffDigits_79 ?_
      refine V_iret 80 .int dX8_splitOffDigits_80 rfl rfl (Nat.le_of_ble_eq_true rfl) (Nat.le_of_ble_eq_true rfl) (RI.mk h14)
  refine V_iload_1 0 dX8_splitOffDigits_0 ?_
  refine V_istore_2 1 dX8_splitOffDigits_1 rfl (Nat.le_of_ble_eq_true rfl) ?_
  refine V_iconst 2 (0) dX8_splitOffDigits_2 (by decide) ?_
  refine V_istore_3 3 dX8_splitOffDigits_3 rfl (Nat.le_of_ble_eq_true rfl) ?_
  refine V_lvw (by repeat (first | exact trivial | refine ⟨rfl, ?_⟩)) (V_while (α := Int32 × PS × Int32) (fun z15 => ((sI S t 1).toInt - z15.1.toInt).toNat) (fun z15 => FZ [t + 2, t + 4] [(t, 5)] S z15.2.1) (fun z15 => z15.2.1) (fun z15 => [some (.ref t), some (.int x), some (.int z15.1), some (.int z15.2.2)]) (_, _, _) (FZ.rf) (fun z15 h19 ih20 => ?b23))
  obtain ⟨i16, S17, w21⟩ := z15
  dsimp only at h19 ih20 ⊢
  have J27 : ∀ (S25 : PS) (x28 : Int32) (x29 : Int32), FZ [t + 2, t + 4] [(t, 5)] S S25 → ¬ sI S t 1 ≤ i16 → V M Γ (4, RX8, "splitOffDigits", (some .int), RM (1) (0) (0)) cX8_splitOffDigits (RQ M Γ (RI (fun r S' => FZ [t + 2, t + 4] [(t, 5)] S S')) (0) (0)) 0 0 S25 53 [some (.ref t), some (.int x), some (.int i16), some (.int x28)] [.int x29] := by
    intro S25 x28 x29 h26 lt30
    refine V_istore_3 53 dX8_splitOffDigits_53 rfl (Nat.le_of_ble_eq_true rfl) ?_
    refine V_iinc_2 54 (1) dX8_splitOffDigits_54 (by decide) rfl (Nat.le_of_ble_eq_true rfl) ?_
    refine V_goto 57 4 dX8_splitOffDigits_57 (by decide) ?_
    refine V_lvw (by repeat (first | exact trivial | refine ⟨rfl, ?_⟩)) (ih20 (_, _, _) (h26) (up32 (by first | assumption | (rw [← h19.2.2 t 1 (by simp)]; assumption))))
  refine V_iload_2 4 dX8_splitOffDigits_4 ?_
  refine V_aload_0 5 dX8_splitOffDigits_5 ?_
  refine V_getI 6 (c := 8) 1 dX8_splitOffDigits_6 fl_RX8_44 ((F.ss h19.1).m 0 (Nat.le_of_ble_eq_true rfl)) ((F.ss h19.1).k 0 8 rfl) (Nat.le_of_ble_eq_true rfl) (Nat.le_of_ble_eq_true rfl) rfl ?_
  refine V_icmp_ge 9 60 dX8_splitOffDigits_9 (by decide) (fun c31 => ?_) (fun c31 => ?_)
  ·
    refine V_lvw (by repeat (first | exact trivial | refine ⟨rfl, ?_⟩)) (J3 _ _ _ h19)
  ·
    refine V_aload_0 12 dX8_splitOffDigits_12 ?_
    refine V_getR 13 (c := 8) 0 ((F.ss h19.1).r 0 0 1 rfl) dX8_splitOffDigits_13 fl_RX8_9 ((F.ss h19.1).m 0 (Nat.le_of_ble_eq_true rfl)) ((F.ss h19.1).k 0 8 rfl) (Nat.le_of_ble_eq_true rfl) (Nat.le_of_ble_eq_true rfl) rfl ?_
    refine V_iload_2 16 dX8_splitOffDigits_16 ?_
    refine V_callSN 17 [.ref _, .int _] _ (c_at M.2.1 Γ S17 (a := (t + 1)) ((F.ss h19.1).m 1 (Nat.le_of_ble_eq_true rfl)) ((F.ss h19.1).k 1 14 rfl) (by rw [((F.ss h19.1).l 1 2000 rfl)]; decide) _) dX8_splitOffDigits_17 cb_X11_at ne_RX8_69 sm_yX11_at ⟨(Nat.le_of_ble_eq_true rfl), (Nat.le_of_ble_eq_true rfl)⟩ rfl rfl (Nat.le_of_ble_eq_true rfl) ⟨(Nat.le_of_ble_eq_true rfl), (Nat.le_of_ble_eq_true rfl)⟩ (RI.go (fun r35 S33 q34 => ?_))
    rw [q34.2]
    refine V_callS 20 [.int _] _ (s_isDigit M.2.1 Γ S17 _) dX8_splitOffDigits_20 cb_X8_isDigit ml_RX8_83 sm_yX8_isDigit ⟨(Nat.le_of_ble_eq_true rfl), (Nat.le_of_ble_eq_true rfl)⟩ rfl rfl (Nat.le_of_ble_eq_true rfl) ⟨(Nat.le_of_ble_eq_true rfl), (Nat.le_of_ble_eq_true rfl)⟩ (RI.go (fun r38 S36 q37 => ?_))
    have h39 : FZ [t + 2, t + 4] [(t, 5)] S S36 := h19.tr (q37.2.sub (by simp) (by simp))
    refine V_if_eq 23 60 dX8_splitOffDigits_23 (by decide) (fun c40 => ?_) (fun c40 => ?_)
    ·
      refine V_lvw (by repeat (first | exact trivial | refine ⟨rfl, ?_⟩)) (J3 _ _ _ h39)
    ·
      refine V_iload_2 26 dX8_splitOffDigits_26 ?_
      refine V_iload_1 27 dX8_splitOffDigits_27 ?_
      refine V_isub 28 dX8_splitOffDigits_28 ?_
      refine V_iconst 29 (4) dX8_splitOffDigits_29 (by decide) ?_
      refine V_icmp_ge 30 52 dX8_splitOffDigits_30 (by decide) (fun c42 => ?_) (fun c42 => ?_)
      ·
        refine V_iload_3 52 dX8_splitOffDigits_52 ?_
        refine V_lvw (by repeat (first | exact trivial | refine ⟨rfl, ?_⟩)) (J27 _ _ _ h39 (by first | omega | assumption | (rw [← h19.2.2 t 1 (by simp)]; assumption)))
      ·
        refine V_bipush 33 (10) dX8_splitOffDigits_33 (by decide) ?_
        refine V_iload_3 35 dX8_splitOffDigits_35 ?_
        refine V_imul 36 dX8_splitOffDigits_36 ?_
        refine V_aload_0 37 dX8_splitOffDigits_37 ?_
        refine V_getR 38 (c := 8) 0 ((F.ss h39.1).r 0 0 1 rfl) dX8_splitOffDigits_38 fl_RX8_9 ((F.ss h39.1).m 0 (Nat.le_of_ble_eq_true rfl)) ((F.ss h39.1).k 0 8 rfl) (Nat.le_of_ble_eq_true rfl) (Nat.le_of_ble_eq_true rfl) rfl ?_
        refine V_iload_2 41 dX8_splitOffDigits_41 ?_
        refine V_callSN 42 [.ref _, .int _] _ (c_at M.2.1 Γ S36 (a := (t + 1)) ((F.ss h39.1).m 1 (Nat.le_of_ble_eq_true rfl)) ((F.ss h39.1).k 1 14 rfl) (by rw [((F.ss h39.1).l 1 2000 rfl)]; decide) _) dX8_splitOffDigits_42 cb_X11_at ne_RX8_69 sm_yX11_at ⟨(Nat.le_of_ble_eq_true rfl), (Nat.le_of_ble_eq_true rfl)⟩ rfl rfl (Nat.le_of_ble_eq_true rfl) ⟨(Nat.le_of_ble_eq_true rfl), (Nat.le_of_ble_eq_true rfl)⟩ (RI.go (fun r46 S44 q45 => ?_))
        rw [q45.2]
        refine V_iadd 45 dX8_splitOffDigits_45 ?_
        refine V_bipush 46 (48) dX8_splitOffDigits_46 (by decide) ?_
        refine V_isub 48 dX8_splitOffDigits_48 ?_
        refine V_goto 49 53 dX8_splitOffDigits_49 (by decide) ?_
        refine V_lvw (by repeat (first | exact trivial | refine ⟨rfl, ?_⟩)) (J27 _ _ _ h39 (by first | omega | assumption | (rw [← h19.2.2 t 1 (by simp)]; assumption)))

