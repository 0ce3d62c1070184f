/-! The reference's loses, years -/
set_option maxRecDepth 100000 in
set_option maxHeartbeats 8000000 in
theorem s_mloses (l : Launch) (Γ : GC) (S : PS) {m : Nat} {g : MG} (F : isL lyModel Γ.2.2.2.2.1 S m) (h : TXT m g S) : CT l Γ yX12_loses cX12_loses 4 (some .int) (1) (0) (0) [.ref m] S (RI (fun r S' => FZ [m + 36] [(m, 52)] S S')) := by
  refine CT.of RX12 "loses" [some (.ref m), none, none, none] (by decide +kernel) rfl rfl (Nat.le_of_ble_eq_true rfl) rfl (fun M hM => ?_)
  subst hM
  have hl := h.l2
  have hla := h.la260
  have laws := h.laws
  have hfa := h.fa
  refine V_aload_0 0 dX12_loses_0 ?_
  refine V_iconst 1 (0) dX12_loses_1 (by decide) ?_
  refine V_putI 2 (c := 12) 52 dX12_loses_2 fl_RX12_331 (F.m 0 (Nat.le_of_ble_eq_true rfl)) (F.k 0 12 rfl) (Nat.le_of_ble_eq_true rfl) (Nat.le_of_ble_eq_true rfl) rfl (Or.inr ⟨rfl, (Or.inl rfl)⟩) ?_
  refine V_abs (fun T9 => FZ [m + 36] [(m, 52)] S T9 ∧ ((fun _ => gf g ≤ gf g) T9)) ⟨(FZ.rf (X := [m + 36]) (Y := [(m, 52)]) (S := S)).uI (by simp), by exact (Nat.le_refl _)⟩ (fun S1 hh4 => ?_)
  obtain ⟨h2, p3⟩ := hh4
  refine V_aload_0 5 dX12_loses_5 ?_
  refine V_getR 6 (c := 12) 37 ((F.ss h2.1).r 0 37 25 rfl) dX12_loses_6 fl_RX12_91 ((F.ss h2.1).m 0 (Nat.le_of_ble_eq_true rfl)) ((F.ss h2.1).k 0 12 rfl) (Nat.le_of_ble_eq_true rfl) (Nat.le_of_ble_eq_true rfl) rfl ?_
  refine V_aload_0 9 dX12_loses_9 ?_
  refine V_getI 10 (c := 12) 18 dX12_loses_10 fl_RX12_264 ((F.ss h2.1).m 0 (Nat.le_of_ble_eq_true rfl)) ((F.ss h2.1).k 0 12 rfl) (Nat.le_of_ble_eq_true rfl) (Nat.le_of_ble_eq_true rfl) rfl ?_
  rw [(h.z [36] [(0, 52)] h2 rfl rfl rfl rfl).lv]
  refine V_iaload2 13 dX12_loses_13 ((F.ss h2.1).m 25 (Nat.le_of_ble_eq_true rfl)) ((F.ss h2.1).k 25 14 rfl) ((F.ss h2.1).l 25 2 rfl) ?_ ?_
  · exact vpN (Eq.refl (nI (gl g))) (by omega) (by decide)
  rw [clN (Eq.refl (nI (gl g))) (by omega)]
  rw [(h.z [36] [(0, 52)] h2 rfl rfl rfl rfl).lf]
  refine V_istore_1 14 dX12_loses_14 rfl (Nat.le_of_ble_eq_true rfl) ?_
  refine V_lvw (by repeat (first | exact trivial | refine ⟨rfl, ?_⟩)) (V_while (α := Nat × PS) (fun z5 => ga g - z5.1) (fun z5 => z5.1 ≤ ga g ∧ FZ [m + 36] [(m, 52)] S z5.2 ∧ ((fun _ => gf g ≤ z5.1) z5.2)) (fun z5 => z5.2) (fun z5 => [some (.ref m), some (.int (nI z5.1)), none, none]) (gf g, _) ⟨(by dsimp only; omega), h2, p3⟩ (fun z5 hx11 ih10 => ?b12))
  obtain ⟨i6, S7⟩ := z5
  obtain ⟨hi8, h9, p14⟩ := hx11
  dsimp only at hi8 h9 p14 ih10 ⊢
  refine V_iload_1 15 dX12_loses_15 ?_
  refine V_aload_0 16 dX12_loses_16 ?_
  refine V_getR 17 (c := 12) 38 ((F.ss h9.1).r 0 38 26 rfl) dX12_loses_17 fl_RX12_94 ((F.ss h9.1).m 0 (Nat.le_of_ble_eq_true rfl)) ((F.ss h9.1).k 0 12 rfl) (Nat.le_of_ble_eq_true rfl) (Nat.le_of_ble_eq_true rfl) rfl ?_
  refine V_aload_0 20 dX12_loses_20 ?_
  refine V_getI 21 (c := 12) 18 dX12_loses_21 fl_RX12_264 ((F.ss h9.1).m 0 (Nat.le_of_ble_eq_true rfl)) ((F.ss h9.1).k 0 12 rfl) (Nat.le_of_ble_eq_true rfl) (Nat.le_of_ble_eq_true rfl) rfl ?_
  rw [(h.z [36] [(0, 52)] h9 rfl rfl rfl rfl).lv]
  refine V_iaload2 24 dX12_loses_24 ((F.ss h9.1).m 26 (Nat.le_of_ble_eq_true rfl)) ((F.ss h9.1).k 26 14 rfl) ((F.ss h9.1).l 26 2 rfl) ?_ ?_
  · exact vpN (Eq.refl (nI (gl g))) (by omega) (by decide)
  rw [clN (Eq.refl (nI (gl g))) (by omega)]
  rw [(h.z [36] [(0, 52)] h9 rfl rfl rfl rfl).la]
  refine V_icmp_ge 25 124 dX12_loses_25 (by decide) (fun c15 => ?_) (fun c15 => ?_)
  ·
    try have nf16 := (nI_leE (Eq.refl (nI (ga g))) (Eq.refl (nI i6)) (by omega) (by omega)).mp c15
    refine V_iconst 124 (0) dX12_loses_124 (by decide) ?_
    refine V_iret 125 .int dX12_loses_125 rfl rfl (Nat.le_of_ble_eq_true rfl) (Nat.le_of_ble_eq_true rfl) (RI.mk h9)
  ·
    try have nf17 := mt (nI_leE (Eq.refl (nI (ga g))) (Eq.refl (nI i6)) (by omega) (by omega)).mpr c15
    try have lt18 := nI_ltC hi8 c15
    obtain ⟨c0, c1, c2, c3, q1, q2, q3, q4⟩ := laws i6 (by have : gf g ≤ i6 := p14; omega) (by omega)
    refine V_aload_0 28 dX12_loses_28 ?_
    refine V_getR 29 (c := 12) 40 ((F.ss h9.1).r 0 40 27 rfl) dX12_loses_29 fl_RX12_97 ((F.ss h9.1).m 0 (Nat.le_of_ble_eq_true rfl)) ((F.ss h9.1).k 0 12 rfl) (Nat.le_of_ble_eq_true rfl) (Nat.le_of_ble_eq_true rfl) rfl ?_
    refine V_iload_1 32 dX12_loses_32 ?_
    refine V_zaload2 33 dX12_loses_33 ((F.ss h9.1).m 27 (Nat.le_of_ble_eq_true rfl)) ((F.ss h9.1).k 27 16 rfl) ((F.ss h9.1).l 27 260 rfl) ?_ ?_
    · exact vp_in_nI (by omega) (by decide)
    rw [clN (Eq.refl (nI i6)) (by omega)]
    refine V_if_eq 34 88 dX12_loses_34 (by decide) (fun c19 => ?_) (fun c19 => ?_)
    ·
      refine V_aload_0 88 dX12_loses_88 ?_
      refine V_aload_0 89 dX12_loses_89 ?_
      refine V_getR 90 (c := 12) 43 ((F.ss h9.1).r 0 43 30 rfl) dX12_loses_90 fl_RX12_107 ((F.ss h9.1).m 0 (Nat.le_of_ble_eq_true rfl)) ((F.ss h9.1).k 0 12 rfl) (Nat.le_of_ble_eq_true rfl) (Nat.le_of_ble_eq_true rfl) rfl ?_
      refine V_iload_1 93 dX12_loses_93 ?_
      refine V_iaload2 94 dX12_loses_94 ((F.ss h9.1).m 30 (Nat.le_of_ble_eq_true rfl)) ((F.ss h9.1).k 30 14 rfl) ((F.ss h9.1).l 30 260 rfl) ?_ ?_
      · exact vp_in_nI (by omega) (by decide)
      rw [clN (Eq.refl (nI i6)) (by omega)]
      rw [((congrFun (h9.2.1 (m + 30) (by simp)) _).trans q2)]
      refine V_aload_0 95 dX12_loses_95 ?_
      refine V_getR 96 (c := 12) 44 ((F.ss h9.1).r 0 44 31 rfl) dX12_loses_96 fl_RX12_110 ((F.ss h9.1).m 0 (Nat.le_of_ble_eq_true rfl)) ((F.ss h9.1).k 0 12 rfl) (Nat.le_of_ble_eq_true rfl) (Nat.le_of_ble_eq_true rfl) rfl ?_
      refine V_iload_1 99 dX12_loses_99 ?_
      refine V_iaload2 100 dX12_loses_100 ((F.ss h9.1).m 31 (Nat.le_of_ble_eq_true rfl)) ((F.ss h9.1).k 31 14 rfl) ((F.ss h9.1).l 31 260 rfl) ?_ ?_
      · exact vp_in_nI (by omega) (by decide)
      rw [clN (Eq.refl (nI i6)) (by omega)]
      rw [((congrFun (h9.2.1 (m + 31) (by simp)) _).trans q3)]
      refine V_callV 101 (ci := 12) [.int _, .int _] _ (s_mtermOf M.2.1 Γ S7 (F.ss h9.1) hl (RPN.eq q4 (h9.2.1 _ (by simp)) (h9.2.1 _ (by simp)))) dX12_loses_101 cb_X12_termOf ml_RX12_428 im_yX12_termOf se_yX12_termOf ((F.ss h9.1).m 0 (Nat.le_of_ble_eq_true rfl)) ((F.ss h9.1).k 0 12 rfl) (Nat.le_of_ble_eq_true rfl) ⟨(Nat.le_of_ble_eq_true rfl), (Nat.le_of_ble_eq_true rfl)⟩ rfl rfl (Nat.le_of_ble_eq_true rfl) ⟨(Nat.le_of_ble_eq_true rfl), (Nat.le_of_ble_eq_true rfl)⟩ (RI.go (fun r22 S20 q21 => ?_))
      have h23 : FZ [m + 36] [(m, 52)] S S20 := h9.tr (q21.sub (by simp) (by simp))
      have p24 : ((fun _ => gf g ≤ i6) S20) := by exact p14
      refine V_istore_2 104 dX12_loses_104 rfl (Nat.le_of_ble_eq_true rfl) ?_
      refine V_aload_0 105 dX12_loses_105 ?_
      refine V_getI 106 (c := 12) 52 dX12_loses_106 fl_RX12_331 ((F.ss h23.1).m 0 (Nat.le_of_ble_eq_true rfl)) ((F.ss h23.1).k 0 12 rfl) (Nat.le_of_ble_eq_true rfl) (Nat.le_of_ble_eq_true rfl) rfl ?_
      refine V_if_eq 109 116 dX12_loses_109 (by decide) (fun c25 => ?_) (fun c25 => ?_)
      ·
        refine V_iload_2 116 dX12_loses_116 ?_
        refine V_iret 117 .int dX12_loses_117 rfl rfl (Nat.le_of_ble_eq_true rfl) (Nat.le_of_ble_eq_true rfl) (RI.mk h23)
      ·
        refine V_iconst 112 (0) dX12_loses_112 (by decide) ?_
        refine V_goto 113 117 dX12_loses_113 (by decide) ?_
        refine V_iret 117 .int dX12_loses_117 rfl rfl (Nat.le_of_ble_eq_true rfl) (Nat.le_of_ble_eq_true rfl) (RI.mk h23)
    ·
      have q5 := q1 (by rw [← h9.2.1 (m + 27) (by simp)]; assumption)
      refine V_aload_0 37 dX12_loses_37 ?_
      refine V_aload_0 38 dX12_loses_38 ?_
      refine V_getR 39 (c := 12) 41 ((F.ss h9.1).r 0 41 28 rfl) dX12_loses_39 fl_RX12_101 ((F.ss h9.1).m 0 (Nat.le_of_ble_eq_true rfl)) ((F.ss h9.1).k 0 12 rfl) (Nat.le_of_ble_eq_true rfl) (Nat.le_of_ble_eq_true rfl) rfl ?_
      refine V_iload_1 42 dX12_loses_42 ?_
      refine V_iaload2 43 dX12_loses_43 ((F.ss h9.1).m 28 (Nat.le_of_ble_eq_true rfl)) ((F.ss h9.1).k 28 14 rfl) ((F.ss h9.1).l 28 260 rfl) ?_ ?_
      · exact vp_in_nI (by omega) (by decide)
      rw [clN (Eq.refl (nI i6)) (by omega)]
      rw [((congrFun (h9.2.1 (m + 28) (by simp)) _).trans q5.1)]
      refine V_aload_0 44 dX12_loses_44 ?_
      refine V_getR 45 (c := 12) 42 ((F.ss h9.1).r 0 42 29 rfl) dX12_loses_45 fl_RX12_104 ((F.ss h9.1).m 0 (Nat.le_of_ble_eq_true rfl)) ((F.ss h9.1).k 0 12 rfl) (Nat.le_of_ble_eq_true rfl) (Nat.le_of_ble_eq_true rfl) rfl ?_
      refine V_iload_1 48 dX12_loses_48 ?_
      refine V_iaload2 49 dX12_loses_49 ((F.ss h9.1).m 29 (Nat.le_of_ble_eq_true rfl)) ((F.ss h9.1).k 29 14 rfl) ((F.ss h9.1).l 29 260 rfl) ?_ ?_
      · exact vp_in_nI (by omega) (by decide)
      rw [clN (Eq.refl (nI i6)) (by omega)]
      rw [((congrFun (h9.2.1 (m + 29) (by simp)) _).trans q5.2.1)]
      refine V_callV 50 (ci := 12) [.int _, .int _] _ (s_mtermOf M.2.1 Γ S7 (F.ss h9.1) hl (RPN.eq q5.2.2.1 (h9.2.1 _ (by simp)) (h9.2.1 _ (by simp)))) dX12_loses_50 cb_X12_termOf ml_RX12_428 im_yX12_termOf se_yX12_termOf ((F.ss h9.1).m 0 (Nat.le_of_ble_eq_true rfl)) ((F.ss h9.1).k 0 12 rfl) (Nat.le_of_ble_eq_true rfl) ⟨(Nat.le_of_ble_eq_true rfl), (Nat.le_of_ble_eq_true rfl)⟩ rfl rfl (Nat.le_of_ble_eq_true rfl) ⟨(Nat.le_of_ble_eq_true rfl), (Nat.le_of_ble_eq_true rfl)⟩ (RI.go (fun r28 S26 q27 => ?_))
      have h29 : FZ [m + 36] [(m, 52)] S S26 := h9.tr (q27.sub (by simp) (by simp))
      have p30 : ((fun _ => gf g ≤ i6) S26) := by exact p14
      refine V_istore_2 53 dX12_loses_53 rfl (Nat.le_of_ble_eq_true rfl) ?_
      refine V_aload_0 54 dX12_loses_54 ?_
      refine V_aload_0 55 dX12_loses_55 ?_
      refine V_getR 56 (c := 12) 42 ((F.ss h29.1).r 0 42 29 rfl) dX12_loses_56 fl_RX12_104 ((F.ss h29.1).m 0 (Nat.le_of_ble_eq_true rfl)) ((F.ss h29.1).k 0 12 rfl) (Nat.le_of_ble_eq_true rfl) (Nat.le_of_ble_eq_true rfl) rfl ?_
      refine V_iload_1 59 dX12_loses_59 ?_
      refine V_iaload2 60 dX12_loses_60 ((F.ss h29.1).m 29 (Nat.le_of_ble_eq_true rfl)) ((F.ss h29.1).k 29 14 rfl) ((F.ss h29.1).l 29 260 rfl) ?_ ?_
      · exact vp_in_nI (by omega) (by decide)
      rw [clN (Eq.refl (nI i6)) (by omega)]
      rw [((congrFun (h29.2.1 (m + 29) (by simp)) _).trans q5.2.1)]
      refine V_aload_0 61 dX12_loses_61 ?_
      refine V_getR 62 (c := 12) 43 ((F.ss h29.1).r 0 43 30 rfl) dX12_loses_62 fl_RX12_107 ((F.ss h29.1).m 0 (Nat.le_of_ble_eq_true rfl)) ((F.ss h29.1).k 0 12 rfl) (Nat.le_of_ble_eq_true rfl) (Nat.le_of_ble_eq_true rfl) rfl ?_
      refine V_iload_1 65 dX12_loses_65 ?_
      refine V_iaload2 66 dX12_loses_66 ((F.ss h29.1).m 30 (Nat.le_of_ble_eq_true rfl)) ((F.ss h29.1).k 30 14 rfl) ((F.ss h29.1).l 30 260 rfl) ?_ ?_
      · exact vp_in_nI (by omega) (by decide)
      rw [clN (Eq.refl (nI i6)) (by omega)]
      rw [((congrFun (h29.2.1 (m + 30) (by simp)) _).trans q2)]
      refine V_callV 67 (ci := 12) [.int _, .int _] _ (s_mtermOf M.2.1 Γ S26 (F.ss h29.1) hl (RPN.eq q5.2.2.2 (h29.2.1 _ (by simp)) (h29.2.1 _ (by simp)))) dX12_loses_67 cb_X12_termOf ml_RX12_428 im_yX12_termOf se_yX12_termOf ((F.ss h29.1).m 0 (Nat.le_of_ble_eq_true rfl)) ((F.ss h29.1).k 0 12 rfl) (Nat.le_of_ble_eq_true rfl) ⟨(Nat.le_of_ble_eq_true rfl), (Nat.le_of_ble_eq_true rfl)⟩ rfl rfl (Nat.le_of_ble_eq_true rfl) ⟨(Nat.le_of_ble_eq_true rfl), (Nat.le_of_ble_eq_true rfl)⟩ (RI.go (fun r33 S31 q32 => ?_))
      have h34 : FZ [m + 36] [(m, 52)] S S31 := h29.tr (q32.sub (by simp) (by simp))
      have p35 : ((fun _ => gf g ≤ i6) S31) := by exact p30
      refine V_istore_3 70 dX12_loses_70 rfl (Nat.le_of_ble_eq_true rfl) ?_
      refine V_aload_0 71 dX12_loses_71 ?_
      refine V_getI 72 (c := 12) 52 dX12_loses_72 fl_RX12_331 ((F.ss h34.1).m 0 (Nat.le_of_ble_eq_true rfl)) ((F.ss h34.1).k 0 12 rfl) (Nat.le_of_ble_eq_true rfl) (Nat.le_of_ble_eq_true rfl) rfl ?_
      refine V_if_eq 75 80 dX12_loses_75 (by decide) (fun c36 => ?_) (fun c36 => ?_)
      ·
        refine V_iload_2 80 dX12_loses_80 ?_
        refine V_iload_3 81 dX12_loses_81 ?_
        refine V_icmp_lt 82 88 dX12_loses_82 (by decide) (fun c37 => ?_) (fun c37 => ?_)
        ·
          refine V_aload_0 88 dX12_loses_88 ?_
          refine V_aload_0 89 dX12_loses_89 ?_
          refine V_getR 90 (c := 12) 43 ((F.ss h34.1).r 0 43 30 rfl) dX12_loses_90 fl_RX12_107 ((F.ss h34.1).m 0 (Nat.le_of_ble_eq_true rfl)) ((F.ss h34.1).k 0 12 rfl) (Nat.le_of_ble_eq_true rfl) (Nat.le_of_ble_eq_true rfl) rfl ?_
          refine V_iload_1 93 dX12_loses_93 ?_
          refine V_iaload2 94 dX12_loses_94 ((F.ss h34.1).m 30 (Nat.le_of_ble_eq_true rfl)) ((F.ss h34.1).k 30 14 rfl) ((F.ss h34.1).l 30 260 rfl) ?_ ?_
          · exact vp_in_nI (by omega) (by decide)
          rw [clN (Eq.refl (nI i6)) (by omega)]
          rw [((congrFun (h34.2.1 (m + 30) (by simp)) _).trans q2)]
          refine V_aload_0 95 dX12_loses_95 ?_
          refine V_getR 96 (c := 12) 44 ((F.ss h34.1).r 0 44 31 rfl) dX12_loses_96 fl_RX12_110 ((F.ss h34.1).m 0 (Nat.le_of_ble_eq_true rfl)) ((F.ss h34.1).k 0 12 rfl) (Nat.le_of_ble_eq_true rfl) (Nat.le_of_ble_eq_true rfl) rfl ?_
          refine V_iload_1 99 dX12_loses_99 ?_
          refine V_iaload2 100 dX12_loses_100 ((F.ss h34.1).m 31 (Nat.le_of_ble_eq_true rfl)) ((F.ss h34.1).k 31 14 rfl) ((F.ss h34.1).l 31 260 rfl) ?_ ?_
          · exact vp_in_nI (by omega) (by decide)
          rw [clN (Eq.refl (nI i6)) (by omega)]
          rw [((congrFun (h34.2.1 (m + 31) (by simp)) _).trans q3)]
          refine V_callV 101 (ci := 12) [.int _, .int _] _ (s_mtermOf M.2.1 Γ S31 (F.ss h34.1) hl (RPN.eq q4 (h34.2.1 _ (by simp)) (h34.2.1 _ (by simp)))) dX12_loses_101 cb_X12_termOf ml_RX12_428 im_yX12_termOf se_yX12_termOf ((F.ss h34.1).m 0 (Nat.le_of_ble_eq_true rfl)) ((F.ss h34.1).k 0 12 rfl) (Nat.le_of_ble_eq_true rfl) ⟨(Nat.le_of_ble_eq_true rfl), (Nat.le_of_ble_eq_true rfl)⟩ rfl rfl (Nat.le_of_ble_eq_true rfl) ⟨(Nat.le_of_ble_eq_true rfl), (Nat.le_of_ble_eq_true rfl)⟩ (RI.go (fun r40 S38 q39 => ?_))
          have h41 : FZ [m + 36] [(m, 52)] S S38 := h34.tr (q39.sub (by simp) (by simp))
          have p42 : ((fun _ => gf g ≤ i6) S38) := by exact p35
          refine V_istore_2 104 dX12_loses_104 rfl (Nat.le_of_ble_eq_true rfl) ?_
          refine V_aload_0 105 dX12_loses_105 ?_
          refine V_getI 106 (c := 12) 52 dX12_loses_106 fl_RX12_331 ((F.ss h41.1).m 0 (Nat.le_of_ble_eq_true rfl)) ((F.ss h41.1).k 0 12 rfl) (Nat.le_of_ble_eq_true rfl) (Nat.le_of_ble_eq_true rfl) rfl ?_
          refine V_if_eq 109 116 dX12_loses_109 (by decide) (fun c43 => ?_) (fun c43 => ?_)
          ·
            refine V_iload_2 116 dX12_loses_116 ?_
            refine V_iret 117 .int dX12_loses_117 rfl rfl (Nat.le_of_ble_eq_true rfl) (Nat.le_of_ble_eq_true rfl) (RI.mk h41)
          ·
            refine V_iconst 112 (0) dX12_loses_112 (by decide) ?_
            refine V_goto 113 117 dX12_loses_113 (by decide) ?_
            refine V_iret 117 .int dX12_loses_117 rfl rfl (Nat.le_of_ble_eq_true rfl) (Nat.le_of_ble_eq_true rfl) (RI.mk h41)
        ·
          refine V_goto 85 118 dX12_loses_85 (by decide) ?_
          have p44 : ((fun _ => gf g ≤ i6 + 1) S31) := by (have q9 : gf g ≤ i6 := p35; omega)
          refine V_iinc_1 118 (1) dX12_loses_118 (by decide) rfl (Nat.le_of_ble_eq_true rfl) ?_
          refine V_goto 121 15 dX12_loses_121 (by decide) ?_
          rw [← nI_succ]
          refine V_lvw (by repeat (first | exact trivial | refine ⟨rfl, ?_⟩)) (ih10 (i6 + 1, _) ⟨by dsimp only; omega, h34, p44⟩ (by dsimp only; omega))
      ·
        refine V_iconst 78 (0) dX12_loses_78 (by decide) ?_
        refine V_iret 79 .int dX12_loses_79 rfl rfl (Nat.le_of_ble_eq_true rfl) (Nat.le_of_ble_eq_true rfl) (RI.mk h34)
theorem sum_upto {m : Nat} {g : MG} {S : PS} (h : TXT m g S) {k : Nat} (hk : k < gK g) : sumN (gN g) k + gN g k ≤ 18 := by
  have key : ∀ n, k < n → n ≤ gK g → sumN (gN g) (k + 1) ≤ sumN (gN g) n := by
    intro n
    induction n with
    | zero => intro h1; omega
    | succ n ih =>
      intro h1 h2
      by_cases q : k = n
      · subst q; exact Nat.le_refl _
      · have := ih (by omega) (by omega)
        show _ ≤ sumN (gN g) n + gN g n
        omega
  have := key (gK g) hk (Nat.le_refl _)
  have h18 := h.s18
  have e : sumN (gN g) (k + 1) = sumN (gN g) k + gN g k := rfl
  omega
set_option maxRecDepth 100000 in
set_option maxHeartbeats 8000000 in
theorem s_myears (l : Launch) (Γ : GC) (S : PS) {m tp : Nat} {g : MG} (I : MV Γ.2.2.2.2.1 m g tp S) (x y : Int32) : CT l Γ yX12_years cX12_years 10 (some .int) (2) (0) (0) [.ref m, .int x, .int y] S (RI (fun r S' => MV Γ.2.2.2.2.1 m g tp S')) := by
  refine CT.of RX12 "years" [some (.ref m), some (.int x), some (.int y), none, none, none, none, none, none, none] (by decide +kernel) rfl rfl (Nat.le_of_ble_eq_true rfl) rfl (fun M hM => ?_)
  subst hM
  have F := I.f
  have h := I.t
  have hl := h.l2
  have hK := h.k8
  have J20 : V M Γ (10, RX12, "years", (some .int), RM (2) (0) (0)) cX12_years (RQ M Γ (RI (fun r S' => MV Γ.2.2.2.2.1 m g tp S')) (0) (0)) 0 0 S 20 [some (.ref m), some (.int x), some (.int y), none, none, none, none, none, none, none] [] := by
    refine V_iconst 20 (-1) dX12_years_20 (by decide) ?_
    refine V_iret 21 .int dX12_years_21 rfl rfl (Nat.le_of_ble_eq_true rfl) (Nat.le_of_ble_eq_true rfl) (RI.mk I)
  refine V_iload_1 0 dX12_years_0 ?_
  refine V_iconst 1 (1) dX12_years_1 (by decide) ?_
  refine V_sipush 2 (200) dX12_years_2 (by decide) ?_
  refine V_callS 5 [.int _, .int _, .int _] _ (s_min M.2.1 Γ S _ _ _) dX12_years_5 cb_X12_in ml_RX12_335 sm_yX12_in ⟨(Nat.le_of_ble_eq_true rfl), (Nat.le_of_ble_eq_true rfl)⟩ rfl rfl (Nat.le_of_ble_eq_true rfl) ⟨(Nat.le_of_ble_eq_true rfl), (Nat.le_of_ble_eq_true rfl)⟩ (RI.go (fun r1 S1 q1 => ?_))
  rw [q1.2]
  refine V_if_eq 8 20 dX12_years_8 (by decide) (fun c => ?_) (fun c => ?_)
  · exact J20
  ·
    refine V_iload_2 11 dX12_years_11 ?_
    refine V_iconst 12 (0) dX12_years_12 (by decide) ?_
    refine V_iconst 13 (2) dX12_years_13 (by decide) ?_
    refine V_callS 14 [.int _, .int _, .int _] _ (s_min M.2.1 Γ S _ _ _) dX12_years_14 cb_X12_in ml_RX12_335 sm_yX12_in ⟨(Nat.le_of_ble_eq_true rfl), (Nat.le_of_ble_eq_true rfl)⟩ rfl rfl (Nat.le_of_ble_eq_true rfl) ⟨(Nat.le_of_ble_eq_true rfl), (Nat.le_of_ble_eq_true rfl)⟩ (RI.go (fun r2 S2 q2 => ?_))
    rw [q2.2]
    refine V_if_ne 17 22 dX12_years_17 (by decide) (fun c2 => ?_) (fun c2 => ?_)
    ·
      refine V_aload_0 22 dX12_years_22 ?_
      refine V_getR 23 (c := 12) 27 (F.r 0 27 15 rfl) dX12_years_23 fl_RX12_61 (F.m 0 (Nat.le_of_ble_eq_true rfl)) (F.k 0 12 rfl) (Nat.le_of_ble_eq_true rfl) (Nat.le_of_ble_eq_true rfl) rfl ?_
      refine V_aload_0 26 dX12_years_26 ?_
      refine V_getI 27 (c := 12) 18 dX12_years_27 fl_RX12_264 (F.m 0 (Nat.le_of_ble_eq_true rfl)) (F.k 0 12 rfl) (Nat.le_of_ble_eq_true rfl) (Nat.le_of_ble_eq_true rfl) rfl ?_
      rw [(h.z [35, 36, 49, 50] [(0, 52)] FZ.rf rfl rfl rfl rfl).lv]
      refine V_iaload2 30 dX12_years_30 (F.m 15 (Nat.le_of_ble_eq_true rfl)) (F.k 15 14 rfl) (F.l 15 2 rfl) ?_ ?_
      · exact vpN (Eq.refl (nI (gl g))) (by omega) (by decide)
      refine V_istore_3 31 dX12_years_31 rfl (Nat.le_of_ble_eq_true rfl) ?_
      refine V_iconst 32 (0) dX12_years_32 (by decide) ?_
      refine V_istore_4 33 dX12_years_33 rfl (Nat.le_of_ble_eq_true rfl) ?_
      refine V_lvw (by repeat (first | exact trivial | refine ⟨rfl, ?_⟩)) (V_while (α := Nat × PS × Int32) (fun z1 => 18 - z1.1) (fun z1 => z1.1 ≤ 18 ∧ FZ [m + 35, m + 36, m + 49, m + 50] [(m, 52)] S z1.2.1) (fun z1 => z1.2.1) (fun z1 => [some (.ref m), some (.int x), some (.int y), some (.int z1.2.2), some (.int (nI z1.1)), none, none, none, none, none]) (0, _, _) ⟨Nat.zero_le _, FZ.rf⟩ (fun z1 hx8 ih6 => ?b9))
      obtain ⟨i2, S3, w7⟩ := z1
      obtain ⟨hi4, h5⟩ := hx8
      dsimp only at hi4 h5 ih6 ⊢
      refine V_iload_4 35 dX12_years_35 ?_
      refine V_bipush 37 (18) dX12_years_37 (by decide) ?_
      refine V_icmp_ge 39 56 dX12_years_39 (by decide) (fun c11 => ?_) (fun c11 => ?_)
      ·
        try have nf12 := (nI_leE (show (18 : Int32) = nI 18 from rfl) (Eq.refl (nI i2)) (by omega) (by omega)).mp c11
        refine V_iconst 56 (0) dX12_years_56 (by decide) ?_
        refine V_istore_4 57 dX12_years_57 rfl (Nat.le_of_ble_eq_true rfl) ?_
        refine V_lvw (by repeat (first | exact trivial | refine ⟨rfl, ?_⟩)) (V_while (α := Nat × PS × Int32) (fun z13 => gK g - z13.1) (fun z13 => z13.1 ≤ gK g ∧ FZ [m + 35, m + 36, m + 49, m + 50] [(m, 52)] S z13.2.1) (fun z13 => z13.2.1) (fun z13 => [some (.ref m), some (.int x), some (.int y), some (.int z13.2.2), some (.int (nI z13.1)), none, none, none, none, none]) (0, _, _) ⟨Nat.zero_le _, h5⟩ (fun z13 hx20 ih18 => ?b21))
        obtain ⟨i14, S15, w19⟩ := z13
        obtain ⟨hi16, h17⟩ := hx20
        dsimp only at hi16 h17 ih18 ⊢
        refine V_iload_4 59 dX12_years_59 ?_
        refine V_aload_0 61 dX12_years_61 ?_
        refine V_getR 62 (c := 12) 23 ((F.ss h17.1).r 0 23 11 rfl) dX12_years_62 fl_RX12_49 ((F.ss h17.1).m 0 (Nat.le_of_ble_eq_true rfl)) ((F.ss h17.1).k 0 12 rfl) (Nat.le_of_ble_eq_true rfl) (Nat.le_of_ble_eq_true rfl) rfl ?_
        refine V_aload_0 65 dX12_years_65 ?_
        refine V_getI 66 (c := 12) 18 dX12_years_66 fl_RX12_264 ((F.ss h17.1).m 0 (Nat.le_of_ble_eq_true rfl)) ((F.ss h17.1).k 0 12 rfl) (Nat.le_of_ble_eq_true rfl) (Nat.le_of_ble_eq_true rfl) rfl ?_
        rw [(h.z [35, 36, 49, 50] [(0, 52)] h17 rfl rfl rfl rfl).lv]
        refine V_iaload2 69 dX12_years_69 ((F.ss h17.1).m 11 (Nat.le_of_ble_eq_true rfl)) ((F.ss h17.1).k 11 14 rfl) ((F.ss h17.1).l 11 2 rfl) ?_ ?_
        · exact vpN (Eq.refl (nI (gl g))) (by omega) (by decide)
        rw [clN (Eq.refl (nI (gl g))) (by omega)]
        rw [(h.z [35, 36, 49, 50] [(0, 52)] h17 rfl rfl rfl rfl).ki]
        refine V_icmp_ge 70 101 dX12_years_70 (by decide) (fun c23 => ?_) (fun c23 => ?_)
        ·
          try have nf24 := (nI_leE (Eq.refl (nI (gK g))) (Eq.refl (nI i14)) (by omega) (by omega)).mp c23
          refine V_bipush 101 (-2) dX12_years_101 (by decide) ?_
          refine V_istore_4 103 dX12_years_103 rfl (Nat.le_of_ble_eq_true rfl) ?_
          refine V_iconst 105 (0) dX12_years_105 (by decide) ?_
          refine V_istore_5 106 dX12_years_106 rfl (Nat.le_of_ble_eq_true rfl) ?_
          refine V_lvw (by repeat (first | exact trivial | refine ⟨rfl, ?_⟩)) (V_while (α := Int32 × PS × Int32 × Int32) (fun z25 => ((x).toInt - z25.1.toInt).toNat) (fun z25 => FZ [m + 35, m + 36, m + 49, m + 50] [(m, 52)] S z25.2.1) (fun z25 => z25.2.1) (fun z25 => [some (.ref m), some (.int x), some (.int y), some (.int z25.2.2.1), some (.int z25.2.2.2), some (.int z25.1), none, none, none, none]) (_, _, _, _) (h17) (fun z25 h29 ih30 => ?b34))
          obtain ⟨i26, S27, w31, w32⟩ := z25
          dsimp only at h29 ih30 ⊢
          refine V_iload_5 108 dX12_years_108 ?_
          refine V_iload_1 110 dX12_years_110 ?_
          refine V_icmp_ge 111 311 dX12_years_111 (by decide) (fun c36 => ?_) (fun c36 => ?_)
          ·
            refine V_iload_2 311 dX12_years_311 ?_
            refine V_if_ne 312 317 dX12_years_312 (by decide) (fun c37 => ?_) (fun c37 => ?_)
            ·
              refine V_iload_2 317 dX12_years_317 ?_
              refine V_iconst 318 (2) dX12_years_318 (by decide) ?_
              refine V_icmp_ne 319 325 dX12_years_319 (by decide) (fun c38 => ?_) (fun c38 => ?_)
              ·
                refine V_iconst 325 (0) dX12_years_325 (by decide) ?_
                refine V_istore_5 326 dX12_years_326 rfl (Nat.le_of_ble_eq_true rfl) ?_
                refine V_iconst 328 (0) dX12_years_328 (by decide) ?_
                refine V_istore_6 329 dX12_years_329 rfl (Nat.le_of_ble_eq_true rfl) ?_
                rw [(show (0 : Int32) = nI 0 from rfl)]
                refine V_lvw (by repeat (first | exact trivial | refine ⟨rfl, ?_⟩)) (V_while (α := Nat × PS × Int32 × Int32 × Int32) (fun z39 => gK g - z39.1) (fun z39 => z39.1 ≤ gK g ∧ FZ [m + 35, m + 36, m + 49, m + 50] [(m, 52)] S z39.2.1) (fun z39 => z39.2.1) (fun z39 => [some (.ref m), some (.int x), some (.int y), some (.int z39.2.2.1), some (.int z39.2.2.2.1), some (.int z39.2.2.2.2), some (.int (nI z39.1)), none, none, none]) (0, _, _, _, _) ⟨Nat.zero_le _, h29⟩ (fun z39 hx48 ih44 => ?b49))
                obtain ⟨i40, S41, w45, w46, w47⟩ := z39
                obtain ⟨hi42, h43⟩ := hx48
                dsimp only at hi42 h43 ih44 ⊢
                have J53 : ∀ (S51 : PS) (x54 : Int32) (x55 : Int32) (x56 : Int32) (x57 : Nat), FZ [m + 35, m + 36, m + 49, m + 50] [(m, 52)] S S51 → i40 < gK g → x57 < 8 → V M Γ (10, RX12, "years", (some .int), RM (2) (0) (0)) cX12_years (RQ M Γ (RI (fun r S' => MV Γ.2.2.2.2.1 m g tp S')) (0) (0)) 0 0 S51 420 [some (.ref m), some (.int x), some (.int y), some (.int x54), some (.int x55), some (.int x56), some (.int (nI i40)), some (.int (nI x57)), none, none] [] := by
                  intro S51 x54 x55 x56 x57 h52 lt58 hn_x57
                  refine V_iinc_6 420 (1) dX12_years_420 (by decide) rfl (Nat.le_of_ble_eq_true rfl) ?_
                  refine V_goto 423 331 dX12_years_423 (by decide) ?_
                  rw [← nI_succ]
                  refine V_lvw (by repeat (first | exact trivial | refine ⟨rfl, ?_⟩)) (ih44 (i40 + 1, _, _, _, _) ⟨by dsimp only; omega, h52⟩ (by dsimp only; omega))
                have J61 : ∀ (S59 : PS) (x62 : Int32) (x63 : Int32) (x64 : Int32) (x65 : Nat) (x66 : Int32) (x67 : Int32), FZ [m + 35, m + 36, m + 49, m + 50] [(m, 52)] S S59 → i40 < gK g → x65 < 8 → V M Γ (10, RX12, "years", (some .int), RM (2) (0) (0)) cX12_years (RQ M Γ (RI (fun r S' => MV Γ.2.2.2.2.1 m g tp S')) (0) (0)) 0 0 S59 417 [some (.ref m), some (.int x), some (.int y), some (.int x62), some (.int x63), some (.int x64), some (.int (nI i40)), some (.int (nI x65)), none, none] [.int x67, .int x66] := by
                  intro S59 x62 x63 x64 x65 x66 x67 h60 lt68 hn_x65
                  refine V_iadd 417 dX12_years_417 ?_
                  refine V_istore_5 418 dX12_years_418 rfl (Nat.le_of_ble_eq_true rfl) ?_
                  refine V_lvw (by repeat (first | exact trivial | refine ⟨rfl, ?_⟩)) (J53 _ _ _ _ _ h60 (by first | omega | assumption) (by first | omega | (simp only [sumN]; omega)))
                have J72 : ∀ (S70 : PS) (x73 : Int32) (x74 : Int32) (x75 : Int32) (x76 : Nat), FZ [m + 35, m + 36, m + 49, m + 50] [(m, 52)] S S70 → i40 < gK g → x76 < 8 → V M Γ (10, RX12, "years", (some .int), RM (2) (0) (0)) cX12_years (RQ M Γ (RI (fun r S' => MV Γ.2.2.2.2.1 m g tp S')) (0) (0)) 0 0 S70 374 [some (.ref m), some (.int x), some (.int y), some (.int x73), some (.int x74), some (.int x75), some (.int (nI i40)), some (.int (nI x76)), none, none] [] := by
                  intro S70 x73 x74 x75 x76 h71 lt77 hn_x76
                  refine V_iload_7 374 dX12_years_374 ?_
                  refine V_iload_6 376 dX12_years_376 ?_
                  refine V_icmp_le 378 420 dX12_years_378 (by decide) (fun c78 => ?_) (fun c78 => ?_)
                  ·
                    try have nf79 := (nI_leE (Eq.refl (nI x76)) (Eq.refl (nI i40)) (by omega) (by omega)).mp c78
                    refine V_lvw (by repeat (first | exact trivial | refine ⟨rfl, ?_⟩)) (J53 _ _ _ _ _ h71 (by first | omega | assumption) (by first | omega | (simp only [sumN]; omega)))
                  ·
                    try have nf81 := mt (nI_leE (Eq.refl (nI x76)) (Eq.refl (nI i40)) (by omega) (by omega)).mpr c78
                    refine V_iload_5 381 dX12_years_381 ?_
                    refine V_aload_0 383 dX12_years_383 ?_
                    refine V_getR 384 (c := 12) 69 ((F.ss h71.1).r 0 69 50 rfl) dX12_years_384 fl_RX12_168 ((F.ss h71.1).m 0 (Nat.le_of_ble_eq_true rfl)) ((F.ss h71.1).k 0 12 rfl) (Nat.le_of_ble_eq_true rfl) (Nat.le_of_ble_eq_true rfl) rfl ?_
                    refine V_iload_6 387 dX12_years_387 ?_
                    refine V_iaload2 389 dX12_years_389 ((F.ss h71.1).m 50 (Nat.le_of_ble_eq_true rfl)) ((F.ss h71.1).k 50 14 rfl) ((F.ss h71.1).l 50 8 rfl) ?_ ?_
                    · exact vp_in_nI (by omega) (by decide)
                    refine V_aload_0 390 dX12_years_390 ?_
                    refine V_getR 391 (c := 12) 69 ((F.ss h71.1).r 0 69 50 rfl) dX12_years_391 fl_RX12_168 ((F.ss h71.1).m 0 (Nat.le_of_ble_eq_true rfl)) ((F.ss h71.1).k 0 12 rfl) (Nat.le_of_ble_eq_true rfl) (Nat.le_of_ble_eq_true rfl) rfl ?_
                    refine V_iload_7 394 dX12_years_394 ?_
                    refine V_iaload2 396 dX12_years_396 ((F.ss h71.1).m 50 (Nat.le_of_ble_eq_true rfl)) ((F.ss h71.1).k 50 14 rfl) ((F.ss h71.1).l 50 8 rfl) ?_ ?_
                    · exact vpN (Eq.refl (nI x76)) (by omega) (by decide)
                    refine V_icmp_ge 397 410 dX12_years_397 (by decide) (fun c82 => ?_) (fun c82 => ?_)
                    ·
                      refine V_aload_0 410 dX12_years_410 ?_
                      refine V_getR 411 (c := 12) 69 ((F.ss h71.1).r 0 69 50 rfl) dX12_years_411 fl_RX12_168 ((F.ss h71.1).m 0 (Nat.le_of_ble_eq_true rfl)) ((F.ss h71.1).k 0 12 rfl) (Nat.le_of_ble_eq_true rfl) (Nat.le_of_ble_eq_true rfl) rfl ?_
                      refine V_iload_7 414 dX12_years_414 ?_
                      refine V_iaload2 416 dX12_years_416 ((F.ss h71.1).m 50 (Nat.le_of_ble_eq_true rfl)) ((F.ss h71.1).k 50 14 rfl) ((F.ss h71.1).l 50 8 rfl) ?_ ?_
                      · exact vpN (Eq.refl (nI x76)) (by omega) (by decide)
                      refine V_lvw (by repeat (first | exact trivial | refine ⟨rfl, ?_⟩)) (J61 _ _ _ _ _ _ _ h71 (by first | omega | assumption) (by first | omega | (simp only [sumN]; omega)))
                    ·
                      refine V_aload_0 400 dX12_years_400 ?_
                      refine V_getR 401 (c := 12) 69 ((F.ss h71.1).r 0 69 50 rfl) dX12_years_401 fl_RX12_168 ((F.ss h71.1).m 0 (Nat.le_of_ble_eq_true rfl)) ((F.ss h71.1).k 0 12 rfl) (Nat.le_of_ble_eq_true rfl) (Nat.le_of_ble_eq_true rfl) rfl ?_
                      refine V_iload_6 404 dX12_years_404 ?_
                      refine V_iaload2 406 dX12_years_406 ((F.ss h71.1).m 50 (Nat.le_of_ble_eq_true rfl)) ((F.ss h71.1).k 50 14 rfl) ((F.ss h71.1).l 50 8 rfl) ?_ ?_
                      · exact vp_in_nI (by omega) (by decide)
                      refine V_goto 407 417 dX12_years_407 (by decide) ?_
                      refine V_lvw (by repeat (first | exact trivial | refine ⟨rfl, ?_⟩)) (J61 _ _ _ _ _ _ _ h71 (by first | omega | assumption) (by first | omega | (simp only [sumN]; omega)))
                refine V_iload_6 331 dX12_years_331 ?_
                refine V_aload_0 333 dX12_years_333 ?_
                refine V_getR 334 (c := 12) 23 ((F.ss h43.1).r 0 23 11 rfl) dX12_years_334 fl_RX12_49 ((F.ss h43.1).m 0 (Nat.le_of_ble_eq_true rfl)) ((F.ss h43.1).k 0 12 rfl) (Nat.le_of_ble_eq_true rfl) (Nat.le_of_ble_eq_true rfl) rfl ?_
                refine V_aload_0 337 dX12_years_337 ?_
                refine V_getI 338 (c := 12) 18 dX12_years_338 fl_RX12_264 ((F.ss h43.1).m 0 (Nat.le_of_ble_eq_true rfl)) ((F.ss h43.1).k 0 12 rfl) (Nat.le_of_ble_eq_true rfl) (Nat.le_of_ble_eq_true rfl) rfl ?_
                rw [(h.z [35, 36, 49, 50] [(0, 52)] h43 rfl rfl rfl rfl).lv]
                refine V_iaload2 341 dX12_years_341 ((F.ss h43.1).m 11 (Nat.le_of_ble_eq_true rfl)) ((F.ss h43.1).k 11 14 rfl) ((F.ss h43.1).l 11 2 rfl) ?_ ?_
                · exact vpN (Eq.refl (nI (gl g))) (by omega) (by decide)
                rw [clN (Eq.refl (nI (gl g))) (by omega)]
                rw [(h.z [35, 36, 49, 50] [(0, 52)] h43 rfl rfl rfl rfl).ki]
                refine V_icmp_ge 342 426 dX12_years_342 (by decide) (fun c85 => ?_) (fun c85 => ?_)
                ·
                  try have nf86 := (nI_leE (Eq.refl (nI (gK g))) (Eq.refl (nI i40)) (by omega) (by omega)).mp c85
                  refine V_iload_5 426 dX12_years_426 ?_
                  refine V_iret 428 .int dX12_years_428 rfl rfl (Nat.le_of_ble_eq_true rfl) (Nat.le_of_ble_eq_true rfl) (RI.mk (I.z [35, 36, 49, 50] [(0, 52)] h43 rfl rfl rfl rfl))
                ·
                  try have nf87 := mt (nI_leE (Eq.refl (nI (gK g))) (Eq.refl (nI i40)) (by omega) (by omega)).mpr c85
                  try have lt88 := nI_ltC hi42 c85
                  refine V_aload_0 345 dX12_years_345 ?_
                  refine V_iload_6 346 dX12_years_346 ?_
                  refine V_callV 348 (ci := 12) [.int _] _ (s_mpartner M.2.1 Γ S41 (F.ss h43.1) (h.z [35, 36, 49, 50] [(0, 52)] h43 rfl rfl rfl rfl) (show (i40) < gK g by omega)) dX12_years_348 cb_X12_partner ml_RX12_349 im_yX12_partner se_yX12_partner ((F.ss h43.1).m 0 (Nat.le_of_ble_eq_true rfl)) ((F.ss h43.1).k 0 12 rfl) (Nat.le_of_ble_eq_true rfl) ⟨(Nat.le_of_ble_eq_true rfl), (Nat.le_of_ble_eq_true rfl)⟩ rfl rfl (Nat.le_of_ble_eq_true rfl) ⟨(Nat.le_of_ble_eq_true rfl), (Nat.le_of_ble_eq_true rfl)⟩ (RI.go (fun r91 S89 q90 => ?_))
                  have hp9 := h.paK (show (i40) < gK g by omega)
                  obtain ⟨e9, s9⟩ := q90
                  rw [s9]
                  subst e9
                  refine V_istore_7 351 dX12_years_351 rfl (Nat.le_of_ble_eq_true rfl) ?_
                  refine V_iload_7 353 dX12_years_353 ?_
                  refine V_iload_6 355 dX12_years_355 ?_
                  refine V_icmp_ne 357 374 dX12_years_357 (by decide) (fun c92 => ?_) (fun c92 => ?_)
                  ·
                    try have nf93 := mt (nI_eqE (Eq.refl (nI (gP g (i40)))) (Eq.refl (nI i40)) (by omega) (by omega)).mpr c92
                    refine V_lvw (by repeat (first | exact trivial | refine ⟨rfl, ?_⟩)) (J72 _ _ _ _ _ h43 (by first | omega | assumption) (by first | omega | (simp only [sumN]; omega)))
                  ·
                    try have nf95 := (nI_eqE (Eq.refl (nI (gP g (i40)))) (Eq.refl (nI i40)) (by omega) (by omega)).mp c92
                    refine V_iload_5 360 dX12_years_360 ?_
                    refine V_aload_0 362 dX12_years_362 ?_
                    refine V_getR 363 (c := 12) 69 ((F.ss h43.1).r 0 69 50 rfl) dX12_years_363 fl_RX12_168 ((F.ss h43.1).m 0 (Nat.le_of_ble_eq_true rfl)) ((F.ss h43.1).k 0 12 rfl) (Nat.le_of_ble_eq_true rfl) (Nat.le_of_ble_eq_true rfl) rfl ?_
                    refine V_iload_6 366 dX12_years_366 ?_
                    refine V_iaload2 368 dX12_years_368 ((F.ss h43.1).m 50 (Nat.le_of_ble_eq_true rfl)) ((F.ss h43.1).k 50 14 rfl) ((F.ss h43.1).l 50 8 rfl) ?_ ?_
                    · exact vp_in_nI (by omega) (by decide)
                    refine V_iconst 369 (2) dX12_years_369 (by decide) ?_
                    refine V_idiv 370 dX12_years_370 (by decide) ?_
                    refine V_iadd 371 dX12_years_371 ?_
                    refine V_istore_5 372 dX12_years_372 rfl (Nat.le_of_ble_eq_true rfl) ?_
                    refine V_lvw (by repeat (first | exact trivial | refine ⟨rfl, ?_⟩)) (J72 _ _ _ _ _ h43 (by first | omega | assumption) (by first | omega | (simp only [sumN]; omega)))
              ·
                refine V_iload_4 322 dX12_years_322 ?_
                refine V_iret 324 .int dX12_years_324 rfl rfl (Nat.le_of_ble_eq_true rfl) (Nat.le_of_ble_eq_true rfl) (RI.mk (I.z [35, 36, 49, 50] [(0, 52)] h29 rfl rfl rfl rfl))
            ·
              refine V_iload_3 315 dX12_years_315 ?_
              refine V_iret 316 .int dX12_years_316 rfl rfl (Nat.le_of_ble_eq_true rfl) (Nat.le_of_ble_eq_true rfl) (RI.mk (I.z [35, 36, 49, 50] [(0, 52)] h29 rfl rfl rfl rfl))
          ·
            refine V_iconst 114 (0) dX12_years_114 (by decide) ?_
            refine V_istore_6 115 dX12_years_115 rfl (Nat.le_of_ble_eq_true rfl) ?_
            rw [(show (0 : Int32) = nI 0 from rfl)]
            refine V_iconst 117 (0) dX12_years_117 (by decide) ?_
            refine V_istore_7 118 dX12_years_118 rfl (Nat.le_of_ble_eq_true rfl) ?_
            rw [(show (0 : Int32) = nI 0 from rfl)]
            refine V_lvw (by repeat (first | exact trivial | refine ⟨rfl, ?_⟩)) (V_while (α := Nat × PS × Int32 × Int32 × Nat) (fun z97 => gK g - z97.1) (fun z97 => z97.1 ≤ gK g ∧ FZ [m + 35, m + 36, m + 49, m + 50] [(m, 52)] S z97.2.1 ∧ z97.2.2.2.2 < sumN (gN g) z97.1 + 1) (fun z97 => z97.2.1) (fun z97 => [some (.ref m), some (.int x), some (.int y), some (.int z97.2.2.1), some (.int z97.2.2.2.1), some (.int i26), some (.int (nI z97.2.2.2.2)), some (.int (nI z97.1)), none, none]) (0, _, _, _, _) ⟨Nat.zero_le _, h29, by first | omega | (dsimp only; first | omega | (simp only [sumN]; omega))⟩ (fun z97 hx106 ih102 => ?b107))
            obtain ⟨i98, S99, w103, w104, w105⟩ := z97
            obtain ⟨hi100, h101, hn109⟩ := hx106
            dsimp only at hi100 h101 hn109 ih102 ⊢
            refine V_iload_7 120 dX12_years_120 ?_
            refine V_aload_0 122 dX12_years_122 ?_
            refine V_getR 123 (c := 12) 23 ((F.ss h101.1).r 0 23 11 rfl) dX12_years_123 fl_RX12_49 ((F.ss h101.1).m 0 (Nat.le_of_ble_eq_true rfl)) ((F.ss h101.1).k 0 12 rfl) (Nat.le_of_ble_eq_true rfl) (Nat.le_of_ble_eq_true rfl) rfl ?_
            refine V_aload_0 126 dX12_years_126 ?_
            refine V_getI 127 (c := 12) 18 dX12_years_127 fl_RX12_264 ((F.ss h101.1).m 0 (Nat.le_of_ble_eq_true rfl)) ((F.ss h101.1).k 0 12 rfl) (Nat.le_of_ble_eq_true rfl) (Nat.le_of_ble_eq_true rfl) rfl ?_
            rw [(h.z [35, 36, 49, 50] [(0, 52)] h101 rfl rfl rfl rfl).lv]
            refine V_iaload2 130 dX12_years_130 ((F.ss h101.1).m 11 (Nat.le_of_ble_eq_true rfl)) ((F.ss h101.1).k 11 14 rfl) ((F.ss h101.1).l 11 2 rfl) ?_ ?_
            · exact vpN (Eq.refl (nI (gl g))) (by omega) (by decide)
            rw [clN (Eq.refl (nI (gl g))) (by omega)]
            rw [(h.z [35, 36, 49, 50] [(0, 52)] h101 rfl rfl rfl rfl).ki]
            refine V_icmp_ge 131 305 dX12_years_131 (by decide) (fun c110 => ?_) (fun c110 => ?_)
            ·
              try have nf111 := (nI_leE (Eq.refl (nI (gK g))) (Eq.refl (nI i98)) (by omega) (by omega)).mp c110
              refine V_iinc_5 305 (1) dX12_years_305 (by decide) rfl (Nat.le_of_ble_eq_true rfl) ?_
              refine V_goto 308 108 dX12_years_308 (by decide) ?_
              refine V_lvw (by repeat (first | exact trivial | refine ⟨rfl, ?_⟩)) (ih30 (_, _, _, _) (h101) (up32 (by first | assumption | (assumption))))
            ·
              try have nf112 := mt (nI_leE (Eq.refl (nI (gK g))) (Eq.refl (nI i98)) (by omega) (by omega)).mpr c110
              try have lt113 := nI_ltC hi100 c110
              refine V_iconst 134 (0) dX12_years_134 (by decide) ?_
              refine V_istore_8 135 dX12_years_135 rfl (Nat.le_of_ble_eq_true rfl) ?_
              refine V_lvw (by repeat (first | exact trivial | refine ⟨rfl, ?_⟩)) (V_while (α := Nat × PS × Int32 × Int32 × Nat) (fun z114 => gN g i98 - z114.1) (fun z114 => z114.1 ≤ gN g i98 ∧ FZ [m + 35, m + 36, m + 49, m + 50] [(m, 52)] S z114.2.1 ∧ z114.2.2.2.2 < sumN (gN g) i98 + z114.1 + 1) (fun z114 => z114.2.1) (fun z114 => [some (.ref m), some (.int x), some (.int y), some (.int z114.2.2.1), some (.int z114.2.2.2.1), some (.int i26), some (.int (nI z114.2.2.2.2)), some (.int (nI i98)), some (.int (nI z114.1)), none]) (0, _, _, _, _) ⟨Nat.zero_le _, h101, by first | omega | (dsimp only; first | omega | (simp only [sumN]; omega))⟩ (fun z114 hx123 ih119 => ?b124))
              obtain ⟨i115, S116, w120, w121, w122⟩ := z114
              obtain ⟨hi117, h118, hn126⟩ := hx123
              dsimp only at hi117 h118 hn126 ih119 ⊢
              have J129 : ∀ (S127 : PS) (x130 : Int32) (x131 : Int32) (x132 : Nat) (x133 : Int32), FZ [m + 35, m + 36, m + 49, m + 50] [(m, 52)] S S127 → i115 < gN g i98 → x132 < sumN (gN g) i98 + i115 + 1 → V M Γ (10, RX12, "years", (some .int), RM (2) (0) (0)) cX12_years (RQ M Γ (RI (fun r S' => MV Γ.2.2.2.2.1 m g tp S')) (0) (0)) 0 0 S127 290 [some (.ref m), some (.int x), some (.int y), some (.int x130), some (.int x131), some (.int i26), some (.int (nI x132)), some (.int (nI i98)), some (.int (nI i115)), some (.int x133)] [] := by
                intro S127 x130 x131 x132 x133 h128 lt134 hn_x132
                refine V_iinc_6 290 (1) dX12_years_290 (by decide) rfl (Nat.le_of_ble_eq_true rfl) ?_
                rw [(eqAdd (Eq.refl (nI x132)) (show (1 : Int32) = nI 1 from rfl))]
                refine V_iinc_8 293 (1) dX12_years_293 (by decide) rfl (Nat.le_of_ble_eq_true rfl) ?_
                refine V_goto 296 137 dX12_years_296 (by decide) ?_
                rw [← nI_succ]
                refine V_lvw (by repeat (first | exact trivial | refine ⟨rfl, ?_⟩)) (ih119 (i115 + 1, _, _, _, _) ⟨by dsimp only; omega, h128, by dsimp only; first | omega | (simp only [sumN]; omega)⟩ (by dsimp only; omega))
              refine V_iload_8 137 dX12_years_137 ?_
              have hN9 := h.nu9 (k := i98) (by omega)
              refine V_aload_0 139 dX12_years_139 ?_
              refine V_getR 140 (c := 12) 25 ((F.ss h118.1).r 0 25 13 rfl) dX12_years_140 fl_RX12_55 ((F.ss h118.1).m 0 (Nat.le_of_ble_eq_true rfl)) ((F.ss h118.1).k 0 12 rfl) (Nat.le_of_ble_eq_true rfl) (Nat.le_of_ble_eq_true rfl) rfl ?_
              refine V_bipush 143 (8) dX12_years_143 (by decide) ?_
              refine V_aload_0 145 dX12_years_145 ?_
              refine V_getI 146 (c := 12) 18 dX12_years_146 fl_RX12_264 ((F.ss h118.1).m 0 (Nat.le_of_ble_eq_true rfl)) ((F.ss h118.1).k 0 12 rfl) (Nat.le_of_ble_eq_true rfl) (Nat.le_of_ble_eq_true rfl) rfl ?_
              rw [(h.z [35, 36, 49, 50] [(0, 52)] h118 rfl rfl rfl rfl).lv]
              refine V_imul 149 dX12_years_149 ?_
              refine V_iload_7 150 dX12_years_150 ?_
              refine V_iadd 152 dX12_years_152 ?_
              refine V_iaload2 153 dX12_years_153 ((F.ss h118.1).m 13 (Nat.le_of_ble_eq_true rfl)) ((F.ss h118.1).k 13 14 rfl) ((F.ss h118.1).l 13 16 rfl) ?_ ?_
              · exact vpN (eqAdd (eqMul (show (8 : Int32) = nI 8 from rfl) (Eq.refl (nI (gl g)))) (Eq.refl (nI i98))) (by omega) (by decide)
              rw [clN (eqAdd (eqMul (show (8 : Int32) = nI 8 from rfl) (Eq.refl (nI (gl g)))) (Eq.refl (nI i98))) (by omega)]
              rw [(h.z [35, 36, 49, 50] [(0, 52)] h118 rfl rfl rfl rfl).nu (k := i98) (by omega)]
              refine V_icmp_ge 154 299 dX12_years_154 (by decide) (fun c135 => ?_) (fun c135 => ?_)
              ·
                try have nf136 := (nI_leE (Eq.refl (nI (gN g i98))) (Eq.refl (nI i115)) (by omega) (by omega)).mp c135
                refine V_iinc_7 299 (1) dX12_years_299 (by decide) rfl (Nat.le_of_ble_eq_true rfl) ?_
                refine V_goto 302 120 dX12_years_302 (by decide) ?_
                rw [← nI_succ]
                refine V_lvw (by repeat (first | exact trivial | refine ⟨rfl, ?_⟩)) (ih102 (i98 + 1, _, _, _, _) ⟨by dsimp only; omega, h118, by dsimp only; first | omega | (simp only [sumN]; omega)⟩ (by dsimp only; omega))
              ·
                try have nf137 := mt (nI_leE (Eq.refl (nI (gN g i98))) (Eq.refl (nI i115)) (by omega) (by omega)).mpr c135
                try have lt138 := nI_ltC hi117 c135
                have hth := sum_upto h (k := i98) (by omega)
                refine V_bipush 157 (20) dX12_years_157 (by decide) ?_
                refine V_iload_5 159 dX12_years_159 ?_
                refine V_imul 161 dX12_years_161 ?_
                refine V_iload_6 162 dX12_years_162 ?_
                refine V_iadd 164 dX12_years_164 ?_
                refine V_istore_9 165 dX12_years_165 rfl (Nat.le_of_ble_eq_true rfl) ?_
                refine V_aload_0 167 dX12_years_167 ?_
                refine V_getR 168 (c := 12) 68 ((F.ss h118.1).r 0 68 49 rfl) dX12_years_168 fl_RX12_165 ((F.ss h118.1).m 0 (Nat.le_of_ble_eq_true rfl)) ((F.ss h118.1).k 0 12 rfl) (Nat.le_of_ble_eq_true rfl) (Nat.le_of_ble_eq_true rfl) rfl ?_
                refine V_iload_6 171 dX12_years_171 ?_
                refine V_zaload2 173 dX12_years_173 ((F.ss h118.1).m 49 (Nat.le_of_ble_eq_true rfl)) ((F.ss h118.1).k 49 16 rfl) ((F.ss h118.1).l 49 18 rfl) ?_ ?_
                · exact vpN (Eq.refl (nI w122)) (by omega) (by decide)
                refine V_if_ne 174 290 dX12_years_174 (by decide) (fun c139 => ?_) (fun c139 => ?_)
                ·
                  refine V_lvw (by repeat (first | exact trivial | refine ⟨rfl, ?_⟩)) (J129 _ _ _ _ _ h118 (by first | omega | assumption) (by first | omega | (simp only [sumN]; omega)))
                ·
                  refine V_aload_0 177 dX12_years_177 ?_
                  refine V_getR 178 (c := 12) 50 ((F.ss h118.1).r 0 50 35 rfl) dX12_years_178 fl_RX12_122 ((F.ss h118.1).m 0 (Nat.le_of_ble_eq_true rfl)) ((F.ss h118.1).k 0 12 rfl) (Nat.le_of_ble_eq_true rfl) (Nat.le_of_ble_eq_true rfl) rfl ?_
                  refine V_iconst 181 (0) dX12_years_181 (by decide) ?_
                  refine V_iload_5 182 dX12_years_182 ?_
                  refine V_iastore2 184 dX12_years_184 ((F.ss h118.1).m 35 (Nat.le_of_ble_eq_true rfl)) ((F.ss h118.1).k 35 14 rfl) ((F.ss h118.1).l 35 5 rfl) ?_ ?_
                  · exact (by unfold vp_in; decide)
                  refine V_abs (FZ [m + 35, m + 36, m + 49, m + 50] [(m, 52)] S) (h118.uA (by simp)) (fun S141 h142 => ?_)
                  refine V_aload_0 185 dX12_years_185 ?_
                  refine V_getR 186 (c := 12) 50 ((F.ss h142.1).r 0 50 35 rfl) dX12_years_186 fl_RX12_122 ((F.ss h142.1).m 0 (Nat.le_of_ble_eq_true rfl)) ((F.ss h142.1).k 0 12 rfl) (Nat.le_of_ble_eq_true rfl) (Nat.le_of_ble_eq_true rfl) rfl ?_
                  refine V_iconst 189 (1) dX12_years_189 (by decide) ?_
                  refine V_iload_7 190 dX12_years_190 ?_
                  refine V_iastore2 192 dX12_years_192 ((F.ss h142.1).m 35 (Nat.le_of_ble_eq_true rfl)) ((F.ss h142.1).k 35 14 rfl) ((F.ss h142.1).l 35 5 rfl) ?_ ?_
                  · exact (by unfold vp_in; decide)
                  refine V_abs (FZ [m + 35, m + 36, m + 49, m + 50] [(m, 52)] S) (h142.uA (by simp)) (fun S143 h144 => ?_)
                  refine V_aload_0 193 dX12_years_193 ?_
                  refine V_getR 194 (c := 12) 50 ((F.ss h144.1).r 0 50 35 rfl) dX12_years_194 fl_RX12_122 ((F.ss h144.1).m 0 (Nat.le_of_ble_eq_true rfl)) ((F.ss h144.1).k 0 12 rfl) (Nat.le_of_ble_eq_true rfl) (Nat.le_of_ble_eq_true rfl) rfl ?_
                  refine V_iconst 197 (2) dX12_years_197 (by decide) ?_
                  refine V_aload_0 198 dX12_years_198 ?_
                  refine V_getR 199 (c := 12) 69 ((F.ss h144.1).r 0 69 50 rfl) dX12_years_199 fl_RX12_168 ((F.ss h144.1).m 0 (Nat.le_of_ble_eq_true rfl)) ((F.ss h144.1).k 0 12 rfl) (Nat.le_of_ble_eq_true rfl) (Nat.le_of_ble_eq_true rfl) rfl ?_
                  refine V_iload_7 202 dX12_years_202 ?_
                  refine V_iaload2 204 dX12_years_204 ((F.ss h144.1).m 50 (Nat.le_of_ble_eq_true rfl)) ((F.ss h144.1).k 50 14 rfl) ((F.ss h144.1).l 50 8 rfl) ?_ ?_
                  · exact vp_in_nI (by omega) (by decide)
                  refine V_iastore2 205 dX12_years_205 ((F.ss h144.1).m 35 (Nat.le_of_ble_eq_true rfl)) ((F.ss h144.1).k 35 14 rfl) ((F.ss h144.1).l 35 5 rfl) ?_ ?_
                  · exact (by unfold vp_in; decide)
                  refine V_abs (FZ [m + 35, m + 36, m + 49, m + 50] [(m, 52)] S) (h144.uA (by simp)) (fun S145 h146 => ?_)
                  refine V_aload_0 206 dX12_years_206 ?_
                  refine V_getR 207 (c := 12) 50 ((F.ss h146.1).r 0 50 35 rfl) dX12_years_207 fl_RX12_122 ((F.ss h146.1).m 0 (Nat.le_of_ble_eq_true rfl)) ((F.ss h146.1).k 0 12 rfl) (Nat.le_of_ble_eq_true rfl) (Nat.le_of_ble_eq_true rfl) rfl ?_
                  refine V_iconst 210 (3) dX12_years_210 (by decide) ?_
                  refine V_iload_3 211 dX12_years_211 ?_
                  refine V_iastore2 212 dX12_years_212 ((F.ss h146.1).m 35 (Nat.le_of_ble_eq_true rfl)) ((F.ss h146.1).k 35 14 rfl) ((F.ss h146.1).l 35 5 rfl) ?_ ?_
                  · exact (by unfold vp_in; decide)
                  refine V_abs (FZ [m + 35, m + 36, m + 49, m + 50] [(m, 52)] S) (h146.uA (by simp)) (fun S147 h148 => ?_)
                  refine V_aload_0 213 dX12_years_213 ?_
                  refine V_getR 214 (c := 12) 50 ((F.ss h148.1).r 0 50 35 rfl) dX12_years_214 fl_RX12_122 ((F.ss h148.1).m 0 (Nat.le_of_ble_eq_true rfl)) ((F.ss h148.1).k 0 12 rfl) (Nat.le_of_ble_eq_true rfl) (Nat.le_of_ble_eq_true rfl) rfl ?_
                  refine V_iconst 217 (4) dX12_years_217 (by decide) ?_
                  refine V_aload_0 218 dX12_years_218 ?_
                  refine V_getR 219 (c := 12) 36 ((F.ss h148.1).r 0 36 24 rfl) dX12_years_219 fl_RX12_88 ((F.ss h148.1).m 0 (Nat.le_of_ble_eq_true rfl)) ((F.ss h148.1).k 0 12 rfl) (Nat.le_of_ble_eq_true rfl) (Nat.le_of_ble_eq_true rfl) rfl ?_
                  refine V_aload_0 222 dX12_years_222 ?_
                  refine V_getI 223 (c := 12) 18 dX12_years_223 fl_RX12_264 ((F.ss h148.1).m 0 (Nat.le_of_ble_eq_true rfl)) ((F.ss h148.1).k 0 12 rfl) (Nat.le_of_ble_eq_true rfl) (Nat.le_of_ble_eq_true rfl) rfl ?_
                  rw [(h.z [35, 36, 49, 50] [(0, 52)] h148 rfl rfl rfl rfl).lv]
                  refine V_iaload2 226 dX12_years_226 ((F.ss h148.1).m 24 (Nat.le_of_ble_eq_true rfl)) ((F.ss h148.1).k 24 14 rfl) ((F.ss h148.1).l 24 2 rfl) ?_ ?_
                  · exact vpN (Eq.refl (nI (gl g))) (by omega) (by decide)
                  refine V_iload_9 227 dX12_years_227 ?_
                  refine V_bipush 229 (100) dX12_years_229 (by decide) ?_
                  refine V_callS 231 [.int _, .int _, .int _] _ (s_mlotOf M.2.1 Γ S147 _ _ (100) (by omega) (by omega)) dX12_years_231 cb_X12_lotOf ml_RX12_358 sm_yX12_lotOf ⟨(Nat.le_of_ble_eq_true rfl), (Nat.le_of_ble_eq_true rfl)⟩ rfl rfl (Nat.le_of_ble_eq_true rfl) ⟨(Nat.le_of_ble_eq_true rfl), (Nat.le_of_ble_eq_true rfl)⟩ (RI.go (fun r151 S149 q150 => ?_))
                  rw [q150.2]
                  refine V_iastore2 234 dX12_years_234 ((F.ss h148.1).m 35 (Nat.le_of_ble_eq_true rfl)) ((F.ss h148.1).k 35 14 rfl) ((F.ss h148.1).l 35 5 rfl) ?_ ?_
                  · exact (by unfold vp_in; decide)
                  refine V_abs (FZ [m + 35, m + 36, m + 49, m + 50] [(m, 52)] S) (h148.uA (by simp)) (fun S152 h153 => ?_)
                  refine V_aload_0 235 dX12_years_235 ?_
                  refine V_getR 236 (c := 12) 36 ((F.ss h153.1).r 0 36 24 rfl) dX12_years_236 fl_RX12_88 ((F.ss h153.1).m 0 (Nat.le_of_ble_eq_true rfl)) ((F.ss h153.1).k 0 12 rfl) (Nat.le_of_ble_eq_true rfl) (Nat.le_of_ble_eq_true rfl) rfl ?_
                  refine V_aload_0 239 dX12_years_239 ?_
                  refine V_getI 240 (c := 12) 18 dX12_years_240 fl_RX12_264 ((F.ss h153.1).m 0 (Nat.le_of_ble_eq_true rfl)) ((F.ss h153.1).k 0 12 rfl) (Nat.le_of_ble_eq_true rfl) (Nat.le_of_ble_eq_true rfl) rfl ?_
                  rw [(h.z [35, 36, 49, 50] [(0, 52)] h153 rfl rfl rfl rfl).lv]
                  refine V_iaload2 243 dX12_years_243 ((F.ss h153.1).m 24 (Nat.le_of_ble_eq_true rfl)) ((F.ss h153.1).k 24 14 rfl) ((F.ss h153.1).l 24 2 rfl) ?_ ?_
                  · exact vpN (Eq.refl (nI (gl g))) (by omega) (by decide)
                  refine V_iload_9 244 dX12_years_244 ?_
                  refine V_sipush 246 (1000) dX12_years_246 (by decide) ?_
                  refine V_callS 249 [.int _, .int _, .int _] _ (s_mlotOf M.2.1 Γ S152 _ _ (1000) (by omega) (by omega)) dX12_years_249 cb_X12_lotOf ml_RX12_358 sm_yX12_lotOf ⟨(Nat.le_of_ble_eq_true rfl), (Nat.le_of_ble_eq_true rfl)⟩ rfl rfl (Nat.le_of_ble_eq_true rfl) ⟨(Nat.le_of_ble_eq_true rfl), (Nat.le_of_ble_eq_true rfl)⟩ (RI.go (fun r156 S154 q155 => ?_))
                  rw [q155.2]
                  refine V_aload_0 252 dX12_years_252 ?_
                  refine V_callV 253 (ci := 12) [] _ (s_mloses M.2.1 Γ S152 (F.ss h153.1) (h.z [35, 36, 49, 50] [(0, 52)] h153 rfl rfl rfl rfl)) dX12_years_253 cb_X12_loses ml_RX12_431 im_yX12_loses se_yX12_loses ((F.ss h153.1).m 0 (Nat.le_of_ble_eq_true rfl)) ((F.ss h153.1).k 0 12 rfl) (Nat.le_of_ble_eq_true rfl) ⟨(Nat.le_of_ble_eq_true rfl), (Nat.le_of_ble_eq_true rfl)⟩ rfl rfl (Nat.le_of_ble_eq_true rfl) ⟨(Nat.le_of_ble_eq_true rfl), (Nat.le_of_ble_eq_true rfl)⟩ (RI.go (fun r159 S157 q158 => ?_))
                  have h160 : FZ [m + 35, m + 36, m + 49, m + 50] [(m, 52)] S S157 := h153.tr (q158.sub (by simp) (by simp))
                  refine V_icmp_ge 256 290 dX12_years_256 (by decide) (fun c161 => ?_) (fun c161 => ?_)
                  ·
                    refine V_lvw (by repeat (first | exact trivial | refine ⟨rfl, ?_⟩)) (J129 _ _ _ _ _ h160 (by first | omega | assumption) (by first | omega | (simp only [sumN]; omega)))
                  ·
                    refine V_aload_0 259 dX12_years_259 ?_
                    refine V_getR 260 (c := 12) 68 ((F.ss h160.1).r 0 68 49 rfl) dX12_years_260 fl_RX12_165 ((F.ss h160.1).m 0 (Nat.le_of_ble_eq_true rfl)) ((F.ss h160.1).k 0 12 rfl) (Nat.le_of_ble_eq_true rfl) (Nat.le_of_ble_eq_true rfl) rfl ?_
                    refine V_iload_6 263 dX12_years_263 ?_
                    refine V_iconst 265 (1) dX12_years_265 (by decide) ?_
                    refine V_zastore2 266 dX12_years_266 ((F.ss h160.1).m 49 (Nat.le_of_ble_eq_true rfl)) ((F.ss h160.1).k 49 16 rfl) ((F.ss h160.1).l 49 18 rfl) ?_ (Or.inr rfl) ?_
                    · exact vpN (Eq.refl (nI w122)) (by omega) (by decide)
                    refine V_abs (FZ [m + 35, m + 36, m + 49, m + 50] [(m, 52)] S) (h160.uA (by simp)) (fun S163 h164 => ?_)
                    refine V_aload_0 267 dX12_years_267 ?_
                    refine V_getR 268 (c := 12) 69 ((F.ss h164.1).r 0 69 50 rfl) dX12_years_268 fl_RX12_168 ((F.ss h164.1).m 0 (Nat.le_of_ble_eq_true rfl)) ((F.ss h164.1).k 0 12 rfl) (Nat.le_of_ble_eq_true rfl) (Nat.le_of_ble_eq_true rfl) rfl ?_
                    refine V_iload_7 271 dX12_years_271 ?_
                    refine V_dup2 273 dX12_years_273 rfl rfl ?_
                    refine V_iaload2 274 dX12_years_274 ((F.ss h164.1).m 50 (Nat.le_of_ble_eq_true rfl)) ((F.ss h164.1).k 50 14 rfl) ((F.ss h164.1).l 50 8 rfl) ?_ ?_
                    · exact vp_in_nI (by omega) (by decide)
                    refine V_iconst 275 (1) dX12_years_275 (by decide) ?_
                    refine V_isub 276 dX12_years_276 ?_
                    refine V_iastore2 277 dX12_years_277 ((F.ss h164.1).m 50 (Nat.le_of_ble_eq_true rfl)) ((F.ss h164.1).k 50 14 rfl) ((F.ss h164.1).l 50 8 rfl) ?_ ?_
                    · exact vp_in_nI (by omega) (by decide)
                    refine V_abs (FZ [m + 35, m + 36, m + 49, m + 50] [(m, 52)] S) (h164.uA (by simp)) (fun S165 h166 => ?_)
                    refine V_iinc_3 278 (-1) dX12_years_278 (by decide) rfl (Nat.le_of_ble_eq_true rfl) ?_
                    refine V_iload_4 281 dX12_years_281 ?_
                    refine V_if_ge 283 290 dX12_years_283 (by decide) (fun c167 => ?_) (fun c167 => ?_)
                    ·
                      refine V_lvw (by repeat (first | exact trivial | refine ⟨rfl, ?_⟩)) (J129 _ _ _ _ _ h166 (by first | omega | assumption) (by first | omega | (simp only [sumN]; omega)))
                    ·
                      refine V_iload_5 286 dX12_years_286 ?_
                      refine V_istore_4 288 dX12_years_288 rfl (Nat.le_of_ble_eq_true rfl) ?_
                      refine V_lvw (by repeat (first | exact trivial | refine ⟨rfl, ?_⟩)) (J129 _ _ _ _ _ h166 (by first | omega | assumption) (by first | omega | (simp only [sumN]; omega)))
        ·
          try have nf170 := mt (nI_leE (Eq.refl (nI (gK g))) (Eq.refl (nI i14)) (by omega) (by omega)).mpr c23
          try have lt171 := nI_ltC hi16 c23
          refine V_aload_0 73 dX12_years_73 ?_
          refine V_getR 74 (c := 12) 69 ((F.ss h17.1).r 0 69 50 rfl) dX12_years_74 fl_RX12_168 ((F.ss h17.1).m 0 (Nat.le_of_ble_eq_true rfl)) ((F.ss h17.1).k 0 12 rfl) (Nat.le_of_ble_eq_true rfl) (Nat.le_of_ble_eq_true rfl) rfl ?_
          refine V_iload_4 77 dX12_years_77 ?_
          refine V_aload_0 79 dX12_years_79 ?_
          refine V_getR 80 (c := 12) 25 ((F.ss h17.1).r 0 25 13 rfl) dX12_years_80 fl_RX12_55 ((F.ss h17.1).m 0 (Nat.le_of_ble_eq_true rfl)) ((F.ss h17.1).k 0 12 rfl) (Nat.le_of_ble_eq_true rfl) (Nat.le_of_ble_eq_true rfl) rfl ?_
          refine V_bipush 83 (8) dX12_years_83 (by decide) ?_
          refine V_aload_0 85 dX12_years_85 ?_
          refine V_getI 86 (c := 12) 18 dX12_years_86 fl_RX12_264 ((F.ss h17.1).m 0 (Nat.le_of_ble_eq_true rfl)) ((F.ss h17.1).k 0 12 rfl) (Nat.le_of_ble_eq_true rfl) (Nat.le_of_ble_eq_true rfl) rfl ?_
          rw [(h.z [35, 36, 49, 50] [(0, 52)] h17 rfl rfl rfl rfl).lv]
          refine V_imul 89 dX12_years_89 ?_
          refine V_iload_4 90 dX12_years_90 ?_
          refine V_iadd 92 dX12_years_92 ?_
          refine V_iaload2 93 dX12_years_93 ((F.ss h17.1).m 13 (Nat.le_of_ble_eq_true rfl)) ((F.ss h17.1).k 13 14 rfl) ((F.ss h17.1).l 13 16 rfl) ?_ ?_
          · exact vpN (eqAdd (eqMul (show (8 : Int32) = nI 8 from rfl) (Eq.refl (nI (gl g)))) (Eq.refl (nI i14))) (by omega) (by decide)
          rw [clN (eqAdd (eqMul (show (8 : Int32) = nI 8 from rfl) (Eq.refl (nI (gl g)))) (Eq.refl (nI i14))) (by omega)]
          refine V_iastore2 94 dX12_years_94 ((F.ss h17.1).m 50 (Nat.le_of_ble_eq_true rfl)) ((F.ss h17.1).k 50 14 rfl) ((F.ss h17.1).l 50 8 rfl) ?_ ?_
          · exact vp_in_nI (by omega) (by decide)
          refine V_abs (FZ [m + 35, m + 36, m + 49, m + 50] [(m, 52)] S) (h17.uA (by simp)) (fun S172 h173 => ?_)
          refine V_iinc_4 95 (1) dX12_years_95 (by decide) rfl (Nat.le_of_ble_eq_true rfl) ?_
          refine V_goto 98 59 dX12_years_98 (by decide) ?_
          rw [← nI_succ]
          refine V_lvw (by repeat (first | exact trivial | refine ⟨rfl, ?_⟩)) (ih18 (i14 + 1, _, _) ⟨by dsimp only; omega, h173⟩ (by dsimp only; omega))
      ·
        try have nf174 := mt (nI_leE (show (18 : Int32) = nI 18 from rfl) (Eq.refl (nI i2)) (by omega) (by omega)).mpr c11
        have lt175 := nI_lt8 (by decide) hi4 c11
        refine V_aload_0 42 dX12_years_42 ?_
        refine V_getR 43 (c := 12) 68 ((F.ss h5.1).r 0 68 49 rfl) dX12_years_43 fl_RX12_165 ((F.ss h5.1).m 0 (Nat.le_of_ble_eq_true rfl)) ((F.ss h5.1).k 0 12 rfl) (Nat.le_of_ble_eq_true rfl) (Nat.le_of_ble_eq_true rfl) rfl ?_
        refine V_iload_4 46 dX12_years_46 ?_
        refine V_iconst 48 (0) dX12_years_48 (by decide) ?_
        refine V_zastore2 49 dX12_years_49 ((F.ss h5.1).m 49 (Nat.le_of_ble_eq_true rfl)) ((F.ss h5.1).k 49 16 rfl) ((F.ss h5.1).l 49 18 rfl) ?_ (Or.inl rfl) ?_
        · exact vp_in_nI (by omega) (by decide)
        refine V_abs (FZ [m + 35, m + 36, m + 49, m + 50] [(m, 52)] S) (h5.uA (by simp)) (fun S176 h177 => ?_)
        refine V_iinc_4 50 (1) dX12_years_50 (by decide) rfl (Nat.le_of_ble_eq_true rfl) ?_
        refine V_goto 53 35 dX12_years_53 (by decide) ?_
        rw [← nI_succ]
        refine V_lvw (by repeat (first | exact trivial | refine ⟨rfl, ?_⟩)) (ih6 (i2 + 1, _, _) ⟨by dsimp only; omega, h177⟩ (by dsimp only; omega))
    · exact J20

