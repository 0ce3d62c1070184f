/-! the class on a new table: orders, odd ones -/
theorem i1m1 : ((1 : Int32) - 1).toNatClampNeg = 0 := by decide
theorem cl0 : (0 : Int32).toNatClampNeg = 0 := by decide
theorem in0 {n : Nat} (h : 0 < n) (hn : n < 2 ^ 31) : vp_in 0 n := vp_in_nI (n := 0) h hn
theorem aAt_1m1 {S : PS} {a n : Nat} (h : sL S a = n) (hn : 0 < n) : aAt S a (1 - 1) = sA S a 0 := by
  unfold aAt
  rw [i1m1, h, if_neg (by intro q; rcases q with q | q; exact absurd q (by decide); omega)]
theorem jAt_1m1 {S : PS} {a n : Nat} (h : sL S a = n) (hn : 0 < n) : jAt S a (1 - 1) = sJ S a 0 := by
  unfold jAt
  rw [i1m1, h, if_neg (by intro q; rcases q with q | q; exact absurd q (by decide); omega)]
theorem aAt_nI {S : PS} {a n i : Nat} (h : sL S a = n) (hi : i < n) (hn : n < 2 ^ 31) : aAt S a (nI i) = sA S a i := by
  unfold aAt
  rw [nI_clamp (by omega), h, if_neg (fun q => q.elim (nI_pos (by omega)) (fun q => by omega))]
/-- what Grid.begin leaves when nothing is there -/
def GB (g : Nat) (S S' : PS) : Prop := SSm S S' ∧ sJ S' = sJ S ∧ (∀ c, c ≠ g → sI S' c = sI S c) ∧ (∀ c, c ∉ [g + 1, g + 2, g + 3] → sA S' c = sA S c) ∧ sI S' g 3 = 1
set_option maxRecDepth 100000 in
set_option maxHeartbeats 8000000 in
theorem c_begin (l : Launch) (Γ : GC) (S : PS) {g a : Nat} (F : isL lyGrid Γ.2.2.2.2.1 S g) (ha : a ∈ PL Γ.2.2.2.2.1 S) (hk : sK S a = 14) (hl : sL S a = 8) (hz : ∀ j, j < 8 → sA S a j = 0) (hne : a ∉ [g + 1, g + 2, g + 3]) : CT l Γ yX1_begin cX1_begin 4 none (1) (0) (0) [.ref g, .ref a] S (RV (fun S' => GB g S S')) := by
  refine CT.of RX1 "begin" [some (.ref g), some (.ref a), none, none] (by decide +kernel) rfl rfl (Nat.le_of_ble_eq_true rfl) rfl (fun M hM => ?_)
  subst hM
  refine V_iconst 0 (1) dX1_begin_0 (by decide) ?_
  refine V_istore_2 1 dX1_begin_1 rfl (Nat.le_of_ble_eq_true rfl) ?_
  refine V_iconst 2 (0) dX1_begin_2 (by decide) ?_
  refine V_istore_3 3 dX1_begin_3 rfl (Nat.le_of_ble_eq_true rfl) ?_
  refine V_while (α := Nat × PS) (fun x => 8 - x.1) (fun x => x.1 ≤ 8 ∧ RO [g + 1, g + 2, g + 3] S x.2) (fun x => x.2) (fun x => [some (.ref g), some (.ref a), some (.int 1), some (.int (nI x.1))]) (0, S) ⟨Nat.zero_le _, RO.rf⟩ (fun x hx ih => ?_)
  obtain ⟨i, S2⟩ := x
  obtain ⟨hi, hR⟩ := hx
  dsimp only at hi hR ih ⊢
  have F2 := F.ss hR.1
  have ha2 : a ∈ PL Γ.2.2.2.2.1 S2 := by rw [PL_mem, hR.1.1]; exact PL_mem.mp ha
  have hk2 : sK S2 a = 14 := by rw [hR.1.2.1]; exact hk
  have hl2 : sL S2 a = 8 := by rw [hR.1.2.2.2.1]; exact hl
  refine V_iload_3 4 dX1_begin_4 ?_
  refine V_bipush 5 (8) dX1_begin_5 (by decide) ?_
  refine V_icmp_ge 7 52 dX1_begin_7 (by decide) (fun c => ?_) (fun c => ?_)
  ·
    refine V_aload_0 52 dX1_begin_52 ?_
    refine V_iload_2 53 dX1_begin_53 ?_
    refine V_sipush 54 (11664) dX1_begin_54 (by decide) ?_
    refine V_mmin 57 dX1_begin_57 ml_RX1_25 (Nat.le_of_ble_eq_true rfl) (Nat.le_of_ble_eq_true rfl) (Nat.le_of_ble_eq_true rfl) (Nat.le_of_ble_eq_true rfl) ?_
    refine V_putI 60 (c := 1) 3 dX1_begin_60 fl_RX1_31 (F2.m 0 (Nat.le_of_ble_eq_true rfl)) (F2.k 0 1 rfl) (Nat.le_of_ble_eq_true rfl) (Nat.le_of_ble_eq_true rfl) rfl (Or.inl rfl) ?_
    refine V_vret 63 dX1_begin_63 rfl (Nat.le_of_ble_eq_true rfl) (Nat.le_of_ble_eq_true rfl) ?_
    refine RV.mk ⟨hR.1, hR.2.2.1, fun c hc => ?_, hR.2.2.2, ?_⟩
    · rw [sI_uI, up2_an _ _ hc, hR.2.1]
    · rw [sI_uI, up2_s]; decide
  ·
    have hi2 := nI_lt8 (by decide) hi c
    have h0 : aAt S2 a (nI i) = 0 := by rw [aAt_nI hl2 hi2 (by decide), hR.2.2.2 a hne]; exact hz i hi2
    refine V_aload_0 10 dX1_begin_10 ?_
    refine V_getR 11 (c := 1) 0 (F2.r 0 0 1 rfl) dX1_begin_11 fl_RX1_9 (F2.m 0 (Nat.le_of_ble_eq_true rfl)) (F2.k 0 1 rfl) (Nat.le_of_ble_eq_true rfl) (Nat.le_of_ble_eq_true rfl) rfl ?_
    refine V_iload_3 14 dX1_begin_14 ?_
    refine V_aload_1 15 dX1_begin_15 ?_
    refine V_iload_3 16 dX1_begin_16 ?_
    refine V_callSN 17 [.ref _, .int _] _ (c_at M.2.1 Γ S2 (a := a) ha2 hk2 (by rw [hl2]; decide) _) dX1_begin_17 cb_X11_at ne_RX1_21 sm_yX11_at ⟨(Nat.le_of_ble_eq_true rfl), (Nat.le_of_ble_eq_true rfl)⟩ rfl rfl (Nat.le_of_ble_eq_true rfl) ⟨(Nat.le_of_ble_eq_true rfl), (Nat.le_of_ble_eq_true rfl)⟩ (RI.go (fun r S3 hq => ?_))
    obtain ⟨rfl, rfl⟩ := hq
    refine V_iastore2 20 dX1_begin_20 (F2.m 1 (Nat.le_of_ble_eq_true rfl)) (F2.k 1 14 rfl) (F2.l 1 8 rfl) ?_ ?_
    · exact vp_in_nI hi2 (by decide)
    refine V_aload_0 21 dX1_begin_21 ?_
    refine V_getR 22 (c := 1) 2 (F2.r 0 2 3 rfl) dX1_begin_22 fl_RX1_18 (F2.m 0 (Nat.le_of_ble_eq_true rfl)) (F2.k 0 1 rfl) (Nat.le_of_ble_eq_true rfl) (Nat.le_of_ble_eq_true rfl) rfl ?_
    refine V_iload_3 25 dX1_begin_25 ?_
    refine V_iconst 26 (0) dX1_begin_26 (by decide) ?_
    refine V_iastore2 27 dX1_begin_27 (F2.m 3 (Nat.le_of_ble_eq_true rfl)) (F2.k 3 14 rfl) (F2.l 3 8 rfl) ?_ ?_
    · exact vp_in_nI hi2 (by decide)
    refine V_aload_0 28 dX1_begin_28 ?_
    refine V_getR 29 (c := 1) 1 (F2.r 0 1 2 rfl) dX1_begin_29 fl_RX1_15 (F2.m 0 (Nat.le_of_ble_eq_true rfl)) (F2.k 0 1 rfl) (Nat.le_of_ble_eq_true rfl) (Nat.le_of_ble_eq_true rfl) rfl ?_
    refine V_iload_3 32 dX1_begin_32 ?_
    refine V_iload_2 33 dX1_begin_33 ?_
    refine V_iastore2 34 dX1_begin_34 (F2.m 2 (Nat.le_of_ble_eq_true rfl)) (F2.k 2 14 rfl) (F2.l 2 8 rfl) ?_ ?_
    · exact vp_in_nI hi2 (by decide)
    refine V_iload_2 35 dX1_begin_35 ?_
    refine V_aload_0 36 dX1_begin_36 ?_
    refine V_getR 37 (c := 1) 0 (F2.r 0 0 1 rfl) dX1_begin_37 fl_RX1_9 (F2.m 0 (Nat.le_of_ble_eq_true rfl)) (F2.k 0 1 rfl) (Nat.le_of_ble_eq_true rfl) (Nat.le_of_ble_eq_true rfl) rfl ?_
    refine V_iload_3 40 dX1_begin_40 ?_
    refine V_iaload2 41 dX1_begin_41 (F2.m 1 (Nat.le_of_ble_eq_true rfl)) (F2.k 1 14 rfl) (F2.l 1 8 rfl) ?_ ?_
    · exact vp_in_nI hi2 (by decide)
    refine V_iconst 42 (1) dX1_begin_42 (by decide) ?_
    refine V_iadd 43 dX1_begin_43 ?_
    refine V_imul 44 dX1_begin_44 ?_
    rw [nI_clamp (by omega), h0]
    have e1 : sA (uA (uA (uA S3 (g + 1) i 0) (g + 3) i 0) (g + 2) i 1) (g + 1) i = 0 := by
      rw [sA_uA, up2_a _ _ (by omega), sA_uA, up2_a _ _ (by omega), sA_uA, up2_s]
    rw [e1]
    refine V_istore_2 45 dX1_begin_45 rfl (Nat.le_of_ble_eq_true rfl) ?_
    refine V_iinc_3 46 (1) dX1_begin_46 (by decide) rfl (Nat.le_of_ble_eq_true rfl) ?_
    refine V_goto 49 4 dX1_begin_49 (by decide) ?_
    rw [← nI_succ, show (1 : Int32) * (0 + 1) = 1 by decide]
    exact ih (i + 1, _) ⟨by dsimp only; omega, ((hR.uA (by simp)).uA (by simp)).uA (by simp)⟩ (by dsimp only; omega)
set_option maxRecDepth 100000 in
set_option maxHeartbeats 8000000 in
theorem c_pairUp (l : Launch) (Γ : GC) (S : PS) {o a t : Nat} (F : isL lyOdds Γ.2.2.2.2.1 S o) (ha : a ∈ PL Γ.2.2.2.2.1 S) (hk : sK S a = 14) (hl : sL S a = 8) (hz : ∀ j, j < 8 → sA S a j = 0) (hne : a ∉ [o + 2, o + 3, o + 4]) : CT l Γ yX4_pairUp cX4_pairUp 4 none (2) (0) (0) [.ref o, .ref a, .ref t] S (RV (fun S' => sI S' o 2 = 0 ∧ sI S' o 3 = 0 ∧ SSm S S')) := by
  refine CT.of RX4 "pairUp" [some (.ref o), some (.ref a), some (.ref t), none] (by decide +kernel) rfl rfl (Nat.le_of_ble_eq_true rfl) rfl (fun M hM => ?_)
  subst hM
  refine V_aload_0 0 dX4_pairUp_0 ?_
  refine V_getR 1 (c := 4) 0 (F.r 0 0 1 rfl) dX4_pairUp_1 fl_RX4_12 (F.m 0 (Nat.le_of_ble_eq_true rfl)) (F.k 0 4 rfl) (Nat.le_of_ble_eq_true rfl) (Nat.le_of_ble_eq_true rfl) rfl ?_
  refine V_aload_1 4 dX4_pairUp_4 ?_
  refine V_callV 5 (ci := 1) [.ref _] _ (c_begin M.2.1 Γ S (g := o + 1) (a := a) (F.sub 1 lyGrid rfl (by decide)) ha hk hl hz hne) dX4_pairUp_5 cb_X1_begin ml_RX4_22 im_yX1_begin se_yX1_begin (F.m 1 (Nat.le_of_ble_eq_true rfl)) (F.k 1 1 rfl) (Nat.le_of_ble_eq_true rfl) ⟨(Nat.le_of_ble_eq_true rfl), (Nat.le_of_ble_eq_true rfl)⟩ rfl rfl (Nat.le_of_ble_eq_true rfl) ⟨(Nat.le_of_ble_eq_true rfl), (Nat.le_of_ble_eq_true rfl)⟩ (RV.go (fun S1 hq => ?_))
  have F1 := F.ss hq.1
  refine V_aload_0 8 dX4_pairUp_8 ?_
  refine V_getR 9 (c := 4) 1 (F1.r 0 1 5 rfl) dX4_pairUp_9 fl_RX4_18 (F1.m 0 (Nat.le_of_ble_eq_true rfl)) (F1.k 0 4 rfl) (Nat.le_of_ble_eq_true rfl) (Nat.le_of_ble_eq_true rfl) rfl ?_
  refine V_iconst 12 (0) dX4_pairUp_12 (by decide) ?_
  refine V_iconst 13 (0) dX4_pairUp_13 (by decide) ?_
  refine V_iastore2 14 dX4_pairUp_14 (F1.m 5 (Nat.le_of_ble_eq_true rfl)) (F1.k 5 14 rfl) (F1.l 5 1024 rfl) ?_ ?_
  · exact in0 (by decide) (by decide)
  refine V_iconst 15 (1) dX4_pairUp_15 (by decide) ?_
  refine V_istore_3 16 dX4_pairUp_16 rfl (Nat.le_of_ble_eq_true rfl) ?_
  refine V_iload_3 17 dX4_pairUp_17 ?_
  refine V_aload_0 18 dX4_pairUp_18 ?_
  refine V_getR 19 (c := 4) 0 (F1.r 0 0 1 rfl) dX4_pairUp_19 fl_RX4_12 (F1.m 0 (Nat.le_of_ble_eq_true rfl)) (F1.k 0 4 rfl) (Nat.le_of_ble_eq_true rfl) (Nat.le_of_ble_eq_true rfl) rfl ?_
  refine V_getI 22 (c := 1) 3 dX4_pairUp_22 fl_RX4_26 (F1.m 1 (Nat.le_of_ble_eq_true rfl)) (F1.k 1 1 rfl) (Nat.le_of_ble_eq_true rfl) (Nat.le_of_ble_eq_true rfl) rfl ?_
  rw [cl0]
  have e1 : sI (uA S1 (o + 5) 0 0) (o + 1) 3 = 1 := hq.2.2.2.2
  rw [e1]
  refine V_icmp_ge 25 62 dX4_pairUp_25 (by decide) (fun _ => ?_) (fun q => absurd (by decide) q)
  refine V_aload_0 62 dX4_pairUp_62 ?_
  refine V_getR 63 (c := 4) 1 (F1.r 0 1 5 rfl) dX4_pairUp_63 fl_RX4_18 (F1.m 0 (Nat.le_of_ble_eq_true rfl)) (F1.k 0 4 rfl) (Nat.le_of_ble_eq_true rfl) (Nat.le_of_ble_eq_true rfl) rfl ?_
  refine V_aload_0 66 dX4_pairUp_66 ?_
  refine V_getR 67 (c := 4) 0 (F1.r 0 0 1 rfl) dX4_pairUp_67 fl_RX4_12 (F1.m 0 (Nat.le_of_ble_eq_true rfl)) (F1.k 0 4 rfl) (Nat.le_of_ble_eq_true rfl) (Nat.le_of_ble_eq_true rfl) rfl ?_
  refine V_getI 70 (c := 1) 3 dX4_pairUp_70 fl_RX4_26 (F1.m 1 (Nat.le_of_ble_eq_true rfl)) (F1.k 1 1 rfl) (Nat.le_of_ble_eq_true rfl) (Nat.le_of_ble_eq_true rfl) rfl ?_
  rw [e1]
  refine V_iconst 73 (1) dX4_pairUp_73 (by decide) ?_
  refine V_isub 74 dX4_pairUp_74 ?_
  refine V_callSN 75 [.ref _, .int _] _ (c_at M.2.1 Γ (uA S1 (o + 5) 0 0) (a := o + 5) (F1.m 5 (by decide)) (F1.k 5 14 rfl) (by show sL S1 (o + 5) < _; rw [F1.l 5 1024 rfl]; decide) _) dX4_pairUp_75 cb_X11_at ne_RX4_37 sm_yX11_at ⟨(Nat.le_of_ble_eq_true rfl), (Nat.le_of_ble_eq_true rfl)⟩ rfl rfl (Nat.le_of_ble_eq_true rfl) ⟨(Nat.le_of_ble_eq_true rfl), (Nat.le_of_ble_eq_true rfl)⟩ (RI.go (fun r S2 hq2 => ?_))
  obtain ⟨rfl, rfl⟩ := hq2
  rw [aAt_1m1 (S := uA S1 (o + 5) 0 0) (n := 1024) (F1.l 5 1024 rfl) (by decide), sA_uA, up2_s]
  refine V_istore_3 78 dX4_pairUp_78 rfl (Nat.le_of_ble_eq_true rfl) ?_
  refine V_aload_0 79 dX4_pairUp_79 ?_
  refine V_iload_3 80 dX4_pairUp_80 ?_
  refine V_sipush 81 (10000) dX4_pairUp_81 (by decide) ?_
  refine V_iadd 84 dX4_pairUp_84 ?_
  refine V_iconst 85 (1) dX4_pairUp_85 (by decide) ?_
  refine V_isub 86 dX4_pairUp_86 ?_
  refine V_sipush 87 (10000) dX4_pairUp_87 (by decide) ?_
  refine V_idiv 90 dX4_pairUp_90 (by decide) ?_
  refine V_putI 91 (c := 4) 2 dX4_pairUp_91 fl_RX4_41 (F1.m 0 (Nat.le_of_ble_eq_true rfl)) (F1.k 0 4 rfl) (Nat.le_of_ble_eq_true rfl) (Nat.le_of_ble_eq_true rfl) rfl (Or.inl rfl) ?_
  refine V_aload_0 94 dX4_pairUp_94 ?_
  refine V_aload_0 95 dX4_pairUp_95 ?_
  refine V_getI 96 (c := 4) 2 dX4_pairUp_96 fl_RX4_41 (F1.m 0 (Nat.le_of_ble_eq_true rfl)) (F1.k 0 4 rfl) (Nat.le_of_ble_eq_true rfl) (Nat.le_of_ble_eq_true rfl) rfl ?_
  refine V_sipush 99 (10000) dX4_pairUp_99 (by decide) ?_
  refine V_imul 102 dX4_pairUp_102 ?_
  refine V_iload_3 103 dX4_pairUp_103 ?_
  refine V_isub 104 dX4_pairUp_104 ?_
  refine V_putI 105 (c := 4) 3 dX4_pairUp_105 fl_RX4_44 (F1.m 0 (Nat.le_of_ble_eq_true rfl)) (F1.k 0 4 rfl) (Nat.le_of_ble_eq_true rfl) (Nat.le_of_ble_eq_true rfl) rfl (Or.inl rfl) ?_
  refine V_vret 108 dX4_pairUp_108 rfl (Nat.le_of_ble_eq_true rfl) (Nat.le_of_ble_eq_true rfl) ?_
  refine RV.mk ⟨?_, ?_, hq.1⟩
  · rw [sI_uI, up2_k _ _ (by decide), sI_uI, up2_s]; decide
  · rw [sI_uI, up2_s, sI_uI, up2_s]; decide
set_option maxRecDepth 100000 in
set_option maxHeartbeats 8000000 in
theorem f_odd (l : Launch) (Γ : GC) (S : PS) {h : Nat} (F : isL lySockTable Γ.2.2.2.2.1 S h) (D : FRESH h S) (w : Int32) : CT l Γ yX11_odd cX11_odd 2 (some .int) (3) (0) (0) [.ref h, .int w] S (RI (fun r S' => r = if w < 0 ∨ 1 < w then -1 else 0)) := by
  refine CT.of RX11 "odd" [some (.ref h), some (.int w)] (by decide +kernel) rfl rfl (Nat.le_of_ble_eq_true rfl) rfl (fun M hM => ?_)
  subst hM
  obtain ⟨⟨d1, d2, d3, ⟨⟨k0, k1, k8, k9, k10, k11, k13⟩, kn, kp⟩, ⟨w1, w2, w3, w4⟩, dh, ⟨o1, o2, o3⟩, ⟨l1, l2, l3⟩, ds⟩, P1, P2⟩ := D
  refine V_iload_1 0 dX11_odd_0 ?_
  refine V_if_lt 1 9 dX11_odd_1 (by decide) (fun c => ?_) (fun c => ?_)
  ·
    refine V_iconst 9 (-1) dX11_odd_9 (by decide) ?_
    refine V_iret 10 .int dX11_odd_10 rfl rfl (Nat.le_of_ble_eq_true rfl) (Nat.le_of_ble_eq_true rfl) (RI.mk (by rw [if_pos (Or.inl c)]))
  ·
    refine V_iload_1 4 dX11_odd_4 ?_
    refine V_iconst 5 (1) dX11_odd_5 (by decide) ?_
    refine V_icmp_le 6 11 dX11_odd_6 (by decide) (fun c2 => ?_) (fun c2 => ?_)
    ·
      have hw : ¬ (w < 0 ∨ 1 < w) := fun q => q.elim c (fun q => absurd c2 (Int32.not_le.mpr q))
      refine V_aload_0 11 dX11_odd_11 ?_
      refine V_getR 12 (c := 11) 13 (F.r 0 13 62 rfl) dX11_odd_12 fl_RX11_70 (F.m 0 (Nat.le_of_ble_eq_true rfl)) (F.k 0 11 rfl) (Nat.le_of_ble_eq_true rfl) (Nat.le_of_ble_eq_true rfl) rfl ?_
      refine V_aload_0 15 dX11_odd_15 ?_
      refine V_getR 16 (c := 11) 5 (F.r 0 5 41 rfl) dX11_odd_16 fl_RX11_42 (F.m 0 (Nat.le_of_ble_eq_true rfl)) (F.k 0 11 rfl) (Nat.le_of_ble_eq_true rfl) (Nat.le_of_ble_eq_true rfl) rfl ?_
      refine V_getR 19 (c := 7) 1 (F.r 41 1 43 rfl) dX11_odd_19 fl_RX11_139 (F.m 41 (Nat.le_of_ble_eq_true rfl)) (F.k 41 7 rfl) (Nat.le_of_ble_eq_true rfl) (Nat.le_of_ble_eq_true rfl) rfl ?_
      refine V_aload_0 22 dX11_odd_22 ?_
      refine V_getR 23 (c := 11) 3 (F.r 0 3 27 rfl) dX11_odd_23 fl_RX11_31 (F.m 0 (Nat.le_of_ble_eq_true rfl)) (F.k 0 11 rfl) (Nat.le_of_ble_eq_true rfl) (Nat.le_of_ble_eq_true rfl) rfl ?_
      refine V_callV 26 (ci := 4) [.ref _, .ref _] _ (c_pairUp M.2.1 Γ S (o := h + 62) (a := h + 43) (t := h + 27) (F.sub 62 lyOdds rfl (by decide)) (F.m 43 (by decide)) (F.k 43 14 rfl) (F.l 43 8 rfl) (fun j _ => congrFun w2 j) (by simp)) dX11_odd_26 cb_X4_pairUp ml_RX11_238 im_yX4_pairUp se_yX4_pairUp (F.m 62 (Nat.le_of_ble_eq_true rfl)) (F.k 62 4 rfl) (Nat.le_of_ble_eq_true rfl) ⟨(Nat.le_of_ble_eq_true rfl), (Nat.le_of_ble_eq_true rfl)⟩ rfl rfl (Nat.le_of_ble_eq_true rfl) ⟨(Nat.le_of_ble_eq_true rfl), (Nat.le_of_ble_eq_true rfl)⟩ (RV.go (fun S1 hq => ?_))
      refine V_iload_1 29 dX11_odd_29 ?_
      have F1 := F.ss hq.2.2
      refine V_if_ne 30 43 dX11_odd_30 (by decide) (fun c3 => ?_) (fun c3 => ?_)
      ·
        refine V_aload_0 43 dX11_odd_43 ?_
        refine V_getR 44 (c := 11) 13 (F1.r 0 13 62 rfl) dX11_odd_44 fl_RX11_70 (F1.m 0 (Nat.le_of_ble_eq_true rfl)) (F1.k 0 11 rfl) (Nat.le_of_ble_eq_true rfl) (Nat.le_of_ble_eq_true rfl) rfl ?_
        refine V_getI 47 (c := 4) 3 dX11_odd_47 fl_RX11_245 (F1.m 62 (Nat.le_of_ble_eq_true rfl)) (F1.k 62 4 rfl) (Nat.le_of_ble_eq_true rfl) (Nat.le_of_ble_eq_true rfl) rfl ?_
        refine V_iret 50 .int dX11_odd_50 rfl rfl (Nat.le_of_ble_eq_true rfl) (Nat.le_of_ble_eq_true rfl) (RI.mk (by rw [if_neg hw]; exact hq.2.1))
      ·
        refine V_aload_0 33 dX11_odd_33 ?_
        refine V_getR 34 (c := 11) 13 (F1.r 0 13 62 rfl) dX11_odd_34 fl_RX11_70 (F1.m 0 (Nat.le_of_ble_eq_true rfl)) (F1.k 0 11 rfl) (Nat.le_of_ble_eq_true rfl) (Nat.le_of_ble_eq_true rfl) rfl ?_
        refine V_getI 37 (c := 4) 2 dX11_odd_37 fl_RX11_242 (F1.m 62 (Nat.le_of_ble_eq_true rfl)) (F1.k 62 4 rfl) (Nat.le_of_ble_eq_true rfl) (Nat.le_of_ble_eq_true rfl) rfl ?_
        refine V_goto 40 50 dX11_odd_40 (by decide) ?_
        refine V_iret 50 .int dX11_odd_50 rfl rfl (Nat.le_of_ble_eq_true rfl) (Nat.le_of_ble_eq_true rfl) (RI.mk (by rw [if_neg hw]; exact hq.1))
    ·
      refine V_iconst 9 (-1) dX11_odd_9 (by decide) ?_
      refine V_iret 10 .int dX11_odd_10 rfl rfl (Nat.le_of_ble_eq_true rfl) (Nat.le_of_ble_eq_true rfl) (RI.mk (by rw [if_pos (Or.inr (Int32.not_le.mp c2))]))
set_option maxRecDepth 100000 in
set_option maxHeartbeats 8000000 in
theorem c_sameRow (l : Launch) (Γ : GC) (S : PS) {a b : Nat} (ha : a ∈ PL Γ.2.2.2.2.1 S) (hk : sK S a = 14) (hl : sL S a = 8) (hb : b ∈ PL Γ.2.2.2.2.1 S) (hkb : sK S b = 14) (hlb : sL S b = 8) : CT l Γ yX11_sameRow cX11_sameRow 4 (some .boolean) (0) (0) (0) [.ref a, .ref b] S (RI (fun r S' => S' = S ∧ ((r = 1 ∧ ∀ j, j < 8 → sA S a j = sA S b j) ∨ (r = 0 ∧ ∃ j, j < 8 ∧ sA S a j ≠ sA S b j)))) := by
  refine CT.of RX11 "sameRow" [some (.ref a), some (.ref b), none, none] (by decide +kernel) rfl rfl (Nat.le_of_ble_eq_true rfl) rfl (fun M hM => ?_)
  subst hM
  refine V_aload_0 0 dX11_sameRow_0 ?_
  refine V_alen2 1 dX11_sameRow_1 ha hk (Nat.le_of_ble_eq_true rfl) (Nat.le_of_ble_eq_true rfl) hl ?_
  refine V_aload_1 2 dX11_sameRow_2 ?_
  refine V_alen2 3 dX11_sameRow_3 hb hkb (Nat.le_of_ble_eq_true rfl) (Nat.le_of_ble_eq_true rfl) hlb ?_
  refine V_icmp_ne 4 11 dX11_sameRow_4 (by decide) (fun q => absurd (rfl) q) (fun _ => ?_)
  refine V_iconst 7 (1) dX11_sameRow_7 (by decide) ?_
  refine V_goto 8 12 dX11_sameRow_8 (by decide) ?_
  refine V_istore_2 12 dX11_sameRow_12 rfl (Nat.le_of_ble_eq_true rfl) ?_
  refine V_iconst 13 (0) dX11_sameRow_13 (by decide) ?_
  refine V_istore_3 14 dX11_sameRow_14 rfl (Nat.le_of_ble_eq_true rfl) ?_
  refine V_while (α := Nat × Int32) (fun x => 8 - x.1) (fun x => x.1 ≤ 8 ∧ ((x.2 = 1 ∧ ∀ j, j < x.1 → sA S a j = sA S b j) ∨ (x.2 = 0 ∧ ∃ j, j < 8 ∧ sA S a j ≠ sA S b j))) (fun _ => S) (fun x => [some (.ref a), some (.ref b), some (.int x.2), some (.int (nI x.1))]) (0, 1) ⟨Nat.zero_le _, Or.inl ⟨rfl, fun j hj => absurd hj (Nat.not_lt_zero _)⟩⟩ (fun x hx ih => ?_)
  obtain ⟨i, e⟩ := x
  obtain ⟨hi, he⟩ := hx
  dsimp only at hi he ih ⊢
  refine V_iload_2 15 dX11_sameRow_15 ?_
  refine V_if_eq 16 52 dX11_sameRow_16 (by decide) (fun c0 => ?_) (fun c0 => ?_)
  ·
    refine V_iload_2 52 dX11_sameRow_52 ?_
    refine V_iret 53 .boolean dX11_sameRow_53 rfl (by rcases he with ⟨q, -⟩ | ⟨q, -⟩ <;> rw [q] <;> rfl) (Nat.le_of_ble_eq_true rfl) (Nat.le_of_ble_eq_true rfl) (RI.mk ⟨rfl, Or.inr ?_⟩)
    rcases he with ⟨q, -⟩ | ⟨q, q2⟩
    · rw [q] at c0; exact absurd c0 (by decide)
    · exact ⟨q, q2⟩
  ·
    have he1 : e = 1 ∧ ∀ j, j < i → sA S a j = sA S b j := he.resolve_right (fun q => c0 q.1)
    refine V_iload_3 19 dX11_sameRow_19 ?_
    refine V_aload_0 20 dX11_sameRow_20 ?_
    refine V_alen2 21 dX11_sameRow_21 ha hk (Nat.le_of_ble_eq_true rfl) (Nat.le_of_ble_eq_true rfl) hl ?_
    refine V_icmp_ge 22 52 dX11_sameRow_22 (by decide) (fun c => ?_) (fun c => ?_)
    ·
      have hi2 := nI_ge8 (by decide) hi c
      subst hi2
      refine V_iload_2 52 dX11_sameRow_52 ?_
      refine V_iret 53 .boolean dX11_sameRow_53 rfl (by rw [he1.1]; rfl) (Nat.le_of_ble_eq_true rfl) (Nat.le_of_ble_eq_true rfl) (RI.mk ⟨rfl, Or.inl he1⟩)
    ·
      have hi2 := nI_lt8 (by decide) hi c
      refine V_iload_3 25 dX11_sameRow_25 ?_
      refine V_aload_1 26 dX11_sameRow_26 ?_
      refine V_alen2 27 dX11_sameRow_27 hb hkb (Nat.le_of_ble_eq_true rfl) (Nat.le_of_ble_eq_true rfl) hlb ?_
      refine V_icmp_ge 28 52 dX11_sameRow_28 (by decide) (fun q => absurd q (c)) (fun _ => ?_)
      refine V_aload_0 31 dX11_sameRow_31 ?_
      refine V_iload_3 32 dX11_sameRow_32 ?_
      refine V_iaload2 33 dX11_sameRow_33 ha hk hl ?_ ?_
      · exact vp_in_nI hi2 (by decide)
      refine V_aload_1 34 dX11_sameRow_34 ?_
      refine V_iload_3 35 dX11_sameRow_35 ?_
      refine V_iaload2 36 dX11_sameRow_36 hb hkb hlb ?_ ?_
      · exact vp_in_nI hi2 (by decide)
      rw [nI_clamp (by omega)]
      refine V_icmp_ne 37 44 dX11_sameRow_37 (by decide) (fun c3 => ?_) (fun c3 => ?_)
      ·
        refine V_iconst 44 (0) dX11_sameRow_44 (by decide) ?_
        refine V_istore_2 45 dX11_sameRow_45 rfl (Nat.le_of_ble_eq_true rfl) ?_
        refine V_iinc_3 46 (1) dX11_sameRow_46 (by decide) rfl (Nat.le_of_ble_eq_true rfl) ?_
        refine V_goto 49 15 dX11_sameRow_49 (by decide) ?_
        rw [← nI_succ]
        exact ih (i + 1, 0) ⟨by dsimp only; omega, Or.inr ⟨rfl, i, hi2, c3⟩⟩ (by dsimp only; omega)
      ·
        refine V_iconst 40 (1) dX11_sameRow_40 (by decide) ?_
        refine V_goto 41 45 dX11_sameRow_41 (by decide) ?_
        refine V_istore_2 45 dX11_sameRow_45 rfl (Nat.le_of_ble_eq_true rfl) ?_
        refine V_iinc_3 46 (1) dX11_sameRow_46 (by decide) rfl (Nat.le_of_ble_eq_true rfl) ?_
        refine V_goto 49 15 dX11_sameRow_49 (by decide) ?_
        rw [← nI_succ]
        refine ih (i + 1, 1) ⟨by dsimp only; omega, Or.inl ⟨rfl, fun j hj => ?_⟩⟩ (by dsimp only; omega)
        dsimp only at hj
        by_cases q : j = i
        · subst q; exact c3
        · exact he1.2 j (by omega)
/-- what Orders.look leaves on a new table -/
def LK (o : Nat) (S : PS) : Prop := sI S o 3 = 0 ∧ (∀ j, j < 8 → sA S (o + 1) j = 0) ∧ (∀ j, j < 8 → sA S (o + 2) j = 0) ∧ (∀ j, j < 8 → sA S (o + 3) j = nI j) ∧ (∀ j, j < 19 → sJ S (o + 9) j = -1)
set_option maxRecDepth 100000 in
set_option maxHeartbeats 8000000 in
theorem c_X5_look (l : Launch) (Γ : GC) (S : PS) {o s t : Nat} (F : isL lyOrders Γ.2.2.2.2.1 S o) (Fs : isL lyState Γ.2.2.2.2.1 S s) (Ft : isL lyText Γ.2.2.2.2.1 S t) (hd : s + 4 ≤ o ∧ t + 14 ≤ o) (o1 : sA S (o + 1) = fun _ => 0) (o2 : sA S (o + 2) = fun _ => 0) (o3 : sA S (o + 3) = fun _ => 0) (w1 : sA S (s + 1) = fun _ => 0) (w2 : sA S (s + 2) = fun _ => 0) (kp : ∀ j, j < 8 → sA S (t + 2) j = nI j) : CT l Γ yX5_look cX5_look 4 none (1) (0) (0) [.ref o, .ref s, .ref t] S (RV (fun S' => SSm S S' ∧ LK o S')) := by
  refine CT.of RX5 "look" [some (.ref o), some (.ref s), some (.ref t), none] (by decide +kernel) rfl rfl (Nat.le_of_ble_eq_true rfl) rfl (fun M hM => ?_)
  subst hM
  refine V_aload_0 0 dX5_look_0 ?_
  refine V_getR 1 (c := 5) 0 (F.r 0 0 1 rfl) dX5_look_1 fl_RX5_9 (F.m 0 (Nat.le_of_ble_eq_true rfl)) (F.k 0 5 rfl) (Nat.le_of_ble_eq_true rfl) (Nat.le_of_ble_eq_true rfl) rfl ?_
  refine V_aload_1 4 dX5_look_4 ?_
  refine V_getR 5 (c := 7) 0 (Fs.r 0 0 1 rfl) dX5_look_5 fl_RX5_38 (Fs.m 0 (Nat.le_of_ble_eq_true rfl)) (Fs.k 0 7 rfl) (Nat.le_of_ble_eq_true rfl) (Nat.le_of_ble_eq_true rfl) rfl ?_
  refine V_callSN 8 [.ref _, .ref _] _ (c_sameRow M.2.1 Γ S (a := o + 1) (b := s + 1) (F.m 1 (by decide)) (F.k 1 14 rfl) (F.l 1 8 rfl) (Fs.m 1 (by decide)) (Fs.k 1 14 rfl) (Fs.l 1 8 rfl)) dX5_look_8 cb_X11_sameRow ne_RX5_41 sm_yX11_sameRow ⟨(Nat.le_of_ble_eq_true rfl), (Nat.le_of_ble_eq_true rfl)⟩ rfl rfl (Nat.le_of_ble_eq_true rfl) ⟨(Nat.le_of_ble_eq_true rfl), (Nat.le_of_ble_eq_true rfl)⟩ (RI.go (fun r S1 hq => ?_))
  obtain ⟨rfl, hq⟩ := hq
  have hr : r = 1 := by
    rcases hq with ⟨q, -⟩ | ⟨-, j, hj, q⟩
    · exact q
    · rw [o1, w1] at q; exact absurd rfl q
  subst hr
  refine V_if_eq 11 46 dX5_look_11 (by decide) (fun q => absurd q (by decide)) (fun _ => ?_)
  refine V_aload_0 14 dX5_look_14 ?_
  refine V_getR 15 (c := 5) 1 (F.r 0 1 2 rfl) dX5_look_15 fl_RX5_15 (F.m 0 (Nat.le_of_ble_eq_true rfl)) (F.k 0 5 rfl) (Nat.le_of_ble_eq_true rfl) (Nat.le_of_ble_eq_true rfl) rfl ?_
  refine V_aload_1 18 dX5_look_18 ?_
  refine V_getR 19 (c := 7) 1 (Fs.r 0 1 2 rfl) dX5_look_19 fl_RX5_45 (Fs.m 0 (Nat.le_of_ble_eq_true rfl)) (Fs.k 0 7 rfl) (Nat.le_of_ble_eq_true rfl) (Nat.le_of_ble_eq_true rfl) rfl ?_
  refine V_callSN 22 [.ref _, .ref _] _ (c_sameRow M.2.1 Γ S1 (a := o + 2) (b := s + 2) (F.m 2 (by decide)) (F.k 2 14 rfl) (F.l 2 8 rfl) (Fs.m 2 (by decide)) (Fs.k 2 14 rfl) (Fs.l 2 8 rfl)) dX5_look_22 cb_X11_sameRow ne_RX5_41 sm_yX11_sameRow ⟨(Nat.le_of_ble_eq_true rfl), (Nat.le_of_ble_eq_true rfl)⟩ rfl rfl (Nat.le_of_ble_eq_true rfl) ⟨(Nat.le_of_ble_eq_true rfl), (Nat.le_of_ble_eq_true rfl)⟩ (RI.go (fun r S2 hq2 => ?_))
  obtain ⟨rfl, hq2⟩ := hq2
  have hr : r = 1 := by
    rcases hq2 with ⟨q, -⟩ | ⟨-, j, hj, q⟩
    · exact q
    · rw [o2, w2] at q; exact absurd rfl q
  subst hr
  refine V_if_eq 25 46 dX5_look_25 (by decide) (fun q => absurd q (by decide)) (fun _ => ?_)
  refine V_aload_0 28 dX5_look_28 ?_
  refine V_getR 29 (c := 5) 2 (F.r 0 2 3 rfl) dX5_look_29 fl_RX5_18 (F.m 0 (Nat.le_of_ble_eq_true rfl)) (F.k 0 5 rfl) (Nat.le_of_ble_eq_true rfl) (Nat.le_of_ble_eq_true rfl) rfl ?_
  refine V_aload_2 32 dX5_look_32 ?_
  refine V_getR 33 (c := 10) 3 (Ft.r 0 3 2 rfl) dX5_look_33 fl_RX5_46 (Ft.m 0 (Nat.le_of_ble_eq_true rfl)) (Ft.k 0 10 rfl) (Nat.le_of_ble_eq_true rfl) (Nat.le_of_ble_eq_true rfl) rfl ?_
  refine V_callSN 36 [.ref _, .ref _] _ (c_sameRow M.2.1 Γ S2 (a := o + 3) (b := t + 2) (F.m 3 (by decide)) (F.k 3 14 rfl) (F.l 3 8 rfl) (Ft.m 2 (by decide)) (Ft.k 2 14 rfl) (Ft.l 2 8 rfl)) dX5_look_36 cb_X11_sameRow ne_RX5_41 sm_yX11_sameRow ⟨(Nat.le_of_ble_eq_true rfl), (Nat.le_of_ble_eq_true rfl)⟩ rfl rfl (Nat.le_of_ble_eq_true rfl) ⟨(Nat.le_of_ble_eq_true rfl), (Nat.le_of_ble_eq_true rfl)⟩ (RI.go (fun r S3 hq3 => ?_))
  obtain ⟨rfl, hq3⟩ := hq3
  have hr : r = 0 := by
    rcases hq3 with ⟨-, q⟩ | ⟨q, -⟩
    · have := q 1 (by decide)
      rw [o3, kp 1 (by decide)] at this
      exact absurd this (by decide)
    · exact q
  subst hr
  refine V_if_eq 39 46 dX5_look_39 (by decide) (fun _ => ?_) (fun q => absurd (rfl) q)
  refine V_iconst 46 (0) dX5_look_46 (by decide) ?_
  refine V_istore_3 47 dX5_look_47 rfl (Nat.le_of_ble_eq_true rfl) ?_
  refine V_iload_3 48 dX5_look_48 ?_
  refine V_if_eq 49 53 dX5_look_49 (by decide) (fun _ => ?_) (fun q => absurd (rfl) q)
  have R1 : RO [o + 1, o + 2, o + 3] S3 (cpA S3 (s + 1) (o + 1) (sL S3 (s + 1))) := RO.rf.cpy (by simp)
  refine V_aload_1 53 dX5_look_53 ?_
  refine V_getR 54 (c := 7) 0 (Fs.r 0 0 1 rfl) dX5_look_54 fl_RX5_38 (Fs.m 0 (Nat.le_of_ble_eq_true rfl)) (Fs.k 0 7 rfl) (Nat.le_of_ble_eq_true rfl) (Nat.le_of_ble_eq_true rfl) rfl ?_
  refine V_aload_0 57 dX5_look_57 ?_
  refine V_getR 58 (c := 5) 0 (F.r 0 0 1 rfl) dX5_look_58 fl_RX5_9 (F.m 0 (Nat.le_of_ble_eq_true rfl)) (F.k 0 5 rfl) (Nat.le_of_ble_eq_true rfl) (Nat.le_of_ble_eq_true rfl) rfl ?_
  refine V_callSN 61 [.ref _, .ref _] _ (c_copyRow M.2.1 Γ S3 (a := s + 1) (b := o + 1) (Fs.m 1 (by decide)) (Fs.k 1 14 rfl) (by rw [Fs.l 1 8 rfl]; decide) (F.m 1 (by decide)) (F.k 1 14 rfl) ((F.l 1 8 rfl).trans (Fs.l 1 8 rfl).symm)) dX5_look_61 cb_X11_copyRow ne_RX5_49 sm_yX11_copyRow ⟨(Nat.le_of_ble_eq_true rfl), (Nat.le_of_ble_eq_true rfl)⟩ rfl rfl (Nat.le_of_ble_eq_true rfl) ⟨(Nat.le_of_ble_eq_true rfl), (Nat.le_of_ble_eq_true rfl)⟩ (RV.go (fun S4 h4 => ?_))
  rw [← h4] at R1
  have e1 : ∀ j, j < 8 → sA S4 (o + 1) j = 0 := fun j hj => by rw [h4, cpA_at (by rw [Fs.l 1 8 rfl]; exact hj), w1]
  clear h4
  have F4 := F.ss R1.1
  have Fs4 := Fs.ss R1.1
  have R2 : RO [o + 1, o + 2, o + 3] S3 (cpA S4 (s + 2) (o + 2) (sL S4 (s + 2))) := R1.cpy (by simp)
  refine V_aload_1 64 dX5_look_64 ?_
  refine V_getR 65 (c := 7) 1 (Fs4.r 0 1 2 rfl) dX5_look_65 fl_RX5_45 (Fs4.m 0 (Nat.le_of_ble_eq_true rfl)) (Fs4.k 0 7 rfl) (Nat.le_of_ble_eq_true rfl) (Nat.le_of_ble_eq_true rfl) rfl ?_
  refine V_aload_0 68 dX5_look_68 ?_
  refine V_getR 69 (c := 5) 1 (F4.r 0 1 2 rfl) dX5_look_69 fl_RX5_15 (F4.m 0 (Nat.le_of_ble_eq_true rfl)) (F4.k 0 5 rfl) (Nat.le_of_ble_eq_true rfl) (Nat.le_of_ble_eq_true rfl) rfl ?_
  refine V_callSN 72 [.ref _, .ref _] _ (c_copyRow M.2.1 Γ S4 (a := s + 2) (b := o + 2) (Fs4.m 2 (by decide)) (Fs4.k 2 14 rfl) (by rw [Fs4.l 2 8 rfl]; decide) (F4.m 2 (by decide)) (F4.k 2 14 rfl) ((F4.l 2 8 rfl).trans (Fs4.l 2 8 rfl).symm)) dX5_look_72 cb_X11_copyRow ne_RX5_49 sm_yX11_copyRow ⟨(Nat.le_of_ble_eq_true rfl), (Nat.le_of_ble_eq_true rfl)⟩ rfl rfl (Nat.le_of_ble_eq_true rfl) ⟨(Nat.le_of_ble_eq_true rfl), (Nat.le_of_ble_eq_true rfl)⟩ (RV.go (fun S5 h5 => ?_))
  rw [← h5] at R2
  have e2 : ∀ j, j < 8 → sA S5 (o + 2) j = 0 := fun j hj => by rw [h5, cpA_at (by rw [Fs4.l 2 8 rfl]; exact hj), R1.2.2.2 (s + 2) (by simp; omega), w2]
  have e12 : sA S5 (o + 1) = sA S4 (o + 1) := by rw [h5]; exact cpA_ne (by omega)
  clear h5
  have F5 := F.ss R2.1
  have Ft5 := Ft.ss R2.1
  have R3 : RO [o + 1, o + 2, o + 3] S3 (cpA S5 (t + 2) (o + 3) (sL S5 (t + 2))) := R2.cpy (by simp)
  refine V_aload_2 75 dX5_look_75 ?_
  refine V_getR 76 (c := 10) 3 (Ft5.r 0 3 2 rfl) dX5_look_76 fl_RX5_46 (Ft5.m 0 (Nat.le_of_ble_eq_true rfl)) (Ft5.k 0 10 rfl) (Nat.le_of_ble_eq_true rfl) (Nat.le_of_ble_eq_true rfl) rfl ?_
  refine V_aload_0 79 dX5_look_79 ?_
  refine V_getR 80 (c := 5) 2 (F5.r 0 2 3 rfl) dX5_look_80 fl_RX5_18 (F5.m 0 (Nat.le_of_ble_eq_true rfl)) (F5.k 0 5 rfl) (Nat.le_of_ble_eq_true rfl) (Nat.le_of_ble_eq_true rfl) rfl ?_
  refine V_callSN 83 [.ref _, .ref _] _ (c_copyRow M.2.1 Γ S5 (a := t + 2) (b := o + 3) (Ft5.m 2 (by decide)) (Ft5.k 2 14 rfl) (by rw [Ft5.l 2 8 rfl]; decide) (F5.m 3 (by decide)) (F5.k 3 14 rfl) ((F5.l 3 8 rfl).trans (Ft5.l 2 8 rfl).symm)) dX5_look_83 cb_X11_copyRow ne_RX5_49 sm_yX11_copyRow ⟨(Nat.le_of_ble_eq_true rfl), (Nat.le_of_ble_eq_true rfl)⟩ rfl rfl (Nat.le_of_ble_eq_true rfl) ⟨(Nat.le_of_ble_eq_true rfl), (Nat.le_of_ble_eq_true rfl)⟩ (RV.go (fun S6 h6 => ?_))
  rw [← h6] at R3
  have e3 : ∀ j, j < 8 → sA S6 (o + 3) j = nI j := fun j hj => by rw [h6, cpA_at (by rw [Ft5.l 2 8 rfl]; exact hj), R2.2.2.2 (t + 2) (by simp; omega)]; exact kp j hj
  have e13 : sA S6 (o + 1) = sA S5 (o + 1) := by rw [h6]; exact cpA_ne (by omega)
  have e23 : sA S6 (o + 2) = sA S5 (o + 2) := by rw [h6]; exact cpA_ne (by omega)
  clear h6
  have F6 := F.ss R3.1
  refine V_aload_0 86 dX5_look_86 ?_
  refine V_aload_0 87 dX5_look_87 ?_
  refine V_getR 88 (c := 5) 0 (F6.r 0 0 1 rfl) dX5_look_88 fl_RX5_9 (F6.m 0 (Nat.le_of_ble_eq_true rfl)) (F6.k 0 5 rfl) (Nat.le_of_ble_eq_true rfl) (Nat.le_of_ble_eq_true rfl) rfl ?_
  refine V_callSN 91 [.ref _] _ (c_total M.2.1 Γ S6 (a := o + 1) (F6.m 1 (by decide)) (F6.k 1 14 rfl) (by rw [F6.l 1 8 rfl]; decide)) dX5_look_91 cb_X11_total ne_RX5_53 sm_yX11_total ⟨(Nat.le_of_ble_eq_true rfl), (Nat.le_of_ble_eq_true rfl)⟩ rfl rfl (Nat.le_of_ble_eq_true rfl) ⟨(Nat.le_of_ble_eq_true rfl), (Nat.le_of_ble_eq_true rfl)⟩ (RI.go (fun r S7 h7 => ?_))
  obtain ⟨rfl, rfl⟩ := h7
  rw [sum0 _ (fun j hj => by rw [F6.l 1 8 rfl] at hj; rw [e13, e12]; exact e1 j hj)]
  refine V_putI 94 (c := 5) 3 dX5_look_94 fl_RX5_57 (F6.m 0 (Nat.le_of_ble_eq_true rfl)) (F6.k 0 5 rfl) (Nat.le_of_ble_eq_true rfl) (Nat.le_of_ble_eq_true rfl) rfl (Or.inl rfl) ?_
  refine V_aload_0 97 dX5_look_97 ?_
  refine V_callV 98 (ci := 5) [] _ (c_X5_forgetCounts M.2.1 Γ (uI S7 o 3 0) (t := o) F6) dX5_look_98 cb_X5_forgetCounts ml_RX5_35 im_yX5_forgetCounts se_yX5_forgetCounts (F6.m 0 (Nat.le_of_ble_eq_true rfl)) (F6.k 0 5 rfl) (Nat.le_of_ble_eq_true rfl) ⟨(Nat.le_of_ble_eq_true rfl), (Nat.le_of_ble_eq_true rfl)⟩ rfl rfl (Nat.le_of_ble_eq_true rfl) ⟨(Nat.le_of_ble_eq_true rfl), (Nat.le_of_ble_eq_true rfl)⟩ (RV.go (fun S8 h8 => ?_))
  obtain ⟨g, rfl, hg⟩ := h8
  refine V_vret 101 dX5_look_101 rfl (Nat.le_of_ble_eq_true rfl) (Nat.le_of_ble_eq_true rfl) ?_
  refine RV.mk ⟨R3.1, ?_, fun j hj => ?_, fun j hj => ?_, e3, fun j hj => ?_⟩
  · show up2 (sI S7) o 3 0 o 3 = 0
    rw [up2_s]
  · show sA S7 (o + 1) j = 0
    rw [e13, e12]; exact e1 j hj
  · show sA S7 (o + 2) j = 0
    rw [e23]; exact e2 j hj
  · show va_up (sJ S7) (o + 9) g (o + 9) j = -1
    rw [va_up_self]; exact hg j hj
set_option maxRecDepth 100000 in
set_option maxHeartbeats 8000000 in
theorem c_countWithin (l : Launch) (Γ : GC) (S : PS) {o : Nat} (F : isL lyOrders Γ.2.2.2.2.1 S o) (L : LK o S) (m : Int32) : CT l Γ yX5_countWithin cX5_countWithin 3 (some .long) (2) (0) (0) [.ref o, .int m] S (RLg (fun r S' => r = 1 ∧ SSm S S' ∧ sJ S' (o + 9) = sJ S (o + 9))) := by
  refine CT.of RX5 "countWithin" [some (.ref o), some (.int m), none] (by decide +kernel) rfl rfl (Nat.le_of_ble_eq_true rfl) rfl (fun M hM => ?_)
  subst hM
  refine V_aload_0 0 dX5_countWithin_0 ?_
  refine V_getR 1 (c := 5) 4 (F.r 0 4 4 rfl) dX5_countWithin_1 fl_RX5_24 (F.m 0 (Nat.le_of_ble_eq_true rfl)) (F.k 0 5 rfl) (Nat.le_of_ble_eq_true rfl) (Nat.le_of_ble_eq_true rfl) rfl ?_
  refine V_aload_0 4 dX5_countWithin_4 ?_
  refine V_getR 5 (c := 5) 0 (F.r 0 0 1 rfl) dX5_countWithin_5 fl_RX5_9 (F.m 0 (Nat.le_of_ble_eq_true rfl)) (F.k 0 5 rfl) (Nat.le_of_ble_eq_true rfl) (Nat.le_of_ble_eq_true rfl) rfl ?_
  refine V_callV 8 (ci := 1) [.ref _] _ (c_begin M.2.1 Γ S (g := o + 4) (a := o + 1) (F.sub 4 lyGrid rfl (by decide)) (F.m 1 (by decide)) (F.k 1 14 rfl) (F.l 1 8 rfl) L.2.1 (by simp)) dX5_countWithin_8 cb_X1_begin ml_RX5_95 im_yX1_begin se_yX1_begin (F.m 4 (Nat.le_of_ble_eq_true rfl)) (F.k 4 1 rfl) (Nat.le_of_ble_eq_true rfl) ⟨(Nat.le_of_ble_eq_true rfl), (Nat.le_of_ble_eq_true rfl)⟩ rfl rfl (Nat.le_of_ble_eq_true rfl) ⟨(Nat.le_of_ble_eq_true rfl), (Nat.le_of_ble_eq_true rfl)⟩ (RV.go (fun S1 hq => ?_))
  have F1 := F.ss hq.1
  refine V_aload_0 11 dX5_countWithin_11 ?_
  refine V_getR 12 (c := 5) 5 (F1.r 0 5 8 rfl) dX5_countWithin_12 fl_RX5_28 (F1.m 0 (Nat.le_of_ble_eq_true rfl)) (F1.k 0 5 rfl) (Nat.le_of_ble_eq_true rfl) (Nat.le_of_ble_eq_true rfl) rfl ?_
  refine V_iconst 15 (0) dX5_countWithin_15 (by decide) ?_
  refine V_lconst 16 1 dX5_countWithin_16 (by decide) ?_
  refine V_lastore2 17 dX5_countWithin_17 (F1.m 8 (Nat.le_of_ble_eq_true rfl)) (F1.k 8 15 rfl) (F1.l 8 11664 rfl) ?_ ?_
  · exact in0 (by decide) (by decide)
  refine V_iconst 18 (1) dX5_countWithin_18 (by decide) ?_
  refine V_istore_2 19 dX5_countWithin_19 rfl (Nat.le_of_ble_eq_true rfl) ?_
  refine V_iload_2 20 dX5_countWithin_20 ?_
  refine V_aload_0 21 dX5_countWithin_21 ?_
  refine V_getR 22 (c := 5) 4 (F1.r 0 4 4 rfl) dX5_countWithin_22 fl_RX5_24 (F1.m 0 (Nat.le_of_ble_eq_true rfl)) (F1.k 0 5 rfl) (Nat.le_of_ble_eq_true rfl) (Nat.le_of_ble_eq_true rfl) rfl ?_
  refine V_getI 25 (c := 1) 3 dX5_countWithin_25 fl_RX5_99 (F1.m 4 (Nat.le_of_ble_eq_true rfl)) (F1.k 4 1 rfl) (Nat.le_of_ble_eq_true rfl) (Nat.le_of_ble_eq_true rfl) rfl ?_
  rw [cl0]
  have e1 : sI (uJ S1 (o + 8) 0 1) (o + 4) 3 = 1 := hq.2.2.2.2
  rw [e1]
  refine V_icmp_ge 28 76 dX5_countWithin_28 (by decide) (fun _ => ?_) (fun q => absurd (by decide) q)
  refine V_aload_0 76 dX5_countWithin_76 ?_
  refine V_getR 77 (c := 5) 5 (F1.r 0 5 8 rfl) dX5_countWithin_77 fl_RX5_28 (F1.m 0 (Nat.le_of_ble_eq_true rfl)) (F1.k 0 5 rfl) (Nat.le_of_ble_eq_true rfl) (Nat.le_of_ble_eq_true rfl) rfl ?_
  refine V_aload_0 80 dX5_countWithin_80 ?_
  refine V_getR 81 (c := 5) 4 (F1.r 0 4 4 rfl) dX5_countWithin_81 fl_RX5_24 (F1.m 0 (Nat.le_of_ble_eq_true rfl)) (F1.k 0 5 rfl) (Nat.le_of_ble_eq_true rfl) (Nat.le_of_ble_eq_true rfl) rfl ?_
  refine V_getI 84 (c := 1) 3 dX5_countWithin_84 fl_RX5_99 (F1.m 4 (Nat.le_of_ble_eq_true rfl)) (F1.k 4 1 rfl) (Nat.le_of_ble_eq_true rfl) (Nat.le_of_ble_eq_true rfl) rfl ?_
  rw [e1]
  refine V_iconst 87 (1) dX5_countWithin_87 (by decide) ?_
  refine V_isub 88 dX5_countWithin_88 ?_
  refine V_callSN 89 [.ref _, .int _] _ (c_longAt M.2.1 Γ (uJ S1 (o + 8) 0 1) (a := o + 8) (F1.m 8 (by decide)) (F1.k 8 15 rfl) (by show sL S1 (o + 8) < _; rw [F1.l 8 11664 rfl]; decide) _) dX5_countWithin_89 cb_X11_longAt ne_RX5_112 sm_yX11_longAt ⟨(Nat.le_of_ble_eq_true rfl), (Nat.le_of_ble_eq_true rfl)⟩ rfl rfl (Nat.le_of_ble_eq_true rfl) ⟨(Nat.le_of_ble_eq_true rfl), (Nat.le_of_ble_eq_true rfl)⟩ (RLg.go (fun r S2 hq2 => ?_))
  obtain ⟨rfl, rfl⟩ := hq2
  refine V_lret 92 dX5_countWithin_92 rfl (Nat.le_of_ble_eq_true rfl) (Nat.le_of_ble_eq_true rfl) (RLg.mk ⟨?_, hq.1, ?_⟩)
  · rw [jAt_1m1 (S := uJ S1 (o + 8) 0 1) (n := 11664) (F1.l 8 11664 rfl) (by decide), sJ_uJ, up2_s]
  · rw [sJ_uJ, up2_an _ _ (by omega), hq.2.1]
set_option maxRecDepth 100000 in
set_option maxHeartbeats 8000000 in
theorem c_withinCount (l : Launch) (Γ : GC) (S : PS) {o : Nat} (F : isL lyOrders Γ.2.2.2.2.1 S o) (L : LK o S) (m : Int32) (h0 : ¬ m < 0) (h1 : m ≤ 18) : CT l Γ yX5_withinCount cX5_withinCount 2 (some .long) (3) (0) (0) [.ref o, .int m] S (RLg (fun r S' => r = 1 ∧ SSm S S')) := by
  refine CT.of RX5 "withinCount" [some (.ref o), some (.int m)] (by decide +kernel) rfl rfl (Nat.le_of_ble_eq_true rfl) rfl (fun M hM => ?_)
  subst hM
  obtain ⟨k, hk, rfl⟩ := nI_of2 (M := 18) (n := 18) (by decide) h0 h1
  refine V_iload_1 0 dX5_withinCount_0 ?_
  refine V_if_lt 1 13 dX5_withinCount_1 (by decide) (fun q => absurd q (h0)) (fun _ => ?_)
  refine V_iload_1 4 dX5_withinCount_4 ?_
  refine V_aload_0 5 dX5_withinCount_5 ?_
  refine V_getR 6 (c := 5) 6 (F.r 0 6 9 rfl) dX5_withinCount_6 fl_RX5_32 (F.m 0 (Nat.le_of_ble_eq_true rfl)) (F.k 0 5 rfl) (Nat.le_of_ble_eq_true rfl) (Nat.le_of_ble_eq_true rfl) rfl ?_
  refine V_alen2 9 dX5_withinCount_9 (F.m 9 (Nat.le_of_ble_eq_true rfl)) (F.k 9 15 rfl) (Nat.le_of_ble_eq_true rfl) (Nat.le_of_ble_eq_true rfl) (F.l 9 19 rfl) ?_
  refine V_icmp_lt 10 15 dX5_withinCount_10 (by decide) (fun _ => ?_) (fun q => absurd (nI_lt (by omega) (by decide)) q)
  refine V_aload_0 15 dX5_withinCount_15 ?_
  refine V_getR 16 (c := 5) 6 (F.r 0 6 9 rfl) dX5_withinCount_16 fl_RX5_32 (F.m 0 (Nat.le_of_ble_eq_true rfl)) (F.k 0 5 rfl) (Nat.le_of_ble_eq_true rfl) (Nat.le_of_ble_eq_true rfl) rfl ?_
  refine V_iload_1 19 dX5_withinCount_19 ?_
  refine V_laload2 20 dX5_withinCount_20 (F.m 9 (Nat.le_of_ble_eq_true rfl)) (F.k 9 15 rfl) (F.l 9 19 rfl) ?_ ?_
  · exact vp_in_nI (by omega) (by decide)
  refine V_ldc2_w 21 dX5_withinCount_21 kL_RX5_61 ?_
  refine V_lcmp 24 dX5_withinCount_24 ?_
  rw [nI_clamp (by omega), L.2.2.2.2 k (by omega)]
  refine V_if_ne 25 39 dX5_withinCount_25 (by decide) (fun q => absurd (by decide) q) (fun _ => ?_)
  refine V_aload_0 28 dX5_withinCount_28 ?_
  refine V_getR 29 (c := 5) 6 (F.r 0 6 9 rfl) dX5_withinCount_29 fl_RX5_32 (F.m 0 (Nat.le_of_ble_eq_true rfl)) (F.k 0 5 rfl) (Nat.le_of_ble_eq_true rfl) (Nat.le_of_ble_eq_true rfl) rfl ?_
  refine V_iload_1 32 dX5_withinCount_32 ?_
  refine V_aload_0 33 dX5_withinCount_33 ?_
  refine V_iload_1 34 dX5_withinCount_34 ?_
  refine V_callV 35 (ci := 5) [.int _] _ (c_countWithin M.2.1 Γ S F L _) dX5_withinCount_35 cb_X5_countWithin ml_RX5_63 im_yX5_countWithin se_yX5_countWithin (F.m 0 (Nat.le_of_ble_eq_true rfl)) (F.k 0 5 rfl) (Nat.le_of_ble_eq_true rfl) ⟨(Nat.le_of_ble_eq_true rfl), (Nat.le_of_ble_eq_true rfl)⟩ rfl rfl (Nat.le_of_ble_eq_true rfl) ⟨(Nat.le_of_ble_eq_true rfl), (Nat.le_of_ble_eq_true rfl)⟩ (RLg.go (fun r S1 hq => ?_))
  obtain ⟨rfl, hq⟩ := hq
  have F1 := F.ss hq.1
  refine V_lastore2 38 dX5_withinCount_38 (F1.m 9 (by decide)) (F1.k 9 15 rfl) (F1.l 9 19 rfl) (vp_in_nI (by omega) (by decide)) ?_
  rw [nI_clamp (by omega)]
  refine V_aload_0 39 dX5_withinCount_39 ?_
  refine V_getR 40 (c := 5) 6 (F1.r 0 6 9 rfl) dX5_withinCount_40 fl_RX5_32 (F1.m 0 (Nat.le_of_ble_eq_true rfl)) (F1.k 0 5 rfl) (Nat.le_of_ble_eq_true rfl) (Nat.le_of_ble_eq_true rfl) rfl ?_
  refine V_iload_1 43 dX5_withinCount_43 ?_
  refine V_laload2 44 dX5_withinCount_44 (F1.m 9 (Nat.le_of_ble_eq_true rfl)) (F1.k 9 15 rfl) (F1.l 9 19 rfl) ?_ ?_
  · exact vp_in_nI (by omega) (by decide)
  rw [nI_clamp (by omega)]
  refine V_lret 45 dX5_withinCount_45 rfl (Nat.le_of_ble_eq_true rfl) (Nat.le_of_ble_eq_true rfl) (RLg.mk ⟨by rw [sJ_uJ, up2_s], hq.1⟩)
set_option maxRecDepth 100000 in
set_option maxHeartbeats 8000000 in
theorem c_factorial (l : Launch) (Γ : GC) (S : PS) (n : Int32) (hn : n = 0) : CT l Γ yX11_factorial cX11_factorial 4 (some .long) (0) (0) (0) [.int n] S (RLg (fun r S' => r = 1 ∧ S' = S)) := by
  refine CT.of RX11 "factorial" [some (.int n), none, none, none] (by decide +kernel) rfl rfl (Nat.le_of_ble_eq_true rfl) rfl (fun M hM => ?_)
  subst hM
  subst hn
  refine V_lconst 0 1 dX11_factorial_0 (by decide) ?_
  refine V_lstore_1 1 dX11_factorial_1 rfl (Nat.le_of_ble_eq_true rfl) ?_
  refine V_iconst 2 (2) dX11_factorial_2 (by decide) ?_
  refine V_istore_3 3 dX11_factorial_3 rfl (Nat.le_of_ble_eq_true rfl) ?_
  refine V_iload_3 4 dX11_factorial_4 ?_
  refine V_iload_0 5 dX11_factorial_5 ?_
  refine V_icmp_gt 6 20 dX11_factorial_6 (by decide) (fun _ => ?_) (fun q => absurd (by decide) q)
  refine V_lload_1 20 dX11_factorial_20 ?_
  refine V_lret 21 dX11_factorial_21 rfl (Nat.le_of_ble_eq_true rfl) (Nat.le_of_ble_eq_true rfl) (RLg.mk ⟨rfl, rfl⟩)
set_option maxRecDepth 100000 in
set_option maxHeartbeats 8000000 in
theorem c_choose (l : Launch) (Γ : GC) (S : PS) (n k : Int32) (hn : n = 0) (hk : k = 0) : CT l Γ yX11_choose cX11_choose 5 (some .long) (0) (0) (0) [.int n, .int k] S (RLg (fun r S' => r = 1 ∧ S' = S)) := by
  refine CT.of RX11 "choose" [some (.int n), some (.int k), none, none, none] (by decide +kernel) rfl rfl (Nat.le_of_ble_eq_true rfl) rfl (fun M hM => ?_)
  subst hM
  subst hn
  subst hk
  refine V_iload_1 0 dX11_choose_0 ?_
  refine V_if_lt 1 9 dX11_choose_1 (by decide) (fun q => absurd q (by decide)) (fun _ => ?_)
  refine V_iload_1 4 dX11_choose_4 ?_
  refine V_iload_0 5 dX11_choose_5 ?_
  refine V_icmp_le 6 13 dX11_choose_6 (by decide) (fun _ => ?_) (fun q => absurd (by decide) q)
  refine V_lconst 13 1 dX11_choose_13 (by decide) ?_
  refine V_lstore_2 14 dX11_choose_14 rfl (Nat.le_of_ble_eq_true rfl) ?_
  refine V_iconst 15 (0) dX11_choose_15 (by decide) ?_
  refine V_istore_4 16 dX11_choose_16 rfl (Nat.le_of_ble_eq_true rfl) ?_
  refine V_iload_4 18 dX11_choose_18 ?_
  refine V_iload_1 20 dX11_choose_20 ?_
  refine V_icmp_ge 21 50 dX11_choose_21 (by decide) (fun _ => ?_) (fun q => absurd (by decide) q)
  refine V_lload_2 50 dX11_choose_50 ?_
  refine V_lret 51 dX11_choose_51 rfl (Nat.le_of_ble_eq_true rfl) (Nat.le_of_ble_eq_true rfl) (RLg.mk ⟨rfl, rfl⟩)
set_option maxRecDepth 100000 in
set_option maxHeartbeats 8000000 in
theorem f_within (l : Launch) (Γ : GC) (S : PS) {h : Nat} (F : isL lySockTable Γ.2.2.2.2.1 S h) (D : FRESH h S) (n : Int32) : CT l Γ yX11_within cX11_within 2 (some .long) (4) (0) (0) [.ref h, .int n] S (RLg (fun r S' => r = if n < 0 ∨ 18 < n then -1 else 1)) := by
  refine CT.of RX11 "within" [some (.ref h), some (.int n)] (by decide +kernel) rfl rfl (Nat.le_of_ble_eq_true rfl) rfl (fun M hM => ?_)
  subst hM
  obtain ⟨⟨d1, d2, d3, ⟨⟨k0, k1, k8, k9, k10, k11, k13⟩, kn, kp⟩, ⟨w1, w2, w3, w4⟩, dh, ⟨o1, o2, o3⟩, ⟨l1, l2, l3⟩, ds⟩, P1, P2⟩ := D
  refine V_iload_1 0 dX11_within_0 ?_
  refine V_if_lt 1 10 dX11_within_1 (by decide) (fun c => ?_) (fun c => ?_)
  ·
    refine V_ldc2_w 10 dX11_within_10 kL_RX11_205 ?_
    refine V_lret 13 dX11_within_13 rfl (Nat.le_of_ble_eq_true rfl) (Nat.le_of_ble_eq_true rfl) (RLg.mk (by rw [if_pos (Or.inl c)]))
  ·
    refine V_iload_1 4 dX11_within_4 ?_
    refine V_bipush 5 (18) dX11_within_5 (by decide) ?_
    refine V_icmp_le 7 14 dX11_within_7 (by decide) (fun c2 => ?_) (fun c2 => ?_)
    ·
      have hw : ¬ (n < 0 ∨ 18 < n) := fun q => q.elim c (fun q => absurd c2 (Int32.not_le.mpr q))
      refine V_aload_0 14 dX11_within_14 ?_
      refine V_getR 15 (c := 11) 12 (F.r 0 12 52 rfl) dX11_within_15 fl_RX11_63 (F.m 0 (Nat.le_of_ble_eq_true rfl)) (F.k 0 11 rfl) (Nat.le_of_ble_eq_true rfl) (Nat.le_of_ble_eq_true rfl) rfl ?_
      refine V_aload_0 18 dX11_within_18 ?_
      refine V_getR 19 (c := 11) 5 (F.r 0 5 41 rfl) dX11_within_19 fl_RX11_42 (F.m 0 (Nat.le_of_ble_eq_true rfl)) (F.k 0 11 rfl) (Nat.le_of_ble_eq_true rfl) (Nat.le_of_ble_eq_true rfl) rfl ?_
      refine V_aload_0 22 dX11_within_22 ?_
      refine V_getR 23 (c := 11) 3 (F.r 0 3 27 rfl) dX11_within_23 fl_RX11_31 (F.m 0 (Nat.le_of_ble_eq_true rfl)) (F.k 0 11 rfl) (Nat.le_of_ble_eq_true rfl) (Nat.le_of_ble_eq_true rfl) rfl ?_
      refine V_callV 26 (ci := 5) [.ref _, .ref _] _ (c_X5_look M.2.1 Γ S (o := h + 52) (s := h + 41) (t := h + 27) (F.sub 52 lyOrders rfl (by decide)) (F.sub 41 lyState rfl (by decide)) (F.sub 27 lyText rfl (by decide)) (by omega) o1 o2 o3 w1 w2 kp) dX11_within_26 cb_X5_look ml_RX11_207 im_yX5_look se_yX5_look (F.m 52 (Nat.le_of_ble_eq_true rfl)) (F.k 52 5 rfl) (Nat.le_of_ble_eq_true rfl) ⟨(Nat.le_of_ble_eq_true rfl), (Nat.le_of_ble_eq_true rfl)⟩ rfl rfl (Nat.le_of_ble_eq_true rfl) ⟨(Nat.le_of_ble_eq_true rfl), (Nat.le_of_ble_eq_true rfl)⟩ (RV.go (fun S1 hq => ?_))
      have F1 := F.ss hq.1
      refine V_aload_0 29 dX11_within_29 ?_
      refine V_getR 30 (c := 11) 12 (F1.r 0 12 52 rfl) dX11_within_30 fl_RX11_63 (F1.m 0 (Nat.le_of_ble_eq_true rfl)) (F1.k 0 11 rfl) (Nat.le_of_ble_eq_true rfl) (Nat.le_of_ble_eq_true rfl) rfl ?_
      refine V_iload_1 33 dX11_within_33 ?_
      refine V_callV 34 (ci := 5) [.int _] _ (c_withinCount M.2.1 Γ S1 (o := h + 52) (F1.sub 52 lyOrders rfl (by decide)) hq.2 n c c2) dX11_within_34 cb_X5_withinCount ml_RX11_211 im_yX5_withinCount se_yX5_withinCount (F1.m 52 (Nat.le_of_ble_eq_true rfl)) (F1.k 52 5 rfl) (Nat.le_of_ble_eq_true rfl) ⟨(Nat.le_of_ble_eq_true rfl), (Nat.le_of_ble_eq_true rfl)⟩ rfl rfl (Nat.le_of_ble_eq_true rfl) ⟨(Nat.le_of_ble_eq_true rfl), (Nat.le_of_ble_eq_true rfl)⟩ (RLg.go (fun r S2 hq2 => ?_))
      refine V_lret 37 dX11_within_37 rfl (Nat.le_of_ble_eq_true rfl) (Nat.le_of_ble_eq_true rfl) (RLg.mk (by rw [if_neg hw]; exact hq2.1))
    ·
      refine V_ldc2_w 10 dX11_within_10 kL_RX11_205 ?_
      refine V_lret 13 dX11_within_13 rfl (Nat.le_of_ble_eq_true rfl) (Nat.le_of_ble_eq_true rfl) (RLg.mk (by rw [if_pos (Or.inr (Int32.not_le.mp c2))]))
set_option maxRecDepth 100000 in
set_option maxHeartbeats 8000000 in
theorem c_sumOfMosts (l : Launch) (Γ : GC) (S : PS) {o : Nat} (F : isL lyOrders Γ.2.2.2.2.1 S o) (L : LK o S) : CT l Γ yX5_sumOfMosts cX5_sumOfMosts 8 (some .long) (4) (0) (0) [.ref o] S (RLg (fun r S' => r = 0)) := by
  refine CT.of RX5 "sumOfMosts" [some (.ref o), none, none, none, none, none, none, none] (by decide +kernel) rfl rfl (Nat.le_of_ble_eq_true rfl) rfl (fun M hM => ?_)
  subst hM
  refine V_aload_0 0 dX5_sumOfMosts_0 ?_
  refine V_getI 1 (c := 5) 3 dX5_sumOfMosts_1 fl_RX5_57 (F.m 0 (Nat.le_of_ble_eq_true rfl)) (F.k 0 5 rfl) (Nat.le_of_ble_eq_true rfl) (Nat.le_of_ble_eq_true rfl) rfl ?_
  refine V_callSN 4 [.int _] _ (c_factorial M.2.1 Γ S _ L.1) dX5_sumOfMosts_4 cb_X11_factorial ne_RX5_67 sm_yX11_factorial ⟨(Nat.le_of_ble_eq_true rfl), (Nat.le_of_ble_eq_true rfl)⟩ rfl rfl (Nat.le_of_ble_eq_true rfl) ⟨(Nat.le_of_ble_eq_true rfl), (Nat.le_of_ble_eq_true rfl)⟩ (RLg.go (fun r S1 hq => ?_))
  obtain ⟨rfl, rfl⟩ := hq
  refine V_lstore_1 7 dX5_sumOfMosts_7 rfl (Nat.le_of_ble_eq_true rfl) ?_
  refine V_lconst 8 0 dX5_sumOfMosts_8 (by decide) ?_
  refine V_lstore_3 9 dX5_sumOfMosts_9 rfl (Nat.le_of_ble_eq_true rfl) ?_
  refine V_iconst 10 (0) dX5_sumOfMosts_10 (by decide) ?_
  refine V_istore_5 11 dX5_sumOfMosts_11 rfl (Nat.le_of_ble_eq_true rfl) ?_
  refine V_iload_5 13 dX5_sumOfMosts_13 ?_
  refine V_bipush 15 (18) dX5_sumOfMosts_15 (by decide) ?_
  refine V_icmp_gt 17 51 dX5_sumOfMosts_17 (by decide) (fun q => absurd q (by decide)) (fun _ => ?_)
  refine V_aload_0 20 dX5_sumOfMosts_20 ?_
  refine V_iload_5 21 dX5_sumOfMosts_21 ?_
  refine V_callV 23 (ci := 5) [.int _] _ (c_withinCount M.2.1 Γ S1 F L _ (by decide) (by decide)) dX5_sumOfMosts_23 cb_X5_withinCount ml_RX5_70 im_yX5_withinCount se_yX5_withinCount (F.m 0 (Nat.le_of_ble_eq_true rfl)) (F.k 0 5 rfl) (Nat.le_of_ble_eq_true rfl) ⟨(Nat.le_of_ble_eq_true rfl), (Nat.le_of_ble_eq_true rfl)⟩ rfl rfl (Nat.le_of_ble_eq_true rfl) ⟨(Nat.le_of_ble_eq_true rfl), (Nat.le_of_ble_eq_true rfl)⟩ (RLg.go (fun r S2 hq2 => ?_))
  obtain ⟨rfl, hq2⟩ := hq2
  refine V_lstore_6 26 dX5_sumOfMosts_26 rfl (Nat.le_of_ble_eq_true rfl) ?_
  refine V_lload_6 28 dX5_sumOfMosts_28 ?_
  refine V_lload_1 30 dX5_sumOfMosts_30 ?_
  refine V_lcmp 31 dX5_sumOfMosts_31 ?_
  refine V_if_ne 32 38 dX5_sumOfMosts_32 (by decide) (fun q => absurd (by decide) q) (fun _ => ?_)
  refine V_goto 35 51 dX5_sumOfMosts_35 (by decide) ?_
  refine V_lload_3 51 dX5_sumOfMosts_51 ?_
  refine V_lret 52 dX5_sumOfMosts_52 rfl (Nat.le_of_ble_eq_true rfl) (Nat.le_of_ble_eq_true rfl) (RLg.mk rfl)
set_option maxRecDepth 100000 in
set_option maxHeartbeats 8000000 in
theorem f_mosts (l : Launch) (Γ : GC) (S : PS) {h : Nat} (F : isL lySockTable Γ.2.2.2.2.1 S h) (D : FRESH h S) : CT l Γ yX11_mosts cX11_mosts 1 (some .long) (5) (0) (0) [.ref h] S (RLg (fun r S' => r = 0)) := by
  refine CT.of RX11 "mosts" [some (.ref h)] (by decide +kernel) rfl rfl (Nat.le_of_ble_eq_true rfl) rfl (fun M hM => ?_)
  subst hM
  obtain ⟨⟨d1, d2, d3, ⟨⟨k0, k1, k8, k9, k10, k11, k13⟩, kn, kp⟩, ⟨w1, w2, w3, w4⟩, dh, ⟨o1, o2, o3⟩, ⟨l1, l2, l3⟩, ds⟩, P1, P2⟩ := D
  refine V_aload_0 0 dX11_mosts_0 ?_
  refine V_getR 1 (c := 11) 12 (F.r 0 12 52 rfl) dX11_mosts_1 fl_RX11_63 (F.m 0 (Nat.le_of_ble_eq_true rfl)) (F.k 0 11 rfl) (Nat.le_of_ble_eq_true rfl) (Nat.le_of_ble_eq_true rfl) rfl ?_
  refine V_aload_0 4 dX11_mosts_4 ?_
  refine V_getR 5 (c := 11) 5 (F.r 0 5 41 rfl) dX11_mosts_5 fl_RX11_42 (F.m 0 (Nat.le_of_ble_eq_true rfl)) (F.k 0 11 rfl) (Nat.le_of_ble_eq_true rfl) (Nat.le_of_ble_eq_true rfl) rfl ?_
  refine V_aload_0 8 dX11_mosts_8 ?_
  refine V_getR 9 (c := 11) 3 (F.r 0 3 27 rfl) dX11_mosts_9 fl_RX11_31 (F.m 0 (Nat.le_of_ble_eq_true rfl)) (F.k 0 11 rfl) (Nat.le_of_ble_eq_true rfl) (Nat.le_of_ble_eq_true rfl) rfl ?_
  refine V_callV 12 (ci := 5) [.ref _, .ref _] _ (c_X5_look M.2.1 Γ S (o := h + 52) (s := h + 41) (t := h + 27) (F.sub 52 lyOrders rfl (by decide)) (F.sub 41 lyState rfl (by decide)) (F.sub 27 lyText rfl (by decide)) (by omega) o1 o2 o3 w1 w2 kp) dX11_mosts_12 cb_X5_look ml_RX11_207 im_yX5_look se_yX5_look (F.m 52 (Nat.le_of_ble_eq_true rfl)) (F.k 52 5 rfl) (Nat.le_of_ble_eq_true rfl) ⟨(Nat.le_of_ble_eq_true rfl), (Nat.le_of_ble_eq_true rfl)⟩ rfl rfl (Nat.le_of_ble_eq_true rfl) ⟨(Nat.le_of_ble_eq_true rfl), (Nat.le_of_ble_eq_true rfl)⟩ (RV.go (fun S1 hq => ?_))
  have F1 := F.ss hq.1
  refine V_aload_0 15 dX11_mosts_15 ?_
  refine V_getR 16 (c := 11) 12 (F1.r 0 12 52 rfl) dX11_mosts_16 fl_RX11_63 (F1.m 0 (Nat.le_of_ble_eq_true rfl)) (F1.k 0 11 rfl) (Nat.le_of_ble_eq_true rfl) (Nat.le_of_ble_eq_true rfl) rfl ?_
  refine V_callV 19 (ci := 5) [] _ (c_sumOfMosts M.2.1 Γ S1 (o := h + 52) (F1.sub 52 lyOrders rfl (by decide)) hq.2) dX11_mosts_19 cb_X5_sumOfMosts ml_RX11_218 im_yX5_sumOfMosts se_yX5_sumOfMosts (F1.m 52 (Nat.le_of_ble_eq_true rfl)) (F1.k 52 5 rfl) (Nat.le_of_ble_eq_true rfl) ⟨(Nat.le_of_ble_eq_true rfl), (Nat.le_of_ble_eq_true rfl)⟩ rfl rfl (Nat.le_of_ble_eq_true rfl) ⟨(Nat.le_of_ble_eq_true rfl), (Nat.le_of_ble_eq_true rfl)⟩ (RLg.go (fun r S2 hq2 => ?_))
  refine V_lret 22 dX11_mosts_22 rfl (Nat.le_of_ble_eq_true rfl) (Nat.le_of_ble_eq_true rfl) (RLg.mk hq2)

