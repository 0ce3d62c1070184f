/-! the class on a new table: lies -/
set_option maxRecDepth 100000 in
set_option maxHeartbeats 8000000 in
theorem c_lyingOf (l : Launch) (Γ : GC) (S : PS) {o : Nat} (F : isL lyOrders Γ.2.2.2.2.1 S o) (hz : ∀ j, j < 8 → sA S (o + 2) j = 0) (i : Nat) (hi : i < 8) : CT l Γ yX5_lyingOf cX5_lyingOf 6 (some .int) (1) (0) (0) [.ref o, .int (nI i), .int (nI i), .int 0, .int 0] S (RI (fun r S' => r = 0 ∧ S' = S)) := by
  refine CT.of RX5 "lyingOf" [some (.ref o), some (.int (nI i)), some (.int (nI i)), some (.int 0), some (.int 0), none] (by decide +kernel) rfl rfl (Nat.le_of_ble_eq_true rfl) rfl (fun M hM => ?_)
  subst hM
  have h0 : aAt S (o + 2) (nI i) = 0 := by rw [aAt_nI (F.l 2 8 rfl) hi (by decide)]; exact hz i hi
  refine V_aload_0 0 dX5_lyingOf_0 ?_
  refine V_getR 1 (c := 5) 1 (F.r 0 1 2 rfl) dX5_lyingOf_1 fl_RX5_15 (F.m 0 (Nat.le_of_ble_eq_true rfl)) (F.k 0 5 rfl) (Nat.le_of_ble_eq_true rfl) (Nat.le_of_ble_eq_true rfl) rfl ?_
  refine V_iload_1 4 dX5_lyingOf_4 ?_
  refine V_callSN 5 [.ref _, .int _] _ (c_at M.2.1 Γ S (a := o + 2) (F.m 2 (by decide)) (F.k 2 14 rfl) (by rw [F.l 2 8 rfl]; decide) _) dX5_lyingOf_5 cb_X11_at ne_RX5_77 sm_yX11_at ⟨(Nat.le_of_ble_eq_true rfl), (Nat.le_of_ble_eq_true rfl)⟩ rfl rfl (Nat.le_of_ble_eq_true rfl) ⟨(Nat.le_of_ble_eq_true rfl), (Nat.le_of_ble_eq_true rfl)⟩ (RI.go (fun r S1 hq => ?_))
  obtain ⟨rfl, rfl⟩ := hq
  rw [h0]
  refine V_iload_3 8 dX5_lyingOf_8 ?_
  refine V_iadd 9 dX5_lyingOf_9 ?_
  refine V_istore_5 10 dX5_lyingOf_10 rfl (Nat.le_of_ble_eq_true rfl) ?_
  refine V_iload_1 12 dX5_lyingOf_12 ?_
  refine V_iload_2 13 dX5_lyingOf_13 ?_
  refine V_icmp_ne 14 24 dX5_lyingOf_14 (by decide) (fun q => absurd (rfl) q) (fun _ => ?_)
  refine V_iload_5 17 dX5_lyingOf_17 ?_
  refine V_iconst 19 (1) dX5_lyingOf_19 (by decide) ?_
  refine V_iand 20 dX5_lyingOf_20 ?_
  refine V_goto 21 41 dX5_lyingOf_21 (by decide) ?_
  refine V_iret 41 .int dX5_lyingOf_41 rfl rfl (Nat.le_of_ble_eq_true rfl) (Nat.le_of_ble_eq_true rfl) (RI.mk ⟨by decide, rfl⟩)
set_option maxRecDepth 100000 in
set_option maxHeartbeats 8000000 in
theorem c_choicesLying (l : Launch) (Γ : GC) (S : PS) {o : Nat} (F : isL lyOrders Γ.2.2.2.2.1 S o) (L : LK o S) (i : Nat) (hi : i < 8) (k : Int32) (hk : k = 0) : CT l Γ yX5_choicesLying cX5_choicesLying 12 (some .long) (2) (0) (0) [.ref o, .int (nI i), .int (nI i), .int k] S (RLg (fun r S' => r = 0 ∧ S' = S)) := by
  refine CT.of RX5 "choicesLying" [some (.ref o), some (.int (nI i)), some (.int (nI i)), some (.int k), none, none, none, none, none, none, none, none] (by decide +kernel) rfl rfl (Nat.le_of_ble_eq_true rfl) rfl (fun M hM => ?_)
  subst hM
  subst hk
  have h0 : aAt S (o + 1) (nI i) = 0 := by rw [aAt_nI (F.l 1 8 rfl) hi (by decide)]; exact L.2.1 i hi
  refine V_aload_0 0 dX5_choicesLying_0 ?_
  refine V_getR 1 (c := 5) 0 (F.r 0 0 1 rfl) dX5_choicesLying_1 fl_RX5_9 (F.m 0 (Nat.le_of_ble_eq_true rfl)) (F.k 0 5 rfl) (Nat.le_of_ble_eq_true rfl) (Nat.le_of_ble_eq_true rfl) rfl ?_
  refine V_iload_1 4 dX5_choicesLying_4 ?_
  refine V_callSN 5 [.ref _, .int _] _ (c_at M.2.1 Γ S (a := o + 1) (F.m 1 (by decide)) (F.k 1 14 rfl) (by rw [F.l 1 8 rfl]; decide) _) dX5_choicesLying_5 cb_X11_at ne_RX5_77 sm_yX11_at ⟨(Nat.le_of_ble_eq_true rfl), (Nat.le_of_ble_eq_true rfl)⟩ rfl rfl (Nat.le_of_ble_eq_true rfl) ⟨(Nat.le_of_ble_eq_true rfl), (Nat.le_of_ble_eq_true rfl)⟩ (RI.go (fun r S1 hq => ?_))
  obtain ⟨rfl, rfl⟩ := hq
  rw [h0]
  refine V_istore_4 8 dX5_choicesLying_8 rfl (Nat.le_of_ble_eq_true rfl) ?_
  refine V_iload_1 10 dX5_choicesLying_10 ?_
  refine V_iload_2 11 dX5_choicesLying_11 ?_
  refine V_icmp_ne 12 19 dX5_choicesLying_12 (by decide) (fun q => absurd (rfl) q) (fun _ => ?_)
  refine V_iconst 15 (0) dX5_choicesLying_15 (by decide) ?_
  refine V_goto 16 27 dX5_choicesLying_16 (by decide) ?_
  refine V_istore_5 27 dX5_choicesLying_27 rfl (Nat.le_of_ble_eq_true rfl) ?_
  refine V_lconst 29 0 dX5_choicesLying_29 (by decide) ?_
  refine V_lstore_6 30 dX5_choicesLying_30 rfl (Nat.le_of_ble_eq_true rfl) ?_
  refine V_iconst 32 (0) dX5_choicesLying_32 (by decide) ?_
  refine V_istore_8 33 dX5_choicesLying_33 rfl (Nat.le_of_ble_eq_true rfl) ?_
  refine V_iload_8 35 dX5_choicesLying_35 ?_
  refine V_iload_4 37 dX5_choicesLying_37 ?_
  refine V_icmp_gt 39 121 dX5_choicesLying_39 (by decide) (fun q => absurd q (by decide)) (fun _ => ?_)
  refine V_iconst 42 (0) dX5_choicesLying_42 (by decide) ?_
  refine V_istore_9 43 dX5_choicesLying_43 rfl (Nat.le_of_ble_eq_true rfl) ?_
  refine V_iload_9 45 dX5_choicesLying_45 ?_
  refine V_iload_5 47 dX5_choicesLying_47 ?_
  refine V_icmp_gt 49 115 dX5_choicesLying_49 (by decide) (fun q => absurd q (by decide)) (fun _ => ?_)
  refine V_aload_0 52 dX5_choicesLying_52 ?_
  refine V_getI 53 (c := 5) 3 dX5_choicesLying_53 fl_RX5_57 (F.m 0 (Nat.le_of_ble_eq_true rfl)) (F.k 0 5 rfl) (Nat.le_of_ble_eq_true rfl) (Nat.le_of_ble_eq_true rfl) rfl ?_
  refine V_iload_4 56 dX5_choicesLying_56 ?_
  refine V_isub 58 dX5_choicesLying_58 ?_
  refine V_iload_5 59 dX5_choicesLying_59 ?_
  refine V_isub 61 dX5_choicesLying_61 ?_
  refine V_iload_3 62 dX5_choicesLying_62 ?_
  refine V_iload_8 63 dX5_choicesLying_63 ?_
  refine V_isub 65 dX5_choicesLying_65 ?_
  refine V_iload_9 66 dX5_choicesLying_66 ?_
  refine V_isub 68 dX5_choicesLying_68 ?_
  refine V_callSN 69 [.int _, .int _] _ (c_choose M.2.1 Γ S1 _ _ (by rw [L.1]; decide) (by decide)) dX5_choicesLying_69 cb_X11_choose ne_RX5_81 sm_yX11_choose ⟨(Nat.le_of_ble_eq_true rfl), (Nat.le_of_ble_eq_true rfl)⟩ rfl rfl (Nat.le_of_ble_eq_true rfl) ⟨(Nat.le_of_ble_eq_true rfl), (Nat.le_of_ble_eq_true rfl)⟩ (RLg.go (fun r S2 hq => ?_))
  obtain ⟨rfl, rfl⟩ := hq
  refine V_lstore_10 72 dX5_choicesLying_72 rfl (Nat.le_of_ble_eq_true rfl) ?_
  refine V_lload_6 74 dX5_choicesLying_74 ?_
  refine V_iload_4 76 dX5_choicesLying_76 ?_
  refine V_iload_8 78 dX5_choicesLying_78 ?_
  refine V_callSN 80 [.int _, .int _] _ (c_choose M.2.1 Γ S2 _ _ (by decide) (by decide)) dX5_choicesLying_80 cb_X11_choose ne_RX5_81 sm_yX11_choose ⟨(Nat.le_of_ble_eq_true rfl), (Nat.le_of_ble_eq_true rfl)⟩ rfl rfl (Nat.le_of_ble_eq_true rfl) ⟨(Nat.le_of_ble_eq_true rfl), (Nat.le_of_ble_eq_true rfl)⟩ (RLg.go (fun r S3 hq => ?_))
  obtain ⟨rfl, rfl⟩ := hq
  refine V_iload_5 83 dX5_choicesLying_83 ?_
  refine V_iload_9 85 dX5_choicesLying_85 ?_
  refine V_callSN 87 [.int _, .int _] _ (c_choose M.2.1 Γ S3 _ _ (by decide) (by decide)) dX5_choicesLying_87 cb_X11_choose ne_RX5_81 sm_yX11_choose ⟨(Nat.le_of_ble_eq_true rfl), (Nat.le_of_ble_eq_true rfl)⟩ rfl rfl (Nat.le_of_ble_eq_true rfl) ⟨(Nat.le_of_ble_eq_true rfl), (Nat.le_of_ble_eq_true rfl)⟩ (RLg.go (fun r S4 hq => ?_))
  obtain ⟨rfl, rfl⟩ := hq
  refine V_lmul 90 dX5_choicesLying_90 ?_
  refine V_lload_10 91 dX5_choicesLying_91 ?_
  refine V_lmul 93 dX5_choicesLying_93 ?_
  refine V_aload_0 94 dX5_choicesLying_94 ?_
  refine V_iload_1 95 dX5_choicesLying_95 ?_
  refine V_iload_2 96 dX5_choicesLying_96 ?_
  refine V_iload_8 97 dX5_choicesLying_97 ?_
  refine V_iload_9 99 dX5_choicesLying_99 ?_
  refine V_callV 101 (ci := 5) [.int _, .int _, .int _, .int _] _ (c_lyingOf M.2.1 Γ S4 F L.2.2.1 i hi) dX5_choicesLying_101 cb_X5_lyingOf ml_RX5_85 im_yX5_lyingOf se_yX5_lyingOf (F.m 0 (Nat.le_of_ble_eq_true rfl)) (F.k 0 5 rfl) (Nat.le_of_ble_eq_true rfl) ⟨(Nat.le_of_ble_eq_true rfl), (Nat.le_of_ble_eq_true rfl)⟩ rfl rfl (Nat.le_of_ble_eq_true rfl) ⟨(Nat.le_of_ble_eq_true rfl), (Nat.le_of_ble_eq_true rfl)⟩ (RI.go (fun r S5 hq => ?_))
  obtain ⟨rfl, rfl⟩ := hq
  refine V_i2l 104 dX5_choicesLying_104 ?_
  refine V_lmul 105 dX5_choicesLying_105 ?_
  refine V_ladd 106 dX5_choicesLying_106 ?_
  refine V_lstore_6 107 dX5_choicesLying_107 rfl (Nat.le_of_ble_eq_true rfl) ?_
  refine V_iinc_9 109 (1) dX5_choicesLying_109 (by decide) rfl (Nat.le_of_ble_eq_true rfl) ?_
  refine V_goto 112 45 dX5_choicesLying_112 (by decide) ?_
  refine V_iload_9 45 dX5_choicesLying_45 ?_
  refine V_iload_5 47 dX5_choicesLying_47 ?_
  refine V_icmp_gt 49 115 dX5_choicesLying_49 (by decide) (fun _ => ?_) (fun q => absurd (by decide) q)
  refine V_iinc_8 115 (1) dX5_choicesLying_115 (by decide) rfl (Nat.le_of_ble_eq_true rfl) ?_
  refine V_goto 118 35 dX5_choicesLying_118 (by decide) ?_
  refine V_iload_8 35 dX5_choicesLying_35 ?_
  refine V_iload_4 37 dX5_choicesLying_37 ?_
  refine V_icmp_gt 39 121 dX5_choicesLying_39 (by decide) (fun _ => ?_) (fun q => absurd (by decide) q)
  refine V_lload_6 121 dX5_choicesLying_121 ?_
  refine V_lret 123 dX5_choicesLying_123 rfl (Nat.le_of_ble_eq_true rfl) (Nat.le_of_ble_eq_true rfl) (RLg.mk ⟨by decide, rfl⟩)
set_option maxRecDepth 100000 in
set_option maxHeartbeats 8000000 in
theorem c_lyingAfter (l : Launch) (Γ : GC) (S : PS) {o : Nat} (F : isL lyOrders Γ.2.2.2.2.1 S o) (L : LK o S) (k : Int32) (hk : k = 0) : CT l Γ yX5_lyingAfter cX5_lyingAfter 5 (some .long) (3) (0) (0) [.ref o, .int k] S (RLg (fun r S' => r = 0)) := by
  refine CT.of RX5 "lyingAfter" [some (.ref o), some (.int k), none, none, none] (by decide +kernel) rfl rfl (Nat.le_of_ble_eq_true rfl) rfl (fun M hM => ?_)
  subst hM
  subst hk
  refine V_lconst 0 0 dX5_lyingAfter_0 (by decide) ?_
  refine V_lstore_2 1 dX5_lyingAfter_1 rfl (Nat.le_of_ble_eq_true rfl) ?_
  refine V_iconst 2 (0) dX5_lyingAfter_2 (by decide) ?_
  refine V_istore_4 3 dX5_lyingAfter_3 rfl (Nat.le_of_ble_eq_true rfl) ?_
  refine V_while (α := Nat) (fun x => 8 - x) (fun x => x ≤ 8) (fun _ => S) (fun x => [some (.ref o), some (.int 0), some (.long 0), none, some (.int (nI x))]) 0 (Nat.zero_le _) (fun i hi ih => ?_)
  refine V_iload_4 5 dX5_lyingAfter_5 ?_
  refine V_bipush 7 (8) dX5_lyingAfter_7 (by decide) ?_
  refine V_icmp_ge 9 51 dX5_lyingAfter_9 (by decide) (fun c => ?_) (fun c => ?_)
  ·
    refine V_lload_2 51 dX5_lyingAfter_51 ?_
    refine V_iload_1 52 dX5_lyingAfter_52 ?_
    refine V_callSN 53 [.int _] _ (c_factorial M.2.1 Γ S _ rfl) dX5_lyingAfter_53 cb_X11_factorial ne_RX5_67 sm_yX11_factorial ⟨(Nat.le_of_ble_eq_true rfl), (Nat.le_of_ble_eq_true rfl)⟩ rfl rfl (Nat.le_of_ble_eq_true rfl) ⟨(Nat.le_of_ble_eq_true rfl), (Nat.le_of_ble_eq_true rfl)⟩ (RLg.go (fun r S1 hq => ?_))
    obtain ⟨rfl, rfl⟩ := hq
    refine V_lmul 56 dX5_lyingAfter_56 ?_
    refine V_aload_0 57 dX5_lyingAfter_57 ?_
    refine V_getI 58 (c := 5) 3 dX5_lyingAfter_58 fl_RX5_57 (F.m 0 (Nat.le_of_ble_eq_true rfl)) (F.k 0 5 rfl) (Nat.le_of_ble_eq_true rfl) (Nat.le_of_ble_eq_true rfl) rfl ?_
    refine V_iload_1 61 dX5_lyingAfter_61 ?_
    refine V_isub 62 dX5_lyingAfter_62 ?_
    refine V_callSN 63 [.int _] _ (c_factorial M.2.1 Γ S1 _ (by rw [L.1]; decide)) dX5_lyingAfter_63 cb_X11_factorial ne_RX5_67 sm_yX11_factorial ⟨(Nat.le_of_ble_eq_true rfl), (Nat.le_of_ble_eq_true rfl)⟩ rfl rfl (Nat.le_of_ble_eq_true rfl) ⟨(Nat.le_of_ble_eq_true rfl), (Nat.le_of_ble_eq_true rfl)⟩ (RLg.go (fun r S2 hq => ?_))
    obtain ⟨rfl, rfl⟩ := hq
    refine V_lmul 66 dX5_lyingAfter_66 ?_
    refine V_lret 67 dX5_lyingAfter_67 rfl (Nat.le_of_ble_eq_true rfl) (Nat.le_of_ble_eq_true rfl) (RLg.mk (by decide))
  ·
    have hi2 := nI_lt8 (by decide) hi c
    refine V_lload_2 12 dX5_lyingAfter_12 ?_
    refine V_iload_4 13 dX5_lyingAfter_13 ?_
    refine V_aload_0 15 dX5_lyingAfter_15 ?_
    refine V_getR 16 (c := 5) 2 (F.r 0 2 3 rfl) dX5_lyingAfter_16 fl_RX5_18 (F.m 0 (Nat.le_of_ble_eq_true rfl)) (F.k 0 5 rfl) (Nat.le_of_ble_eq_true rfl) (Nat.le_of_ble_eq_true rfl) rfl ?_
    refine V_iload_4 19 dX5_lyingAfter_19 ?_
    refine V_iaload2 21 dX5_lyingAfter_21 (F.m 3 (Nat.le_of_ble_eq_true rfl)) (F.k 3 14 rfl) (F.l 3 8 rfl) ?_ ?_
    · exact vp_in_nI hi2 (by decide)
    rw [nI_clamp (by omega), L.2.2.2.1 i hi2]
    refine V_icmp_gt 22 42 dX5_lyingAfter_22 (by decide) (fun q => absurd q (Int32.not_lt.mpr (Int32.le_refl _))) (fun _ => ?_)
    refine V_aload_0 25 dX5_lyingAfter_25 ?_
    refine V_iload_4 26 dX5_lyingAfter_26 ?_
    refine V_aload_0 28 dX5_lyingAfter_28 ?_
    refine V_getR 29 (c := 5) 2 (F.r 0 2 3 rfl) dX5_lyingAfter_29 fl_RX5_18 (F.m 0 (Nat.le_of_ble_eq_true rfl)) (F.k 0 5 rfl) (Nat.le_of_ble_eq_true rfl) (Nat.le_of_ble_eq_true rfl) rfl ?_
    refine V_iload_4 32 dX5_lyingAfter_32 ?_
    refine V_iaload2 34 dX5_lyingAfter_34 (F.m 3 (Nat.le_of_ble_eq_true rfl)) (F.k 3 14 rfl) (F.l 3 8 rfl) ?_ ?_
    · exact vp_in_nI hi2 (by decide)
    rw [nI_clamp (by omega), L.2.2.2.1 i hi2]
    refine V_iload_1 35 dX5_lyingAfter_35 ?_
    refine V_callV 36 (ci := 5) [.int _, .int _, .int _] _ (c_choicesLying M.2.1 Γ S F L i hi2 _ rfl) dX5_lyingAfter_36 cb_X5_choicesLying ml_RX5_73 im_yX5_choicesLying se_yX5_choicesLying (F.m 0 (Nat.le_of_ble_eq_true rfl)) (F.k 0 5 rfl) (Nat.le_of_ble_eq_true rfl) ⟨(Nat.le_of_ble_eq_true rfl), (Nat.le_of_ble_eq_true rfl)⟩ rfl rfl (Nat.le_of_ble_eq_true rfl) ⟨(Nat.le_of_ble_eq_true rfl), (Nat.le_of_ble_eq_true rfl)⟩ (RLg.go (fun r S1 hq => ?_))
    obtain ⟨rfl, rfl⟩ := hq
    refine V_goto 39 43 dX5_lyingAfter_39 (by decide) ?_
    refine V_ladd 43 dX5_lyingAfter_43 ?_
    refine V_lstore_2 44 dX5_lyingAfter_44 rfl (Nat.le_of_ble_eq_true rfl) ?_
    refine V_iinc_4 45 (1) dX5_lyingAfter_45 (by decide) rfl (Nat.le_of_ble_eq_true rfl) ?_
    refine V_goto 48 5 dX5_lyingAfter_48 (by decide) ?_
    rw [← nI_succ]
    exact ih (i + 1) (by omega) (by omega)
set_option maxRecDepth 100000 in
set_option maxHeartbeats 8000000 in
theorem f_lies (l : Launch) (Γ : GC) (S : PS) {h : Nat} (F : isL lySockTable Γ.2.2.2.2.1 S h) (D : FRESH h S) (k : Int32) : CT l Γ yX11_lies cX11_lies 2 (some .long) (4) (0) (0) [.ref h, .int k] S (RLg (fun r S' => r = if k = 0 then 0 else -1)) := by
  refine CT.of RX11 "lies" [some (.ref h), some (.int k)] (by decide +kernel) rfl rfl (Nat.le_of_ble_eq_true rfl) rfl (fun M hM => ?_)
  subst hM
  obtain ⟨⟨d1, d2, d3, ⟨⟨k0, k1, k8, k9, k10, k11, k13⟩, kn, kp⟩, ⟨w1, w2, w3, w4⟩, dh, ⟨o1, o2, o3⟩, ⟨l1, l2, l3⟩, ds⟩, P1, P2⟩ := D
  refine V_iload_1 0 dX11_lies_0 ?_
  refine V_if_lt 1 18 dX11_lies_1 (by decide) (fun c => ?_) (fun c => ?_)
  ·
    refine V_ldc2_w 18 dX11_lies_18 kL_RX11_205 ?_
    refine V_lret 21 dX11_lies_21 rfl (Nat.le_of_ble_eq_true rfl) (Nat.le_of_ble_eq_true rfl) (RLg.mk (by rw [if_neg (fun q => by rw [q] at c; exact absurd c (by decide))]))
  ·
    refine V_iload_1 4 dX11_lies_4 ?_
    refine V_aload_0 5 dX11_lies_5 ?_
    refine V_getR 6 (c := 11) 5 (F.r 0 5 41 rfl) dX11_lies_6 fl_RX11_42 (F.m 0 (Nat.le_of_ble_eq_true rfl)) (F.k 0 11 rfl) (Nat.le_of_ble_eq_true rfl) (Nat.le_of_ble_eq_true rfl) rfl ?_
    refine V_getR 9 (c := 7) 0 (F.r 41 0 42 rfl) dX11_lies_9 fl_RX11_131 (F.m 41 (Nat.le_of_ble_eq_true rfl)) (F.k 41 7 rfl) (Nat.le_of_ble_eq_true rfl) (Nat.le_of_ble_eq_true rfl) rfl ?_
    refine V_callS 12 [.ref _] _ (c_total M.2.1 Γ S (a := h + 42) (F.m 42 (by decide)) (F.k 42 14 rfl) (by rw [F.l 42 8 rfl]; decide)) dX11_lies_12 cb_X11_total ml_RX11_180 sm_yX11_total ⟨(Nat.le_of_ble_eq_true rfl), (Nat.le_of_ble_eq_true rfl)⟩ rfl rfl (Nat.le_of_ble_eq_true rfl) ⟨(Nat.le_of_ble_eq_true rfl), (Nat.le_of_ble_eq_true rfl)⟩ (RI.go (fun r S1 hq => ?_))
    obtain ⟨rfl, rfl⟩ := hq
    rw [sum0 _ (fun j _ => congrFun w1 j)]
    refine V_icmp_le 15 22 dX11_lies_15 (by decide) (fun c2 => ?_) (fun c2 => ?_)
    ·
      have hk : k = 0 := Int32.le_antisymm c2 (Int32.not_lt.mp c)
      refine V_aload_0 22 dX11_lies_22 ?_
      refine V_getR 23 (c := 11) 12 (F.r 0 12 52 rfl) dX11_lies_23 fl_RX11_63 (F.m 0 (Nat.le_of_ble_eq_true rfl)) (F.k 0 11 rfl) (Nat.le_of_ble_eq_true rfl) (Nat.le_of_ble_eq_true rfl) rfl ?_
      refine V_aload_0 26 dX11_lies_26 ?_
      refine V_getR 27 (c := 11) 5 (F.r 0 5 41 rfl) dX11_lies_27 fl_RX11_42 (F.m 0 (Nat.le_of_ble_eq_true rfl)) (F.k 0 11 rfl) (Nat.le_of_ble_eq_true rfl) (Nat.le_of_ble_eq_true rfl) rfl ?_
      refine V_aload_0 30 dX11_lies_30 ?_
      refine V_getR 31 (c := 11) 3 (F.r 0 3 27 rfl) dX11_lies_31 fl_RX11_31 (F.m 0 (Nat.le_of_ble_eq_true rfl)) (F.k 0 11 rfl) (Nat.le_of_ble_eq_true rfl) (Nat.le_of_ble_eq_true rfl) rfl ?_
      refine V_callV 34 (ci := 5) [.ref _, .ref _] _ (c_X5_look M.2.1 Γ S1 (o := h + 52) (s := h + 41) (t := h + 27) (F.sub 52 lyOrders rfl (by decide)) (F.sub 41 lyState rfl (by decide)) (F.sub 27 lyText rfl (by decide)) (by omega) o1 o2 o3 w1 w2 kp) dX11_lies_34 cb_X5_look ml_RX11_207 im_yX5_look se_yX5_look (F.m 52 (Nat.le_of_ble_eq_true rfl)) (F.k 52 5 rfl) (Nat.le_of_ble_eq_true rfl) ⟨(Nat.le_of_ble_eq_true rfl), (Nat.le_of_ble_eq_true rfl)⟩ rfl rfl (Nat.le_of_ble_eq_true rfl) ⟨(Nat.le_of_ble_eq_true rfl), (Nat.le_of_ble_eq_true rfl)⟩ (RV.go (fun S2 hq => ?_))
      have F1 := F.ss hq.1
      refine V_aload_0 37 dX11_lies_37 ?_
      refine V_getR 38 (c := 11) 12 (F1.r 0 12 52 rfl) dX11_lies_38 fl_RX11_63 (F1.m 0 (Nat.le_of_ble_eq_true rfl)) (F1.k 0 11 rfl) (Nat.le_of_ble_eq_true rfl) (Nat.le_of_ble_eq_true rfl) rfl ?_
      refine V_iload_1 41 dX11_lies_41 ?_
      refine V_callV 42 (ci := 5) [.int _] _ (c_lyingAfter M.2.1 Γ S2 (o := h + 52) (F1.sub 52 lyOrders rfl (by decide)) hq.2 _ hk) dX11_lies_42 cb_X5_lyingAfter ml_RX11_215 im_yX5_lyingAfter se_yX5_lyingAfter (F1.m 52 (Nat.le_of_ble_eq_true rfl)) (F1.k 52 5 rfl) (Nat.le_of_ble_eq_true rfl) ⟨(Nat.le_of_ble_eq_true rfl), (Nat.le_of_ble_eq_true rfl)⟩ rfl rfl (Nat.le_of_ble_eq_true rfl) ⟨(Nat.le_of_ble_eq_true rfl), (Nat.le_of_ble_eq_true rfl)⟩ (RLg.go (fun r S3 hq2 => ?_))
      refine V_lret 45 dX11_lies_45 rfl (Nat.le_of_ble_eq_true rfl) (Nat.le_of_ble_eq_true rfl) (RLg.mk (by rw [if_pos hk]; exact hq2))
    ·
      refine V_ldc2_w 18 dX11_lies_18 kL_RX11_205 ?_
      refine V_lret 21 dX11_lies_21 rfl (Nat.le_of_ble_eq_true rfl) (Nat.le_of_ble_eq_true rfl) (RLg.mk (by rw [if_neg (fun q => by rw [q] at c2; exact c2 (Int32.le_refl _))]))

