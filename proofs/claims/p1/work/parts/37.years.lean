/-! the class on a new table: years -/
set_option maxRecDepth 100000 in
set_option maxHeartbeats 8000000 in
theorem c_liveWeek (l : Launch) (Γ : GC) (S : PS) {o t : Nat} (F : isL lyLosses Γ.2.2.2.2.1 S o) (Ft : isL lyText Γ.2.2.2.2.1 S t) (kn : ∀ j, j < 8 → sA S (t + 1) j = 0) (w : Int32) : CT l Γ yX3_liveWeek cX3_liveWeek 6 none (0) (0) (0) [.ref o, .ref t, .int w] S (RV (fun S' => S' = S)) := by
  refine CT.of RX3 "liveWeek" [some (.ref o), some (.ref t), some (.int w), none, none, none] (by decide +kernel) rfl rfl (Nat.le_of_ble_eq_true rfl) rfl (fun M hM => ?_)
  subst hM
  refine V_iconst 0 (0) dX3_liveWeek_0 (by decide) ?_
  refine V_istore_3 1 dX3_liveWeek_1 rfl (Nat.le_of_ble_eq_true rfl) ?_
  refine V_iconst 2 (0) dX3_liveWeek_2 (by decide) ?_
  refine V_istore_4 3 dX3_liveWeek_3 rfl (Nat.le_of_ble_eq_true rfl) ?_
  refine V_while (α := Nat × Option Value) (fun x => 8 - x.1) (fun x => x.1 ≤ 8) (fun _ => S) (fun x => [some (.ref o), some (.ref t), some (.int w), some (.int 0), some (.int (nI x.1)), x.2]) (0, none) (Nat.zero_le _) (fun x hi ih => ?_)
  obtain ⟨i, v⟩ := x
  dsimp only at hi ih ⊢
  refine V_iload_4 5 dX3_liveWeek_5 ?_
  refine V_bipush 7 (8) dX3_liveWeek_7 (by decide) ?_
  refine V_icmp_ge 9 100 dX3_liveWeek_9 (by decide) (fun c => ?_) (fun c => ?_)
  ·
    refine V_vret 100 dX3_liveWeek_100 rfl (Nat.le_of_ble_eq_true rfl) (Nat.le_of_ble_eq_true rfl) (RV.mk rfl)
  ·
    have hi2 := nI_lt8 (by decide) hi c
    refine V_iload_3 12 dX3_liveWeek_12 ?_
    refine V_aload_1 13 dX3_liveWeek_13 ?_
    refine V_getR 14 (c := 10) 2 (Ft.r 0 2 1 rfl) dX3_liveWeek_14 fl_RX3_89 (Ft.m 0 (Nat.le_of_ble_eq_true rfl)) (Ft.k 0 10 rfl) (Nat.le_of_ble_eq_true rfl) (Nat.le_of_ble_eq_true rfl) rfl ?_
    refine V_iload_4 17 dX3_liveWeek_17 ?_
    refine V_iaload2 19 dX3_liveWeek_19 (Ft.m 1 (Nat.le_of_ble_eq_true rfl)) (Ft.k 1 14 rfl) (Ft.l 1 8 rfl) ?_ ?_
    · exact vp_in_nI hi2 (by decide)
    rw [nI_clamp (by omega), kn i hi2]
    refine V_iadd 20 dX3_liveWeek_20 ?_
    refine V_istore_5 21 dX3_liveWeek_21 rfl (Nat.le_of_ble_eq_true rfl) ?_
    refine V_iload_3 23 dX3_liveWeek_23 ?_
    refine V_iload_5 24 dX3_liveWeek_24 ?_
    refine V_icmp_ge 26 94 dX3_liveWeek_26 (by decide) (fun _ => ?_) (fun q => absurd (by decide) q)
    refine V_iinc_4 94 (1) dX3_liveWeek_94 (by decide) rfl (Nat.le_of_ble_eq_true rfl) ?_
    refine V_goto 97 5 dX3_liveWeek_97 (by decide) ?_
    rw [← nI_succ]
    exact ih (i + 1, _) (by dsimp only; omega) (by dsimp only; omega)
set_option maxRecDepth 100000 in
set_option maxHeartbeats 8000000 in
theorem c_pairsLeft (l : Launch) (Γ : GC) (S : PS) {o t : Nat} (F : isL lyLosses Γ.2.2.2.2.1 S o) (Ft : isL lyText Γ.2.2.2.2.1 S t) (kp : ∀ j, j < 8 → sA S (t + 2) j = nI j) (l1 : ∀ j, j < 8 → sA S (o + 3) j = 0) : CT l Γ yX3_pairsLeft cX3_pairsLeft 5 (some .int) (1) (0) (0) [.ref o, .ref t] S (RI (fun r S' => r = 0 ∧ S' = S)) := by
  refine CT.of RX3 "pairsLeft" [some (.ref o), some (.ref t), none, none, none] (by decide +kernel) rfl rfl (Nat.le_of_ble_eq_true rfl) rfl (fun M hM => ?_)
  subst hM
  refine V_iconst 0 (0) dX3_pairsLeft_0 (by decide) ?_
  refine V_istore_2 1 dX3_pairsLeft_1 rfl (Nat.le_of_ble_eq_true rfl) ?_
  refine V_iconst 2 (0) dX3_pairsLeft_2 (by decide) ?_
  refine V_istore_3 3 dX3_pairsLeft_3 rfl (Nat.le_of_ble_eq_true rfl) ?_
  refine V_while (α := Nat × Option Value) (fun x => 8 - x.1) (fun x => x.1 ≤ 8) (fun _ => S) (fun x => [some (.ref o), some (.ref t), some (.int 0), some (.int (nI x.1)), x.2]) (0, none) (Nat.zero_le _) (fun x hi ih => ?_)
  obtain ⟨i, v⟩ := x
  dsimp only at hi ih ⊢
  refine V_iload_3 4 dX3_pairsLeft_4 ?_
  refine V_bipush 5 (8) dX3_pairsLeft_5 (by decide) ?_
  refine V_icmp_ge 7 73 dX3_pairsLeft_7 (by decide) (fun c => ?_) (fun c => ?_)
  ·
    refine V_iload_2 73 dX3_pairsLeft_73 ?_
    refine V_iret 74 .int dX3_pairsLeft_74 rfl rfl (Nat.le_of_ble_eq_true rfl) (Nat.le_of_ble_eq_true rfl) (RI.mk ⟨rfl, rfl⟩)
  ·
    have hi2 := nI_lt8 (by decide) hi c
    have ek : aAt S (t + 2) (nI i) = nI i := by rw [aAt_nI (Ft.l 2 8 rfl) hi2 (by decide)]; exact kp i hi2
    refine V_aload_1 10 dX3_pairsLeft_10 ?_
    refine V_getR 11 (c := 10) 3 (Ft.r 0 3 2 rfl) dX3_pairsLeft_11 fl_RX3_39 (Ft.m 0 (Nat.le_of_ble_eq_true rfl)) (Ft.k 0 10 rfl) (Nat.le_of_ble_eq_true rfl) (Nat.le_of_ble_eq_true rfl) rfl ?_
    refine V_iload_3 14 dX3_pairsLeft_14 ?_
    refine V_callSN 15 [.ref _, .int _] _ (c_at M.2.1 Γ S (a := t + 2) (Ft.m 2 (by decide)) (Ft.k 2 14 rfl) (by rw [Ft.l 2 8 rfl]; decide) _) dX3_pairsLeft_15 cb_X11_at ne_RX3_44 sm_yX11_at ⟨(Nat.le_of_ble_eq_true rfl), (Nat.le_of_ble_eq_true rfl)⟩ rfl rfl (Nat.le_of_ble_eq_true rfl) ⟨(Nat.le_of_ble_eq_true rfl), (Nat.le_of_ble_eq_true rfl)⟩ (RI.go (fun r S1 hq => ?_))
    obtain ⟨rfl, rfl⟩ := hq
    rw [ek]
    refine V_istore_4 18 dX3_pairsLeft_18 rfl (Nat.le_of_ble_eq_true rfl) ?_
    refine V_iload_3 20 dX3_pairsLeft_20 ?_
    refine V_iload_4 21 dX3_pairsLeft_21 ?_
    refine V_icmp_ne 23 40 dX3_pairsLeft_23 (by decide) (fun q => absurd (rfl) q) (fun _ => ?_)
    refine V_iload_2 26 dX3_pairsLeft_26 ?_
    refine V_aload_0 27 dX3_pairsLeft_27 ?_
    refine V_getR 28 (c := 3) 2 (F.r 0 2 3 rfl) dX3_pairsLeft_28 fl_RX3_18 (F.m 0 (Nat.le_of_ble_eq_true rfl)) (F.k 0 3 rfl) (Nat.le_of_ble_eq_true rfl) (Nat.le_of_ble_eq_true rfl) rfl ?_
    refine V_iload_3 31 dX3_pairsLeft_31 ?_
    refine V_iaload2 32 dX3_pairsLeft_32 (F.m 3 (Nat.le_of_ble_eq_true rfl)) (F.k 3 14 rfl) (F.l 3 8 rfl) ?_ ?_
    · exact vp_in_nI hi2 (by decide)
    rw [nI_clamp (by omega), l1 i hi2]
    refine V_iconst 33 (2) dX3_pairsLeft_33 (by decide) ?_
    refine V_idiv 34 dX3_pairsLeft_34 (by decide) ?_
    refine V_iadd 35 dX3_pairsLeft_35 ?_
    refine V_istore_2 36 dX3_pairsLeft_36 rfl (Nat.le_of_ble_eq_true rfl) ?_
    refine V_goto 37 67 dX3_pairsLeft_37 (by decide) ?_
    refine V_iinc_3 67 (1) dX3_pairsLeft_67 (by decide) rfl (Nat.le_of_ble_eq_true rfl) ?_
    refine V_goto 70 4 dX3_pairsLeft_70 (by decide) ?_
    rw [← nI_succ, show (0 : Int32) + 0 / 2 = 0 by decide]
    exact ih (i + 1, _) (by dsimp only; omega) (by dsimp only; omega)
set_option maxRecDepth 100000 in
set_option maxHeartbeats 8000000 in
theorem c_liveUntil (l : Launch) (Γ : GC) (S : PS) {o t : Nat} (F : isL lyLosses Γ.2.2.2.2.1 S o) (Ft : isL lyText Γ.2.2.2.2.1 S t) (hd : t + 14 ≤ o) (kn : ∀ j, j < 8 → sA S (t + 1) j = 0) (kp : ∀ j, j < 8 → sA S (t + 2) j = nI j) (l1 : ∀ j, j < 8 → sA S (o + 3) j = 0) (hw : sI S o 5 = 0) (m : Nat) (hm : m ≤ 200) : CT l Γ yX3_liveUntil cX3_liveUntil 4 none (2) (0) (0) [.ref o, .ref t, .int (nI m)] S (RV (fun S' => SSm S S' ∧ sI S' o 6 = sI S o 6 ∧ ∀ j, j < m → sA S' (o + 6) j = 0 ∧ sA S' (o + 7) j = 0)) := by
  refine CT.of RX3 "liveUntil" [some (.ref o), some (.ref t), some (.int (nI m)), none] (by decide +kernel) rfl rfl (Nat.le_of_ble_eq_true rfl) rfl (fun M hM => ?_)
  subst hM
  refine V_aload_0 0 dX3_liveUntil_0 ?_
  refine V_getI 1 (c := 3) 5 dX3_liveUntil_1 fl_RX3_96 (F.m 0 (Nat.le_of_ble_eq_true rfl)) (F.k 0 3 rfl) (Nat.le_of_ble_eq_true rfl) (Nat.le_of_ble_eq_true rfl) rfl ?_
  rw [hw]
  refine V_istore_3 4 dX3_liveUntil_4 rfl (Nat.le_of_ble_eq_true rfl) ?_
  refine V_while (α := Nat × PS) (fun x => m - x.1) (fun x => x.1 ≤ m ∧ RO [o + 6, o + 7] S x.2 ∧ ∀ j, j < x.1 → sA x.2 (o + 6) j = 0 ∧ sA x.2 (o + 7) j = 0) (fun x => x.2) (fun x => [some (.ref o), some (.ref t), some (.int (nI m)), some (.int (nI x.1))]) (0, S) ⟨Nat.zero_le _, RO.rf, fun j hj => absurd hj (Nat.not_lt_zero _)⟩ (fun x hx ih => ?_)
  obtain ⟨i, S2⟩ := x
  obtain ⟨hi, hR, h1⟩ := hx
  dsimp only at hi hR h1 ih ⊢
  have F2 := F.ss hR.1
  have Ft2 := Ft.ss hR.1
  refine V_iload_3 5 dX3_liveUntil_5 ?_
  refine V_iload_2 6 dX3_liveUntil_6 ?_
  refine V_icmp_ge 7 53 dX3_liveUntil_7 (by decide) (fun c => ?_) (fun c => ?_)
  ·
    have hi2 := nI_ge8 (by omega) hi c
    subst hi2
    refine V_aload_0 53 dX3_liveUntil_53 ?_
    refine V_aload_0 54 dX3_liveUntil_54 ?_
    refine V_getI 55 (c := 3) 5 dX3_liveUntil_55 fl_RX3_96 (F2.m 0 (Nat.le_of_ble_eq_true rfl)) (F2.k 0 3 rfl) (Nat.le_of_ble_eq_true rfl) (Nat.le_of_ble_eq_true rfl) rfl ?_
    refine V_iload_2 58 dX3_liveUntil_58 ?_
    refine V_mmax 59 dX3_liveUntil_59 ml_RX3_64 (Nat.le_of_ble_eq_true rfl) (Nat.le_of_ble_eq_true rfl) (Nat.le_of_ble_eq_true rfl) (Nat.le_of_ble_eq_true rfl) ?_
    refine V_putI 62 (c := 3) 5 dX3_liveUntil_62 fl_RX3_96 (F2.m 0 (Nat.le_of_ble_eq_true rfl)) (F2.k 0 3 rfl) (Nat.le_of_ble_eq_true rfl) (Nat.le_of_ble_eq_true rfl) rfl (Or.inl rfl) ?_
    refine V_vret 65 dX3_liveUntil_65 rfl (Nat.le_of_ble_eq_true rfl) (Nat.le_of_ble_eq_true rfl) (RV.mk ⟨hR.1, by rw [sI_uI, up2_k _ _ (by decide), hR.2.1], h1⟩)
  ·
    have hi2 := nI_lt8 (by omega) hi c
    refine V_iload_3 10 dX3_liveUntil_10 ?_
    refine V_sipush 11 (200) dX3_liveUntil_11 (by decide) ?_
    refine V_icmp_ge 14 53 dX3_liveUntil_14 (by decide) (fun q => absurd q (fun q => absurd (nI_ge8 (i := i) (n := 200) (by decide) (by omega) q) (by omega))) (fun _ => ?_)
    refine V_aload_0 17 dX3_liveUntil_17 ?_
    refine V_aload_1 18 dX3_liveUntil_18 ?_
    refine V_iload_3 19 dX3_liveUntil_19 ?_
    refine V_callV 20 (ci := 3) [.ref _, .int _] _ (c_liveWeek M.2.1 Γ S2 F2 Ft2 (fun j hj => by rw [hR.2.2.2 (t + 1) (by simp; omega)]; exact kn j hj) _) dX3_liveUntil_20 cb_X3_liveWeek ml_RX3_99 im_yX3_liveWeek se_yX3_liveWeek (F2.m 0 (Nat.le_of_ble_eq_true rfl)) (F2.k 0 3 rfl) (Nat.le_of_ble_eq_true rfl) ⟨(Nat.le_of_ble_eq_true rfl), (Nat.le_of_ble_eq_true rfl)⟩ rfl rfl (Nat.le_of_ble_eq_true rfl) ⟨(Nat.le_of_ble_eq_true rfl), (Nat.le_of_ble_eq_true rfl)⟩ (RV.go (fun S3 hq => ?_))
    subst hq
    refine V_aload_0 23 dX3_liveUntil_23 ?_
    refine V_getR 24 (c := 3) 7 (F2.r 0 7 6 rfl) dX3_liveUntil_24 fl_RX3_33 (F2.m 0 (Nat.le_of_ble_eq_true rfl)) (F2.k 0 3 rfl) (Nat.le_of_ble_eq_true rfl) (Nat.le_of_ble_eq_true rfl) rfl ?_
    refine V_iload_3 27 dX3_liveUntil_27 ?_
    refine V_aload_0 28 dX3_liveUntil_28 ?_
    refine V_getR 29 (c := 3) 2 (F2.r 0 2 3 rfl) dX3_liveUntil_29 fl_RX3_18 (F2.m 0 (Nat.le_of_ble_eq_true rfl)) (F2.k 0 3 rfl) (Nat.le_of_ble_eq_true rfl) (Nat.le_of_ble_eq_true rfl) rfl ?_
    refine V_callSN 32 [.ref _] _ (c_total M.2.1 Γ S3 (a := o + 3) (F2.m 3 (by decide)) (F2.k 3 14 rfl) (by rw [F2.l 3 8 rfl]; decide)) dX3_liveUntil_32 cb_X11_total ne_RX3_103 sm_yX11_total ⟨(Nat.le_of_ble_eq_true rfl), (Nat.le_of_ble_eq_true rfl)⟩ rfl rfl (Nat.le_of_ble_eq_true rfl) ⟨(Nat.le_of_ble_eq_true rfl), (Nat.le_of_ble_eq_true rfl)⟩ (RI.go (fun r S4 hq => ?_))
    obtain ⟨rfl, rfl⟩ := hq
    have l2 : ∀ j, j < 8 → sA S4 (o + 3) j = 0 := fun j hj => by rw [hR.2.2.2 (o + 3) (by simp)]; exact l1 j hj
    rw [sum0 _ (fun j hj => l2 j (by rw [F2.l 3 8 rfl] at hj; exact hj))]
    refine V_iastore2 35 dX3_liveUntil_35 (F2.m 6 (Nat.le_of_ble_eq_true rfl)) (F2.k 6 14 rfl) (F2.l 6 200 rfl) ?_ ?_
    · exact vp_in_nI (by omega) (by decide)
    rw [nI_clamp (by omega)]
    refine V_aload_0 36 dX3_liveUntil_36 ?_
    refine V_getR 37 (c := 3) 8 (F2.r 0 8 7 rfl) dX3_liveUntil_37 fl_RX3_36 (F2.m 0 (Nat.le_of_ble_eq_true rfl)) (F2.k 0 3 rfl) (Nat.le_of_ble_eq_true rfl) (Nat.le_of_ble_eq_true rfl) rfl ?_
    refine V_iload_3 40 dX3_liveUntil_40 ?_
    refine V_aload_0 41 dX3_liveUntil_41 ?_
    refine V_aload_1 42 dX3_liveUntil_42 ?_
    refine V_callV 43 (ci := 3) [.ref _] _ (c_pairsLeft M.2.1 Γ (uA S4 (o + 6) i 0) F2 Ft2 (fun j hj => by rw [sA_uA, up2_an _ _ (by omega), hR.2.2.2 (t + 2) (by simp; omega)]; exact kp j hj) (fun j hj => by rw [sA_uA, up2_an _ _ (by omega)]; exact l2 j hj)) dX3_liveUntil_43 cb_X3_pairsLeft ml_RX3_107 im_yX3_pairsLeft se_yX3_pairsLeft (F2.m 0 (Nat.le_of_ble_eq_true rfl)) (F2.k 0 3 rfl) (Nat.le_of_ble_eq_true rfl) ⟨(Nat.le_of_ble_eq_true rfl), (Nat.le_of_ble_eq_true rfl)⟩ rfl rfl (Nat.le_of_ble_eq_true rfl) ⟨(Nat.le_of_ble_eq_true rfl), (Nat.le_of_ble_eq_true rfl)⟩ (RI.go (fun r S5 hq => ?_))
    obtain ⟨rfl, rfl⟩ := hq
    refine V_iastore2 46 dX3_liveUntil_46 (F2.m 7 (Nat.le_of_ble_eq_true rfl)) (F2.k 7 14 rfl) (F2.l 7 200 rfl) ?_ ?_
    · exact vp_in_nI (by omega) (by decide)
    refine V_iinc_3 47 (1) dX3_liveUntil_47 (by decide) rfl (Nat.le_of_ble_eq_true rfl) ?_
    refine V_goto 50 5 dX3_liveUntil_50 (by decide) ?_
    rw [nI_clamp (by omega), ← nI_succ]
    refine ih (i + 1, _) ⟨by dsimp only; omega, (hR.uA (by simp)).uA (by simp), fun j hj => ?_⟩ (by dsimp only; omega)
    dsimp only at hj
    show sA (uA (uA S4 (o + 6) i 0) (o + 7) i 0) (o + 6) j = 0 ∧ sA (uA (uA S4 (o + 6) i 0) (o + 7) i 0) (o + 7) j = 0
    by_cases q : j = i
    · subst q
      exact ⟨by rw [sA_uA, up2_a _ _ (by omega), sA_uA, up2_s], by rw [sA_uA, up2_s]⟩
    · exact ⟨by rw [sA_uA, up2_a _ _ (by omega), sA_uA, up2_k _ _ q]; exact (h1 j (by omega)).1, by rw [sA_uA, up2_k _ _ q, sA_uA, up2_a _ _ (by omega)]; exact (h1 j (by omega)).2⟩
theorem aAt_m1 {S : PS} {a n m : Nat} (h : sL S a = n) (h0 : 0 < m) (hm : m ≤ n) (hn : n < 2 ^ 31) (hz : ∀ j, j < m → sA S a j = 0) : aAt S a (nI m - 1) = 0 := by
  obtain ⟨j, rfl⟩ : ∃ j, m = j + 1 := ⟨m - 1, by omega⟩
  rw [nI_succ, Int32.add_sub_cancel, aAt_nI h (by omega) hn]
  exact hz j (by omega)
set_option maxRecDepth 100000 in
set_option maxHeartbeats 8000000 in
theorem f_years (l : Launch) (Γ : GC) (S : PS) {h : Nat} (F : isL lySockTable Γ.2.2.2.2.1 S h) (D : FRESH h S) (n w : Int32) : CT l Γ yX11_years cX11_years 3 (some .int) (3) (0) (0) [.ref h, .int n, .int w] S (RI (fun r S' => r = if n < 1 ∨ 200 < n ∨ w < 0 ∨ 2 < w then -1 else if w = 2 then -2 else 0)) := by
  refine CT.of RX11 "years" [some (.ref h), some (.int n), some (.int w)] (by decide +kernel) rfl rfl (Nat.le_of_ble_eq_true rfl) rfl (fun M hM => ?_)
  subst hM
  obtain ⟨⟨d1, d2, d3, ⟨⟨k0, k1, k8, k9, k10, k11, k13⟩, kn, kp⟩, ⟨w1, w2, w3, w4⟩, dh, ⟨o1, o2, o3⟩, ⟨l1, l2, l3⟩, ds⟩, P1, P2⟩ := D
  refine V_iload_1 0 dX11_years_0 ?_
  refine V_iconst 1 (1) dX11_years_1 (by decide) ?_
  refine V_icmp_lt 2 21 dX11_years_2 (by decide) (fun c1 => ?_) (fun c1 => ?_)
  ·
    refine V_iconst 21 (-1) dX11_years_21 (by decide) ?_
    refine V_iret 22 .int dX11_years_22 rfl rfl (Nat.le_of_ble_eq_true rfl) (Nat.le_of_ble_eq_true rfl) (RI.mk (by rw [if_pos (Or.inl c1)]))
  refine V_iload_1 5 dX11_years_5 ?_
  refine V_sipush 6 (200) dX11_years_6 (by decide) ?_
  refine V_icmp_gt 9 21 dX11_years_9 (by decide) (fun c2 => ?_) (fun c2 => ?_)
  ·
    refine V_iconst 21 (-1) dX11_years_21 (by decide) ?_
    refine V_iret 22 .int dX11_years_22 rfl rfl (Nat.le_of_ble_eq_true rfl) (Nat.le_of_ble_eq_true rfl) (RI.mk (by rw [if_pos (Or.inr (Or.inl c2))]))
  refine V_iload_2 12 dX11_years_12 ?_
  refine V_if_lt 13 21 dX11_years_13 (by decide) (fun c3 => ?_) (fun c3 => ?_)
  ·
    refine V_iconst 21 (-1) dX11_years_21 (by decide) ?_
    refine V_iret 22 .int dX11_years_22 rfl rfl (Nat.le_of_ble_eq_true rfl) (Nat.le_of_ble_eq_true rfl) (RI.mk (by rw [if_pos (Or.inr (Or.inr (Or.inl c3)))]))
  refine V_iload_2 16 dX11_years_16 ?_
  refine V_iconst 17 (2) dX11_years_17 (by decide) ?_
  refine V_icmp_le 18 23 dX11_years_18 (by decide) (fun c4 => ?_) (fun c4 => ?_)
  rotate_left
  ·
    refine V_iconst 21 (-1) dX11_years_21 (by decide) ?_
    refine V_iret 22 .int dX11_years_22 rfl rfl (Nat.le_of_ble_eq_true rfl) (Nat.le_of_ble_eq_true rfl) (RI.mk (by rw [if_pos (Or.inr (Or.inr (Or.inr (Int32.not_le.mp c4))))]))
  have hw : ¬ (n < 1 ∨ 200 < n ∨ w < 0 ∨ 2 < w) := fun q => by
    rcases q with q | q | q | q
    · exact c1 q
    · exact c2 q
    · exact c3 q
    · exact absurd c4 (Int32.not_le.mpr q)
  rw [if_neg hw]
  obtain ⟨m, hm, rfl⟩ := nI_of2 (M := 200) (n := 200) (by decide) (fun q => c1 (Int32.lt_trans q (by decide))) (Int32.not_lt.mp c2)
  have hm0 : 0 < m := Nat.pos_of_ne_zero (fun q => c1 (by rw [q]; decide))
  clear hw c1 c2
  refine V_aload_0 23 dX11_years_23 ?_
  refine V_getR 24 (c := 11) 14 (F.r 0 14 68 rfl) dX11_years_24 fl_RX11_77 (F.m 0 (Nat.le_of_ble_eq_true rfl)) (F.k 0 11 rfl) (Nat.le_of_ble_eq_true rfl) (Nat.le_of_ble_eq_true rfl) rfl ?_
  refine V_aload_0 27 dX11_years_27 ?_
  refine V_getR 28 (c := 11) 3 (F.r 0 3 27 rfl) dX11_years_28 fl_RX11_31 (F.m 0 (Nat.le_of_ble_eq_true rfl)) (F.k 0 11 rfl) (Nat.le_of_ble_eq_true rfl) (Nat.le_of_ble_eq_true rfl) rfl ?_
  refine V_iload_1 31 dX11_years_31 ?_
  refine V_callV 32 (ci := 3) [.ref _, .int _] _ (c_liveUntil M.2.1 Γ S (o := h + 68) (t := h + 27) (F.sub 68 lyLosses rfl (by decide)) (F.sub 27 lyText rfl (by decide)) (by omega) kn kp (fun j _ => congrFun l1 j) (l3 5 (by decide)) m (by omega)) dX11_years_32 cb_X3_liveUntil ml_RX11_252 im_yX3_liveUntil se_yX3_liveUntil (F.m 68 (Nat.le_of_ble_eq_true rfl)) (F.k 68 3 rfl) (Nat.le_of_ble_eq_true rfl) ⟨(Nat.le_of_ble_eq_true rfl), (Nat.le_of_ble_eq_true rfl)⟩ rfl rfl (Nat.le_of_ble_eq_true rfl) ⟨(Nat.le_of_ble_eq_true rfl), (Nat.le_of_ble_eq_true rfl)⟩ (RV.go (fun S1 hq => ?_))
  have F1 := F.ss hq.1
  obtain ⟨k, hk, rfl⟩ := nI_of2 (M := 2) (n := 2) (by decide) c3 c4
  refine V_iload_2 35 dX11_years_35 ?_
  have hk3 : k = 0 ∨ k = 1 ∨ k = 2 := by omega
  rcases hk3 with rfl | rfl | rfl
  · refine V_lookup 36 64 (off := 28) dX11_years_36 (by decide) (by decide) (by decide) ?_
    refine V_aload_0 64 dX11_years_64 ?_
    refine V_getR 65 (c := 11) 14 (F1.r 0 14 68 rfl) dX11_years_65 fl_RX11_77 (F1.m 0 (Nat.le_of_ble_eq_true rfl)) (F1.k 0 11 rfl) (Nat.le_of_ble_eq_true rfl) (Nat.le_of_ble_eq_true rfl) rfl ?_
    refine V_getR 68 (c := 3) 7 (F1.r 68 7 74 rfl) dX11_years_68 fl_RX11_256 (F1.m 68 (Nat.le_of_ble_eq_true rfl)) (F1.k 68 3 rfl) (Nat.le_of_ble_eq_true rfl) (Nat.le_of_ble_eq_true rfl) rfl ?_
    refine V_iload_1 71 dX11_years_71 ?_
    refine V_iconst 72 (1) dX11_years_72 (by decide) ?_
    refine V_isub 73 dX11_years_73 ?_
    refine V_callS 74 [.ref _, .int _] _ (c_at M.2.1 Γ S1 (a := h + 74) (F1.m 74 (by decide)) (F1.k 74 14 rfl) (by rw [F1.l 74 200 rfl]; decide) _) dX11_years_74 cb_X11_at ml_RX11_135 sm_yX11_at ⟨(Nat.le_of_ble_eq_true rfl), (Nat.le_of_ble_eq_true rfl)⟩ rfl rfl (Nat.le_of_ble_eq_true rfl) ⟨(Nat.le_of_ble_eq_true rfl), (Nat.le_of_ble_eq_true rfl)⟩ (RI.go (fun r S2 hq2 => ?_))
    obtain ⟨rfl, rfl⟩ := hq2
    refine V_iret 77 .int dX11_years_77 rfl rfl (Nat.le_of_ble_eq_true rfl) (Nat.le_of_ble_eq_true rfl) (RI.mk (by rw [aAt_m1 (F1.l 74 200 rfl) hm0 (by omega) (by decide) (fun j hj => (hq.2.2 j hj).1), if_neg (by decide)]))
  · refine V_lookup 36 78 (off := 42) dX11_years_36 (by decide) (by decide) (by decide) ?_
    refine V_aload_0 78 dX11_years_78 ?_
    refine V_getR 79 (c := 11) 14 (F1.r 0 14 68 rfl) dX11_years_79 fl_RX11_77 (F1.m 0 (Nat.le_of_ble_eq_true rfl)) (F1.k 0 11 rfl) (Nat.le_of_ble_eq_true rfl) (Nat.le_of_ble_eq_true rfl) rfl ?_
    refine V_getR 82 (c := 3) 8 (F1.r 68 8 75 rfl) dX11_years_82 fl_RX11_259 (F1.m 68 (Nat.le_of_ble_eq_true rfl)) (F1.k 68 3 rfl) (Nat.le_of_ble_eq_true rfl) (Nat.le_of_ble_eq_true rfl) rfl ?_
    refine V_iload_1 85 dX11_years_85 ?_
    refine V_iconst 86 (1) dX11_years_86 (by decide) ?_
    refine V_isub 87 dX11_years_87 ?_
    refine V_callS 88 [.ref _, .int _] _ (c_at M.2.1 Γ S1 (a := h + 75) (F1.m 75 (by decide)) (F1.k 75 14 rfl) (by rw [F1.l 75 200 rfl]; decide) _) dX11_years_88 cb_X11_at ml_RX11_135 sm_yX11_at ⟨(Nat.le_of_ble_eq_true rfl), (Nat.le_of_ble_eq_true rfl)⟩ rfl rfl (Nat.le_of_ble_eq_true rfl) ⟨(Nat.le_of_ble_eq_true rfl), (Nat.le_of_ble_eq_true rfl)⟩ (RI.go (fun r S2 hq2 => ?_))
    obtain ⟨rfl, rfl⟩ := hq2
    refine V_iret 91 .int dX11_years_91 rfl rfl (Nat.le_of_ble_eq_true rfl) (Nat.le_of_ble_eq_true rfl) (RI.mk (by rw [aAt_m1 (F1.l 75 200 rfl) hm0 (by omega) (by decide) (fun j hj => (hq.2.2 j hj).2), if_neg (by decide)]))
  · refine V_lookup 36 92 (off := 56) dX11_years_36 (by decide) (by decide) (by decide) ?_
    refine V_aload_0 92 dX11_years_92 ?_
    refine V_getR 93 (c := 11) 14 (F1.r 0 14 68 rfl) dX11_years_93 fl_RX11_77 (F1.m 0 (Nat.le_of_ble_eq_true rfl)) (F1.k 0 11 rfl) (Nat.le_of_ble_eq_true rfl) (Nat.le_of_ble_eq_true rfl) rfl ?_
    refine V_getI 96 (c := 3) 6 dX11_years_96 fl_RX11_262 (F1.m 68 (Nat.le_of_ble_eq_true rfl)) (F1.k 68 3 rfl) (Nat.le_of_ble_eq_true rfl) (Nat.le_of_ble_eq_true rfl) rfl ?_
    refine V_if_lt 99 123 dX11_years_99 (by decide) (fun _ => ?_) (fun q => absurd (by rw [hq.2.1, l2]; decide) q)
    refine V_bipush 123 (-2) dX11_years_123 (by decide) ?_
    refine V_iret 125 .int dX11_years_125 rfl rfl (Nat.le_of_ble_eq_true rfl) (Nat.le_of_ble_eq_true rfl) (RI.mk (by rw [if_pos (by decide)]))

