/-! the class on a new table: feed, count, line, exchange, evening, soonest -/
theorem DD.eq3 {h : Nat} {S S2 : PS} (d : DD h S) (hI : ∀ c, c ≠ h + 45 → sI S2 c = sI S c) (hA : ∀ c, c ∉ [h + 45 + 1, h + 45 + 2, h + 45 + 3] → sA S2 c = sA S c) : DD h S2 := by
  unfold DD FText at d ⊢
  rw [hI h (by omega), hI (h + 3) (by omega), hI (h + 27) (by omega), hI (h + 41) (by omega), hI (h + 68) (by omega), hI (h + 76) (by omega), hA (h + 27 + 1) (by first | (simp; done) | (simp; omega)), hA (h + 27 + 2) (by first | (simp; done) | (simp; omega)), hA (h + 42) (by first | (simp; done) | (simp; omega)), hA (h + 43) (by first | (simp; done) | (simp; omega)), hA (h + 44) (by first | (simp; done) | (simp; omega)), hA (h + 51) (by first | (simp; done) | (simp; omega)), hA (h + 53) (by first | (simp; done) | (simp; omega)), hA (h + 54) (by first | (simp; done) | (simp; omega)), hA (h + 55) (by first | (simp; done) | (simp; omega)), hA (h + 71) (by first | (simp; done) | (simp; omega))]
  exact d
theorem FRESH.eq3 {h : Nat} {S S2 : PS} (d : FRESH h S) (hs : SSm S S2) (hI : ∀ c, c ≠ h + 45 → sI S2 c = sI S c) (hA : ∀ c, c ∉ [h + 45 + 1, h + 45 + 2, h + 45 + 3] → sA S2 c = sA S c) : FRESH h S2 := ⟨d.1.eq3 hI hA, fun i hi => by rw [hs.2.2.2.2]; exact d.2.1 i hi, fun i hi => by rw [hs.2.2.2.2]; exact d.2.2 i hi⟩
def shF (i : Nat) : Int32 := 24 - 8 * nI i
set_option maxRecDepth 100000 in
set_option maxHeartbeats 8000000 in
theorem c_addFour (l : Launch) (Γ : GC) (S : PS) {t : Nat} (F : isL lyTape Γ.2.2.2.2.1 S t) (v : Int32) : CT l Γ yX8_addFour cX8_addFour 3 none (1) (0) (0) [.ref t, .int v] S (RV (fun S' => SSm S S' ∧ sI S' t 1 = sI S t 1 + 4)) := by
  refine CT.of RX8 "addFour" [some (.ref t), some (.int v), none] (by decide +kernel) rfl rfl (Nat.le_of_ble_eq_true rfl) rfl (fun M hM => ?_)
  subst hM
  refine V_bipush 0 (24) dX8_addFour_0 (by decide) ?_
  refine V_istore_2 2 dX8_addFour_2 rfl (Nat.le_of_ble_eq_true rfl) ?_
  rw [show (24 : Int32) = shF 0 by decide]
  refine V_while (α := Nat × PS) (fun x => 4 - x.1) (fun x => x.1 ≤ 4 ∧ SSm S x.2 ∧ sI x.2 t 1 = sI S t 1 + nI x.1) (fun x => x.2) (fun x => [some (.ref t), some (.int v), some (.int (shF x.1))]) (0, S) ⟨Nat.zero_le _, SSm.rf, by rw [nI_0]; exact (Int32.add_zero _).symm⟩ (fun x hx ih => ?_)
  obtain ⟨i, S2⟩ := x
  obtain ⟨hi, hR, hv⟩ := hx
  dsimp only at hi hR hv ih ⊢
  have F2 := F.ss hR
  refine V_iload_2 3 dX8_addFour_3 ?_
  refine V_if_lt 4 41 dX8_addFour_4 (by decide) (fun c => ?_) (fun c => ?_)
  ·
    have hi2 : i = 4 := by
      rcases (show i = 0 ∨ i = 1 ∨ i = 2 ∨ i = 3 ∨ i = 4 by omega) with rfl | rfl | rfl | rfl | rfl
      · exact absurd c (by decide)
      · exact absurd c (by decide)
      · exact absurd c (by decide)
      · exact absurd c (by decide)
      · rfl
    subst hi2
    refine V_vret 41 dX8_addFour_41 rfl (Nat.le_of_ble_eq_true rfl) (Nat.le_of_ble_eq_true rfl) (RV.mk ⟨hR, hv⟩)
  ·
    have hi2 : i < 4 := by
      rcases Nat.lt_or_ge i 4 with q | q
      · exact q
      · have : i = 4 := by omega
        subst this
        exact absurd (by decide) c
    have hsh : shF i + (-8) = shF (i + 1) := by
      rcases (show i = 0 ∨ i = 1 ∨ i = 2 ∨ i = 3 by omega) with rfl | rfl | rfl | rfl <;> decide
    refine V_aload_0 7 dX8_addFour_7 ?_
    refine V_getR 8 (c := 8) 0 (F2.r 0 0 1 rfl) dX8_addFour_8 fl_RX8_9 (F2.m 0 (Nat.le_of_ble_eq_true rfl)) (F2.k 0 8 rfl) (Nat.le_of_ble_eq_true rfl) (Nat.le_of_ble_eq_true rfl) rfl ?_
    refine V_aload_0 11 dX8_addFour_11 ?_
    refine V_getI 12 (c := 8) 1 dX8_addFour_12 fl_RX8_44 (F2.m 0 (Nat.le_of_ble_eq_true rfl)) (F2.k 0 8 rfl) (Nat.le_of_ble_eq_true rfl) (Nat.le_of_ble_eq_true rfl) rfl ?_
    refine V_iload_1 15 dX8_addFour_15 ?_
    refine V_iload_2 16 dX8_addFour_16 ?_
    refine V_iushr 17 dX8_addFour_17 ?_
    refine V_sipush 18 (255) dX8_addFour_18 (by decide) ?_
    refine V_iand 21 dX8_addFour_21 ?_
    refine V_callSN 22 [.ref _, .int _, .int _] _ (c_put M.2.1 Γ S2 (a := t + 1) (F2.m 1 (by decide)) (F2.k 1 14 rfl) (by rw [F2.l 1 2000 rfl]; decide) _ _) dX8_addFour_22 cb_X11_put ne_RX8_47 sm_yX11_put ⟨(Nat.le_of_ble_eq_true rfl), (Nat.le_of_ble_eq_true rfl)⟩ rfl rfl (Nat.le_of_ble_eq_true rfl) ⟨(Nat.le_of_ble_eq_true rfl), (Nat.le_of_ble_eq_true rfl)⟩ (RV.go (fun S3 hq => ?_))
    have R3 : RO [t + 1] S2 S3 := by rw [hq]; exact RO.rf.aPt (by simp)
    have F3 := F2.ss R3.1
    refine V_aload_0 25 dX8_addFour_25 ?_
    refine V_dup 26 dX8_addFour_26 rfl ?_
    refine V_getI 27 (c := 8) 1 dX8_addFour_27 fl_RX8_44 (F3.m 0 (Nat.le_of_ble_eq_true rfl)) (F3.k 0 8 rfl) (Nat.le_of_ble_eq_true rfl) (Nat.le_of_ble_eq_true rfl) rfl ?_
    refine V_iconst 30 (1) dX8_addFour_30 (by decide) ?_
    refine V_iadd 31 dX8_addFour_31 ?_
    refine V_putI 32 (c := 8) 1 dX8_addFour_32 fl_RX8_44 (F3.m 0 (Nat.le_of_ble_eq_true rfl)) (F3.k 0 8 rfl) (Nat.le_of_ble_eq_true rfl) (Nat.le_of_ble_eq_true rfl) rfl (Or.inl rfl) ?_
    refine V_iinc_2 35 (-8) dX8_addFour_35 (by decide) rfl (Nat.le_of_ble_eq_true rfl) ?_
    refine V_goto 38 3 dX8_addFour_38 (by decide) ?_
    rw [hsh]
    refine ih (i + 1, _) ⟨by dsimp only; omega, hR.tr R3.1, ?_⟩ (by dsimp only; omega)
    show sI (uI S3 t 1 (sI S3 t 1 + 1)) t 1 = _
    rw [sI_uI, up2_s, R3.2.1, hv, nI_succ, Int32.add_assoc]
set_option maxRecDepth 100000 in
set_option maxHeartbeats 8000000 in
theorem f_feed (l : Launch) (Γ : GC) (S : PS) {h : Nat} (F : isL lySockTable Γ.2.2.2.2.1 S h) (D : FRESH h S) (a b c d e : Int32) : CT l Γ yX11_feed cX11_feed 6 (some .int) (2) (0) (0) [.ref h, .int a, .int b, .int c, .int d, .int e] S (RI (fun r S' => r = 20)) := by
  refine CT.of RX11 "feed" [some (.ref h), some (.int a), some (.int b), some (.int c), some (.int d), some (.int e)] (by decide +kernel) rfl rfl (Nat.le_of_ble_eq_true rfl) rfl (fun M hM => ?_)
  subst hM
  obtain ⟨⟨d1, d2, d3, ⟨⟨k0, k1, k8, k9, k10, k11, k13⟩, kn, kp⟩, ⟨w1, w2, w3, w4⟩, dh, ⟨o1, o2, o3⟩, ⟨l1, l2, l3⟩, ds⟩, P1, P2⟩ := D
  have c3 : sI S (h + 3) 1 = 0 := congrFun d3 1
  refine V_aload_0 0 dX11_feed_0 ?_
  refine V_getR 1 (c := 11) 2 (F.r 0 2 3 rfl) dX11_feed_1 fl_RX11_27 (F.m 0 (Nat.le_of_ble_eq_true rfl)) (F.k 0 11 rfl) (Nat.le_of_ble_eq_true rfl) (Nat.le_of_ble_eq_true rfl) rfl ?_
  refine V_getI 4 (c := 8) 1 dX11_feed_4 fl_RX11_88 (F.m 3 (Nat.le_of_ble_eq_true rfl)) (F.k 3 8 rfl) (Nat.le_of_ble_eq_true rfl) (Nat.le_of_ble_eq_true rfl) rfl ?_
  refine V_bipush 7 (20) dX11_feed_7 (by decide) ?_
  refine V_iadd 9 dX11_feed_9 ?_
  refine V_sipush 10 (2000) dX11_feed_10 (by decide) ?_
  rw [c3]
  refine V_icmp_le 13 18 dX11_feed_13 (by decide) (fun _ => ?_) (fun q => absurd (by decide) q)
  refine V_aload_0 18 dX11_feed_18 ?_
  refine V_getR 19 (c := 11) 2 (F.r 0 2 3 rfl) dX11_feed_19 fl_RX11_27 (F.m 0 (Nat.le_of_ble_eq_true rfl)) (F.k 0 11 rfl) (Nat.le_of_ble_eq_true rfl) (Nat.le_of_ble_eq_true rfl) rfl ?_
  refine V_iload_1 22 dX11_feed_22 ?_
  refine V_callV 23 (ci := 8) [.int _] _ (c_addFour M.2.1 Γ S (t := h + 3) (F.sub 3 lyTape rfl (by decide)) _) dX11_feed_23 cb_X8_addFour ml_RX11_93 im_yX8_addFour se_yX8_addFour (F.m 3 (Nat.le_of_ble_eq_true rfl)) (F.k 3 8 rfl) (Nat.le_of_ble_eq_true rfl) ⟨(Nat.le_of_ble_eq_true rfl), (Nat.le_of_ble_eq_true rfl)⟩ rfl rfl (Nat.le_of_ble_eq_true rfl) ⟨(Nat.le_of_ble_eq_true rfl), (Nat.le_of_ble_eq_true rfl)⟩ (RV.go (fun S1 h1 => ?_))
  have F1 := F.ss h1.1
  refine V_aload_0 26 dX11_feed_26 ?_
  refine V_getR 27 (c := 11) 2 (F1.r 0 2 3 rfl) dX11_feed_27 fl_RX11_27 (F1.m 0 (Nat.le_of_ble_eq_true rfl)) (F1.k 0 11 rfl) (Nat.le_of_ble_eq_true rfl) (Nat.le_of_ble_eq_true rfl) rfl ?_
  refine V_iload_2 30 dX11_feed_30 ?_
  refine V_callV 31 (ci := 8) [.int _] _ (c_addFour M.2.1 Γ S1 (t := h + 3) (F1.sub 3 lyTape rfl (by decide)) _) dX11_feed_31 cb_X8_addFour ml_RX11_93 im_yX8_addFour se_yX8_addFour (F1.m 3 (Nat.le_of_ble_eq_true rfl)) (F1.k 3 8 rfl) (Nat.le_of_ble_eq_true rfl) ⟨(Nat.le_of_ble_eq_true rfl), (Nat.le_of_ble_eq_true rfl)⟩ rfl rfl (Nat.le_of_ble_eq_true rfl) ⟨(Nat.le_of_ble_eq_true rfl), (Nat.le_of_ble_eq_true rfl)⟩ (RV.go (fun S2 h2 => ?_))
  have F2 := F1.ss h2.1
  refine V_aload_0 34 dX11_feed_34 ?_
  refine V_getR 35 (c := 11) 2 (F2.r 0 2 3 rfl) dX11_feed_35 fl_RX11_27 (F2.m 0 (Nat.le_of_ble_eq_true rfl)) (F2.k 0 11 rfl) (Nat.le_of_ble_eq_true rfl) (Nat.le_of_ble_eq_true rfl) rfl ?_
  refine V_iload_3 38 dX11_feed_38 ?_
  refine V_callV 39 (ci := 8) [.int _] _ (c_addFour M.2.1 Γ S2 (t := h + 3) (F2.sub 3 lyTape rfl (by decide)) _) dX11_feed_39 cb_X8_addFour ml_RX11_93 im_yX8_addFour se_yX8_addFour (F2.m 3 (Nat.le_of_ble_eq_true rfl)) (F2.k 3 8 rfl) (Nat.le_of_ble_eq_true rfl) ⟨(Nat.le_of_ble_eq_true rfl), (Nat.le_of_ble_eq_true rfl)⟩ rfl rfl (Nat.le_of_ble_eq_true rfl) ⟨(Nat.le_of_ble_eq_true rfl), (Nat.le_of_ble_eq_true rfl)⟩ (RV.go (fun S3 h3 => ?_))
  have F3 := F2.ss h3.1
  refine V_aload_0 42 dX11_feed_42 ?_
  refine V_getR 43 (c := 11) 2 (F3.r 0 2 3 rfl) dX11_feed_43 fl_RX11_27 (F3.m 0 (Nat.le_of_ble_eq_true rfl)) (F3.k 0 11 rfl) (Nat.le_of_ble_eq_true rfl) (Nat.le_of_ble_eq_true rfl) rfl ?_
  refine V_iload_4 46 dX11_feed_46 ?_
  refine V_callV 48 (ci := 8) [.int _] _ (c_addFour M.2.1 Γ S3 (t := h + 3) (F3.sub 3 lyTape rfl (by decide)) _) dX11_feed_48 cb_X8_addFour ml_RX11_93 im_yX8_addFour se_yX8_addFour (F3.m 3 (Nat.le_of_ble_eq_true rfl)) (F3.k 3 8 rfl) (Nat.le_of_ble_eq_true rfl) ⟨(Nat.le_of_ble_eq_true rfl), (Nat.le_of_ble_eq_true rfl)⟩ rfl rfl (Nat.le_of_ble_eq_true rfl) ⟨(Nat.le_of_ble_eq_true rfl), (Nat.le_of_ble_eq_true rfl)⟩ (RV.go (fun S4 h4 => ?_))
  have F4 := F3.ss h4.1
  refine V_aload_0 51 dX11_feed_51 ?_
  refine V_getR 52 (c := 11) 2 (F4.r 0 2 3 rfl) dX11_feed_52 fl_RX11_27 (F4.m 0 (Nat.le_of_ble_eq_true rfl)) (F4.k 0 11 rfl) (Nat.le_of_ble_eq_true rfl) (Nat.le_of_ble_eq_true rfl) rfl ?_
  refine V_iload_5 55 dX11_feed_55 ?_
  refine V_callV 57 (ci := 8) [.int _] _ (c_addFour M.2.1 Γ S4 (t := h + 3) (F4.sub 3 lyTape rfl (by decide)) _) dX11_feed_57 cb_X8_addFour ml_RX11_93 im_yX8_addFour se_yX8_addFour (F4.m 3 (Nat.le_of_ble_eq_true rfl)) (F4.k 3 8 rfl) (Nat.le_of_ble_eq_true rfl) ⟨(Nat.le_of_ble_eq_true rfl), (Nat.le_of_ble_eq_true rfl)⟩ rfl rfl (Nat.le_of_ble_eq_true rfl) ⟨(Nat.le_of_ble_eq_true rfl), (Nat.le_of_ble_eq_true rfl)⟩ (RV.go (fun S5 h5 => ?_))
  have F5 := F4.ss h5.1
  refine V_aload_0 60 dX11_feed_60 ?_
  refine V_getR 61 (c := 11) 2 (F5.r 0 2 3 rfl) dX11_feed_61 fl_RX11_27 (F5.m 0 (Nat.le_of_ble_eq_true rfl)) (F5.k 0 11 rfl) (Nat.le_of_ble_eq_true rfl) (Nat.le_of_ble_eq_true rfl) rfl ?_
  refine V_getI 64 (c := 8) 1 dX11_feed_64 fl_RX11_88 (F5.m 3 (Nat.le_of_ble_eq_true rfl)) (F5.k 3 8 rfl) (Nat.le_of_ble_eq_true rfl) (Nat.le_of_ble_eq_true rfl) rfl ?_
  refine V_iret 67 .int dX11_feed_67 rfl rfl (Nat.le_of_ble_eq_true rfl) (Nat.le_of_ble_eq_true rfl) (RI.mk (by rw [h5.2, h4.2, h3.2, h2.2, h1.2, c3]; decide))
set_option maxRecDepth 100000 in
set_option maxHeartbeats 8000000 in
theorem c_slotsHeld (l : Launch) (Γ : GC) (S : PS) {h : Nat} (F : isL lySockTable Γ.2.2.2.2.1 S h) (D : FRESH h S) : CT l Γ yX11_slotsHeld cX11_slotsHeld 3 (some .int) (0) (0) (0) [.ref h] S (RI (fun r S' => r = 0)) := by
  refine CT.of RX11 "slotsHeld" [some (.ref h), none, none] (by decide +kernel) rfl rfl (Nat.le_of_ble_eq_true rfl) rfl (fun M hM => ?_)
  subst hM
  obtain ⟨⟨d1, d2, d3, ⟨⟨k0, k1, k8, k9, k10, k11, k13⟩, kn, kp⟩, ⟨w1, w2, w3, w4⟩, dh, ⟨o1, o2, o3⟩, ⟨l1, l2, l3⟩, ds⟩, P1, P2⟩ := D
  refine V_iconst 0 (0) dX11_slotsHeld_0 (by decide) ?_
  refine V_istore_1 1 dX11_slotsHeld_1 rfl (Nat.le_of_ble_eq_true rfl) ?_
  refine V_iconst 2 (0) dX11_slotsHeld_2 (by decide) ?_
  refine V_istore_2 3 dX11_slotsHeld_3 rfl (Nat.le_of_ble_eq_true rfl) ?_
  refine V_while (α := Nat) (fun x => 3 - x) (fun x => x ≤ 3) (fun _ => S) (fun x => [some (.ref h), some (.int 0), some (.int (nI x))]) 0 (Nat.zero_le _) (fun i hi ih => ?_)
  refine V_iload_2 4 dX11_slotsHeld_4 ?_
  refine V_aload_0 5 dX11_slotsHeld_5 ?_
  refine V_getR 6 (c := 11) 11 (F.r 0 11 51 rfl) dX11_slotsHeld_6 fl_RX11_56 (F.m 0 (Nat.le_of_ble_eq_true rfl)) (F.k 0 11 rfl) (Nat.le_of_ble_eq_true rfl) (Nat.le_of_ble_eq_true rfl) rfl ?_
  refine V_alen2 9 dX11_slotsHeld_9 (F.m 51 (Nat.le_of_ble_eq_true rfl)) (F.k 51 16 rfl) (Nat.le_of_ble_eq_true rfl) (Nat.le_of_ble_eq_true rfl) (F.l 51 3 rfl) ?_
  refine V_icmp_ge 10 36 dX11_slotsHeld_10 (by decide) (fun c => ?_) (fun c => ?_)
  ·
    refine V_iload_1 36 dX11_slotsHeld_36 ?_
    refine V_iret 37 .int dX11_slotsHeld_37 rfl rfl (Nat.le_of_ble_eq_true rfl) (Nat.le_of_ble_eq_true rfl) (RI.mk rfl)
  ·
    have hi2 := nI_lt8 (by decide) hi c
    refine V_iload_1 13 dX11_slotsHeld_13 ?_
    refine V_aload_0 14 dX11_slotsHeld_14 ?_
    refine V_getR 15 (c := 11) 11 (F.r 0 11 51 rfl) dX11_slotsHeld_15 fl_RX11_56 (F.m 0 (Nat.le_of_ble_eq_true rfl)) (F.k 0 11 rfl) (Nat.le_of_ble_eq_true rfl) (Nat.le_of_ble_eq_true rfl) rfl ?_
    refine V_iload_2 18 dX11_slotsHeld_18 ?_
    refine V_zaload2 19 dX11_slotsHeld_19 (F.m 51 (Nat.le_of_ble_eq_true rfl)) (F.k 51 16 rfl) (F.l 51 3 rfl) ?_ ?_
    · exact vp_in_nI hi2 (by decide)
    rw [dh]
    refine V_if_eq 20 27 dX11_slotsHeld_20 (by decide) (fun _ => ?_) (fun q => absurd (rfl) q)
    refine V_iconst 27 (0) dX11_slotsHeld_27 (by decide) ?_
    refine V_iadd 28 dX11_slotsHeld_28 ?_
    refine V_istore_1 29 dX11_slotsHeld_29 rfl (Nat.le_of_ble_eq_true rfl) ?_
    refine V_iinc_2 30 (1) dX11_slotsHeld_30 (by decide) rfl (Nat.le_of_ble_eq_true rfl) ?_
    refine V_goto 33 4 dX11_slotsHeld_33 (by decide) ?_
    rw [← nI_succ]
    exact ih (i + 1) (by omega) (by omega)
set_option maxRecDepth 100000 in
set_option maxHeartbeats 8000000 in
theorem f_count (l : Launch) (Γ : GC) (S : PS) {h : Nat} (F : isL lySockTable Γ.2.2.2.2.1 S h) (D : FRESH h S) (w : Int32) : CT l Γ yX11_count cX11_count 2 (some .int) (1) (0) (0) [.ref h, .int w] S (RI (fun r S' => r = if w = 6 then 18 else if w = 7 then 1 else if w < 0 ∨ 14 < w then -1 else 0)) := by
  refine CT.of RX11 "count" [some (.ref h), some (.int w)] (by decide +kernel) rfl rfl (Nat.le_of_ble_eq_true rfl) rfl (fun M hM => ?_)
  subst hM
  have D0 := D
  obtain ⟨⟨d1, d2, d3, ⟨⟨k0, k1, k8, k9, k10, k11, k13⟩, kn, kp⟩, ⟨w1, w2, w3, w4⟩, dh, ⟨o1, o2, o3⟩, ⟨l1, l2, l3⟩, ds⟩, P1, P2⟩ := D
  refine V_iload_1 0 dX11_count_0 ?_
  by_cases hw : w < 0 ∨ 14 < w
  ·
    refine V_tableOut 1 202 dX11_count_1 (by rcases hw with q | q; exact Or.inl (Int32.lt_iff_toInt_lt.mp q); exact Or.inr (Int32.lt_iff_toInt_lt.mp q)) (by decide) ?_
    refine V_iconst 202 (-1) dX11_count_202 (by decide) ?_
    refine V_iret 203 .int dX11_count_203 rfl rfl (Nat.le_of_ble_eq_true rfl) (Nat.le_of_ble_eq_true rfl) (RI.mk (by rw [if_neg (fun q => by subst q; revert hw; decide), if_neg (fun q => by subst q; revert hw; decide), if_pos hw]))
  · obtain ⟨j, hj, rfl⟩ := nI_of2 (M := 14) (n := 14) (by decide) (fun q => hw (Or.inl q)) (Int32.not_lt.mp (fun q => hw (Or.inr q)))
    rcases (show j = 0 ∨ j = 1 ∨ j = 2 ∨ j = 3 ∨ j = 4 ∨ j = 5 ∨ j = 6 ∨ j = 7 ∨ j = 8 ∨ j = 9 ∨ j = 10 ∨ j = 11 ∨ j = 12 ∨ j = 13 ∨ j = 14 by omega) with rfl | rfl | rfl | rfl | rfl | rfl | rfl | rfl | rfl | rfl | rfl | rfl | rfl | rfl | rfl
    ·
      refine V_tableIn 1 76 (off := 75) (x := nI 0) dX11_count_1 (by decide) (by decide) (by decide) (by decide) ?_
      refine V_aload_0 76 dX11_count_76 ?_
      refine V_getR 77 (c := 11) 3 (F.r 0 3 27 rfl) dX11_count_77 fl_RX11_31 (F.m 0 (Nat.le_of_ble_eq_true rfl)) (F.k 0 11 rfl) (Nat.le_of_ble_eq_true rfl) (Nat.le_of_ble_eq_true rfl) rfl ?_
      refine V_getI 80 (c := 10) 0 dX11_count_80 fl_RX11_275 (F.m 27 (Nat.le_of_ble_eq_true rfl)) (F.k 27 10 rfl) (Nat.le_of_ble_eq_true rfl) (Nat.le_of_ble_eq_true rfl) rfl ?_
      refine V_iret 83 .int dX11_count_83 rfl rfl (Nat.le_of_ble_eq_true rfl) (Nat.le_of_ble_eq_true rfl) (RI.mk ((show _ = _ from k0).trans (by decide)))
    ·
      refine V_tableIn 1 84 (off := 83) (x := nI 1) dX11_count_1 (by decide) (by decide) (by decide) (by decide) ?_
      refine V_aload_0 84 dX11_count_84 ?_
      refine V_getR 85 (c := 11) 3 (F.r 0 3 27 rfl) dX11_count_85 fl_RX11_31 (F.m 0 (Nat.le_of_ble_eq_true rfl)) (F.k 0 11 rfl) (Nat.le_of_ble_eq_true rfl) (Nat.le_of_ble_eq_true rfl) rfl ?_
      refine V_getI 88 (c := 10) 1 dX11_count_88 fl_RX11_160 (F.m 27 (Nat.le_of_ble_eq_true rfl)) (F.k 27 10 rfl) (Nat.le_of_ble_eq_true rfl) (Nat.le_of_ble_eq_true rfl) rfl ?_
      refine V_iret 91 .int dX11_count_91 rfl rfl (Nat.le_of_ble_eq_true rfl) (Nat.le_of_ble_eq_true rfl) (RI.mk ((show _ = _ from k1).trans (by decide)))
    ·
      refine V_tableIn 1 92 (off := 91) (x := nI 2) dX11_count_1 (by decide) (by decide) (by decide) (by decide) ?_
      refine V_aload_0 92 dX11_count_92 ?_
      refine V_getR 93 (c := 11) 3 (F.r 0 3 27 rfl) dX11_count_93 fl_RX11_31 (F.m 0 (Nat.le_of_ble_eq_true rfl)) (F.k 0 11 rfl) (Nat.le_of_ble_eq_true rfl) (Nat.le_of_ble_eq_true rfl) rfl ?_
      refine V_getR 96 (c := 10) 2 (F.r 27 2 28 rfl) dX11_count_96 fl_RX11_142 (F.m 27 (Nat.le_of_ble_eq_true rfl)) (F.k 27 10 rfl) (Nat.le_of_ble_eq_true rfl) (Nat.le_of_ble_eq_true rfl) rfl ?_
      refine V_callS 99 [.ref _] _ (c_total M.2.1 Γ S (a := h + 28) (F.m 28 (by decide)) (F.k 28 14 rfl) (by rw [F.l 28 8 rfl]; decide)) dX11_count_99 cb_X11_total ml_RX11_180 sm_yX11_total ⟨(Nat.le_of_ble_eq_true rfl), (Nat.le_of_ble_eq_true rfl)⟩ rfl rfl (Nat.le_of_ble_eq_true rfl) ⟨(Nat.le_of_ble_eq_true rfl), (Nat.le_of_ble_eq_true rfl)⟩ (RI.go (fun r S1 hq => ?_))
      obtain ⟨rfl, rfl⟩ := hq
      refine V_iret 102 .int dX11_count_102 rfl rfl (Nat.le_of_ble_eq_true rfl) (Nat.le_of_ble_eq_true rfl) (RI.mk (by rw [(sum0 _ (fun j hj => kn j (by rw [F.l 28 8 rfl] at hj; exact hj)))]; decide))
    ·
      refine V_tableIn 1 103 (off := 102) (x := nI 3) dX11_count_1 (by decide) (by decide) (by decide) (by decide) ?_
      refine V_aload_0 103 dX11_count_103 ?_
      refine V_getR 104 (c := 11) 5 (F.r 0 5 41 rfl) dX11_count_104 fl_RX11_42 (F.m 0 (Nat.le_of_ble_eq_true rfl)) (F.k 0 11 rfl) (Nat.le_of_ble_eq_true rfl) (Nat.le_of_ble_eq_true rfl) rfl ?_
      refine V_getR 107 (c := 7) 0 (F.r 41 0 42 rfl) dX11_count_107 fl_RX11_131 (F.m 41 (Nat.le_of_ble_eq_true rfl)) (F.k 41 7 rfl) (Nat.le_of_ble_eq_true rfl) (Nat.le_of_ble_eq_true rfl) rfl ?_
      refine V_callS 110 [.ref _] _ (c_total M.2.1 Γ S (a := h + 42) (F.m 42 (by decide)) (F.k 42 14 rfl) (by rw [F.l 42 8 rfl]; decide)) dX11_count_110 cb_X11_total ml_RX11_180 sm_yX11_total ⟨(Nat.le_of_ble_eq_true rfl), (Nat.le_of_ble_eq_true rfl)⟩ rfl rfl (Nat.le_of_ble_eq_true rfl) ⟨(Nat.le_of_ble_eq_true rfl), (Nat.le_of_ble_eq_true rfl)⟩ (RI.go (fun r S1 hq => ?_))
      obtain ⟨rfl, rfl⟩ := hq
      refine V_iret 113 .int dX11_count_113 rfl rfl (Nat.le_of_ble_eq_true rfl) (Nat.le_of_ble_eq_true rfl) (RI.mk (by rw [(sum0 _ (fun j _ => congrFun w1 j))]; decide))
    ·
      refine V_tableIn 1 114 (off := 113) (x := nI 4) dX11_count_1 (by decide) (by decide) (by decide) (by decide) ?_
      refine V_aload_0 114 dX11_count_114 ?_
      refine V_getR 115 (c := 11) 5 (F.r 0 5 41 rfl) dX11_count_115 fl_RX11_42 (F.m 0 (Nat.le_of_ble_eq_true rfl)) (F.k 0 11 rfl) (Nat.le_of_ble_eq_true rfl) (Nat.le_of_ble_eq_true rfl) rfl ?_
      refine V_getR 118 (c := 7) 1 (F.r 41 1 43 rfl) dX11_count_118 fl_RX11_139 (F.m 41 (Nat.le_of_ble_eq_true rfl)) (F.k 41 7 rfl) (Nat.le_of_ble_eq_true rfl) (Nat.le_of_ble_eq_true rfl) rfl ?_
      refine V_callS 121 [.ref _] _ (c_total M.2.1 Γ S (a := h + 43) (F.m 43 (by decide)) (F.k 43 14 rfl) (by rw [F.l 43 8 rfl]; decide)) dX11_count_121 cb_X11_total ml_RX11_180 sm_yX11_total ⟨(Nat.le_of_ble_eq_true rfl), (Nat.le_of_ble_eq_true rfl)⟩ rfl rfl (Nat.le_of_ble_eq_true rfl) ⟨(Nat.le_of_ble_eq_true rfl), (Nat.le_of_ble_eq_true rfl)⟩ (RI.go (fun r S1 hq => ?_))
      obtain ⟨rfl, rfl⟩ := hq
      refine V_iret 124 .int dX11_count_124 rfl rfl (Nat.le_of_ble_eq_true rfl) (Nat.le_of_ble_eq_true rfl) (RI.mk (by rw [(sum0 _ (fun j _ => congrFun w2 j))]; decide))
    ·
      refine V_tableIn 1 125 (off := 124) (x := nI 5) dX11_count_1 (by decide) (by decide) (by decide) (by decide) ?_
      refine V_aload_0 125 dX11_count_125 ?_
      refine V_getR 126 (c := 11) 5 (F.r 0 5 41 rfl) dX11_count_126 fl_RX11_42 (F.m 0 (Nat.le_of_ble_eq_true rfl)) (F.k 0 11 rfl) (Nat.le_of_ble_eq_true rfl) (Nat.le_of_ble_eq_true rfl) rfl ?_
      refine V_getR 129 (c := 7) 2 (F.r 41 2 44 rfl) dX11_count_129 fl_RX11_148 (F.m 41 (Nat.le_of_ble_eq_true rfl)) (F.k 41 7 rfl) (Nat.le_of_ble_eq_true rfl) (Nat.le_of_ble_eq_true rfl) rfl ?_
      refine V_callS 132 [.ref _] _ (c_total M.2.1 Γ S (a := h + 44) (F.m 44 (by decide)) (F.k 44 14 rfl) (by rw [F.l 44 8 rfl]; decide)) dX11_count_132 cb_X11_total ml_RX11_180 sm_yX11_total ⟨(Nat.le_of_ble_eq_true rfl), (Nat.le_of_ble_eq_true rfl)⟩ rfl rfl (Nat.le_of_ble_eq_true rfl) ⟨(Nat.le_of_ble_eq_true rfl), (Nat.le_of_ble_eq_true rfl)⟩ (RI.go (fun r S1 hq => ?_))
      obtain ⟨rfl, rfl⟩ := hq
      refine V_iret 135 .int dX11_count_135 rfl rfl (Nat.le_of_ble_eq_true rfl) (Nat.le_of_ble_eq_true rfl) (RI.mk (by rw [(sum0 _ (fun j _ => congrFun w3 j))]; decide))
    ·
      refine V_tableIn 1 136 (off := 135) (x := nI 6) dX11_count_1 (by decide) (by decide) (by decide) (by decide) ?_
      refine V_aload_0 136 dX11_count_136 ?_
      refine V_getR 137 (c := 11) 3 (F.r 0 3 27 rfl) dX11_count_137 fl_RX11_31 (F.m 0 (Nat.le_of_ble_eq_true rfl)) (F.k 0 11 rfl) (Nat.le_of_ble_eq_true rfl) (Nat.le_of_ble_eq_true rfl) rfl ?_
      refine V_getI 140 (c := 10) 9 dX11_count_140 fl_RX11_278 (F.m 27 (Nat.le_of_ble_eq_true rfl)) (F.k 27 10 rfl) (Nat.le_of_ble_eq_true rfl) (Nat.le_of_ble_eq_true rfl) rfl ?_
      refine V_iret 143 .int dX11_count_143 rfl rfl (Nat.le_of_ble_eq_true rfl) (Nat.le_of_ble_eq_true rfl) (RI.mk ((show _ = _ from k9).trans (by decide)))
    ·
      refine V_tableIn 1 144 (off := 143) (x := nI 7) dX11_count_1 (by decide) (by decide) (by decide) (by decide) ?_
      refine V_aload_0 144 dX11_count_144 ?_
      refine V_getR 145 (c := 11) 3 (F.r 0 3 27 rfl) dX11_count_145 fl_RX11_31 (F.m 0 (Nat.le_of_ble_eq_true rfl)) (F.k 0 11 rfl) (Nat.le_of_ble_eq_true rfl) (Nat.le_of_ble_eq_true rfl) rfl ?_
      refine V_getI 148 (c := 10) 10 dX11_count_148 fl_RX11_173 (F.m 27 (Nat.le_of_ble_eq_true rfl)) (F.k 27 10 rfl) (Nat.le_of_ble_eq_true rfl) (Nat.le_of_ble_eq_true rfl) rfl ?_
      refine V_iret 151 .int dX11_count_151 rfl rfl (Nat.le_of_ble_eq_true rfl) (Nat.le_of_ble_eq_true rfl) (RI.mk ((show _ = _ from k10).trans (by decide)))
    ·
      refine V_tableIn 1 152 (off := 151) (x := nI 8) dX11_count_1 (by decide) (by decide) (by decide) (by decide) ?_
      refine V_aload_0 152 dX11_count_152 ?_
      refine V_getR 153 (c := 11) 5 (F.r 0 5 41 rfl) dX11_count_153 fl_RX11_42 (F.m 0 (Nat.le_of_ble_eq_true rfl)) (F.k 0 11 rfl) (Nat.le_of_ble_eq_true rfl) (Nat.le_of_ble_eq_true rfl) rfl ?_
      refine V_getI 156 (c := 7) 3 dX11_count_156 fl_RX11_281 (F.m 41 (Nat.le_of_ble_eq_true rfl)) (F.k 41 7 rfl) (Nat.le_of_ble_eq_true rfl) (Nat.le_of_ble_eq_true rfl) rfl ?_
      refine V_iret 159 .int dX11_count_159 rfl rfl (Nat.le_of_ble_eq_true rfl) (Nat.le_of_ble_eq_true rfl) (RI.mk ((show _ = _ from congrFun w4 3).trans (by decide)))
    ·
      refine V_tableIn 1 160 (off := 159) (x := nI 9) dX11_count_1 (by decide) (by decide) (by decide) (by decide) ?_
      refine V_aload_0 160 dX11_count_160 ?_
      refine V_getR 161 (c := 11) 3 (F.r 0 3 27 rfl) dX11_count_161 fl_RX11_31 (F.m 0 (Nat.le_of_ble_eq_true rfl)) (F.k 0 11 rfl) (Nat.le_of_ble_eq_true rfl) (Nat.le_of_ble_eq_true rfl) rfl ?_
      refine V_getI 164 (c := 10) 13 dX11_count_164 fl_RX11_235 (F.m 27 (Nat.le_of_ble_eq_true rfl)) (F.k 27 10 rfl) (Nat.le_of_ble_eq_true rfl) (Nat.le_of_ble_eq_true rfl) rfl ?_
      refine V_iret 167 .int dX11_count_167 rfl rfl (Nat.le_of_ble_eq_true rfl) (Nat.le_of_ble_eq_true rfl) (RI.mk ((show _ = _ from k13).trans (by decide)))
    ·
      refine V_tableIn 1 168 (off := 167) (x := nI 10) dX11_count_1 (by decide) (by decide) (by decide) (by decide) ?_
      refine V_aload_0 168 dX11_count_168 ?_
      refine V_getR 169 (c := 11) 3 (F.r 0 3 27 rfl) dX11_count_169 fl_RX11_31 (F.m 0 (Nat.le_of_ble_eq_true rfl)) (F.k 0 11 rfl) (Nat.le_of_ble_eq_true rfl) (Nat.le_of_ble_eq_true rfl) rfl ?_
      refine V_getI 172 (c := 10) 8 dX11_count_172 fl_RX11_284 (F.m 27 (Nat.le_of_ble_eq_true rfl)) (F.k 27 10 rfl) (Nat.le_of_ble_eq_true rfl) (Nat.le_of_ble_eq_true rfl) rfl ?_
      refine V_iret 175 .int dX11_count_175 rfl rfl (Nat.le_of_ble_eq_true rfl) (Nat.le_of_ble_eq_true rfl) (RI.mk ((show _ = _ from k8).trans (by decide)))
    ·
      refine V_tableIn 1 176 (off := 175) (x := nI 11) dX11_count_1 (by decide) (by decide) (by decide) (by decide) ?_
      refine V_aload_0 176 dX11_count_176 ?_
      refine V_getR 177 (c := 11) 2 (F.r 0 2 3 rfl) dX11_count_177 fl_RX11_27 (F.m 0 (Nat.le_of_ble_eq_true rfl)) (F.k 0 11 rfl) (Nat.le_of_ble_eq_true rfl) (Nat.le_of_ble_eq_true rfl) rfl ?_
      refine V_getI 180 (c := 8) 1 dX11_count_180 fl_RX11_88 (F.m 3 (Nat.le_of_ble_eq_true rfl)) (F.k 3 8 rfl) (Nat.le_of_ble_eq_true rfl) (Nat.le_of_ble_eq_true rfl) rfl ?_
      refine V_iret 183 .int dX11_count_183 rfl rfl (Nat.le_of_ble_eq_true rfl) (Nat.le_of_ble_eq_true rfl) (RI.mk ((show _ = _ from congrFun d3 1).trans (by decide)))
    ·
      refine V_tableIn 1 184 (off := 183) (x := nI 12) dX11_count_1 (by decide) (by decide) (by decide) (by decide) ?_
      refine V_aload_0 184 dX11_count_184 ?_
      refine V_getI 185 (c := 11) 9 dX11_count_185 fl_RX11_193 (F.m 0 (Nat.le_of_ble_eq_true rfl)) (F.k 0 11 rfl) (Nat.le_of_ble_eq_true rfl) (Nat.le_of_ble_eq_true rfl) rfl ?_
      refine V_iret 188 .int dX11_count_188 rfl rfl (Nat.le_of_ble_eq_true rfl) (Nat.le_of_ble_eq_true rfl) (RI.mk ((show _ = _ from d2 9 (by decide)).trans (by decide)))
    ·
      refine V_tableIn 1 189 (off := 188) (x := nI 13) dX11_count_1 (by decide) (by decide) (by decide) (by decide) ?_
      refine V_aload_0 189 dX11_count_189 ?_
      refine V_getR 190 (c := 11) 15 (F.r 0 15 76 rfl) dX11_count_190 fl_RX11_84 (F.m 0 (Nat.le_of_ble_eq_true rfl)) (F.k 0 11 rfl) (Nat.le_of_ble_eq_true rfl) (Nat.le_of_ble_eq_true rfl) rfl ?_
      refine V_getI 193 (c := 6) 2 dX11_count_193 fl_RX11_268 (F.m 76 (Nat.le_of_ble_eq_true rfl)) (F.k 76 6 rfl) (Nat.le_of_ble_eq_true rfl) (Nat.le_of_ble_eq_true rfl) rfl ?_
      refine V_iret 196 .int dX11_count_196 rfl rfl (Nat.le_of_ble_eq_true rfl) (Nat.le_of_ble_eq_true rfl) (RI.mk ((show _ = _ from congrFun ds 2).trans (by decide)))
    ·
      refine V_tableIn 1 197 (off := 196) (x := nI 14) dX11_count_1 (by decide) (by decide) (by decide) (by decide) ?_
      refine V_aload_0 197 dX11_count_197 ?_
      refine V_callV 198 (ci := 11) [] _ (c_slotsHeld M.2.1 Γ S F D0) dX11_count_198 cb_X11_slotsHeld ml_RX11_287 im_yX11_slotsHeld se_yX11_slotsHeld (F.m 0 (Nat.le_of_ble_eq_true rfl)) (F.k 0 11 rfl) (Nat.le_of_ble_eq_true rfl) ⟨(Nat.le_of_ble_eq_true rfl), (Nat.le_of_ble_eq_true rfl)⟩ rfl rfl (Nat.le_of_ble_eq_true rfl) ⟨(Nat.le_of_ble_eq_true rfl), (Nat.le_of_ble_eq_true rfl)⟩ (RI.go (fun r S1 hq => ?_))
      subst hq
      refine V_iret 201 .int dX11_count_201 rfl rfl (Nat.le_of_ble_eq_true rfl) (Nat.le_of_ble_eq_true rfl) (RI.mk (by decide))
set_option maxRecDepth 100000 in
set_option maxHeartbeats 8000000 in
theorem c_mostOut (l : Launch) (Γ : GC) (S : PS) {t : Nat} (F : isL lyText Γ.2.2.2.2.1 S t) (hz : sI S t 13 = 0) (x y : Int32) : CT l Γ yX10_mostOut cX10_mostOut 8 (some .int) (0) (0) (0) [.ref t, .int x, .int y] S (RI (fun r S' => r = 0 ∧ RO [t + 9] S S')) := by
  refine CT.of RX10 "mostOut" [some (.ref t), some (.int x), some (.int y), none, none, none, none, none] (by decide +kernel) rfl rfl (Nat.le_of_ble_eq_true rfl) rfl (fun M hM => ?_)
  subst hM
  refine V_iconst 0 (0) dX10_mostOut_0 (by decide) ?_
  refine V_istore_3 1 dX10_mostOut_1 rfl (Nat.le_of_ble_eq_true rfl) ?_
  refine V_while (α := Nat × PS) (fun x => 8 - x.1) (fun x => x.1 ≤ 8 ∧ RO [t + 9] S x.2) (fun x => x.2) (fun z => [some (.ref t), some (.int x), some (.int y), some (.int (nI z.1)), none, none, none, none]) (0, S) ⟨Nat.zero_le _, RO.rf⟩ (fun z hz2 ih => ?_)
  obtain ⟨i, S2⟩ := z
  obtain ⟨hi, hR⟩ := hz2
  dsimp only at hi hR ih ⊢
  have F2 := F.ss hR.1
  refine V_iload_3 2 dX10_mostOut_2 ?_
  refine V_aload_0 3 dX10_mostOut_3 ?_
  refine V_getR 4 (c := 10) 15 (F2.r 0 15 9 rfl) dX10_mostOut_4 fl_RX10_37 (F2.m 0 (Nat.le_of_ble_eq_true rfl)) (F2.k 0 10 rfl) (Nat.le_of_ble_eq_true rfl) (Nat.le_of_ble_eq_true rfl) rfl ?_
  refine V_alen2 7 dX10_mostOut_7 (F2.m 9 (Nat.le_of_ble_eq_true rfl)) (F2.k 9 14 rfl) (Nat.le_of_ble_eq_true rfl) (Nat.le_of_ble_eq_true rfl) (F2.l 9 8 rfl) ?_
  refine V_icmp_ge 8 24 dX10_mostOut_8 (by decide) (fun c => ?_) (fun c => ?_)
  ·
    refine V_iconst 24 (0) dX10_mostOut_24 (by decide) ?_
    refine V_istore_3 25 dX10_mostOut_25 rfl (Nat.le_of_ble_eq_true rfl) ?_
    refine V_iconst 26 (0) dX10_mostOut_26 (by decide) ?_
    refine V_istore_4 27 dX10_mostOut_27 rfl (Nat.le_of_ble_eq_true rfl) ?_
    refine V_aload_0 29 dX10_mostOut_29 ?_
    refine V_getI 30 (c := 10) 13 dX10_mostOut_30 fl_RX10_81 (F2.m 0 (Nat.le_of_ble_eq_true rfl)) (F2.k 0 10 rfl) (Nat.le_of_ble_eq_true rfl) (Nat.le_of_ble_eq_true rfl) rfl ?_
    refine V_iconst 33 (1) dX10_mostOut_33 (by decide) ?_
    refine V_isub 34 dX10_mostOut_34 ?_
    refine V_istore_5 35 dX10_mostOut_35 rfl (Nat.le_of_ble_eq_true rfl) ?_
    refine V_iload_5 37 dX10_mostOut_37 ?_
    rw [hR.2.1, hz]
    refine V_if_lt 39 139 dX10_mostOut_39 (by decide) (fun _ => ?_) (fun q => absurd (by decide) q)
    refine V_iload_4 139 dX10_mostOut_139 ?_
    refine V_iret 141 .int dX10_mostOut_141 rfl rfl (Nat.le_of_ble_eq_true rfl) (Nat.le_of_ble_eq_true rfl) (RI.mk ⟨rfl, hR⟩)
  ·
    have hi2 := nI_lt8 (by decide) hi c
    refine V_aload_0 11 dX10_mostOut_11 ?_
    refine V_getR 12 (c := 10) 15 (F2.r 0 15 9 rfl) dX10_mostOut_12 fl_RX10_37 (F2.m 0 (Nat.le_of_ble_eq_true rfl)) (F2.k 0 10 rfl) (Nat.le_of_ble_eq_true rfl) (Nat.le_of_ble_eq_true rfl) rfl ?_
    refine V_iload_3 15 dX10_mostOut_15 ?_
    refine V_iconst 16 (0) dX10_mostOut_16 (by decide) ?_
    refine V_iastore2 17 dX10_mostOut_17 (F2.m 9 (Nat.le_of_ble_eq_true rfl)) (F2.k 9 14 rfl) (F2.l 9 8 rfl) ?_ ?_
    · exact vp_in_nI hi2 (by decide)
    refine V_iinc_3 18 (1) dX10_mostOut_18 (by decide) rfl (Nat.le_of_ble_eq_true rfl) ?_
    refine V_goto 21 2 dX10_mostOut_21 (by decide) ?_
    rw [← nI_succ]
    exact ih (i + 1, _) ⟨by dsimp only; omega, hR.uA (by simp)⟩ (by dsimp only; omega)
set_option maxRecDepth 100000 in
set_option maxHeartbeats 8000000 in
theorem f_line (l : Launch) (Γ : GC) (S : PS) {h : Nat} (F : isL lySockTable Γ.2.2.2.2.1 S h) (D : FRESH h S) : CT l Γ yX11_line cX11_line 1 (some .int) (1) (0) (0) [.ref h] S (RI (fun r S' => r = 0)) := by
  refine CT.of RX11 "line" [some (.ref h)] (by decide +kernel) rfl rfl (Nat.le_of_ble_eq_true rfl) rfl (fun M hM => ?_)
  subst hM
  obtain ⟨⟨d1, d2, d3, ⟨⟨k0, k1, k8, k9, k10, k11, k13⟩, kn, kp⟩, ⟨w1, w2, w3, w4⟩, dh, ⟨o1, o2, o3⟩, ⟨l1, l2, l3⟩, ds⟩, P1, P2⟩ := D
  refine V_aload_0 0 dX11_line_0 ?_
  refine V_getR 1 (c := 11) 3 (F.r 0 3 27 rfl) dX11_line_1 fl_RX11_31 (F.m 0 (Nat.le_of_ble_eq_true rfl)) (F.k 0 11 rfl) (Nat.le_of_ble_eq_true rfl) (Nat.le_of_ble_eq_true rfl) rfl ?_
  refine V_iconst 4 (0) dX11_line_4 (by decide) ?_
  refine V_iconst 5 (0) dX11_line_5 (by decide) ?_
  refine V_callV 6 (ci := 10) [.int _, .int _] _ (c_mostOut M.2.1 Γ S (t := h + 27) (F.sub 27 lyText rfl (by decide)) k13 _ _) dX11_line_6 cb_X10_mostOut ml_RX11_232 im_yX10_mostOut se_yX10_mostOut (F.m 27 (Nat.le_of_ble_eq_true rfl)) (F.k 27 10 rfl) (Nat.le_of_ble_eq_true rfl) ⟨(Nat.le_of_ble_eq_true rfl), (Nat.le_of_ble_eq_true rfl)⟩ rfl rfl (Nat.le_of_ble_eq_true rfl) ⟨(Nat.le_of_ble_eq_true rfl), (Nat.le_of_ble_eq_true rfl)⟩ (RI.go (fun r S1 hq => ?_))
  refine V_iret 9 .int dX11_line_9 rfl rfl (Nat.le_of_ble_eq_true rfl) (Nat.le_of_ble_eq_true rfl) (RI.mk hq.1)
set_option maxRecDepth 100000 in
set_option maxHeartbeats 8000000 in
theorem f_exchange (l : Launch) (Γ : GC) (S : PS) {h : Nat} (F : isL lySockTable Γ.2.2.2.2.1 S h) (D : FRESH h S) (w : Int32) : CT l Γ yX11_exchange cX11_exchange 7 (some .int) (1) (0) (0) [.ref h, .int w] S (RI (fun r S' => r = if w < 0 ∨ 1 < w then -1 else if w = 0 then -2 else 0)) := by
  refine CT.of RX11 "exchange" [some (.ref h), some (.int w), none, none, none, none, none] (by decide +kernel) rfl rfl (Nat.le_of_ble_eq_true rfl) rfl (fun M hM => ?_)
  subst hM
  obtain ⟨⟨d1, d2, d3, ⟨⟨k0, k1, k8, k9, k10, k11, k13⟩, kn, kp⟩, ⟨w1, w2, w3, w4⟩, dh, ⟨o1, o2, o3⟩, ⟨l1, l2, l3⟩, ds⟩, P1, P2⟩ := D
  refine V_iload_1 0 dX11_exchange_0 ?_
  refine V_if_lt 1 9 dX11_exchange_1 (by decide) (fun c => ?_) (fun c => ?_)
  ·
    refine V_iconst 9 (-1) dX11_exchange_9 (by decide) ?_
    refine V_iret 10 .int dX11_exchange_10 rfl rfl (Nat.le_of_ble_eq_true rfl) (Nat.le_of_ble_eq_true rfl) (RI.mk (by rw [if_pos (Or.inl c)]))
  ·
    refine V_iload_1 4 dX11_exchange_4 ?_
    refine V_iconst 5 (1) dX11_exchange_5 (by decide) ?_
    refine V_icmp_le 6 11 dX11_exchange_6 (by decide) (fun c2 => ?_) (fun c2 => ?_)
    ·
      have hw : ¬ (w < 0 ∨ 1 < w) := fun q => q.elim c (fun q => absurd c2 (Int32.not_le.mpr q))
      refine V_aload_0 11 dX11_exchange_11 ?_
      refine V_getR 12 (c := 11) 3 (F.r 0 3 27 rfl) dX11_exchange_12 fl_RX11_31 (F.m 0 (Nat.le_of_ble_eq_true rfl)) (F.k 0 11 rfl) (Nat.le_of_ble_eq_true rfl) (Nat.le_of_ble_eq_true rfl) rfl ?_
      refine V_iconst 15 (0) dX11_exchange_15 (by decide) ?_
      refine V_iconst 16 (0) dX11_exchange_16 (by decide) ?_
      refine V_callV 17 (ci := 10) [.int _, .int _] _ (c_mostOut M.2.1 Γ S (t := h + 27) (F.sub 27 lyText rfl (by decide)) k13 _ _) dX11_exchange_17 cb_X10_mostOut ml_RX11_232 im_yX10_mostOut se_yX10_mostOut (F.m 27 (Nat.le_of_ble_eq_true rfl)) (F.k 27 10 rfl) (Nat.le_of_ble_eq_true rfl) ⟨(Nat.le_of_ble_eq_true rfl), (Nat.le_of_ble_eq_true rfl)⟩ rfl rfl (Nat.le_of_ble_eq_true rfl) ⟨(Nat.le_of_ble_eq_true rfl), (Nat.le_of_ble_eq_true rfl)⟩ (RI.go (fun r S1 hq => ?_))
      obtain ⟨rfl, hq⟩ := hq
      have F1 := F.ss hq.1
      refine V_istore_2 20 dX11_exchange_20 rfl (Nat.le_of_ble_eq_true rfl) ?_
      refine V_bipush 21 (-2) dX11_exchange_21 (by decide) ?_
      refine V_istore_3 23 dX11_exchange_23 rfl (Nat.le_of_ble_eq_true rfl) ?_
      refine V_iconst 24 (0) dX11_exchange_24 (by decide) ?_
      refine V_istore_4 25 dX11_exchange_25 rfl (Nat.le_of_ble_eq_true rfl) ?_
      refine V_iload_4 27 dX11_exchange_27 ?_
      refine V_aload_0 29 dX11_exchange_29 ?_
      refine V_getR 30 (c := 11) 3 (F1.r 0 3 27 rfl) dX11_exchange_30 fl_RX11_31 (F1.m 0 (Nat.le_of_ble_eq_true rfl)) (F1.k 0 11 rfl) (Nat.le_of_ble_eq_true rfl) (Nat.le_of_ble_eq_true rfl) rfl ?_
      refine V_getI 33 (c := 10) 13 dX11_exchange_33 fl_RX11_235 (F1.m 27 (Nat.le_of_ble_eq_true rfl)) (F1.k 27 10 rfl) (Nat.le_of_ble_eq_true rfl) (Nat.le_of_ble_eq_true rfl) rfl ?_
      rw [hq.2.1, k13]
      refine V_icmp_ge 36 100 dX11_exchange_36 (by decide) (fun _ => ?_) (fun q => absurd (by decide) q)
      refine V_iload_1 100 dX11_exchange_100 ?_
      refine V_if_ne 101 108 dX11_exchange_101 (by decide) (fun c3 => ?_) (fun c3 => ?_)
      ·
        refine V_iload_2 108 dX11_exchange_108 ?_
        refine V_iret 109 .int dX11_exchange_109 rfl rfl (Nat.le_of_ble_eq_true rfl) (Nat.le_of_ble_eq_true rfl) (RI.mk (by rw [if_neg hw, if_neg c3]))
      ·
        refine V_iload_3 104 dX11_exchange_104 ?_
        refine V_goto 105 109 dX11_exchange_105 (by decide) ?_
        refine V_iret 109 .int dX11_exchange_109 rfl rfl (Nat.le_of_ble_eq_true rfl) (Nat.le_of_ble_eq_true rfl) (RI.mk (by rw [if_neg hw, if_pos c3]))
    ·
      refine V_iconst 9 (-1) dX11_exchange_9 (by decide) ?_
      refine V_iret 10 .int dX11_exchange_10 rfl rfl (Nat.le_of_ble_eq_true rfl) (Nat.le_of_ble_eq_true rfl) (RI.mk (by rw [if_pos (Or.inr (Int32.not_le.mp c2))]))
set_option maxRecDepth 100000 in
set_option maxHeartbeats 8000000 in
theorem c_playOut (l : Launch) (Γ : GC) (S : PS) {a : Nat} (F : isL lyState Γ.2.2.2.2.1 S a) (hz : ∀ j, j < 8 → sA S (a + 1) j = 0) (t : Nat) (x y z : Int32) : CT l Γ yX7_playOut cX7_playOut 6 (some .int) (1) (0) (0) [.ref a, .ref t, .int x, .int y, .int z] S (RI (fun r S' => r = 0 ∧ S' = S)) := by
  refine CT.of RX7 "playOut" [some (.ref a), some (.ref t), some (.int x), some (.int y), some (.int z), none] (by decide +kernel) rfl rfl (Nat.le_of_ble_eq_true rfl) rfl (fun M hM => ?_)
  subst hM
  refine V_iconst 0 (0) dX7_playOut_0 (by decide) ?_
  refine V_istore_5 1 dX7_playOut_1 rfl (Nat.le_of_ble_eq_true rfl) ?_
  refine V_iload_5 3 dX7_playOut_3 ?_
  refine V_iload_4 5 dX7_playOut_5 ?_
  refine V_icmp_ge 7 45 dX7_playOut_7 (by decide) (fun c => ?_) (fun c => ?_)
  ·
    refine V_iload_5 45 dX7_playOut_45 ?_
    refine V_iret 47 .int dX7_playOut_47 rfl rfl (Nat.le_of_ble_eq_true rfl) (Nat.le_of_ble_eq_true rfl) (RI.mk ⟨rfl, rfl⟩)
  ·
    refine V_aload_0 10 dX7_playOut_10 ?_
    refine V_getI 11 (c := 7) 4 dX7_playOut_11 fl_RX7_34 (F.m 0 (Nat.le_of_ble_eq_true rfl)) (F.k 0 7 rfl) (Nat.le_of_ble_eq_true rfl) (Nat.le_of_ble_eq_true rfl) rfl ?_
    refine V_if_ne 14 45 dX7_playOut_14 (by decide) (fun c2 => ?_) (fun c2 => ?_)
    ·
      refine V_iload_5 45 dX7_playOut_45 ?_
      refine V_iret 47 .int dX7_playOut_47 rfl rfl (Nat.le_of_ble_eq_true rfl) (Nat.le_of_ble_eq_true rfl) (RI.mk ⟨rfl, rfl⟩)
    ·
      refine V_aload_0 17 dX7_playOut_17 ?_
      refine V_getR 18 (c := 7) 0 (F.r 0 0 1 rfl) dX7_playOut_18 fl_RX7_9 (F.m 0 (Nat.le_of_ble_eq_true rfl)) (F.k 0 7 rfl) (Nat.le_of_ble_eq_true rfl) (Nat.le_of_ble_eq_true rfl) rfl ?_
      refine V_callSN 21 [.ref _] _ (c_total M.2.1 Γ S (a := a + 1) (F.m 1 (by decide)) (F.k 1 14 rfl) (by rw [F.l 1 8 rfl]; decide)) dX7_playOut_21 cb_X11_total ne_RX7_55 sm_yX11_total ⟨(Nat.le_of_ble_eq_true rfl), (Nat.le_of_ble_eq_true rfl)⟩ rfl rfl (Nat.le_of_ble_eq_true rfl) ⟨(Nat.le_of_ble_eq_true rfl), (Nat.le_of_ble_eq_true rfl)⟩ (RI.go (fun r S1 hq => ?_))
      obtain ⟨rfl, rfl⟩ := hq
      rw [sum0 _ (fun j hj => hz j (by rw [F.l 1 8 rfl] at hj; exact hj))]
      refine V_if_le 24 45 dX7_playOut_24 (by decide) (fun _ => ?_) (fun q => absurd (by decide) q)
      refine V_iload_5 45 dX7_playOut_45 ?_
      refine V_iret 47 .int dX7_playOut_47 rfl rfl (Nat.le_of_ble_eq_true rfl) (Nat.le_of_ble_eq_true rfl) (RI.mk ⟨rfl, rfl⟩)
set_option maxRecDepth 100000 in
set_option maxHeartbeats 8000000 in
theorem f_evening (l : Launch) (Γ : GC) (S : PS) {h : Nat} (F : isL lySockTable Γ.2.2.2.2.1 S h) (D : FRESH h S) (n : Int32) : CT l Γ yX11_evening cX11_evening 2 (some .int) (2) (0) (0) [.ref h, .int n] S (RI (fun r S' => r = if n < 1 ∨ 500 < n then -1 else 0)) := by
  refine CT.of RX11 "evening" [some (.ref h), some (.int n)] (by decide +kernel) rfl rfl (Nat.le_of_ble_eq_true rfl) rfl (fun M hM => ?_)
  subst hM
  obtain ⟨⟨d1, d2, d3, ⟨⟨k0, k1, k8, k9, k10, k11, k13⟩, kn, kp⟩, ⟨w1, w2, w3, w4⟩, dh, ⟨o1, o2, o3⟩, ⟨l1, l2, l3⟩, ds⟩, P1, P2⟩ := D
  refine V_iload_1 0 dX11_evening_0 ?_
  refine V_iconst 1 (1) dX11_evening_1 (by decide) ?_
  refine V_icmp_lt 2 12 dX11_evening_2 (by decide) (fun c => ?_) (fun c => ?_)
  ·
    refine V_iconst 12 (-1) dX11_evening_12 (by decide) ?_
    refine V_iret 13 .int dX11_evening_13 rfl rfl (Nat.le_of_ble_eq_true rfl) (Nat.le_of_ble_eq_true rfl) (RI.mk (by rw [if_pos (Or.inl c)]))
  ·
    refine V_iload_1 5 dX11_evening_5 ?_
    refine V_sipush 6 (500) dX11_evening_6 (by decide) ?_
    refine V_icmp_le 9 14 dX11_evening_9 (by decide) (fun c2 => ?_) (fun c2 => ?_)
    ·
      refine V_aload_0 14 dX11_evening_14 ?_
      refine V_getR 15 (c := 11) 6 (F.r 0 6 45 rfl) dX11_evening_15 fl_RX11_46 (F.m 0 (Nat.le_of_ble_eq_true rfl)) (F.k 0 11 rfl) (Nat.le_of_ble_eq_true rfl) (Nat.le_of_ble_eq_true rfl) rfl ?_
      refine V_aload_0 18 dX11_evening_18 ?_
      refine V_getR 19 (c := 11) 5 (F.r 0 5 41 rfl) dX11_evening_19 fl_RX11_42 (F.m 0 (Nat.le_of_ble_eq_true rfl)) (F.k 0 11 rfl) (Nat.le_of_ble_eq_true rfl) (Nat.le_of_ble_eq_true rfl) rfl ?_
      refine V_callV 22 (ci := 7) [.ref _] _ (c_X7_become M.2.1 Γ S (a := h + 45) (b := h + 41) (F.sub 45 lyState rfl (by decide)) (F.sub 41 lyState rfl (by decide)) (Or.inl (congrFun w4 4))) dX11_evening_22 cb_X7_become ml_RX11_202 im_yX7_become se_yX7_become (F.m 45 (Nat.le_of_ble_eq_true rfl)) (F.k 45 7 rfl) (Nat.le_of_ble_eq_true rfl) ⟨(Nat.le_of_ble_eq_true rfl), (Nat.le_of_ble_eq_true rfl)⟩ rfl rfl (Nat.le_of_ble_eq_true rfl) ⟨(Nat.le_of_ble_eq_true rfl), (Nat.le_of_ble_eq_true rfl)⟩ (RV.go (fun S1 hq => ?_))
      have F1 := F.ss hq.1
      refine V_aload_0 25 dX11_evening_25 ?_
      refine V_getR 26 (c := 11) 6 (F1.r 0 6 45 rfl) dX11_evening_26 fl_RX11_46 (F1.m 0 (Nat.le_of_ble_eq_true rfl)) (F1.k 0 11 rfl) (Nat.le_of_ble_eq_true rfl) (Nat.le_of_ble_eq_true rfl) rfl ?_
      refine V_aload_0 29 dX11_evening_29 ?_
      refine V_getR 30 (c := 11) 3 (F1.r 0 3 27 rfl) dX11_evening_30 fl_RX11_31 (F1.m 0 (Nat.le_of_ble_eq_true rfl)) (F1.k 0 11 rfl) (Nat.le_of_ble_eq_true rfl) (Nat.le_of_ble_eq_true rfl) rfl ?_
      refine V_aload_0 33 dX11_evening_33 ?_
      refine V_getR 34 (c := 11) 3 (F1.r 0 3 27 rfl) dX11_evening_34 fl_RX11_31 (F1.m 0 (Nat.le_of_ble_eq_true rfl)) (F1.k 0 11 rfl) (Nat.le_of_ble_eq_true rfl) (Nat.le_of_ble_eq_true rfl) rfl ?_
      refine V_getI 37 (c := 10) 11 dX11_evening_37 fl_RX11_184 (F1.m 27 (Nat.le_of_ble_eq_true rfl)) (F1.k 27 10 rfl) (Nat.le_of_ble_eq_true rfl) (Nat.le_of_ble_eq_true rfl) rfl ?_
      refine V_aload_0 40 dX11_evening_40 ?_
      refine V_getR 41 (c := 11) 3 (F1.r 0 3 27 rfl) dX11_evening_41 fl_RX11_31 (F1.m 0 (Nat.le_of_ble_eq_true rfl)) (F1.k 0 11 rfl) (Nat.le_of_ble_eq_true rfl) (Nat.le_of_ble_eq_true rfl) rfl ?_
      refine V_getI 44 (c := 10) 10 dX11_evening_44 fl_RX11_173 (F1.m 27 (Nat.le_of_ble_eq_true rfl)) (F1.k 27 10 rfl) (Nat.le_of_ble_eq_true rfl) (Nat.le_of_ble_eq_true rfl) rfl ?_
      refine V_iload_1 47 dX11_evening_47 ?_
      refine V_callV 48 (ci := 7) [.ref _, .int _, .int _, .int _] _ (c_playOut M.2.1 Γ S1 (a := h + 45) (F1.sub 45 lyState rfl (by decide)) (fun j hj => (hq.2.2.2.2.2 j hj).trans (congrFun w1 j)) _ _ _ _) dX11_evening_48 cb_X7_playOut ml_RX11_225 im_yX7_playOut se_yX7_playOut (F1.m 45 (Nat.le_of_ble_eq_true rfl)) (F1.k 45 7 rfl) (Nat.le_of_ble_eq_true rfl) ⟨(Nat.le_of_ble_eq_true rfl), (Nat.le_of_ble_eq_true rfl)⟩ rfl rfl (Nat.le_of_ble_eq_true rfl) ⟨(Nat.le_of_ble_eq_true rfl), (Nat.le_of_ble_eq_true rfl)⟩ (RI.go (fun r S2 hq2 => ?_))
      refine V_iret 51 .int dX11_evening_51 rfl rfl (Nat.le_of_ble_eq_true rfl) (Nat.le_of_ble_eq_true rfl) (RI.mk (by rw [hq2.1, if_neg (fun q => q.elim c (fun q => absurd c2 (Int32.not_le.mpr q)))]))
    ·
      refine V_iconst 12 (-1) dX11_evening_12 (by decide) ?_
      refine V_iret 13 .int dX11_evening_13 rfl rfl (Nat.le_of_ble_eq_true rfl) (Nat.le_of_ble_eq_true rfl) (RI.mk (by rw [if_pos (Or.inr (Int32.not_le.mp c2))]))

