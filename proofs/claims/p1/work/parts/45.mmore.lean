/-! the model on a fresh state: the other methods but read -/
set_option maxRecDepth 100000 in
set_option maxHeartbeats 8000000 in
theorem c_putM (l : Launch) (Γ : GC) (S : PS) {m : Nat} (F : isL lyModel Γ.2.2.2.2.1 S m) (v : Int32) (t : Nat) (ht : t + 4 ≤ 2000) (hv : sI S m 2 = nI t) : CT l Γ yX12_put cX12_put 3 none (0) (0) (0) [.ref m, .int v] S (RV (fun S' => SSm S S' ∧ sI S' m 2 = nI (t + 4))) := by
  refine CT.of RX12 "put" [some (.ref m), some (.int v), none] (by decide +kernel) rfl rfl (Nat.le_of_ble_eq_true rfl) rfl (fun M hM => ?_)
  subst hM
  refine V_bipush 0 (24) dX12_put_0 (by decide) ?_
  refine V_istore_2 2 dX12_put_2 rfl (Nat.le_of_ble_eq_true rfl) ?_
  rw [show (24 : Int32) = shF 0 by decide]
  refine V_while (α := Nat × PS) (fun x => 4 - x.1) (fun x => x.1 ≤ 4 ∧ SSm S x.2 ∧ sI x.2 m 2 = nI (t + x.1)) (fun x => x.2) (fun x => [some (.ref m), some (.int v), some (.int (shF x.1))]) (0, S) ⟨Nat.zero_le _, SSm.rf, hv⟩ (fun x hx ih => ?_)
  obtain ⟨i, S2⟩ := x
  obtain ⟨hi, hR, hv⟩ := hx
  dsimp only at hi hR hv ih ⊢
  have F2 := F.ss hR
  refine V_iload_2 3 dX12_put_3 ?_
  refine V_if_lt 4 36 dX12_put_4 (by decide) (fun c => ?_) (fun c => ?_)
  ·
    have hi2 : i = 4 := by
      rcases (show i = 0 ∨ i = 1 ∨ i = 2 ∨ i = 3 ∨ i = 4 by omega) with rfl | rfl | rfl | rfl | rfl
      · exact absurd c (by decide)
      · exact absurd c (by decide)
      · exact absurd c (by decide)
      · exact absurd c (by decide)
      · rfl
    subst hi2
    refine V_vret 36 dX12_put_36 rfl (Nat.le_of_ble_eq_true rfl) (Nat.le_of_ble_eq_true rfl) (RV.mk ⟨hR, hv⟩)
  ·
    have hi2 : i < 4 := by
      rcases Nat.lt_or_ge i 4 with q | q
      · exact q
      · have : i = 4 := by omega
        subst this
        exact absurd (by decide) c
    have hsh : shF i + (-8) = shF (i + 1) := by
      rcases (show i = 0 ∨ i = 1 ∨ i = 2 ∨ i = 3 by omega) with rfl | rfl | rfl | rfl <;> decide
    refine V_aload_0 7 dX12_put_7 ?_
    refine V_getR 8 (c := 12) 1 (F2.r 0 1 1 rfl) dX12_put_8 fl_RX12_13 (F2.m 0 (Nat.le_of_ble_eq_true rfl)) (F2.k 0 12 rfl) (Nat.le_of_ble_eq_true rfl) (Nat.le_of_ble_eq_true rfl) rfl ?_
    refine V_aload_0 11 dX12_put_11 ?_
    refine V_getI 12 (c := 12) 2 dX12_put_12 fl_RX12_197 (F2.m 0 (Nat.le_of_ble_eq_true rfl)) (F2.k 0 12 rfl) (Nat.le_of_ble_eq_true rfl) (Nat.le_of_ble_eq_true rfl) rfl ?_
    rw [hv]
    refine V_iload_1 15 dX12_put_15 ?_
    refine V_iload_2 16 dX12_put_16 ?_
    refine V_ishr 17 dX12_put_17 ?_
    refine V_i2b 18 dX12_put_18 ?_
    refine V_bastore2 19 dX12_put_19 (F2.m 1 (Nat.le_of_ble_eq_true rfl)) (F2.k 1 13 rfl) (F2.l 1 2000 rfl) ?_ ?_
    · exact vp_in_nI (by omega) (by decide)
    refine V_abs (fun T => SSm S T ∧ sI T m 2 = nI (t + i)) ⟨hR.tr ⟨rfl, rfl, rfl, rfl, rfl⟩, hv⟩ (fun S3 h3 => ?_)
    have F3 := F.ss h3.1
    refine V_aload_0 20 dX12_put_20 ?_
    refine V_dup 21 dX12_put_21 rfl ?_
    refine V_getI 22 (c := 12) 2 dX12_put_22 fl_RX12_197 (F3.m 0 (Nat.le_of_ble_eq_true rfl)) (F3.k 0 12 rfl) (Nat.le_of_ble_eq_true rfl) (Nat.le_of_ble_eq_true rfl) rfl ?_
    refine V_iconst 25 (1) dX12_put_25 (by decide) ?_
    refine V_iadd 26 dX12_put_26 ?_
    refine V_putI 27 (c := 12) 2 dX12_put_27 fl_RX12_197 (F3.m 0 (Nat.le_of_ble_eq_true rfl)) (F3.k 0 12 rfl) (Nat.le_of_ble_eq_true rfl) (Nat.le_of_ble_eq_true rfl) rfl (Or.inl rfl) ?_
    refine V_iinc_2 30 (-8) dX12_put_30 (by decide) rfl (Nat.le_of_ble_eq_true rfl) ?_
    refine V_goto 33 3 dX12_put_33 (by decide) ?_
    rw [hsh]
    refine ih (i + 1, _) ⟨by dsimp only; omega, h3.1.tr ⟨rfl, rfl, rfl, rfl, rfl⟩, ?_⟩ (by dsimp only; omega)
    show sI (uI S3 m 2 (sI S3 m 2 + 1)) m 2 = _
    rw [sI_uI, up2_s, h3.2, nI_1]; rfl
set_option maxRecDepth 100000 in
set_option maxHeartbeats 8000000 in
theorem g_feed (l : Launch) (Γ : GC) (S : PS) {m : Nat} (F : isL lyModel Γ.2.2.2.2.1 S m) (D : FRM m S) (a b c d e : Int32) : CT l Γ yX12_feed cX12_feed 6 (some .int) (1) (0) (0) [.ref m, .int a, .int b, .int c, .int d, .int e] S (RI (fun r S' => r = 20)) := by
  refine CT.of RX12 "feed" [some (.ref m), some (.int a), some (.int b), some (.int c), some (.int d), some (.int e)] (by decide +kernel) rfl rfl (Nat.le_of_ble_eq_true rfl) rfl (fun M hM => ?_)
  subst hM
  refine V_aload_0 0 dX12_feed_0 ?_
  refine V_getI 1 (c := 12) 2 dX12_feed_1 fl_RX12_197 (F.m 0 (Nat.le_of_ble_eq_true rfl)) (F.k 0 12 rfl) (Nat.le_of_ble_eq_true rfl) (Nat.le_of_ble_eq_true rfl) rfl ?_
  rw [D.1.i 2 (by decide)]
  refine V_bipush 4 (20) dX12_feed_4 (by decide) ?_
  refine V_iadd 6 dX12_feed_6 ?_
  refine V_sipush 7 (2000) dX12_feed_7 (by decide) ?_
  refine V_icmp_le 10 15 dX12_feed_10 (by decide) (fun _ => ?_) (fun q => absurd (by decide) q)
  refine V_aload_0 15 dX12_feed_15 ?_
  refine V_iload_1 16 dX12_feed_16 ?_
  refine V_callV 17 (ci := 12) [.int _] _ (c_putM M.2.1 Γ S F _ 0 (by decide) (D.1.i 2 (by decide))) dX12_feed_17 cb_X12_put ml_RX12_200 im_yX12_put se_yX12_put (F.m 0 (Nat.le_of_ble_eq_true rfl)) (F.k 0 12 rfl) (Nat.le_of_ble_eq_true rfl) ⟨(Nat.le_of_ble_eq_true rfl), (Nat.le_of_ble_eq_true rfl)⟩ rfl rfl (Nat.le_of_ble_eq_true rfl) ⟨(Nat.le_of_ble_eq_true rfl), (Nat.le_of_ble_eq_true rfl)⟩ (RV.go (fun S1 h1 => ?_))
  have F1 := F.ss h1.1
  refine V_aload_0 20 dX12_feed_20 ?_
  refine V_iload_2 21 dX12_feed_21 ?_
  refine V_callV 22 (ci := 12) [.int _] _ (c_putM M.2.1 Γ S1 F1 _ 4 (by decide) h1.2) dX12_feed_22 cb_X12_put ml_RX12_200 im_yX12_put se_yX12_put (F1.m 0 (Nat.le_of_ble_eq_true rfl)) (F1.k 0 12 rfl) (Nat.le_of_ble_eq_true rfl) ⟨(Nat.le_of_ble_eq_true rfl), (Nat.le_of_ble_eq_true rfl)⟩ rfl rfl (Nat.le_of_ble_eq_true rfl) ⟨(Nat.le_of_ble_eq_true rfl), (Nat.le_of_ble_eq_true rfl)⟩ (RV.go (fun S2 h2 => ?_))
  have F2 := F1.ss h2.1
  refine V_aload_0 25 dX12_feed_25 ?_
  refine V_iload_3 26 dX12_feed_26 ?_
  refine V_callV 27 (ci := 12) [.int _] _ (c_putM M.2.1 Γ S2 F2 _ 8 (by decide) h2.2) dX12_feed_27 cb_X12_put ml_RX12_200 im_yX12_put se_yX12_put (F2.m 0 (Nat.le_of_ble_eq_true rfl)) (F2.k 0 12 rfl) (Nat.le_of_ble_eq_true rfl) ⟨(Nat.le_of_ble_eq_true rfl), (Nat.le_of_ble_eq_true rfl)⟩ rfl rfl (Nat.le_of_ble_eq_true rfl) ⟨(Nat.le_of_ble_eq_true rfl), (Nat.le_of_ble_eq_true rfl)⟩ (RV.go (fun S3 h3 => ?_))
  have F3 := F2.ss h3.1
  refine V_aload_0 30 dX12_feed_30 ?_
  refine V_iload_4 31 dX12_feed_31 ?_
  refine V_callV 33 (ci := 12) [.int _] _ (c_putM M.2.1 Γ S3 F3 _ 12 (by decide) h3.2) dX12_feed_33 cb_X12_put ml_RX12_200 im_yX12_put se_yX12_put (F3.m 0 (Nat.le_of_ble_eq_true rfl)) (F3.k 0 12 rfl) (Nat.le_of_ble_eq_true rfl) ⟨(Nat.le_of_ble_eq_true rfl), (Nat.le_of_ble_eq_true rfl)⟩ rfl rfl (Nat.le_of_ble_eq_true rfl) ⟨(Nat.le_of_ble_eq_true rfl), (Nat.le_of_ble_eq_true rfl)⟩ (RV.go (fun S4 h4 => ?_))
  have F4 := F3.ss h4.1
  refine V_aload_0 36 dX12_feed_36 ?_
  refine V_iload_5 37 dX12_feed_37 ?_
  refine V_callV 39 (ci := 12) [.int _] _ (c_putM M.2.1 Γ S4 F4 _ 16 (by decide) h4.2) dX12_feed_39 cb_X12_put ml_RX12_200 im_yX12_put se_yX12_put (F4.m 0 (Nat.le_of_ble_eq_true rfl)) (F4.k 0 12 rfl) (Nat.le_of_ble_eq_true rfl) ⟨(Nat.le_of_ble_eq_true rfl), (Nat.le_of_ble_eq_true rfl)⟩ rfl rfl (Nat.le_of_ble_eq_true rfl) ⟨(Nat.le_of_ble_eq_true rfl), (Nat.le_of_ble_eq_true rfl)⟩ (RV.go (fun S5 h5 => ?_))
  have F5 := F4.ss h5.1
  refine V_aload_0 42 dX12_feed_42 ?_
  refine V_getI 43 (c := 12) 2 dX12_feed_43 fl_RX12_197 (F5.m 0 (Nat.le_of_ble_eq_true rfl)) (F5.k 0 12 rfl) (Nat.le_of_ble_eq_true rfl) (Nat.le_of_ble_eq_true rfl) rfl ?_
  refine V_iret 46 .int dX12_feed_46 rfl rfl (Nat.le_of_ble_eq_true rfl) (Nat.le_of_ble_eq_true rfl) (RI.mk (h5.2.trans (by decide)))
set_option maxRecDepth 100000 in
set_option maxHeartbeats 8000000 in
theorem g_within (l : Launch) (Γ : GC) (S : PS) {m : Nat} (F : isL lyModel Γ.2.2.2.2.1 S m) (D : FRM m S) (n : Int32) : CT l Γ yX12_within cX12_within 2 (some .long) (3) (0) (0) [.ref m, .int n] S (RLg (fun r S' => r = if n < 0 ∨ 18 < n then -1 else 1)) := by
  refine CT.of RX12 "within" [some (.ref m), some (.int n)] (by decide +kernel) rfl rfl (Nat.le_of_ble_eq_true rfl) rfl (fun M hM => ?_)
  subst hM
  refine V_iload_1 0 dX12_within_0 ?_
  refine V_iconst 1 (0) dX12_within_1 (by decide) ?_
  refine V_bipush 2 (18) dX12_within_2 (by decide) ?_
  refine V_callS 4 [.int _, .int _, .int _] _ (c_in M.2.1 Γ _ _ _ _) dX12_within_4 cb_X12_in ml_RX12_335 sm_yX12_in ⟨(Nat.le_of_ble_eq_true rfl), (Nat.le_of_ble_eq_true rfl)⟩ rfl rfl (Nat.le_of_ble_eq_true rfl) ⟨(Nat.le_of_ble_eq_true rfl), (Nat.le_of_ble_eq_true rfl)⟩ (RI.go (fun r S1 hq => ?_))
  obtain ⟨rfl, hq⟩ := hq
  rcases hq with ⟨rfl, h1, h2⟩ | ⟨rfl, h1⟩
  ·
    refine V_if_eq 7 18 dX12_within_7 (by decide) (fun q => absurd q (by decide)) (fun _ => ?_)
    refine V_aload_0 10 dX12_within_10 ?_
    refine V_iload_1 11 dX12_within_11 ?_
    refine V_callV 12 (ci := 12) [.int _] _ (c_withinOf M.2.1 Γ _ F D.1 _) dX12_within_12 cb_X12_withinOf ml_RX12_388 im_yX12_withinOf se_yX12_withinOf (F.m 0 (Nat.le_of_ble_eq_true rfl)) (F.k 0 12 rfl) (Nat.le_of_ble_eq_true rfl) ⟨(Nat.le_of_ble_eq_true rfl), (Nat.le_of_ble_eq_true rfl)⟩ rfl rfl (Nat.le_of_ble_eq_true rfl) ⟨(Nat.le_of_ble_eq_true rfl), (Nat.le_of_ble_eq_true rfl)⟩ (RLg.go (fun r2 S2 hq => ?_))
    refine V_goto 15 21 dX12_within_15 (by decide) ?_
    refine V_lret 21 dX12_within_21 rfl (Nat.le_of_ble_eq_true rfl) (Nat.le_of_ble_eq_true rfl) (RLg.mk (by rw [hq.1, if_neg (fun q => q.elim h1 h2)]))
  ·
    refine V_if_eq 7 18 dX12_within_7 (by decide) (fun _ => ?_) (fun q => absurd (by decide) q)
    refine V_ldc2_w 18 dX12_within_18 kL_RX12_392 ?_
    refine V_lret 21 dX12_within_21 rfl (Nat.le_of_ble_eq_true rfl) (Nat.le_of_ble_eq_true rfl) (RLg.mk (by rw [if_pos h1]))
set_option maxRecDepth 100000 in
set_option maxHeartbeats 8000000 in
theorem g_lies (l : Launch) (Γ : GC) (S : PS) {m : Nat} (F : isL lyModel Γ.2.2.2.2.1 S m) (D : FRM m S) (n : Int32) : CT l Γ yX12_lies cX12_lies 7 (some .long) (3) (0) (0) [.ref m, .int n] S (RLg (fun r S' => r = if n = 0 then 0 else -1)) := by
  refine CT.of RX12 "lies" [some (.ref m), some (.int n), none, none, none, none, none] (by decide +kernel) rfl rfl (Nat.le_of_ble_eq_true rfl) rfl (fun M hM => ?_)
  subst hM
  refine V_aload_0 0 dX12_lies_0 ?_
  refine V_callV 1 (ci := 12) [] _ (c_copies M.2.1 Γ _ F D.1) dX12_lies_1 cb_X12_copies ml_RX12_364 im_yX12_copies se_yX12_copies (F.m 0 (Nat.le_of_ble_eq_true rfl)) (F.k 0 12 rfl) (Nat.le_of_ble_eq_true rfl) ⟨(Nat.le_of_ble_eq_true rfl), (Nat.le_of_ble_eq_true rfl)⟩ rfl rfl (Nat.le_of_ble_eq_true rfl) ⟨(Nat.le_of_ble_eq_true rfl), (Nat.le_of_ble_eq_true rfl)⟩ (RV.go (fun S1 hq => ?_))
  have D1 : FM m S1 := by rw [hq]; exact (D.1.uI (Or.inl rfl)).uI (Or.inr rfl)
  have s1 : SSm S S1 := by rw [hq]; exact ⟨rfl, rfl, rfl, rfl, rfl⟩
  clear hq
  have F1 := F.ss s1
  refine V_iload_1 4 dX12_lies_4 ?_
  refine V_iconst 5 (0) dX12_lies_5 (by decide) ?_
  refine V_aload_0 6 dX12_lies_6 ?_
  refine V_iconst 7 (0) dX12_lies_7 (by decide) ?_
  refine V_callV 8 (ci := 12) [.int _] _ (c_sumOnM M.2.1 Γ _ F1 D1 _ (Or.inl rfl)) dX12_lies_8 cb_X12_sumOn ml_RX12_352 im_yX12_sumOn se_yX12_sumOn (F1.m 0 (Nat.le_of_ble_eq_true rfl)) (F1.k 0 12 rfl) (Nat.le_of_ble_eq_true rfl) ⟨(Nat.le_of_ble_eq_true rfl), (Nat.le_of_ble_eq_true rfl)⟩ rfl rfl (Nat.le_of_ble_eq_true rfl) ⟨(Nat.le_of_ble_eq_true rfl), (Nat.le_of_ble_eq_true rfl)⟩ (RI.go (fun r1 U1 h1 => ?_))
  obtain ⟨rfl, rfl⟩ := h1
  refine V_callS 11 [.int _, .int _, .int _] _ (c_in M.2.1 Γ _ _ _ _) dX12_lies_11 cb_X12_in ml_RX12_335 sm_yX12_in ⟨(Nat.le_of_ble_eq_true rfl), (Nat.le_of_ble_eq_true rfl)⟩ rfl rfl (Nat.le_of_ble_eq_true rfl) ⟨(Nat.le_of_ble_eq_true rfl), (Nat.le_of_ble_eq_true rfl)⟩ (RI.go (fun r2 U2 h2 => ?_))
  obtain ⟨rfl, h2⟩ := h2
  rcases h2 with ⟨rfl, c1, c2⟩ | ⟨rfl, c⟩
  · have hn : n = 0 := eq0_of c1 c2
    subst hn
    refine V_if_ne 14 21 dX12_lies_14 (by decide) (fun _ => ?_) (fun q => absurd q (by decide))
    refine V_aload_0 21 dX12_lies_21 ?_
    refine V_bipush 22 (18) dX12_lies_22 (by decide) ?_
    refine V_callV 24 (ci := 12) [.int _] _ (c_fillsWays M.2.1 Γ _ F1 D1 _) dX12_lies_24 cb_X12_fillsWays ml_RX12_385 im_yX12_fillsWays se_yX12_fillsWays (F1.m 0 (Nat.le_of_ble_eq_true rfl)) (F1.k 0 12 rfl) (Nat.le_of_ble_eq_true rfl) ⟨(Nat.le_of_ble_eq_true rfl), (Nat.le_of_ble_eq_true rfl)⟩ rfl rfl (Nat.le_of_ble_eq_true rfl) ⟨(Nat.le_of_ble_eq_true rfl), (Nat.le_of_ble_eq_true rfl)⟩ (RV.go (fun S3 h3 => ?_))
    have F3 := F1.ss h3.1
    refine V_aload_0 27 dX12_lies_27 ?_
    refine V_iconst 28 (0) dX12_lies_28 (by decide) ?_
    refine V_callV 29 (ci := 12) [.int _] _ (c_sumOnM M.2.1 Γ _ F3 h3.2.1 _ (Or.inl rfl)) dX12_lies_29 cb_X12_sumOn ml_RX12_352 im_yX12_sumOn se_yX12_sumOn (F3.m 0 (Nat.le_of_ble_eq_true rfl)) (F3.k 0 12 rfl) (Nat.le_of_ble_eq_true rfl) ⟨(Nat.le_of_ble_eq_true rfl), (Nat.le_of_ble_eq_true rfl)⟩ rfl rfl (Nat.le_of_ble_eq_true rfl) ⟨(Nat.le_of_ble_eq_true rfl), (Nat.le_of_ble_eq_true rfl)⟩ (RI.go (fun r4 U4 h4 => ?_))
    obtain ⟨rfl, rfl⟩ := h4
    refine V_iload_1 32 dX12_lies_32 ?_
    refine V_isub 33 dX12_lies_33 ?_
    refine V_callS 34 [.int _] _ (c_orders M.2.1 Γ _ _ (by decide)) dX12_lies_34 cb_X12_orders ml_RX12_394 sm_yX12_orders ⟨(Nat.le_of_ble_eq_true rfl), (Nat.le_of_ble_eq_true rfl)⟩ rfl rfl (Nat.le_of_ble_eq_true rfl) ⟨(Nat.le_of_ble_eq_true rfl), (Nat.le_of_ble_eq_true rfl)⟩ (RLg.go (fun r5 U5 h5 => ?_))
    obtain ⟨rfl, rfl⟩ := h5
    refine V_lstore_2 37 dX12_lies_37 rfl (Nat.le_of_ble_eq_true rfl) ?_
    refine V_lconst 38 0 dX12_lies_38 (by decide) ?_
    refine V_lstore_4 39 dX12_lies_39 rfl (Nat.le_of_ble_eq_true rfl) ?_
    refine V_iconst 41 (0) dX12_lies_41 (by decide) ?_
    refine V_istore_6 42 dX12_lies_42 rfl (Nat.le_of_ble_eq_true rfl) ?_
    refine V_iload_6 44 dX12_lies_44 ?_
    refine V_aload_0 46 dX12_lies_46 ?_
    refine V_getR 47 (c := 12) 59 (F3.r 0 59 40 rfl) dX12_lies_47 fl_RX12_137 (F3.m 0 (Nat.le_of_ble_eq_true rfl)) (F3.k 0 12 rfl) (Nat.le_of_ble_eq_true rfl) (Nat.le_of_ble_eq_true rfl) rfl ?_
    refine V_bipush 50 (8) dX12_lies_50 (by decide) ?_
    refine V_iaload2 52 dX12_lies_52 (F3.m 40 (Nat.le_of_ble_eq_true rfl)) (F3.k 40 14 rfl) (F3.l 40 9 rfl) ?_ ?_
    · exact (by unfold vp_in; decide)
    rw [show ((8 : Int32)).toNatClampNeg = 8 from by decide, h3.2.2.1 8 (by decide)]
    refine V_icmp_ge 53 96 dX12_lies_53 (by decide) (fun q => absurd q (by decide)) (fun _ => ?_)
    refine V_aload_0 56 dX12_lies_56 ?_
    refine V_iload_6 57 dX12_lies_57 ?_
    refine V_callV 59 (ci := 12) [.int _] _ (c_takesNumber M.2.1 Γ _ F3 h3.2.1 _) dX12_lies_59 cb_X12_takesNumber ml_RX12_379 im_yX12_takesNumber se_yX12_takesNumber (F3.m 0 (Nat.le_of_ble_eq_true rfl)) (F3.k 0 12 rfl) (Nat.le_of_ble_eq_true rfl) ⟨(Nat.le_of_ble_eq_true rfl), (Nat.le_of_ble_eq_true rfl)⟩ rfl rfl (Nat.le_of_ble_eq_true rfl) ⟨(Nat.le_of_ble_eq_true rfl), (Nat.le_of_ble_eq_true rfl)⟩ (RV.go (fun U6 h6 => ?_))
    subst h6
    refine V_aload_0 62 dX12_lies_62 ?_
    refine V_callV 63 (ci := 12) [] _ (c_drawnAll M.2.1 Γ _ F3 h3.2.1) dX12_lies_63 cb_X12_drawnAll ml_RX12_397 im_yX12_drawnAll se_yX12_drawnAll (F3.m 0 (Nat.le_of_ble_eq_true rfl)) (F3.k 0 12 rfl) (Nat.le_of_ble_eq_true rfl) ⟨(Nat.le_of_ble_eq_true rfl), (Nat.le_of_ble_eq_true rfl)⟩ rfl rfl (Nat.le_of_ble_eq_true rfl) ⟨(Nat.le_of_ble_eq_true rfl), (Nat.le_of_ble_eq_true rfl)⟩ (RI.go (fun r7 U7 h7 => ?_))
    obtain ⟨rfl, rfl⟩ := h7
    refine V_iload_1 66 dX12_lies_66 ?_
    refine V_icmp_ne 67 90 dX12_lies_67 (by decide) (fun q => absurd (by decide) q) (fun _ => ?_)
    refine V_lload_4 70 dX12_lies_70 ?_
    refine V_aload_0 72 dX12_lies_72 ?_
    refine V_getR 73 (c := 12) 60 (F3.r 0 60 41 rfl) dX12_lies_73 fl_RX12_140 (F3.m 0 (Nat.le_of_ble_eq_true rfl)) (F3.k 0 12 rfl) (Nat.le_of_ble_eq_true rfl) (Nat.le_of_ble_eq_true rfl) rfl ?_
    refine V_iload_6 76 dX12_lies_76 ?_
    refine V_laload2 78 dX12_lies_78 (F3.m 41 (Nat.le_of_ble_eq_true rfl)) (F3.k 41 15 rfl) (F3.l 41 20000 rfl) ?_ ?_
    · exact (by unfold vp_in; decide)
    refine V_lload_2 79 dX12_lies_79 ?_
    refine V_lmul 80 dX12_lies_80 ?_
    refine V_aload_0 81 dX12_lies_81 ?_
    refine V_callV 82 (ci := 12) [] _ (c_lieOut M.2.1 Γ _ F3 h3.2.1) dX12_lies_82 cb_X12_lieOut ml_RX12_382 im_yX12_lieOut se_yX12_lieOut (F3.m 0 (Nat.le_of_ble_eq_true rfl)) (F3.k 0 12 rfl) (Nat.le_of_ble_eq_true rfl) ⟨(Nat.le_of_ble_eq_true rfl), (Nat.le_of_ble_eq_true rfl)⟩ rfl rfl (Nat.le_of_ble_eq_true rfl) ⟨(Nat.le_of_ble_eq_true rfl), (Nat.le_of_ble_eq_true rfl)⟩ (RI.go (fun r8 U8 h8 => ?_))
    obtain ⟨rfl, rfl⟩ := h8
    refine V_i2l 85 dX12_lies_85 ?_
    refine V_lmul 86 dX12_lies_86 ?_
    refine V_ladd 87 dX12_lies_87 ?_
    refine V_lstore_4 88 dX12_lies_88 rfl (Nat.le_of_ble_eq_true rfl) ?_
    refine V_iinc_6 90 (1) dX12_lies_90 (by decide) rfl (Nat.le_of_ble_eq_true rfl) ?_
    refine V_goto 93 44 dX12_lies_93 (by decide) ?_
    refine V_iload_6 44 dX12_lies_44 ?_
    refine V_aload_0 46 dX12_lies_46 ?_
    refine V_getR 47 (c := 12) 59 (F3.r 0 59 40 rfl) dX12_lies_47 fl_RX12_137 (F3.m 0 (Nat.le_of_ble_eq_true rfl)) (F3.k 0 12 rfl) (Nat.le_of_ble_eq_true rfl) (Nat.le_of_ble_eq_true rfl) rfl ?_
    refine V_bipush 50 (8) dX12_lies_50 (by decide) ?_
    refine V_iaload2 52 dX12_lies_52 (F3.m 40 (Nat.le_of_ble_eq_true rfl)) (F3.k 40 14 rfl) (F3.l 40 9 rfl) ?_ ?_
    · exact (by unfold vp_in; decide)
    rw [show ((8 : Int32)).toNatClampNeg = 8 from by decide, h3.2.2.1 8 (by decide)]
    refine V_icmp_ge 53 96 dX12_lies_53 (by decide) (fun _ => ?_) (fun q => absurd (by decide) q)
    refine V_lload_4 96 dX12_lies_96 ?_
    refine V_lret 98 dX12_lies_98 rfl (Nat.le_of_ble_eq_true rfl) (Nat.le_of_ble_eq_true rfl) (RLg.mk (by rw [cl0, h3.2.2.2, if_pos rfl]; decide))
  ·
    refine V_if_ne 14 21 dX12_lies_14 (by decide) (fun q => absurd (by decide) q) (fun _ => ?_)
    refine V_ldc2_w 17 dX12_lies_17 kL_RX12_392 ?_
    refine V_lret 20 dX12_lies_20 rfl (Nat.le_of_ble_eq_true rfl) (Nat.le_of_ble_eq_true rfl) (RLg.mk (by rw [if_neg (fun q => by subst q; exact absurd c (by decide))]))
set_option maxRecDepth 100000 in
set_option maxHeartbeats 8000000 in
theorem g_mosts (l : Launch) (Γ : GC) (S : PS) {m : Nat} (F : isL lyModel Γ.2.2.2.2.1 S m) (D : FRM m S) : CT l Γ yX12_mosts cX12_mosts 6 (some .long) (3) (0) (0) [.ref m] S (RLg (fun r S' => r = 0)) := by
  refine CT.of RX12 "mosts" [some (.ref m), none, none, none, none, none] (by decide +kernel) rfl rfl (Nat.le_of_ble_eq_true rfl) rfl (fun M hM => ?_)
  subst hM
  refine V_aload_0 0 dX12_mosts_0 ?_
  refine V_callV 1 (ci := 12) [] _ (c_copies M.2.1 Γ _ F D.1) dX12_mosts_1 cb_X12_copies ml_RX12_364 im_yX12_copies se_yX12_copies (F.m 0 (Nat.le_of_ble_eq_true rfl)) (F.k 0 12 rfl) (Nat.le_of_ble_eq_true rfl) ⟨(Nat.le_of_ble_eq_true rfl), (Nat.le_of_ble_eq_true rfl)⟩ rfl rfl (Nat.le_of_ble_eq_true rfl) ⟨(Nat.le_of_ble_eq_true rfl), (Nat.le_of_ble_eq_true rfl)⟩ (RV.go (fun S1 hq => ?_))
  have D1 : FM m S1 := by rw [hq]; exact (D.1.uI (Or.inl rfl)).uI (Or.inr rfl)
  have s1 : SSm S S1 := by rw [hq]; exact ⟨rfl, rfl, rfl, rfl, rfl⟩
  clear hq
  have F1 := F.ss s1
  refine V_aload_0 4 dX12_mosts_4 ?_
  refine V_iconst 5 (0) dX12_mosts_5 (by decide) ?_
  refine V_callV 6 (ci := 12) [.int _] _ (c_sumOnM M.2.1 Γ _ F1 D1 _ (Or.inl rfl)) dX12_mosts_6 cb_X12_sumOn ml_RX12_352 im_yX12_sumOn se_yX12_sumOn (F1.m 0 (Nat.le_of_ble_eq_true rfl)) (F1.k 0 12 rfl) (Nat.le_of_ble_eq_true rfl) ⟨(Nat.le_of_ble_eq_true rfl), (Nat.le_of_ble_eq_true rfl)⟩ rfl rfl (Nat.le_of_ble_eq_true rfl) ⟨(Nat.le_of_ble_eq_true rfl), (Nat.le_of_ble_eq_true rfl)⟩ (RI.go (fun r1 U1 h1 => ?_))
  obtain ⟨rfl, rfl⟩ := h1
  refine V_callS 9 [.int _] _ (c_orders M.2.1 Γ _ _ rfl) dX12_mosts_9 cb_X12_orders ml_RX12_394 sm_yX12_orders ⟨(Nat.le_of_ble_eq_true rfl), (Nat.le_of_ble_eq_true rfl)⟩ rfl rfl (Nat.le_of_ble_eq_true rfl) ⟨(Nat.le_of_ble_eq_true rfl), (Nat.le_of_ble_eq_true rfl)⟩ (RLg.go (fun r2 U2 h2 => ?_))
  obtain ⟨rfl, rfl⟩ := h2
  refine V_lstore_1 12 dX12_mosts_12 rfl (Nat.le_of_ble_eq_true rfl) ?_
  refine V_lconst 13 0 dX12_mosts_13 (by decide) ?_
  refine V_lstore_3 14 dX12_mosts_14 rfl (Nat.le_of_ble_eq_true rfl) ?_
  refine V_iconst 15 (0) dX12_mosts_15 (by decide) ?_
  refine V_istore_5 16 dX12_mosts_16 rfl (Nat.le_of_ble_eq_true rfl) ?_
  refine V_while (α := Nat × PS) (fun x => 18 - x.1) (fun x => x.1 ≤ 18 ∧ SSm S x.2 ∧ FM m x.2) (fun x => x.2) (fun x => [some (.ref m), some (.long 1), none, some (.long 0), none, some (.int (nI x.1))]) (0, U2) ⟨Nat.zero_le _, s1, D1⟩ (fun x hx ih => ?_)
  obtain ⟨i, S2⟩ := x
  obtain ⟨hi, hR, hD⟩ := hx
  dsimp only at hi hR hD ih ⊢
  have F2 := F.ss hR
  refine V_iload_5 18 dX12_mosts_18 ?_
  refine V_bipush 20 (18) dX12_mosts_20 (by decide) ?_
  refine V_icmp_ge 22 42 dX12_mosts_22 (by decide) (fun c => ?_) (fun c => ?_)
  ·
    refine V_lload_3 42 dX12_mosts_42 ?_
    refine V_lret 43 dX12_mosts_43 rfl (Nat.le_of_ble_eq_true rfl) (Nat.le_of_ble_eq_true rfl) (RLg.mk rfl)
  ·
    have hi2 := nI_lt8 (by decide) hi c
    refine V_lload_3 25 dX12_mosts_25 ?_
    refine V_lload_1 26 dX12_mosts_26 ?_
    refine V_aload_0 27 dX12_mosts_27 ?_
    refine V_iload_5 28 dX12_mosts_28 ?_
    refine V_callV 30 (ci := 12) [.int _] _ (c_withinOf M.2.1 Γ _ F2 hD _) dX12_mosts_30 cb_X12_withinOf ml_RX12_388 im_yX12_withinOf se_yX12_withinOf (F2.m 0 (Nat.le_of_ble_eq_true rfl)) (F2.k 0 12 rfl) (Nat.le_of_ble_eq_true rfl) ⟨(Nat.le_of_ble_eq_true rfl), (Nat.le_of_ble_eq_true rfl)⟩ rfl rfl (Nat.le_of_ble_eq_true rfl) ⟨(Nat.le_of_ble_eq_true rfl), (Nat.le_of_ble_eq_true rfl)⟩ (RLg.go (fun r3 S3 h3 => ?_))
    obtain ⟨rfl, s3, D3⟩ := h3
    refine V_lsub 33 dX12_mosts_33 ?_
    refine V_ladd 34 dX12_mosts_34 ?_
    rw [show (0 : Int64) + (1 - 1) = 0 from by decide]
    refine V_lstore_3 35 dX12_mosts_35 rfl (Nat.le_of_ble_eq_true rfl) ?_
    refine V_iinc_5 36 (1) dX12_mosts_36 (by decide) rfl (Nat.le_of_ble_eq_true rfl) ?_
    refine V_goto 39 18 dX12_mosts_39 (by decide) ?_
    rw [← nI_succ]
    exact ih (i + 1, _) ⟨by dsimp only; omega, hR.tr s3, D3⟩ (by dsimp only; omega)
theorem lc_ge2 {a b : Int32} (h : a ≤ b) : 0 ≤ lg_cmp (1 * b.toInt64) (a.toInt64 * 1) := Int32.not_lt.mp (lc_ge h)
set_option maxRecDepth 100000 in
set_option maxHeartbeats 8000000 in
theorem g_sure (l : Launch) (Γ : GC) (S : PS) {m : Nat} (F : isL lyModel Γ.2.2.2.2.1 S m) (D : FRM m S) (a b : Int32) : CT l Γ yX12_sure cX12_sure 6 (some .int) (3) (0) (0) [.ref m, .int a, .int b] S (RI (fun r S' => r = if b < 1 ∨ 99 < b ∨ a < 0 ∨ b < a then -1 else 0)) := by
  refine CT.of RX12 "sure" [some (.ref m), some (.int a), some (.int b), none, none, none] (by decide +kernel) rfl rfl (Nat.le_of_ble_eq_true rfl) rfl (fun M hM => ?_)
  subst hM
  refine V_iload_2 0 dX12_sure_0 ?_
  refine V_iconst 1 (1) dX12_sure_1 (by decide) ?_
  refine V_bipush 2 (99) dX12_sure_2 (by decide) ?_
  refine V_callS 4 [.int _, .int _, .int _] _ (c_in M.2.1 Γ _ _ _ _) dX12_sure_4 cb_X12_in ml_RX12_335 sm_yX12_in ⟨(Nat.le_of_ble_eq_true rfl), (Nat.le_of_ble_eq_true rfl)⟩ rfl rfl (Nat.le_of_ble_eq_true rfl) ⟨(Nat.le_of_ble_eq_true rfl), (Nat.le_of_ble_eq_true rfl)⟩ (RI.go (fun r S1 hq => ?_))
  obtain ⟨rfl, hq⟩ := hq
  rcases hq with ⟨rfl, h1, h2⟩ | ⟨rfl, h1⟩
  ·
    refine V_if_eq 7 19 dX12_sure_7 (by decide) (fun q => absurd q (by decide)) (fun _ => ?_)
    refine V_iload_1 10 dX12_sure_10 ?_
    refine V_iconst 11 (0) dX12_sure_11 (by decide) ?_
    refine V_iload_2 12 dX12_sure_12 ?_
    refine V_callS 13 [.int _, .int _, .int _] _ (c_in M.2.1 Γ _ _ _ _) dX12_sure_13 cb_X12_in ml_RX12_335 sm_yX12_in ⟨(Nat.le_of_ble_eq_true rfl), (Nat.le_of_ble_eq_true rfl)⟩ rfl rfl (Nat.le_of_ble_eq_true rfl) ⟨(Nat.le_of_ble_eq_true rfl), (Nat.le_of_ble_eq_true rfl)⟩ (RI.go (fun r S2 hq => ?_))
    obtain ⟨rfl, hq⟩ := hq
    rcases hq with ⟨rfl, h3, h4⟩ | ⟨rfl, h3⟩
    ·
      refine V_if_ne 16 21 dX12_sure_16 (by decide) (fun _ => ?_) (fun q => absurd q (by decide))
      refine V_aload_0 21 dX12_sure_21 ?_
      refine V_callV 22 (ci := 12) [] _ (c_copies M.2.1 Γ _ F D.1) dX12_sure_22 cb_X12_copies ml_RX12_364 im_yX12_copies se_yX12_copies (F.m 0 (Nat.le_of_ble_eq_true rfl)) (F.k 0 12 rfl) (Nat.le_of_ble_eq_true rfl) ⟨(Nat.le_of_ble_eq_true rfl), (Nat.le_of_ble_eq_true rfl)⟩ rfl rfl (Nat.le_of_ble_eq_true rfl) ⟨(Nat.le_of_ble_eq_true rfl), (Nat.le_of_ble_eq_true rfl)⟩ (RV.go (fun S3 hq => ?_))
      have D1 : FM m S3 := by rw [hq]; exact (D.1.uI (Or.inl rfl)).uI (Or.inr rfl)
      have F1 : isL lyModel Γ.2.2.2.2.1 S3 m := by rw [hq]; exact F.ss ⟨rfl, rfl, rfl, rfl, rfl⟩
      clear hq
      refine V_aload_0 25 dX12_sure_25 ?_
      refine V_iconst 26 (0) dX12_sure_26 (by decide) ?_
      refine V_callV 27 (ci := 12) [.int _] _ (c_sumOnM M.2.1 Γ _ F1 D1 _ (Or.inl rfl)) dX12_sure_27 cb_X12_sumOn ml_RX12_352 im_yX12_sumOn se_yX12_sumOn (F1.m 0 (Nat.le_of_ble_eq_true rfl)) (F1.k 0 12 rfl) (Nat.le_of_ble_eq_true rfl) ⟨(Nat.le_of_ble_eq_true rfl), (Nat.le_of_ble_eq_true rfl)⟩ rfl rfl (Nat.le_of_ble_eq_true rfl) ⟨(Nat.le_of_ble_eq_true rfl), (Nat.le_of_ble_eq_true rfl)⟩ (RI.go (fun r1 U1 h5 => ?_))
      obtain ⟨rfl, rfl⟩ := h5
      refine V_callS 30 [.int _] _ (c_orders M.2.1 Γ _ _ rfl) dX12_sure_30 cb_X12_orders ml_RX12_394 sm_yX12_orders ⟨(Nat.le_of_ble_eq_true rfl), (Nat.le_of_ble_eq_true rfl)⟩ rfl rfl (Nat.le_of_ble_eq_true rfl) ⟨(Nat.le_of_ble_eq_true rfl), (Nat.le_of_ble_eq_true rfl)⟩ (RLg.go (fun r2 U2 h6 => ?_))
      obtain ⟨rfl, rfl⟩ := h6
      refine V_lstore_3 33 dX12_sure_33 rfl (Nat.le_of_ble_eq_true rfl) ?_
      refine V_iconst 34 (0) dX12_sure_34 (by decide) ?_
      refine V_istore_5 35 dX12_sure_35 rfl (Nat.le_of_ble_eq_true rfl) ?_
      refine V_aload_0 37 dX12_sure_37 ?_
      refine V_iload_5 38 dX12_sure_38 ?_
      refine V_callV 40 (ci := 12) [.int _] _ (c_withinOf M.2.1 Γ _ F1 D1 _) dX12_sure_40 cb_X12_withinOf ml_RX12_388 im_yX12_withinOf se_yX12_withinOf (F1.m 0 (Nat.le_of_ble_eq_true rfl)) (F1.k 0 12 rfl) (Nat.le_of_ble_eq_true rfl) ⟨(Nat.le_of_ble_eq_true rfl), (Nat.le_of_ble_eq_true rfl)⟩ rfl rfl (Nat.le_of_ble_eq_true rfl) ⟨(Nat.le_of_ble_eq_true rfl), (Nat.le_of_ble_eq_true rfl)⟩ (RLg.go (fun r7 U7 h7 => ?_))
      obtain ⟨rfl, s7, D7⟩ := h7
      refine V_iload_2 43 dX12_sure_43 ?_
      refine V_i2l 44 dX12_sure_44 ?_
      refine V_lmul 45 dX12_sure_45 ?_
      refine V_iload_1 46 dX12_sure_46 ?_
      refine V_i2l 47 dX12_sure_47 ?_
      refine V_lload_3 48 dX12_sure_48 ?_
      refine V_lmul 49 dX12_sure_49 ?_
      refine V_lcmp 50 dX12_sure_50 ?_
      refine V_if_ge 51 60 dX12_sure_51 (by decide) (fun _ => ?_) (fun q => absurd (lc_ge2 (Int32.not_lt.mp h4)) q)
      refine V_iload_5 60 dX12_sure_60 ?_
      refine V_iret 62 .int dX12_sure_62 rfl rfl (Nat.le_of_ble_eq_true rfl) (Nat.le_of_ble_eq_true rfl) (RI.mk (by rw [if_neg (fun q => q.elim h1 (fun q => q.elim h2 (fun q => q.elim h3 h4)))]))
    ·
      refine V_if_ne 16 21 dX12_sure_16 (by decide) (fun q => absurd (by decide) q) (fun _ => ?_)
      refine V_iconst 19 (-1) dX12_sure_19 (by decide) ?_
      refine V_iret 20 .int dX12_sure_20 rfl rfl (Nat.le_of_ble_eq_true rfl) (Nat.le_of_ble_eq_true rfl) (RI.mk (by rw [if_pos (Or.inr (Or.inr h3))]))
  ·
    refine V_if_eq 7 19 dX12_sure_7 (by decide) (fun _ => ?_) (fun q => absurd (by decide) q)
    refine V_iconst 19 (-1) dX12_sure_19 (by decide) ?_
    refine V_iret 20 .int dX12_sure_20 rfl rfl (Nat.le_of_ble_eq_true rfl) (Nat.le_of_ble_eq_true rfl) (RI.mk (by rw [if_pos (h1.elim Or.inl (fun q => Or.inr (Or.inl q)))]))
set_option maxRecDepth 100000 in
set_option maxHeartbeats 8000000 in
theorem g_evening (l : Launch) (Γ : GC) (S : PS) {m : Nat} (F : isL lyModel Γ.2.2.2.2.1 S m) (D : FRM m S) (n : Int32) : CT l Γ yX12_evening cX12_evening 2 (some .int) (2) (0) (0) [.ref m, .int n] S (RI (fun r S' => r = if n < 1 ∨ 500 < n then -1 else 0)) := by
  refine CT.of RX12 "evening" [some (.ref m), some (.int n)] (by decide +kernel) rfl rfl (Nat.le_of_ble_eq_true rfl) rfl (fun M hM => ?_)
  subst hM
  refine V_iload_1 0 dX12_evening_0 ?_
  refine V_iconst 1 (1) dX12_evening_1 (by decide) ?_
  refine V_sipush 2 (500) dX12_evening_2 (by decide) ?_
  refine V_callS 5 [.int _, .int _, .int _] _ (c_in M.2.1 Γ _ _ _ _) dX12_evening_5 cb_X12_in ml_RX12_335 sm_yX12_in ⟨(Nat.le_of_ble_eq_true rfl), (Nat.le_of_ble_eq_true rfl)⟩ rfl rfl (Nat.le_of_ble_eq_true rfl) ⟨(Nat.le_of_ble_eq_true rfl), (Nat.le_of_ble_eq_true rfl)⟩ (RI.go (fun r S1 hq => ?_))
  obtain ⟨rfl, hq⟩ := hq
  rcases hq with ⟨rfl, h1, h2⟩ | ⟨rfl, h1⟩
  ·
    refine V_if_ne 8 13 dX12_evening_8 (by decide) (fun _ => ?_) (fun q => absurd q (by decide))
    refine V_aload_0 13 dX12_evening_13 ?_
    refine V_callV 14 (ci := 12) [] _ (c_copies M.2.1 Γ _ F D.1) dX12_evening_14 cb_X12_copies ml_RX12_364 im_yX12_copies se_yX12_copies (F.m 0 (Nat.le_of_ble_eq_true rfl)) (F.k 0 12 rfl) (Nat.le_of_ble_eq_true rfl) ⟨(Nat.le_of_ble_eq_true rfl), (Nat.le_of_ble_eq_true rfl)⟩ rfl rfl (Nat.le_of_ble_eq_true rfl) ⟨(Nat.le_of_ble_eq_true rfl), (Nat.le_of_ble_eq_true rfl)⟩ (RV.go (fun S3 hq => ?_))
    have D1 : FM m S3 := by rw [hq]; exact (D.1.uI (Or.inl rfl)).uI (Or.inr rfl)
    have F1 : isL lyModel Γ.2.2.2.2.1 S3 m := by rw [hq]; exact F.ss ⟨rfl, rfl, rfl, rfl, rfl⟩
    clear hq
    refine V_aload_0 17 dX12_evening_17 ?_
    refine V_iload_1 18 dX12_evening_18 ?_
    refine V_callV 19 (ci := 12) [.int _] _ (c_drawsIn M.2.1 Γ _ F1 D1 _) dX12_evening_19 cb_X12_drawsIn ml_RX12_400 im_yX12_drawsIn se_yX12_drawsIn (F1.m 0 (Nat.le_of_ble_eq_true rfl)) (F1.k 0 12 rfl) (Nat.le_of_ble_eq_true rfl) ⟨(Nat.le_of_ble_eq_true rfl), (Nat.le_of_ble_eq_true rfl)⟩ rfl rfl (Nat.le_of_ble_eq_true rfl) ⟨(Nat.le_of_ble_eq_true rfl), (Nat.le_of_ble_eq_true rfl)⟩ (RI.go (fun r4 S4 h4 => ?_))
    obtain ⟨rfl, rfl⟩ := h4
    refine V_iret 22 .int dX12_evening_22 rfl rfl (Nat.le_of_ble_eq_true rfl) (Nat.le_of_ble_eq_true rfl) (RI.mk (by rw [if_neg (fun q => q.elim h1 h2)]))
  ·
    refine V_if_ne 8 13 dX12_evening_8 (by decide) (fun q => absurd (by decide) q) (fun _ => ?_)
    refine V_iconst 11 (-1) dX12_evening_11 (by decide) ?_
    refine V_iret 12 .int dX12_evening_12 rfl rfl (Nat.le_of_ble_eq_true rfl) (Nat.le_of_ble_eq_true rfl) (RI.mk (by rw [if_pos h1]))
def bst (i : Nat) : Int32 := if i = 0 then -1 else 0
set_option maxRecDepth 100000 in
set_option maxHeartbeats 8000000 in
theorem g_soonest (l : Launch) (Γ : GC) (S : PS) {m : Nat} (F : isL lyModel Γ.2.2.2.2.1 S m) (D : FRM m S) (n w : Int32) : CT l Γ yX12_soonest cX12_soonest 9 (some .int) (2) (0) (0) [.ref m, .int n, .int w] S (RI (fun r S' => r = if n < 1 ∨ 30 < n ∨ w < 0 ∨ 1 < w then -1 else 0)) := by
  refine CT.of RX12 "soonest" [some (.ref m), some (.int n), some (.int w), none, none, none, none, none, none] (by decide +kernel) rfl rfl (Nat.le_of_ble_eq_true rfl) rfl (fun M hM => ?_)
  subst hM
  refine V_iload_1 0 dX12_soonest_0 ?_
  refine V_iconst 1 (1) dX12_soonest_1 (by decide) ?_
  refine V_bipush 2 (30) dX12_soonest_2 (by decide) ?_
  refine V_callS 4 [.int _, .int _, .int _] _ (c_in M.2.1 Γ _ _ _ _) dX12_soonest_4 cb_X12_in ml_RX12_335 sm_yX12_in ⟨(Nat.le_of_ble_eq_true rfl), (Nat.le_of_ble_eq_true rfl)⟩ rfl rfl (Nat.le_of_ble_eq_true rfl) ⟨(Nat.le_of_ble_eq_true rfl), (Nat.le_of_ble_eq_true rfl)⟩ (RI.go (fun r S1 hq => ?_))
  obtain ⟨rfl, hq⟩ := hq
  rcases hq with ⟨rfl, h1, h2⟩ | ⟨rfl, h1⟩
  ·
    refine V_if_eq 7 19 dX12_soonest_7 (by decide) (fun q => absurd q (by decide)) (fun _ => ?_)
    refine V_iload_2 10 dX12_soonest_10 ?_
    refine V_iconst 11 (0) dX12_soonest_11 (by decide) ?_
    refine V_iconst 12 (1) dX12_soonest_12 (by decide) ?_
    refine V_callS 13 [.int _, .int _, .int _] _ (c_in M.2.1 Γ _ _ _ _) dX12_soonest_13 cb_X12_in ml_RX12_335 sm_yX12_in ⟨(Nat.le_of_ble_eq_true rfl), (Nat.le_of_ble_eq_true rfl)⟩ rfl rfl (Nat.le_of_ble_eq_true rfl) ⟨(Nat.le_of_ble_eq_true rfl), (Nat.le_of_ble_eq_true rfl)⟩ (RI.go (fun r S2 hq => ?_))
    obtain ⟨rfl, hq⟩ := hq
    rcases hq with ⟨rfl, h3, h4⟩ | ⟨rfl, h3⟩
    · have hw : ¬ (n < 1 ∨ 30 < n ∨ w < 0 ∨ 1 < w) := fun q => q.elim h1 (fun q => q.elim h2 (fun q => q.elim h3 h4))
      obtain ⟨k, hk, rfl⟩ := nI_of2 (M := 30) (n := 30) (by decide) (fun q => h1 (Int32.lt_trans q (by decide))) (Int32.not_lt.mp h2)
      refine V_if_ne 16 21 dX12_soonest_16 (by decide) (fun _ => ?_) (fun q => absurd q (by decide))
      refine V_iconst 21 (-1) dX12_soonest_21 (by decide) ?_
      refine V_istore_3 22 dX12_soonest_22 rfl (Nat.le_of_ble_eq_true rfl) ?_
      refine V_iconst 23 (0) dX12_soonest_23 (by decide) ?_
      refine V_istore_4 24 dX12_soonest_24 rfl (Nat.le_of_ble_eq_true rfl) ?_
      refine V_iconst 26 (0) dX12_soonest_26 (by decide) ?_
      refine V_istore_5 27 dX12_soonest_27 rfl (Nat.le_of_ble_eq_true rfl) ?_
      refine V_while (α := Nat × PS × Option Value × Option Value × Option Value) (fun x => 4 - x.1) (fun x => x.1 ≤ 4 ∧ SSm S2 x.2.1 ∧ FM m x.2.1) (fun x => x.2.1) (fun x => [some (.ref m), some (.int (nI k)), some (.int w), some (.int (bst x.1)), some (.int 0), some (.int (nI x.1)), x.2.2.1, x.2.2.2.1, x.2.2.2.2]) (0, S2, none, none, none) ⟨Nat.zero_le _, SSm.rf, D.1⟩ (fun x hx ih => ?_)
      obtain ⟨i, S3, v6, v7, v8⟩ := x
      obtain ⟨hi, hR, hD⟩ := hx
      dsimp only at hi hR hD ih ⊢
      refine V_iload_5 29 dX12_soonest_29 ?_
      refine V_iconst 31 (4) dX12_soonest_31 (by decide) ?_
      refine V_icmp_ge 32 126 dX12_soonest_32 (by decide) (fun c => ?_) (fun c => ?_)
      ·
        have hi2 := nI_ge8 (by decide) hi c
        subst hi2
        refine V_iload_2 126 dX12_soonest_126 ?_
        refine V_if_ne 127 134 dX12_soonest_127 (by decide) (fun c2 => ?_) (fun c2 => ?_)
        ·
          refine V_iload_4 134 dX12_soonest_134 ?_
          refine V_iret 136 .int dX12_soonest_136 rfl rfl (Nat.le_of_ble_eq_true rfl) (Nat.le_of_ble_eq_true rfl) (RI.mk (by rw [if_neg hw]))
        ·
          refine V_iload_3 130 dX12_soonest_130 ?_
          refine V_goto 131 136 dX12_soonest_131 (by decide) ?_
          refine V_iret 136 .int dX12_soonest_136 rfl rfl (Nat.le_of_ble_eq_true rfl) (Nat.le_of_ble_eq_true rfl) (RI.mk (by rw [if_neg hw]; rfl))
      ·
        have hi2 := nI_lt8 (by decide) hi c
        refine V_iconst 35 (0) dX12_soonest_35 (by decide) ?_
        refine V_istore_6 36 dX12_soonest_36 rfl (Nat.le_of_ble_eq_true rfl) ?_
        refine V_iconst 38 (0) dX12_soonest_38 (by decide) ?_
        refine V_istore_7 39 dX12_soonest_39 rfl (Nat.le_of_ble_eq_true rfl) ?_
        refine V_while (α := Nat × PS × Option Value) (fun x => k - x.1) (fun x => x.1 ≤ k ∧ SSm S2 x.2.1 ∧ FM m x.2.1) (fun x => x.2.1) (fun x => [some (.ref m), some (.int (nI k)), some (.int w), some (.int (bst i)), some (.int 0), some (.int (nI i)), some (.int 0), some (.int (nI x.1)), x.2.2]) (0, S3, v8) ⟨Nat.zero_le _, hR, hD⟩ (fun x hx ih2 => ?_)
        obtain ⟨j, S4, v9⟩ := x
        obtain ⟨hj, hR4, hD4⟩ := hx
        dsimp only at hj hR4 hD4 ih2 ⊢
        have F4 := F.ss hR4
        refine V_iload_7 41 dX12_soonest_41 ?_
        refine V_iload_1 43 dX12_soonest_43 ?_
        refine V_icmp_ge 44 99 dX12_soonest_44 (by decide) (fun cj => ?_) (fun cj => ?_)
        ·
          refine V_iload_3 99 dX12_soonest_99 ?_
          by_cases q0 : i = 0
          · subst q0
            refine V_if_lt 100 113 dX12_soonest_100 (by decide) (fun _ => ?_) (fun q => absurd (by decide) q)
            refine V_iload_5 113 dX12_soonest_113 ?_
            refine V_istore_3 115 dX12_soonest_115 rfl (Nat.le_of_ble_eq_true rfl) ?_
            refine V_iload_6 116 dX12_soonest_116 ?_
            refine V_istore_4 118 dX12_soonest_118 rfl (Nat.le_of_ble_eq_true rfl) ?_
            refine V_iinc_5 120 (1) dX12_soonest_120 (by decide) rfl (Nat.le_of_ble_eq_true rfl) ?_
            refine V_goto 123 29 dX12_soonest_123 (by decide) ?_
            rw [← nI_succ]
            exact ih (1, S4, _, _, _) ⟨(show 1 ≤ 4 by decide), hR4, hD4⟩ (show 4 - 1 < 4 - 0 by decide)
          · have e0 : bst i = 0 := if_neg q0
            rw [e0]
            refine V_if_lt 100 113 dX12_soonest_100 (by decide) (fun q => absurd q (by decide)) (fun _ => ?_)
            refine V_iload_6 103 dX12_soonest_103 ?_
            refine V_iload_4 105 dX12_soonest_105 ?_
            refine V_icmp_lt 107 113 dX12_soonest_107 (by decide) (fun q => absurd q (by decide)) (fun _ => ?_)
            refine V_goto 110 120 dX12_soonest_110 (by decide) ?_
            refine V_iinc_5 120 (1) dX12_soonest_120 (by decide) rfl (Nat.le_of_ble_eq_true rfl) ?_
            refine V_goto 123 29 dX12_soonest_123 (by decide) ?_
            rw [← nI_succ, show (0 : Int32) = bst (i + 1) from (if_neg (Nat.succ_ne_zero i)).symm]
            exact ih (i + 1, S4, _, _, _) ⟨by dsimp only; omega, hR4, hD4⟩ (by dsimp only; omega)
        ·
          have hj2 := nI_lt8 (by omega) hj cj
          refine V_aload_0 47 dX12_soonest_47 ?_
          refine V_callV 48 (ci := 12) [] _ (c_copies M.2.1 Γ _ F4 hD4) dX12_soonest_48 cb_X12_copies ml_RX12_364 im_yX12_copies se_yX12_copies (F4.m 0 (Nat.le_of_ble_eq_true rfl)) (F4.k 0 12 rfl) (Nat.le_of_ble_eq_true rfl) ⟨(Nat.le_of_ble_eq_true rfl), (Nat.le_of_ble_eq_true rfl)⟩ rfl rfl (Nat.le_of_ble_eq_true rfl) ⟨(Nat.le_of_ble_eq_true rfl), (Nat.le_of_ble_eq_true rfl)⟩ (RV.go (fun S5 hq => ?_))
          have D5 : FM m S5 := by rw [hq]; exact (hD4.uI (Or.inl rfl)).uI (Or.inr rfl)
          have s5 : SSm S2 S5 := by rw [hq]; exact hR4.tr ⟨rfl, rfl, rfl, rfl, rfl⟩
          clear hq
          have F5 := F.ss s5
          refine V_aload_0 51 dX12_soonest_51 ?_
          refine V_iload_5 52 dX12_soonest_52 ?_
          refine V_putI 54 (c := 12) 55 dX12_soonest_54 fl_RX12_339 (F5.m 0 (Nat.le_of_ble_eq_true rfl)) (F5.k 0 12 rfl) (Nat.le_of_ble_eq_true rfl) (Nat.le_of_ble_eq_true rfl) rfl (Or.inl rfl) ?_
          refine V_aload_0 57 dX12_soonest_57 ?_
          refine V_iload_7 58 dX12_soonest_58 ?_
          refine V_putI 60 (c := 12) 56 dX12_soonest_60 fl_RX12_342 (F5.m 0 (Nat.le_of_ble_eq_true rfl)) (F5.k 0 12 rfl) (Nat.le_of_ble_eq_true rfl) (Nat.le_of_ble_eq_true rfl) rfl (Or.inl rfl) ?_
          refine V_abs (fun T => SSm S2 T ∧ FM m T) ⟨s5.tr ⟨rfl, rfl, rfl, rfl, rfl⟩, (D5.uI (Or.inl rfl)).uI (Or.inr rfl)⟩ (fun S6 h6 => ?_)
          have F6 := F.ss h6.1
          refine V_aload_0 63 dX12_soonest_63 ?_
          refine V_sipush 64 (200) dX12_soonest_64 (by decide) ?_
          refine V_callV 67 (ci := 12) [.int _] _ (c_drawsIn M.2.1 Γ _ F6 h6.2 _) dX12_soonest_67 cb_X12_drawsIn ml_RX12_400 im_yX12_drawsIn se_yX12_drawsIn (F6.m 0 (Nat.le_of_ble_eq_true rfl)) (F6.k 0 12 rfl) (Nat.le_of_ble_eq_true rfl) ⟨(Nat.le_of_ble_eq_true rfl), (Nat.le_of_ble_eq_true rfl)⟩ rfl rfl (Nat.le_of_ble_eq_true rfl) ⟨(Nat.le_of_ble_eq_true rfl), (Nat.le_of_ble_eq_true rfl)⟩ (RI.go (fun r7 S7 h7 => ?_))
          obtain ⟨rfl, rfl⟩ := h7
          refine V_istore_8 70 dX12_soonest_70 rfl (Nat.le_of_ble_eq_true rfl) ?_
          refine V_iload_6 72 dX12_soonest_72 ?_
          refine V_aload_0 74 dX12_soonest_74 ?_
          refine V_iconst 75 (0) dX12_soonest_75 (by decide) ?_
          refine V_callV 76 (ci := 12) [.int _] _ (c_sumOnM M.2.1 Γ _ F6 h6.2 _ (Or.inl rfl)) dX12_soonest_76 cb_X12_sumOn ml_RX12_352 im_yX12_sumOn se_yX12_sumOn (F6.m 0 (Nat.le_of_ble_eq_true rfl)) (F6.k 0 12 rfl) (Nat.le_of_ble_eq_true rfl) ⟨(Nat.le_of_ble_eq_true rfl), (Nat.le_of_ble_eq_true rfl)⟩ rfl rfl (Nat.le_of_ble_eq_true rfl) ⟨(Nat.le_of_ble_eq_true rfl), (Nat.le_of_ble_eq_true rfl)⟩ (RI.go (fun r8 S8 h8 => ?_))
          obtain ⟨rfl, rfl⟩ := h8
          refine V_if_le 79 88 dX12_soonest_79 (by decide) (fun _ => ?_) (fun q => absurd (by decide) q)
          refine V_iload_8 88 dX12_soonest_88 ?_
          refine V_iadd 90 dX12_soonest_90 ?_
          rw [show (0 : Int32) + 0 = 0 from by decide]
          refine V_istore_6 91 dX12_soonest_91 rfl (Nat.le_of_ble_eq_true rfl) ?_
          refine V_iinc_7 93 (1) dX12_soonest_93 (by decide) rfl (Nat.le_of_ble_eq_true rfl) ?_
          refine V_goto 96 41 dX12_soonest_96 (by decide) ?_
          rw [← nI_succ]
          exact ih2 (j + 1, _, _) ⟨by dsimp only; omega, h6.1, h6.2⟩ (by dsimp only; omega)
    ·
      refine V_if_ne 16 21 dX12_soonest_16 (by decide) (fun q => absurd (by decide) q) (fun _ => ?_)
      refine V_iconst 19 (-1) dX12_soonest_19 (by decide) ?_
      refine V_iret 20 .int dX12_soonest_20 rfl rfl (Nat.le_of_ble_eq_true rfl) (Nat.le_of_ble_eq_true rfl) (RI.mk (by rw [if_pos (Or.inr (Or.inr h3))]))
  ·
    refine V_if_eq 7 19 dX12_soonest_7 (by decide) (fun _ => ?_) (fun q => absurd (by decide) q)
    refine V_iconst 19 (-1) dX12_soonest_19 (by decide) ?_
    refine V_iret 20 .int dX12_soonest_20 rfl rfl (Nat.le_of_ble_eq_true rfl) (Nat.le_of_ble_eq_true rfl) (RI.mk (by rw [if_pos (h1.elim Or.inl (fun q => Or.inr (Or.inl q)))]))
set_option maxRecDepth 100000 in
set_option maxHeartbeats 8000000 in
theorem g_line (l : Launch) (Γ : GC) (S : PS) {m : Nat} (F : isL lyModel Γ.2.2.2.2.1 S m) (D : FRM m S) : CT l Γ yX12_line cX12_line 1 (some .int) (1) (0) (0) [.ref m] S (RI (fun r S' => r = 0)) := by
  refine CT.of RX12 "line" [some (.ref m)] (by decide +kernel) rfl rfl (Nat.le_of_ble_eq_true rfl) rfl (fun M hM => ?_)
  subst hM
  refine V_aload_0 0 dX12_line_0 ?_
  refine V_callV 1 (ci := 12) [] _ (c_hangs M.2.1 Γ _ F D.1) dX12_line_1 cb_X12_hangs ml_RX12_403 im_yX12_hangs se_yX12_hangs (F.m 0 (Nat.le_of_ble_eq_true rfl)) (F.k 0 12 rfl) (Nat.le_of_ble_eq_true rfl) ⟨(Nat.le_of_ble_eq_true rfl), (Nat.le_of_ble_eq_true rfl)⟩ rfl rfl (Nat.le_of_ble_eq_true rfl) ⟨(Nat.le_of_ble_eq_true rfl), (Nat.le_of_ble_eq_true rfl)⟩ (RV.go (fun S1 h1 => ?_))
  subst h1
  refine V_aload_0 4 dX12_line_4 ?_
  refine V_callV 5 (ci := 12) [] _ (c_mostOutM M.2.1 Γ _ F D.1) dX12_line_5 cb_X12_mostOut ml_RX12_406 im_yX12_mostOut se_yX12_mostOut (F.m 0 (Nat.le_of_ble_eq_true rfl)) (F.k 0 12 rfl) (Nat.le_of_ble_eq_true rfl) ⟨(Nat.le_of_ble_eq_true rfl), (Nat.le_of_ble_eq_true rfl)⟩ rfl rfl (Nat.le_of_ble_eq_true rfl) ⟨(Nat.le_of_ble_eq_true rfl), (Nat.le_of_ble_eq_true rfl)⟩ (RI.go (fun r2 S2 h2 => ?_))
  obtain ⟨rfl, rfl⟩ := h2
  refine V_iret 8 .int dX12_line_8 rfl rfl (Nat.le_of_ble_eq_true rfl) (Nat.le_of_ble_eq_true rfl) (RI.mk rfl)
set_option maxRecDepth 100000 in
set_option maxHeartbeats 8000000 in
theorem g_exchange (l : Launch) (Γ : GC) (S : PS) {m : Nat} (F : isL lyModel Γ.2.2.2.2.1 S m) (D : FRM m S) (w : Int32) : CT l Γ yX12_exchange cX12_exchange 8 (some .int) (1) (0) (0) [.ref m, .int w] S (RI (fun r S' => r = if w < 0 ∨ 1 < w then -1 else if w = 0 then -2 else 0)) := by
  refine CT.of RX12 "exchange" [some (.ref m), some (.int w), none, none, none, none, none, none] (by decide +kernel) rfl rfl (Nat.le_of_ble_eq_true rfl) rfl (fun M hM => ?_)
  subst hM
  refine V_iload_1 0 dX12_exchange_0 ?_
  refine V_iconst 1 (0) dX12_exchange_1 (by decide) ?_
  refine V_iconst 2 (1) dX12_exchange_2 (by decide) ?_
  refine V_callS 3 [.int _, .int _, .int _] _ (c_in M.2.1 Γ _ _ _ _) dX12_exchange_3 cb_X12_in ml_RX12_335 sm_yX12_in ⟨(Nat.le_of_ble_eq_true rfl), (Nat.le_of_ble_eq_true rfl)⟩ rfl rfl (Nat.le_of_ble_eq_true rfl) ⟨(Nat.le_of_ble_eq_true rfl), (Nat.le_of_ble_eq_true rfl)⟩ (RI.go (fun r S1 hq => ?_))
  obtain ⟨rfl, hq⟩ := hq
  rcases hq with ⟨rfl, h1, h2⟩ | ⟨rfl, h1⟩
  ·
    refine V_if_ne 6 11 dX12_exchange_6 (by decide) (fun _ => ?_) (fun q => absurd q (by decide))
    refine V_aload_0 11 dX12_exchange_11 ?_
    refine V_callV 12 (ci := 12) [] _ (c_hangs M.2.1 Γ _ F D.1) dX12_exchange_12 cb_X12_hangs ml_RX12_403 im_yX12_hangs se_yX12_hangs (F.m 0 (Nat.le_of_ble_eq_true rfl)) (F.k 0 12 rfl) (Nat.le_of_ble_eq_true rfl) ⟨(Nat.le_of_ble_eq_true rfl), (Nat.le_of_ble_eq_true rfl)⟩ rfl rfl (Nat.le_of_ble_eq_true rfl) ⟨(Nat.le_of_ble_eq_true rfl), (Nat.le_of_ble_eq_true rfl)⟩ (RV.go (fun S3 h3 => ?_))
    subst h3
    refine V_bipush 15 (-2) dX12_exchange_15 (by decide) ?_
    refine V_istore_2 17 dX12_exchange_17 rfl (Nat.le_of_ble_eq_true rfl) ?_
    refine V_aload_0 18 dX12_exchange_18 ?_
    refine V_callV 19 (ci := 12) [] _ (c_mostOutM M.2.1 Γ _ F D.1) dX12_exchange_19 cb_X12_mostOut ml_RX12_406 im_yX12_mostOut se_yX12_mostOut (F.m 0 (Nat.le_of_ble_eq_true rfl)) (F.k 0 12 rfl) (Nat.le_of_ble_eq_true rfl) ⟨(Nat.le_of_ble_eq_true rfl), (Nat.le_of_ble_eq_true rfl)⟩ rfl rfl (Nat.le_of_ble_eq_true rfl) ⟨(Nat.le_of_ble_eq_true rfl), (Nat.le_of_ble_eq_true rfl)⟩ (RI.go (fun r4 S4 h4 => ?_))
    obtain ⟨rfl, rfl⟩ := h4
    refine V_istore_3 22 dX12_exchange_22 rfl (Nat.le_of_ble_eq_true rfl) ?_
    refine V_iconst 23 (0) dX12_exchange_23 (by decide) ?_
    refine V_istore_4 24 dX12_exchange_24 rfl (Nat.le_of_ble_eq_true rfl) ?_
    refine V_iload_4 26 dX12_exchange_26 ?_
    refine V_aload_0 28 dX12_exchange_28 ?_
    refine V_getR 29 (c := 12) 33 (F.r 0 33 21 rfl) dX12_exchange_29 fl_RX12_79 (F.m 0 (Nat.le_of_ble_eq_true rfl)) (F.k 0 12 rfl) (Nat.le_of_ble_eq_true rfl) (Nat.le_of_ble_eq_true rfl) rfl ?_
    refine V_aload_0 32 dX12_exchange_32 ?_
    refine V_getI 33 (c := 12) 18 dX12_exchange_33 fl_RX12_264 (F.m 0 (Nat.le_of_ble_eq_true rfl)) (F.k 0 12 rfl) (Nat.le_of_ble_eq_true rfl) (Nat.le_of_ble_eq_true rfl) rfl ?_
    rw [D.1.i 18 (by decide)]
    refine V_iaload2 36 dX12_exchange_36 (F.m 21 (Nat.le_of_ble_eq_true rfl)) (F.k 21 14 rfl) (F.l 21 2 rfl) ?_ ?_
    · exact (by unfold vp_in; decide)
    rw [D.1.o 21 (by decide)]
    refine V_icmp_ge 37 154 dX12_exchange_37 (by decide) (fun _ => ?_) (fun q => absurd (by decide) q)
    refine V_iload_1 154 dX12_exchange_154 ?_
    refine V_if_ne 155 162 dX12_exchange_155 (by decide) (fun c => ?_) (fun c => ?_)
    ·
      refine V_iload_3 162 dX12_exchange_162 ?_
      refine V_iret 163 .int dX12_exchange_163 rfl rfl (Nat.le_of_ble_eq_true rfl) (Nat.le_of_ble_eq_true rfl) (RI.mk (by rw [if_neg (fun q => q.elim h1 h2), if_neg c]))
    ·
      refine V_iload_2 158 dX12_exchange_158 ?_
      refine V_goto 159 163 dX12_exchange_159 (by decide) ?_
      refine V_iret 163 .int dX12_exchange_163 rfl rfl (Nat.le_of_ble_eq_true rfl) (Nat.le_of_ble_eq_true rfl) (RI.mk (by rw [if_neg (fun q => q.elim h1 h2), if_pos c]))
  ·
    refine V_if_ne 6 11 dX12_exchange_6 (by decide) (fun q => absurd (by decide) q) (fun _ => ?_)
    refine V_iconst 9 (-1) dX12_exchange_9 (by decide) ?_
    refine V_iret 10 .int dX12_exchange_10 rfl rfl (Nat.le_of_ble_eq_true rfl) (Nat.le_of_ble_eq_true rfl) (RI.mk (by rw [if_pos h1]))
set_option maxRecDepth 100000 in
set_option maxHeartbeats 8000000 in
theorem g_odd (l : Launch) (Γ : GC) (S : PS) {m : Nat} (F : isL lyModel Γ.2.2.2.2.1 S m) (D : FRM m S) (w : Int32) : CT l Γ yX12_odd cX12_odd 8 (some .int) (1) (0) (0) [.ref m, .int w] S (RI (fun r S' => r = if w < 0 ∨ 1 < w then -1 else 0)) := by
  refine CT.of RX12 "odd" [some (.ref m), some (.int w), none, none, none, none, none, none] (by decide +kernel) rfl rfl (Nat.le_of_ble_eq_true rfl) rfl (fun M hM => ?_)
  subst hM
  refine V_iload_1 0 dX12_odd_0 ?_
  refine V_iconst 1 (0) dX12_odd_1 (by decide) ?_
  refine V_iconst 2 (1) dX12_odd_2 (by decide) ?_
  refine V_callS 3 [.int _, .int _, .int _] _ (c_in M.2.1 Γ _ _ _ _) dX12_odd_3 cb_X12_in ml_RX12_335 sm_yX12_in ⟨(Nat.le_of_ble_eq_true rfl), (Nat.le_of_ble_eq_true rfl)⟩ rfl rfl (Nat.le_of_ble_eq_true rfl) ⟨(Nat.le_of_ble_eq_true rfl), (Nat.le_of_ble_eq_true rfl)⟩ (RI.go (fun r S1 hq => ?_))
  obtain ⟨rfl, hq⟩ := hq
  rcases hq with ⟨rfl, h1, h2⟩ | ⟨rfl, h1⟩
  ·
    refine V_if_ne 6 11 dX12_odd_6 (by decide) (fun _ => ?_) (fun q => absurd q (by decide))
    refine V_iconst 11 (0) dX12_odd_11 (by decide) ?_
    refine V_istore_2 12 dX12_odd_12 rfl (Nat.le_of_ble_eq_true rfl) ?_
    refine V_iconst 13 (0) dX12_odd_13 (by decide) ?_
    refine V_istore_3 14 dX12_odd_14 rfl (Nat.le_of_ble_eq_true rfl) ?_
    refine V_iload_3 15 dX12_odd_15 ?_
    refine V_aload_0 16 dX12_odd_16 ?_
    refine V_getR 17 (c := 12) 23 (F.r 0 23 11 rfl) dX12_odd_17 fl_RX12_49 (F.m 0 (Nat.le_of_ble_eq_true rfl)) (F.k 0 12 rfl) (Nat.le_of_ble_eq_true rfl) (Nat.le_of_ble_eq_true rfl) rfl ?_
    refine V_aload_0 20 dX12_odd_20 ?_
    refine V_getI 21 (c := 12) 18 dX12_odd_21 fl_RX12_264 (F.m 0 (Nat.le_of_ble_eq_true rfl)) (F.k 0 12 rfl) (Nat.le_of_ble_eq_true rfl) (Nat.le_of_ble_eq_true rfl) rfl ?_
    rw [D.1.i 18 (by decide)]
    refine V_iaload2 24 dX12_odd_24 (F.m 11 (Nat.le_of_ble_eq_true rfl)) (F.k 11 14 rfl) (F.l 11 2 rfl) ?_ ?_
    · exact (by unfold vp_in; decide)
    rw [D.1.o 11 (by decide)]
    refine V_icmp_ge 25 67 dX12_odd_25 (by decide) (fun _ => ?_) (fun q => absurd (by decide) q)
    refine V_aload_0 67 dX12_odd_67 ?_
    refine V_getR 68 (c := 12) 65 (F.r 0 65 46 rfl) dX12_odd_68 fl_RX12_156 (F.m 0 (Nat.le_of_ble_eq_true rfl)) (F.k 0 12 rfl) (Nat.le_of_ble_eq_true rfl) (Nat.le_of_ble_eq_true rfl) rfl ?_
    refine V_iconst 71 (0) dX12_odd_71 (by decide) ?_
    refine V_iconst 72 (0) dX12_odd_72 (by decide) ?_
    refine V_iastore2 73 dX12_odd_73 (F.m 46 (Nat.le_of_ble_eq_true rfl)) (F.k 46 14 rfl) (F.l 46 262144 rfl) ?_ ?_
    · exact (by unfold vp_in; decide)
    refine V.to (uA_id ((D.1.z 46 (by decide) _).trans (by decide))) ?_
    refine V_iconst 74 (1) dX12_odd_74 (by decide) ?_
    refine V_istore_3 75 dX12_odd_75 rfl (Nat.le_of_ble_eq_true rfl) ?_
    refine V_iload_3 76 dX12_odd_76 ?_
    refine V_iconst 77 (1) dX12_odd_77 (by decide) ?_
    refine V_iload_2 78 dX12_odd_78 ?_
    refine V_ishl 79 dX12_odd_79 ?_
    refine V_icmp_ge 80 237 dX12_odd_80 (by decide) (fun _ => ?_) (fun q => absurd (by decide) q)
    refine V_aload_0 237 dX12_odd_237 ?_
    refine V_getR 238 (c := 12) 65 (F.r 0 65 46 rfl) dX12_odd_238 fl_RX12_156 (F.m 0 (Nat.le_of_ble_eq_true rfl)) (F.k 0 12 rfl) (Nat.le_of_ble_eq_true rfl) (Nat.le_of_ble_eq_true rfl) rfl ?_
    refine V_iconst 241 (1) dX12_odd_241 (by decide) ?_
    refine V_iload_2 242 dX12_odd_242 ?_
    refine V_ishl 243 dX12_odd_243 ?_
    refine V_iconst 244 (1) dX12_odd_244 (by decide) ?_
    refine V_isub 245 dX12_odd_245 ?_
    refine V_iaload2 246 dX12_odd_246 (F.m 46 (Nat.le_of_ble_eq_true rfl)) (F.k 46 14 rfl) (F.l 46 262144 rfl) ?_ ?_
    · exact (by unfold vp_in; decide)
    rw [D.1.z 46 (by decide)]
    refine V_istore_3 247 dX12_odd_247 rfl (Nat.le_of_ble_eq_true rfl) ?_
    refine V_iload_3 248 dX12_odd_248 ?_
    refine V_sipush 249 (9999) dX12_odd_249 (by decide) ?_
    refine V_iadd 252 dX12_odd_252 ?_
    refine V_sipush 253 (10000) dX12_odd_253 (by decide) ?_
    refine V_idiv 256 dX12_odd_256 (by decide) ?_
    refine V_istore_4 257 dX12_odd_257 rfl (Nat.le_of_ble_eq_true rfl) ?_
    refine V_iload_1 259 dX12_odd_259 ?_
    refine V_if_ne 260 268 dX12_odd_260 (by decide) (fun c => ?_) (fun c => ?_)
    ·
      refine V_sipush 268 (10000) dX12_odd_268 (by decide) ?_
      refine V_iload_4 271 dX12_odd_271 ?_
      refine V_imul 273 dX12_odd_273 ?_
      refine V_iload_3 274 dX12_odd_274 ?_
      refine V_isub 275 dX12_odd_275 ?_
      refine V_iret 276 .int dX12_odd_276 rfl rfl (Nat.le_of_ble_eq_true rfl) (Nat.le_of_ble_eq_true rfl) (RI.mk (by rw [if_neg (fun q => q.elim h1 h2)]; decide))
    ·
      refine V_iload_4 263 dX12_odd_263 ?_
      refine V_goto 265 276 dX12_odd_265 (by decide) ?_
      refine V_iret 276 .int dX12_odd_276 rfl rfl (Nat.le_of_ble_eq_true rfl) (Nat.le_of_ble_eq_true rfl) (RI.mk (by rw [if_neg (fun q => q.elim h1 h2)]; decide))
  ·
    refine V_if_ne 6 11 dX12_odd_6 (by decide) (fun q => absurd (by decide) q) (fun _ => ?_)
    refine V_iconst 9 (-1) dX12_odd_9 (by decide) ?_
    refine V_iret 10 .int dX12_odd_10 rfl rfl (Nat.le_of_ble_eq_true rfl) (Nat.le_of_ble_eq_true rfl) (RI.mk (by rw [if_pos h1]))
set_option maxRecDepth 100000 in
set_option maxHeartbeats 8000000 in
theorem g_lost (l : Launch) (Γ : GC) (S : PS) {m : Nat} (F : isL lyModel Γ.2.2.2.2.1 S m) (D : FRM m S) (n a b : Int32) : CT l Γ yX12_lost cX12_lost 10 (some .long) (1) (0) (0) [.ref m, .int n, .int a, .int b] S (RLg (fun r S' => r = if n < 0 ∨ 18 < n ∨ b < 1 ∨ 9 < b ∨ a < 0 ∨ b < a then -1 else if n = 0 then 1 else 0)) := by
  refine CT.of RX12 "lost" [some (.ref m), some (.int n), some (.int a), some (.int b), none, none, none, none, none, none] (by decide +kernel) rfl rfl (Nat.le_of_ble_eq_true rfl) rfl (fun M hM => ?_)
  subst hM
  refine V_iload_1 0 dX12_lost_0 ?_
  refine V_iconst 1 (0) dX12_lost_1 (by decide) ?_
  refine V_bipush 2 (18) dX12_lost_2 (by decide) ?_
  refine V_callS 4 [.int _, .int _, .int _] _ (c_in M.2.1 Γ _ _ _ _) dX12_lost_4 cb_X12_in ml_RX12_335 sm_yX12_in ⟨(Nat.le_of_ble_eq_true rfl), (Nat.le_of_ble_eq_true rfl)⟩ rfl rfl (Nat.le_of_ble_eq_true rfl) ⟨(Nat.le_of_ble_eq_true rfl), (Nat.le_of_ble_eq_true rfl)⟩ (RI.go (fun r S1 hq => ?_))
  obtain ⟨rfl, hq⟩ := hq
  rcases hq with ⟨rfl, h1, h2⟩ | ⟨rfl, h1⟩
  ·
    refine V_if_eq 7 29 dX12_lost_7 (by decide) (fun q => absurd q (by decide)) (fun _ => ?_)
    refine V_iload_3 10 dX12_lost_10 ?_
    refine V_iconst 11 (1) dX12_lost_11 (by decide) ?_
    refine V_bipush 12 (9) dX12_lost_12 (by decide) ?_
    refine V_callS 14 [.int _, .int _, .int _] _ (c_in M.2.1 Γ _ _ _ _) dX12_lost_14 cb_X12_in ml_RX12_335 sm_yX12_in ⟨(Nat.le_of_ble_eq_true rfl), (Nat.le_of_ble_eq_true rfl)⟩ rfl rfl (Nat.le_of_ble_eq_true rfl) ⟨(Nat.le_of_ble_eq_true rfl), (Nat.le_of_ble_eq_true rfl)⟩ (RI.go (fun r S2 hq => ?_))
    obtain ⟨rfl, hq⟩ := hq
    rcases hq with ⟨rfl, h3, h4⟩ | ⟨rfl, h3⟩
    ·
      refine V_if_eq 17 29 dX12_lost_17 (by decide) (fun q => absurd q (by decide)) (fun _ => ?_)
      refine V_iload_2 20 dX12_lost_20 ?_
      refine V_iconst 21 (0) dX12_lost_21 (by decide) ?_
      refine V_iload_3 22 dX12_lost_22 ?_
      refine V_callS 23 [.int _, .int _, .int _] _ (c_in M.2.1 Γ _ _ _ _) dX12_lost_23 cb_X12_in ml_RX12_335 sm_yX12_in ⟨(Nat.le_of_ble_eq_true rfl), (Nat.le_of_ble_eq_true rfl)⟩ rfl rfl (Nat.le_of_ble_eq_true rfl) ⟨(Nat.le_of_ble_eq_true rfl), (Nat.le_of_ble_eq_true rfl)⟩ (RI.go (fun r S3 hq => ?_))
      obtain ⟨rfl, hq⟩ := hq
      rcases hq with ⟨rfl, h5, h6⟩ | ⟨rfl, h5⟩
      · have hw : ¬ (n < 0 ∨ 18 < n ∨ b < 1 ∨ 9 < b ∨ a < 0 ∨ b < a) := fun q => q.elim h1 (fun q => q.elim h2 (fun q => q.elim h3 (fun q => q.elim h4 (fun q => q.elim h5 h6))))
        rw [if_neg hw]
        obtain ⟨k, hk, rfl⟩ := nI_of2 (M := 18) (n := 18) (by decide) h1 (Int32.not_lt.mp h2)
        refine V_if_ne 26 33 dX12_lost_26 (by decide) (fun _ => ?_) (fun q => absurd q (by decide))
        refine V_iconst 33 (0) dX12_lost_33 (by decide) ?_
        refine V_istore_4 34 dX12_lost_34 rfl (Nat.le_of_ble_eq_true rfl) ?_
        refine V_while (α := Nat × PS) (fun x => 19 - x.1) (fun x => x.1 ≤ 19 ∧ JO (m + 47) S3 x.2 ∧ (∀ j, j < x.1 → sJ x.2 (m + 47) j = if j = 0 then 1 else 0)) (fun x => x.2) (fun x => [some (.ref m), some (.int (nI k)), some (.int a), some (.int b), some (.int (nI x.1)), none, none, none, none, none]) (0, S3) ⟨Nat.zero_le _, JO.rf, fun j hj => absurd hj (Nat.not_lt_zero _)⟩ (fun x hx ih => ?_)
        obtain ⟨i, S4⟩ := x
        obtain ⟨hi, hR, hU⟩ := hx
        dsimp only at hi hR hU ih ⊢
        have F4 := F.ss hR.1
        have D4 : FM m S4 := D.1.to (fun _ _ => by rw [hR.2.1]) (fun _ _ => by rw [hR.2.2.1])
        refine V_iload_4 36 dX12_lost_36 ?_
        refine V_bipush 38 (19) dX12_lost_38 (by decide) ?_
        refine V_icmp_ge 40 66 dX12_lost_40 (by decide) (fun c => ?_) (fun c => ?_)
        ·
          have hi2 := nI_ge8 s19 hi c
          subst hi2
          refine V_iconst 66 (0) dX12_lost_66 (by decide) ?_
          refine V_istore_4 67 dX12_lost_67 rfl (Nat.le_of_ble_eq_true rfl) ?_
          refine V_iload_4 69 dX12_lost_69 ?_
          refine V_aload_0 71 dX12_lost_71 ?_
          refine V_getR 72 (c := 12) 23 (F4.r 0 23 11 rfl) dX12_lost_72 fl_RX12_49 (F4.m 0 (Nat.le_of_ble_eq_true rfl)) (F4.k 0 12 rfl) (Nat.le_of_ble_eq_true rfl) (Nat.le_of_ble_eq_true rfl) rfl ?_
          refine V_aload_0 75 dX12_lost_75 ?_
          refine V_getI 76 (c := 12) 18 dX12_lost_76 fl_RX12_264 (F4.m 0 (Nat.le_of_ble_eq_true rfl)) (F4.k 0 12 rfl) (Nat.le_of_ble_eq_true rfl) (Nat.le_of_ble_eq_true rfl) rfl ?_
          rw [D4.i 18 (by decide)]
          refine V_iaload2 79 dX12_lost_79 (F4.m 11 (Nat.le_of_ble_eq_true rfl)) (F4.k 11 14 rfl) (F4.l 11 2 rfl) ?_ ?_
          · exact (by unfold vp_in; decide)
          rw [D4.o 11 (by decide)]
          refine V_icmp_ge 80 303 dX12_lost_80 (by decide) (fun _ => ?_) (fun q => absurd (by decide) q)
          refine V_aload_0 303 dX12_lost_303 ?_
          refine V_getR 304 (c := 12) 66 (F4.r 0 66 47 rfl) dX12_lost_304 fl_RX12_159 (F4.m 0 (Nat.le_of_ble_eq_true rfl)) (F4.k 0 12 rfl) (Nat.le_of_ble_eq_true rfl) (Nat.le_of_ble_eq_true rfl) rfl ?_
          refine V_iload_1 307 dX12_lost_307 ?_
          refine V_laload2 308 dX12_lost_308 (F4.m 47 (Nat.le_of_ble_eq_true rfl)) (F4.k 47 15 rfl) (F4.l 47 19 rfl) ?_ ?_
          · exact vp_in_nI (by omega) s19
          rw [nI_clamp (by omega), hU k (by omega)]
          refine V_lret 309 dX12_lost_309 rfl (Nat.le_of_ble_eq_true rfl) (Nat.le_of_ble_eq_true rfl) (RLg.mk (if_nI0 (by omega)))
        ·
          have hi2 := nI_lt8 s19 hi c
          refine V_aload_0 43 dX12_lost_43 ?_
          refine V_getR 44 (c := 12) 66 (F4.r 0 66 47 rfl) dX12_lost_44 fl_RX12_159 (F4.m 0 (Nat.le_of_ble_eq_true rfl)) (F4.k 0 12 rfl) (Nat.le_of_ble_eq_true rfl) (Nat.le_of_ble_eq_true rfl) rfl ?_
          refine V_iload_4 47 dX12_lost_47 ?_
          refine V_iload_4 49 dX12_lost_49 ?_
          refine V_if_ne 51 58 dX12_lost_51 (by decide) (fun c2 => ?_) (fun c2 => ?_)
          ·
            refine V_lconst 58 0 dX12_lost_58 (by decide) ?_
            refine V_lastore2 59 dX12_lost_59 (F4.m 47 (Nat.le_of_ble_eq_true rfl)) (F4.k 47 15 rfl) (F4.l 47 19 rfl) ?_ ?_
            · exact vp_in_nI hi2 s19
            refine V_iinc_4 60 (1) dX12_lost_60 (by decide) rfl (Nat.le_of_ble_eq_true rfl) ?_
            refine V_goto 63 36 dX12_lost_63 (by decide) ?_
            rw [nI_clamp (by omega), ← nI_succ]
            refine ih (i + 1, _) ⟨by dsimp only; omega, hR.uJ, fun j hj => ?_⟩ (by dsimp only; omega)
            dsimp only at hj
            show sJ (uJ S4 (m + 47) i _) (m + 47) j = _
            by_cases q : j = i
            · subst q; rw [sJ_uJ, up2_s, if_neg (fun q => c2 (by rw [q]; rfl))]
            · rw [sJ_uJ, up2_k _ _ q]; exact hU j (by omega)
          ·
            refine V_lconst 54 1 dX12_lost_54 (by decide) ?_
            refine V_goto 55 59 dX12_lost_55 (by decide) ?_
            refine V_lastore2 59 dX12_lost_59 (F4.m 47 (Nat.le_of_ble_eq_true rfl)) (F4.k 47 15 rfl) (F4.l 47 19 rfl) ?_ ?_
            · exact vp_in_nI hi2 s19
            refine V_iinc_4 60 (1) dX12_lost_60 (by decide) rfl (Nat.le_of_ble_eq_true rfl) ?_
            refine V_goto 63 36 dX12_lost_63 (by decide) ?_
            rw [nI_clamp (by omega), ← nI_succ]
            refine ih (i + 1, _) ⟨by dsimp only; omega, hR.uJ, fun j hj => ?_⟩ (by dsimp only; omega)
            dsimp only at hj
            show sJ (uJ S4 (m + 47) i _) (m + 47) j = _
            by_cases q : j = i
            · subst q; rw [sJ_uJ, up2_s, if_pos (Nat.eq_zero_of_not_pos (fun q => absurd c2 (fun c2 => nI_ne0 q (by omega) c2)))]
            · rw [sJ_uJ, up2_k _ _ q]; exact hU j (by omega)
      ·
        refine V_if_ne 26 33 dX12_lost_26 (by decide) (fun q => absurd (by decide) q) (fun _ => ?_)
        refine V_ldc2_w 29 dX12_lost_29 kL_RX12_392 ?_
        refine V_lret 32 dX12_lost_32 rfl (Nat.le_of_ble_eq_true rfl) (Nat.le_of_ble_eq_true rfl) (RLg.mk (by rw [if_pos (Or.inr (Or.inr (Or.inr (Or.inr h5))))]))
    ·
      refine V_if_eq 17 29 dX12_lost_17 (by decide) (fun _ => ?_) (fun q => absurd (by decide) q)
      refine V_ldc2_w 29 dX12_lost_29 kL_RX12_392 ?_
      refine V_lret 32 dX12_lost_32 rfl (Nat.le_of_ble_eq_true rfl) (Nat.le_of_ble_eq_true rfl) (RLg.mk (by rw [if_pos (h3.elim (fun q => Or.inr (Or.inr (Or.inl q))) (fun q => Or.inr (Or.inr (Or.inr (Or.inl q)))))]))
  ·
    refine V_if_eq 7 29 dX12_lost_7 (by decide) (fun _ => ?_) (fun q => absurd (by decide) q)
    refine V_ldc2_w 29 dX12_lost_29 kL_RX12_392 ?_
    refine V_lret 32 dX12_lost_32 rfl (Nat.le_of_ble_eq_true rfl) (Nat.le_of_ble_eq_true rfl) (RLg.mk (by rw [if_pos (h1.elim Or.inl (fun q => Or.inr (Or.inl q)))]))
set_option maxRecDepth 100000 in
set_option maxHeartbeats 8000000 in
theorem g_years (l : Launch) (Γ : GC) (S : PS) {m : Nat} (F : isL lyModel Γ.2.2.2.2.1 S m) (D : FRM m S) (n w : Int32) : CT l Γ yX12_years cX12_years 10 (some .int) (1) (0) (0) [.ref m, .int n, .int w] S (RI (fun r S' => r = if n < 1 ∨ 200 < n ∨ w < 0 ∨ 2 < w then -1 else if w = 2 then -2 else 0)) := by
  refine CT.of RX12 "years" [some (.ref m), some (.int n), some (.int w), none, none, none, none, none, none, none] (by decide +kernel) rfl rfl (Nat.le_of_ble_eq_true rfl) rfl (fun M hM => ?_)
  subst hM
  refine V_iload_1 0 dX12_years_0 ?_
  refine V_iconst 1 (1) dX12_years_1 (by decide) ?_
  refine V_sipush 2 (200) dX12_years_2 (by decide) ?_
  refine V_callS 5 [.int _, .int _, .int _] _ (c_in M.2.1 Γ _ _ _ _) dX12_years_5 cb_X12_in ml_RX12_335 sm_yX12_in ⟨(Nat.le_of_ble_eq_true rfl), (Nat.le_of_ble_eq_true rfl)⟩ rfl rfl (Nat.le_of_ble_eq_true rfl) ⟨(Nat.le_of_ble_eq_true rfl), (Nat.le_of_ble_eq_true rfl)⟩ (RI.go (fun r S1 hq => ?_))
  obtain ⟨rfl, hq⟩ := hq
  rcases hq with ⟨rfl, h1, h2⟩ | ⟨rfl, h1⟩
  ·
    refine V_if_eq 8 20 dX12_years_8 (by decide) (fun q => absurd q (by decide)) (fun _ => ?_)
    refine V_iload_2 11 dX12_years_11 ?_
    refine V_iconst 12 (0) dX12_years_12 (by decide) ?_
    refine V_iconst 13 (2) dX12_years_13 (by decide) ?_
    refine V_callS 14 [.int _, .int _, .int _] _ (c_in M.2.1 Γ _ _ _ _) dX12_years_14 cb_X12_in ml_RX12_335 sm_yX12_in ⟨(Nat.le_of_ble_eq_true rfl), (Nat.le_of_ble_eq_true rfl)⟩ rfl rfl (Nat.le_of_ble_eq_true rfl) ⟨(Nat.le_of_ble_eq_true rfl), (Nat.le_of_ble_eq_true rfl)⟩ (RI.go (fun r S2 hq => ?_))
    obtain ⟨rfl, hq⟩ := hq
    rcases hq with ⟨rfl, h3, h4⟩ | ⟨rfl, h3⟩
    · have hw : ¬ (n < 1 ∨ 200 < n ∨ w < 0 ∨ 2 < w) := fun q => q.elim h1 (fun q => q.elim h2 (fun q => q.elim h3 h4))
      rw [if_neg hw]
      obtain ⟨k, hk, rfl⟩ := nI_of2 (M := 200) (n := 200) (by decide) (fun q => h1 (Int32.lt_trans q (by decide))) (Int32.not_lt.mp h2)
      obtain ⟨q, hq, rfl⟩ := nI_of2 (M := 2) (n := 2) (by decide) h3 (Int32.not_lt.mp h4)
      clear hw
      refine V_if_ne 17 22 dX12_years_17 (by decide) (fun _ => ?_) (fun q => absurd q (by decide))
      refine V_aload_0 22 dX12_years_22 ?_
      refine V_getR 23 (c := 12) 27 (F.r 0 27 15 rfl) dX12_years_23 fl_RX12_61 (F.m 0 (Nat.le_of_ble_eq_true rfl)) (F.k 0 12 rfl) (Nat.le_of_ble_eq_true rfl) (Nat.le_of_ble_eq_true rfl) rfl ?_
      refine V_aload_0 26 dX12_years_26 ?_
      refine V_getI 27 (c := 12) 18 dX12_years_27 fl_RX12_264 (F.m 0 (Nat.le_of_ble_eq_true rfl)) (F.k 0 12 rfl) (Nat.le_of_ble_eq_true rfl) (Nat.le_of_ble_eq_true rfl) rfl ?_
      rw [D.1.i 18 (by decide)]
      refine V_iaload2 30 dX12_years_30 (F.m 15 (Nat.le_of_ble_eq_true rfl)) (F.k 15 14 rfl) (F.l 15 2 rfl) ?_ ?_
      · exact (by unfold vp_in; decide)
      rw [D.1.o 15 (by decide)]
      refine V_istore_3 31 dX12_years_31 rfl (Nat.le_of_ble_eq_true rfl) ?_
      refine V_iconst 32 (0) dX12_years_32 (by decide) ?_
      refine V_istore_4 33 dX12_years_33 rfl (Nat.le_of_ble_eq_true rfl) ?_
      refine V_while (α := Nat) (fun i => 18 - i) (fun i => i ≤ 18) (fun _ => S2) (fun i => [some (.ref m), some (.int (nI k)), some (.int (nI q)), some (.int 0), some (.int (nI i)), none, none, none, none, none]) 0 (Nat.zero_le _) (fun i hi ih => ?_)
      refine V_iload_4 35 dX12_years_35 ?_
      refine V_bipush 37 (18) dX12_years_37 (by decide) ?_
      refine V_icmp_ge 39 56 dX12_years_39 (by decide) (fun c => ?_) (fun c => ?_)
      ·
        clear ih
        refine V_iconst 56 (0) dX12_years_56 (by decide) ?_
        refine V_istore_4 57 dX12_years_57 rfl (Nat.le_of_ble_eq_true rfl) ?_
        refine V_iload_4 59 dX12_years_59 ?_
        refine V_aload_0 61 dX12_years_61 ?_
        refine V_getR 62 (c := 12) 23 (F.r 0 23 11 rfl) dX12_years_62 fl_RX12_49 (F.m 0 (Nat.le_of_ble_eq_true rfl)) (F.k 0 12 rfl) (Nat.le_of_ble_eq_true rfl) (Nat.le_of_ble_eq_true rfl) rfl ?_
        refine V_aload_0 65 dX12_years_65 ?_
        refine V_getI 66 (c := 12) 18 dX12_years_66 fl_RX12_264 (F.m 0 (Nat.le_of_ble_eq_true rfl)) (F.k 0 12 rfl) (Nat.le_of_ble_eq_true rfl) (Nat.le_of_ble_eq_true rfl) rfl ?_
        rw [D.1.i 18 (by decide)]
        refine V_iaload2 69 dX12_years_69 (F.m 11 (Nat.le_of_ble_eq_true rfl)) (F.k 11 14 rfl) (F.l 11 2 rfl) ?_ ?_
        · exact (by unfold vp_in; decide)
        rw [D.1.o 11 (by decide)]
        refine V_icmp_ge 70 101 dX12_years_70 (by decide) (fun _ => ?_) (fun q => absurd (by decide) q)
        refine V_bipush 101 (-2) dX12_years_101 (by decide) ?_
        refine V_istore_4 103 dX12_years_103 rfl (Nat.le_of_ble_eq_true rfl) ?_
        refine V_iconst 105 (0) dX12_years_105 (by decide) ?_
        refine V_istore_5 106 dX12_years_106 rfl (Nat.le_of_ble_eq_true rfl) ?_
        refine V_while (α := Nat × Option Value × Option Value) (fun x => k - x.1) (fun x => x.1 ≤ k) (fun _ => S2) (fun x => [some (.ref m), some (.int (nI k)), some (.int (nI q)), some (.int 0), some (.int (-2)), some (.int (nI x.1)), x.2.1, x.2.2, none, none]) (0, none, none) (Nat.zero_le _) (fun x hj ih => ?_)
        obtain ⟨j, v6, v7⟩ := x
        dsimp only at hj ih ⊢
        refine V_iload_5 108 dX12_years_108 ?_
        refine V_iload_1 110 dX12_years_110 ?_
        refine V_icmp_ge 111 311 dX12_years_111 (by decide) (fun cj => ?_) (fun cj => ?_)
        ·
          rcases (show q = 0 ∨ q = 1 ∨ q = 2 by omega) with rfl | rfl | rfl
          ·
            refine V_iload_2 311 dX12_years_311 ?_
            refine V_if_ne 312 317 dX12_years_312 (by decide) (fun q => absurd (by decide) q) (fun _ => ?_)
            refine V_iload_3 315 dX12_years_315 ?_
            refine V_iret 316 .int dX12_years_316 rfl rfl (Nat.le_of_ble_eq_true rfl) (Nat.le_of_ble_eq_true rfl) (RI.mk (by decide))
          ·
            refine V_iload_2 311 dX12_years_311 ?_
            refine V_if_ne 312 317 dX12_years_312 (by decide) (fun _ => ?_) (fun q => absurd q (by decide))
            refine V_iload_2 317 dX12_years_317 ?_
            refine V_iconst 318 (2) dX12_years_318 (by decide) ?_
            refine V_icmp_ne 319 325 dX12_years_319 (by decide) (fun _ => ?_) (fun q => absurd q (by decide))
            refine V_iconst 325 (0) dX12_years_325 (by decide) ?_
            refine V_istore_5 326 dX12_years_326 rfl (Nat.le_of_ble_eq_true rfl) ?_
            refine V_iconst 328 (0) dX12_years_328 (by decide) ?_
            refine V_istore_6 329 dX12_years_329 rfl (Nat.le_of_ble_eq_true rfl) ?_
            refine V_iload_6 331 dX12_years_331 ?_
            refine V_aload_0 333 dX12_years_333 ?_
            refine V_getR 334 (c := 12) 23 (F.r 0 23 11 rfl) dX12_years_334 fl_RX12_49 (F.m 0 (Nat.le_of_ble_eq_true rfl)) (F.k 0 12 rfl) (Nat.le_of_ble_eq_true rfl) (Nat.le_of_ble_eq_true rfl) rfl ?_
            refine V_aload_0 337 dX12_years_337 ?_
            refine V_getI 338 (c := 12) 18 dX12_years_338 fl_RX12_264 (F.m 0 (Nat.le_of_ble_eq_true rfl)) (F.k 0 12 rfl) (Nat.le_of_ble_eq_true rfl) (Nat.le_of_ble_eq_true rfl) rfl ?_
            rw [D.1.i 18 (by decide)]
            refine V_iaload2 341 dX12_years_341 (F.m 11 (Nat.le_of_ble_eq_true rfl)) (F.k 11 14 rfl) (F.l 11 2 rfl) ?_ ?_
            · exact (by unfold vp_in; decide)
            rw [D.1.o 11 (by decide)]
            refine V_icmp_ge 342 426 dX12_years_342 (by decide) (fun _ => ?_) (fun q => absurd (by decide) q)
            refine V_iload_5 426 dX12_years_426 ?_
            refine V_iret 428 .int dX12_years_428 rfl rfl (Nat.le_of_ble_eq_true rfl) (Nat.le_of_ble_eq_true rfl) (RI.mk (by decide))
          ·
            refine V_iload_2 311 dX12_years_311 ?_
            refine V_if_ne 312 317 dX12_years_312 (by decide) (fun _ => ?_) (fun q => absurd q (by decide))
            refine V_iload_2 317 dX12_years_317 ?_
            refine V_iconst 318 (2) dX12_years_318 (by decide) ?_
            refine V_icmp_ne 319 325 dX12_years_319 (by decide) (fun q => absurd (by decide) q) (fun _ => ?_)
            refine V_iload_4 322 dX12_years_322 ?_
            refine V_iret 324 .int dX12_years_324 rfl rfl (Nat.le_of_ble_eq_true rfl) (Nat.le_of_ble_eq_true rfl) (RI.mk (by decide))
        ·
          have hj2 := nI_lt8 (by omega) hj cj
          refine V_iconst 114 (0) dX12_years_114 (by decide) ?_
          refine V_istore_6 115 dX12_years_115 rfl (Nat.le_of_ble_eq_true rfl) ?_
          refine V_iconst 117 (0) dX12_years_117 (by decide) ?_
          refine V_istore_7 118 dX12_years_118 rfl (Nat.le_of_ble_eq_true rfl) ?_
          refine V_iload_7 120 dX12_years_120 ?_
          refine V_aload_0 122 dX12_years_122 ?_
          refine V_getR 123 (c := 12) 23 (F.r 0 23 11 rfl) dX12_years_123 fl_RX12_49 (F.m 0 (Nat.le_of_ble_eq_true rfl)) (F.k 0 12 rfl) (Nat.le_of_ble_eq_true rfl) (Nat.le_of_ble_eq_true rfl) rfl ?_
          refine V_aload_0 126 dX12_years_126 ?_
          refine V_getI 127 (c := 12) 18 dX12_years_127 fl_RX12_264 (F.m 0 (Nat.le_of_ble_eq_true rfl)) (F.k 0 12 rfl) (Nat.le_of_ble_eq_true rfl) (Nat.le_of_ble_eq_true rfl) rfl ?_
          rw [D.1.i 18 (by decide)]
          refine V_iaload2 130 dX12_years_130 (F.m 11 (Nat.le_of_ble_eq_true rfl)) (F.k 11 14 rfl) (F.l 11 2 rfl) ?_ ?_
          · exact (by unfold vp_in; decide)
          rw [D.1.o 11 (by decide)]
          refine V_icmp_ge 131 305 dX12_years_131 (by decide) (fun _ => ?_) (fun q => absurd (by decide) q)
          refine V_iinc_5 305 (1) dX12_years_305 (by decide) rfl (Nat.le_of_ble_eq_true rfl) ?_
          refine V_goto 308 108 dX12_years_308 (by decide) ?_
          rw [← nI_succ]
          exact ih (j + 1, _, _) (by dsimp only; omega) (by dsimp only; omega)
      ·
        have hi2 := nI_lt8 (by decide) hi c
        refine V_aload_0 42 dX12_years_42 ?_
        refine V_getR 43 (c := 12) 68 (F.r 0 68 49 rfl) dX12_years_43 fl_RX12_165 (F.m 0 (Nat.le_of_ble_eq_true rfl)) (F.k 0 12 rfl) (Nat.le_of_ble_eq_true rfl) (Nat.le_of_ble_eq_true rfl) rfl ?_
        refine V_iload_4 46 dX12_years_46 ?_
        refine V_iconst 48 (0) dX12_years_48 (by decide) ?_
        refine V_zastore2 49 dX12_years_49 (F.m 49 (Nat.le_of_ble_eq_true rfl)) (F.k 49 16 rfl) (F.l 49 18 rfl) ?_ (Or.inl rfl) ?_
        · exact vp_in_nI hi2 (by decide)
        refine V.to (uA_id ((D.1.z 49 (by decide) _).trans (by decide))) ?_
        refine V_iinc_4 50 (1) dX12_years_50 (by decide) rfl (Nat.le_of_ble_eq_true rfl) ?_
        refine V_goto 53 35 dX12_years_53 (by decide) ?_
        rw [← nI_succ]
        exact ih (i + 1) (by omega) (by omega)
    ·
      refine V_if_ne 17 22 dX12_years_17 (by decide) (fun q => absurd (by decide) q) (fun _ => ?_)
      refine V_iconst 20 (-1) dX12_years_20 (by decide) ?_
      refine V_iret 21 .int dX12_years_21 rfl rfl (Nat.le_of_ble_eq_true rfl) (Nat.le_of_ble_eq_true rfl) (RI.mk (by rw [if_pos (Or.inr (Or.inr h3))]))
  ·
    refine V_if_eq 8 20 dX12_years_8 (by decide) (fun _ => ?_) (fun q => absurd (by decide) q)
    refine V_iconst 20 (-1) dX12_years_20 (by decide) ?_
    refine V_iret 21 .int dX12_years_21 rfl rfl (Nat.le_of_ble_eq_true rfl) (Nat.le_of_ble_eq_true rfl) (RI.mk (by rw [if_pos (h1.elim Or.inl (fun q => Or.inr (Or.inl q)))]))
set_option maxRecDepth 100000 in
set_option maxHeartbeats 8000000 in
theorem c_fillsRows (l : Launch) (Γ : GC) (S : PS) {m : Nat} (F : isL lyModel Γ.2.2.2.2.1 S m) (D : FM m S) (n : Nat) (hn : n < 19) : CT l Γ yX12_fillsRows cX12_fillsRows 7 (some .int) (1) (0) (0) [.ref m, .int 0, .int (nI n)] S (RI (fun r S' => r = if n = 0 then 1 else 0)) := by
  refine CT.of RX12 "fillsRows" [some (.ref m), some (.int 0), some (.int (nI n)), none, none, none, none] (by decide +kernel) rfl rfl (Nat.le_of_ble_eq_true rfl) rfl (fun M hM => ?_)
  subst hM
  refine V_iconst 0 (0) dX12_fillsRows_0 (by decide) ?_
  refine V_istore_3 1 dX12_fillsRows_1 rfl (Nat.le_of_ble_eq_true rfl) ?_
  refine V_while (α := Nat) (fun i => 30 - i) (fun i => i ≤ 30) (fun _ => S) (fun i => [some (.ref m), some (.int 0), some (.int (nI n)), some (.int (nI i)), none, none, none]) 0 (Nat.zero_le _) (fun i hi ih => ?_)
  refine V_iload_3 2 dX12_fillsRows_2 ?_
  refine V_bipush 3 (30) dX12_fillsRows_3 (by decide) ?_
  refine V_icmp_ge 5 51 dX12_fillsRows_5 (by decide) (fun c => ?_) (fun c => ?_)
  ·
    clear ih
    refine V_aload_0 51 dX12_fillsRows_51 ?_
    refine V_callV 52 (ci := 12) [] _ (c_fillsSteps M.2.1 Γ _ F D) dX12_fillsRows_52 cb_X12_fillsSteps ml_RX12_376 im_yX12_fillsSteps se_yX12_fillsSteps (F.m 0 (Nat.le_of_ble_eq_true rfl)) (F.k 0 12 rfl) (Nat.le_of_ble_eq_true rfl) ⟨(Nat.le_of_ble_eq_true rfl), (Nat.le_of_ble_eq_true rfl)⟩ rfl rfl (Nat.le_of_ble_eq_true rfl) ⟨(Nat.le_of_ble_eq_true rfl), (Nat.le_of_ble_eq_true rfl)⟩ (RV.go (fun S1 hq => ?_))
    have F1 := F.ss hq.1.1
    have D1 := D.ro hq.1
    refine V_iconst 55 (0) dX12_fillsRows_55 (by decide) ?_
    refine V_istore_3 56 dX12_fillsRows_56 rfl (Nat.le_of_ble_eq_true rfl) ?_
    refine V_iconst 57 (0) dX12_fillsRows_57 (by decide) ?_
    refine V_istore_4 58 dX12_fillsRows_58 rfl (Nat.le_of_ble_eq_true rfl) ?_
    refine V_iload_4 60 dX12_fillsRows_60 ?_
    refine V_aload_0 62 dX12_fillsRows_62 ?_
    refine V_getR 63 (c := 12) 59 (F1.r 0 59 40 rfl) dX12_fillsRows_63 fl_RX12_137 (F1.m 0 (Nat.le_of_ble_eq_true rfl)) (F1.k 0 12 rfl) (Nat.le_of_ble_eq_true rfl) (Nat.le_of_ble_eq_true rfl) rfl ?_
    refine V_bipush 66 (8) dX12_fillsRows_66 (by decide) ?_
    refine V_iaload2 68 dX12_fillsRows_68 (F1.m 40 (Nat.le_of_ble_eq_true rfl)) (F1.k 40 14 rfl) (F1.l 40 9 rfl) ?_ ?_
    · exact (by unfold vp_in; decide)
    rw [show ((8 : Int32)).toNatClampNeg = 8 from by decide, hq.2 8 (by decide)]
    refine V_icmp_ge 69 244 dX12_fillsRows_69 (by decide) (fun q => absurd q (by decide)) (fun _ => ?_)
    refine V_aload_0 72 dX12_fillsRows_72 ?_
    refine V_iload_4 73 dX12_fillsRows_73 ?_
    refine V_callV 75 (ci := 12) [.int _] _ (c_takesNumber M.2.1 Γ _ F1 D1 _) dX12_fillsRows_75 cb_X12_takesNumber ml_RX12_379 im_yX12_takesNumber se_yX12_takesNumber (F1.m 0 (Nat.le_of_ble_eq_true rfl)) (F1.k 0 12 rfl) (Nat.le_of_ble_eq_true rfl) ⟨(Nat.le_of_ble_eq_true rfl), (Nat.le_of_ble_eq_true rfl)⟩ rfl rfl (Nat.le_of_ble_eq_true rfl) ⟨(Nat.le_of_ble_eq_true rfl), (Nat.le_of_ble_eq_true rfl)⟩ (RV.go (fun S2 h2 => ?_))
    subst h2
    refine V_aload_0 78 dX12_fillsRows_78 ?_
    refine V_callV 79 (ci := 12) [] _ (c_drawnAll M.2.1 Γ _ F1 D1) dX12_fillsRows_79 cb_X12_drawnAll ml_RX12_397 im_yX12_drawnAll se_yX12_drawnAll (F1.m 0 (Nat.le_of_ble_eq_true rfl)) (F1.k 0 12 rfl) (Nat.le_of_ble_eq_true rfl) ⟨(Nat.le_of_ble_eq_true rfl), (Nat.le_of_ble_eq_true rfl)⟩ rfl rfl (Nat.le_of_ble_eq_true rfl) ⟨(Nat.le_of_ble_eq_true rfl), (Nat.le_of_ble_eq_true rfl)⟩ (RI.go (fun r3 S3 h3 => ?_))
    obtain ⟨rfl, rfl⟩ := h3
    refine V_iload_2 82 dX12_fillsRows_82 ?_
    by_cases q0 : n = 0
    · subst q0
      refine V_icmp_ne 83 90 dX12_fillsRows_83 (by decide) (fun q => absurd (by decide) q) (fun _ => ?_)
      refine V_iconst 86 (1) dX12_fillsRows_86 (by decide) ?_
      refine V_goto 87 91 dX12_fillsRows_87 (by decide) ?_
      refine V_istore_5 91 dX12_fillsRows_91 rfl (Nat.le_of_ble_eq_true rfl) ?_
      refine V_iconst 93 (0) dX12_fillsRows_93 (by decide) ?_
      refine V_istore_6 94 dX12_fillsRows_94 rfl (Nat.le_of_ble_eq_true rfl) ?_
      refine V_iload_6 96 dX12_fillsRows_96 ?_
      refine V_iload_1 98 dX12_fillsRows_98 ?_
      refine V_icmp_ge 99 141 dX12_fillsRows_99 (by decide) (fun _ => ?_) (fun q => absurd (by decide) q)
      refine V_iload_5 141 dX12_fillsRows_141 ?_
      refine V_if_ne 143 149 dX12_fillsRows_143 (by decide) (fun _ => ?_) (fun q => absurd q (by decide))
      refine V_iconst 149 (0) dX12_fillsRows_149 (by decide) ?_
      refine V_istore_6 150 dX12_fillsRows_150 rfl (Nat.le_of_ble_eq_true rfl) ?_
      refine V_while (α := Nat) (fun i => 8 - i) (fun i => i ≤ 8) (fun _ => S3) (fun i => [some (.ref m), some (.int 0), some (.int (nI 0)), some (.int 0), some (.int 0), some (.int 1), some (.int (nI i))]) 0 (Nat.zero_le _) (fun i hi2 ih => ?_)
      refine V_iload_6 152 dX12_fillsRows_152 ?_
      refine V_bipush 154 (8) dX12_fillsRows_154 (by decide) ?_
      refine V_icmp_ge 156 235 dX12_fillsRows_156 (by decide) (fun c3 => ?_) (fun c3 => ?_)
      ·
        refine V_iinc_3 235 (1) dX12_fillsRows_235 (by decide) rfl (Nat.le_of_ble_eq_true rfl) ?_
        refine V_iinc_4 238 (1) dX12_fillsRows_238 (by decide) rfl (Nat.le_of_ble_eq_true rfl) ?_
        refine V_goto 241 60 dX12_fillsRows_241 (by decide) ?_
        refine V_iload_4 60 dX12_fillsRows_60 ?_
        refine V_aload_0 62 dX12_fillsRows_62 ?_
        refine V_getR 63 (c := 12) 59 (F1.r 0 59 40 rfl) dX12_fillsRows_63 fl_RX12_137 (F1.m 0 (Nat.le_of_ble_eq_true rfl)) (F1.k 0 12 rfl) (Nat.le_of_ble_eq_true rfl) (Nat.le_of_ble_eq_true rfl) rfl ?_
        refine V_bipush 66 (8) dX12_fillsRows_66 (by decide) ?_
        refine V_iaload2 68 dX12_fillsRows_68 (F1.m 40 (Nat.le_of_ble_eq_true rfl)) (F1.k 40 14 rfl) (F1.l 40 9 rfl) ?_ ?_
        · exact (by unfold vp_in; decide)
        rw [show ((8 : Int32)).toNatClampNeg = 8 from by decide, hq.2 8 (by decide)]
        refine V_icmp_ge 69 244 dX12_fillsRows_69 (by decide) (fun _ => ?_) (fun q => absurd (by decide) q)
        refine V_iload_3 244 dX12_fillsRows_244 ?_
        refine V_iret 245 .int dX12_fillsRows_245 rfl rfl (Nat.le_of_ble_eq_true rfl) (Nat.le_of_ble_eq_true rfl) (RI.mk (by decide))
      ·
        have hi3 := nI_lt8 (by decide) hi2 c3
        refine V_iload_3 159 dX12_fillsRows_159 ?_
        refine V_if_eq 160 180 dX12_fillsRows_160 (by decide) (fun _ => ?_) (fun q => absurd (by decide) q)
        refine V_aload_0 180 dX12_fillsRows_180 ?_
        refine V_getR 181 (c := 12) 73 (F1.r 0 73 53 rfl) dX12_fillsRows_181 fl_RX12_177 (F1.m 0 (Nat.le_of_ble_eq_true rfl)) (F1.k 0 12 rfl) (Nat.le_of_ble_eq_true rfl) (Nat.le_of_ble_eq_true rfl) rfl ?_
        refine V_iload_6 184 dX12_fillsRows_184 ?_
        refine V_aload_0 186 dX12_fillsRows_186 ?_
        refine V_getR 187 (c := 12) 61 (F1.r 0 61 42 rfl) dX12_fillsRows_187 fl_RX12_143 (F1.m 0 (Nat.le_of_ble_eq_true rfl)) (F1.k 0 12 rfl) (Nat.le_of_ble_eq_true rfl) (Nat.le_of_ble_eq_true rfl) rfl ?_
        refine V_iload_6 190 dX12_fillsRows_190 ?_
        refine V_iaload2 192 dX12_fillsRows_192 (F1.m 42 (Nat.le_of_ble_eq_true rfl)) (F1.k 42 14 rfl) (F1.l 42 8 rfl) ?_ ?_
        · exact vp_in_nI hi3 (by decide)
        rw [D1.z 42 (by decide)]
        refine V_iastore2 193 dX12_fillsRows_193 (F1.m 53 (Nat.le_of_ble_eq_true rfl)) (F1.k 53 14 rfl) (F1.l 53 8 rfl) ?_ ?_
        · exact vp_in_nI hi3 (by decide)
        refine V.to (uA_id ((D1.z 53 (by decide) _).trans (by decide))) ?_
        refine V_iload_3 194 dX12_fillsRows_194 ?_
        refine V_if_eq 195 215 dX12_fillsRows_195 (by decide) (fun _ => ?_) (fun q => absurd (by decide) q)
        refine V_aload_0 215 dX12_fillsRows_215 ?_
        refine V_getR 216 (c := 12) 74 (F1.r 0 74 54 rfl) dX12_fillsRows_216 fl_RX12_180 (F1.m 0 (Nat.le_of_ble_eq_true rfl)) (F1.k 0 12 rfl) (Nat.le_of_ble_eq_true rfl) (Nat.le_of_ble_eq_true rfl) rfl ?_
        refine V_iload_6 219 dX12_fillsRows_219 ?_
        refine V_aload_0 221 dX12_fillsRows_221 ?_
        refine V_getR 222 (c := 12) 61 (F1.r 0 61 42 rfl) dX12_fillsRows_222 fl_RX12_143 (F1.m 0 (Nat.le_of_ble_eq_true rfl)) (F1.k 0 12 rfl) (Nat.le_of_ble_eq_true rfl) (Nat.le_of_ble_eq_true rfl) rfl ?_
        refine V_iload_6 225 dX12_fillsRows_225 ?_
        refine V_iaload2 227 dX12_fillsRows_227 (F1.m 42 (Nat.le_of_ble_eq_true rfl)) (F1.k 42 14 rfl) (F1.l 42 8 rfl) ?_ ?_
        · exact vp_in_nI hi3 (by decide)
        rw [D1.z 42 (by decide)]
        refine V_iastore2 228 dX12_fillsRows_228 (F1.m 54 (Nat.le_of_ble_eq_true rfl)) (F1.k 54 14 rfl) (F1.l 54 8 rfl) ?_ ?_
        · exact vp_in_nI hi3 (by decide)
        refine V.to (uA_id ((D1.z 54 (by decide) _).trans (by decide))) ?_
        refine V_iinc_6 229 (1) dX12_fillsRows_229 (by decide) rfl (Nat.le_of_ble_eq_true rfl) ?_
        refine V_goto 232 152 dX12_fillsRows_232 (by decide) ?_
        rw [← nI_succ]
        exact ih (i + 1) (by omega) (by omega)
    ·
      have ne : ¬ (0 : Int32) = nI n := fun q => nI_ne0 (Nat.pos_of_ne_zero q0) (by omega) q.symm
      refine V_icmp_ne 83 90 dX12_fillsRows_83 (by decide) (fun _ => ?_) (fun q => absurd q ne)
      refine V_iconst 90 (0) dX12_fillsRows_90 (by decide) ?_
      refine V_istore_5 91 dX12_fillsRows_91 rfl (Nat.le_of_ble_eq_true rfl) ?_
      refine V_iconst 93 (0) dX12_fillsRows_93 (by decide) ?_
      refine V_istore_6 94 dX12_fillsRows_94 rfl (Nat.le_of_ble_eq_true rfl) ?_
      refine V_iload_6 96 dX12_fillsRows_96 ?_
      refine V_iload_1 98 dX12_fillsRows_98 ?_
      refine V_icmp_ge 99 141 dX12_fillsRows_99 (by decide) (fun _ => ?_) (fun q => absurd (by decide) q)
      refine V_iload_5 141 dX12_fillsRows_141 ?_
      refine V_if_ne 143 149 dX12_fillsRows_143 (by decide) (fun q => absurd (by decide) q) (fun _ => ?_)
      refine V_goto 146 238 dX12_fillsRows_146 (by decide) ?_
      refine V_iinc_4 238 (1) dX12_fillsRows_238 (by decide) rfl (Nat.le_of_ble_eq_true rfl) ?_
      refine V_goto 241 60 dX12_fillsRows_241 (by decide) ?_
      refine V_iload_4 60 dX12_fillsRows_60 ?_
      refine V_aload_0 62 dX12_fillsRows_62 ?_
      refine V_getR 63 (c := 12) 59 (F1.r 0 59 40 rfl) dX12_fillsRows_63 fl_RX12_137 (F1.m 0 (Nat.le_of_ble_eq_true rfl)) (F1.k 0 12 rfl) (Nat.le_of_ble_eq_true rfl) (Nat.le_of_ble_eq_true rfl) rfl ?_
      refine V_bipush 66 (8) dX12_fillsRows_66 (by decide) ?_
      refine V_iaload2 68 dX12_fillsRows_68 (F1.m 40 (Nat.le_of_ble_eq_true rfl)) (F1.k 40 14 rfl) (F1.l 40 9 rfl) ?_ ?_
      · exact (by unfold vp_in; decide)
      rw [show ((8 : Int32)).toNatClampNeg = 8 from by decide, hq.2 8 (by decide)]
      refine V_icmp_ge 69 244 dX12_fillsRows_69 (by decide) (fun _ => ?_) (fun q => absurd (by decide) q)
      refine V_iload_3 244 dX12_fillsRows_244 ?_
      refine V_iret 245 .int dX12_fillsRows_245 rfl rfl (Nat.le_of_ble_eq_true rfl) (Nat.le_of_ble_eq_true rfl) (RI.mk (by rw [if_neg q0]))
  ·
    have hi2 := nI_lt8 (by decide) hi c
    refine V_aload_0 8 dX12_fillsRows_8 ?_
    refine V_getR 9 (c := 12) 54 (F.r 0 54 38 rfl) dX12_fillsRows_9 fl_RX12_131 (F.m 0 (Nat.le_of_ble_eq_true rfl)) (F.k 0 12 rfl) (Nat.le_of_ble_eq_true rfl) (Nat.le_of_ble_eq_true rfl) rfl ?_
    refine V_iload_3 12 dX12_fillsRows_12 ?_
    refine V_iload_3 13 dX12_fillsRows_13 ?_
    refine V_aload_0 14 dX12_fillsRows_14 ?_
    refine V_getR 15 (c := 12) 23 (F.r 0 23 11 rfl) dX12_fillsRows_15 fl_RX12_49 (F.m 0 (Nat.le_of_ble_eq_true rfl)) (F.k 0 12 rfl) (Nat.le_of_ble_eq_true rfl) (Nat.le_of_ble_eq_true rfl) rfl ?_
    refine V_aload_0 18 dX12_fillsRows_18 ?_
    refine V_getI 19 (c := 12) 18 dX12_fillsRows_19 fl_RX12_264 (F.m 0 (Nat.le_of_ble_eq_true rfl)) (F.k 0 12 rfl) (Nat.le_of_ble_eq_true rfl) (Nat.le_of_ble_eq_true rfl) rfl ?_
    rw [D.i 18 (by decide)]
    refine V_iaload2 22 dX12_fillsRows_22 (F.m 11 (Nat.le_of_ble_eq_true rfl)) (F.k 11 14 rfl) (F.l 11 2 rfl) ?_ ?_
    · exact (by unfold vp_in; decide)
    rw [D.o 11 (by decide)]
    refine V_icmp_ge 23 43 dX12_fillsRows_23 (by decide) (fun _ => ?_) (fun q => absurd (nI_pos' (by omega)) q)
    refine V_iconst 43 (0) dX12_fillsRows_43 (by decide) ?_
    refine V_iastore2 44 dX12_fillsRows_44 (F.m 38 (Nat.le_of_ble_eq_true rfl)) (F.k 38 14 rfl) (F.l 38 30 rfl) ?_ ?_
    · exact vp_in_nI hi2 (by decide)
    refine V.to (uA_id ((D.z 38 (by decide) _).trans (by decide))) ?_
    refine V_iinc_3 45 (1) dX12_fillsRows_45 (by decide) rfl (Nat.le_of_ble_eq_true rfl) ?_
    refine V_goto 48 2 dX12_fillsRows_48 (by decide) ?_
    rw [← nI_succ]
    exact ih (i + 1) (by omega) (by omega)
set_option maxRecDepth 100000 in
set_option maxHeartbeats 8000000 in
theorem g_rows (l : Launch) (Γ : GC) (S : PS) {m : Nat} (F : isL lyModel Γ.2.2.2.2.1 S m) (D : FRM m S) (k n : Int32) : CT l Γ yX12_rows cX12_rows 3 (some .long) (2) (0) (0) [.ref m, .int k, .int n] S (RLg (fun r S' => r = if k < 0 ∨ 0 < k ∨ n < 0 ∨ 18 < n then -1 else if n = 0 then 1 else 0)) := by
  refine CT.of RX12 "rows" [some (.ref m), some (.int k), some (.int n)] (by decide +kernel) rfl rfl (Nat.le_of_ble_eq_true rfl) rfl (fun M hM => ?_)
  subst hM
  refine V_iload_1 0 dX12_rows_0 ?_
  refine V_iconst 1 (0) dX12_rows_1 (by decide) ?_
  refine V_aload_0 2 dX12_rows_2 ?_
  refine V_getI 3 (c := 12) 70 dX12_rows_3 fl_RX12_282 (F.m 0 (Nat.le_of_ble_eq_true rfl)) (F.k 0 12 rfl) (Nat.le_of_ble_eq_true rfl) (Nat.le_of_ble_eq_true rfl) rfl ?_
  rw [D.1.i 70 (by decide)]
  refine V_callS 6 [.int _, .int _, .int _] _ (c_in M.2.1 Γ _ _ _ _) dX12_rows_6 cb_X12_in ml_RX12_335 sm_yX12_in ⟨(Nat.le_of_ble_eq_true rfl), (Nat.le_of_ble_eq_true rfl)⟩ rfl rfl (Nat.le_of_ble_eq_true rfl) ⟨(Nat.le_of_ble_eq_true rfl), (Nat.le_of_ble_eq_true rfl)⟩ (RI.go (fun r S1 hq => ?_))
  obtain ⟨rfl, hq⟩ := hq
  rcases hq with ⟨rfl, h1, h2⟩ | ⟨rfl, h1⟩
  ·
    refine V_if_eq 9 32 dX12_rows_9 (by decide) (fun q => absurd q (by decide)) (fun _ => ?_)
    refine V_iload_2 12 dX12_rows_12 ?_
    refine V_iconst 13 (0) dX12_rows_13 (by decide) ?_
    refine V_bipush 14 (18) dX12_rows_14 (by decide) ?_
    refine V_callS 16 [.int _, .int _, .int _] _ (c_in M.2.1 Γ _ _ _ _) dX12_rows_16 cb_X12_in ml_RX12_335 sm_yX12_in ⟨(Nat.le_of_ble_eq_true rfl), (Nat.le_of_ble_eq_true rfl)⟩ rfl rfl (Nat.le_of_ble_eq_true rfl) ⟨(Nat.le_of_ble_eq_true rfl), (Nat.le_of_ble_eq_true rfl)⟩ (RI.go (fun r S2 hq => ?_))
    obtain ⟨rfl, hq⟩ := hq
    rcases hq with ⟨rfl, h3, h4⟩ | ⟨rfl, h3⟩
    · have hw : ¬ (k < 0 ∨ 0 < k ∨ n < 0 ∨ 18 < n) := fun q => q.elim h1 (fun q => q.elim h2 (fun q => q.elim h3 h4))
      rw [if_neg hw]
      clear hw
      obtain ⟨j, hj, rfl⟩ := nI_of2 (M := 18) (n := 18) (by decide) h3 (Int32.not_lt.mp h4)
      have hk : k = 0 := eq0_of h1 h2
      subst hk
      refine V_if_eq 19 32 dX12_rows_19 (by decide) (fun q => absurd q (by decide)) (fun _ => ?_)
      refine V_aload_0 22 dX12_rows_22 ?_
      refine V_iload_1 23 dX12_rows_23 ?_
      refine V_iload_2 24 dX12_rows_24 ?_
      refine V_callV 25 (ci := 12) [.int _, .int _] _ (c_fillsRows M.2.1 Γ _ F D.1 j (by omega)) dX12_rows_25 cb_X12_fillsRows ml_RX12_437 im_yX12_fillsRows se_yX12_fillsRows (F.m 0 (Nat.le_of_ble_eq_true rfl)) (F.k 0 12 rfl) (Nat.le_of_ble_eq_true rfl) ⟨(Nat.le_of_ble_eq_true rfl), (Nat.le_of_ble_eq_true rfl)⟩ rfl rfl (Nat.le_of_ble_eq_true rfl) ⟨(Nat.le_of_ble_eq_true rfl), (Nat.le_of_ble_eq_true rfl)⟩ (RI.go (fun r3 S3 hq => ?_))
      refine V_i2l 28 dX12_rows_28 ?_
      refine V_goto 29 35 dX12_rows_29 (by decide) ?_
      refine V_lret 35 dX12_rows_35 rfl (Nat.le_of_ble_eq_true rfl) (Nat.le_of_ble_eq_true rfl) (RLg.mk (by rw [hq, ← if_nI0 (by omega)]; by_cases q : j = 0; rw [if_pos q, if_pos q]; rfl; rw [if_neg q, if_neg q]; rfl))
    ·
      refine V_if_eq 19 32 dX12_rows_19 (by decide) (fun _ => ?_) (fun q => absurd (by decide) q)
      refine V_ldc2_w 32 dX12_rows_32 kL_RX12_392 ?_
      refine V_lret 35 dX12_rows_35 rfl (Nat.le_of_ble_eq_true rfl) (Nat.le_of_ble_eq_true rfl) (RLg.mk (by rw [if_pos (Or.inr (Or.inr h3))]))
  ·
    refine V_if_eq 9 32 dX12_rows_9 (by decide) (fun _ => ?_) (fun q => absurd (by decide) q)
    refine V_ldc2_w 32 dX12_rows_32 kL_RX12_392 ?_
    refine V_lret 35 dX12_rows_35 rfl (Nat.le_of_ble_eq_true rfl) (Nat.le_of_ble_eq_true rfl) (RLg.mk (by rw [if_pos (h1.elim Or.inl (fun q => Or.inr (Or.inl q)))]))
set_option maxRecDepth 100000 in
set_option maxHeartbeats 8000000 in
theorem g_span (l : Launch) (Γ : GC) (S : PS) {m : Nat} (F : isL lyModel Γ.2.2.2.2.1 S m) (D : FRM m S) (k n w : Int32) : CT l Γ yX12_span cX12_span 4 (some .int) (2) (0) (0) [.ref m, .int k, .int n, .int w] S (RI (fun r S' => r = -1)) := by
  refine CT.of RX12 "span" [some (.ref m), some (.int k), some (.int n), some (.int w)] (by decide +kernel) rfl rfl (Nat.le_of_ble_eq_true rfl) rfl (fun M hM => ?_)
  subst hM
  refine V_iload_1 0 dX12_span_0 ?_
  refine V_iconst 1 (0) dX12_span_1 (by decide) ?_
  refine V_aload_0 2 dX12_span_2 ?_
  refine V_getI 3 (c := 12) 70 dX12_span_3 fl_RX12_282 (F.m 0 (Nat.le_of_ble_eq_true rfl)) (F.k 0 12 rfl) (Nat.le_of_ble_eq_true rfl) (Nat.le_of_ble_eq_true rfl) rfl ?_
  rw [D.1.i 70 (by decide)]
  refine V_callS 6 [.int _, .int _, .int _] _ (c_in M.2.1 Γ _ _ _ _) dX12_span_6 cb_X12_in ml_RX12_335 sm_yX12_in ⟨(Nat.le_of_ble_eq_true rfl), (Nat.le_of_ble_eq_true rfl)⟩ rfl rfl (Nat.le_of_ble_eq_true rfl) ⟨(Nat.le_of_ble_eq_true rfl), (Nat.le_of_ble_eq_true rfl)⟩ (RI.go (fun r S1 hq => ?_))
  obtain ⟨rfl, hq⟩ := hq
  rcases hq with ⟨rfl, h1, h2⟩ | ⟨rfl, h1⟩
  ·
    refine V_if_eq 9 30 dX12_span_9 (by decide) (fun q => absurd q (by decide)) (fun _ => ?_)
    refine V_iload_2 12 dX12_span_12 ?_
    refine V_iconst 13 (0) dX12_span_13 (by decide) ?_
    refine V_bipush 14 (18) dX12_span_14 (by decide) ?_
    refine V_callS 16 [.int _, .int _, .int _] _ (c_in M.2.1 Γ _ _ _ _) dX12_span_16 cb_X12_in ml_RX12_335 sm_yX12_in ⟨(Nat.le_of_ble_eq_true rfl), (Nat.le_of_ble_eq_true rfl)⟩ rfl rfl (Nat.le_of_ble_eq_true rfl) ⟨(Nat.le_of_ble_eq_true rfl), (Nat.le_of_ble_eq_true rfl)⟩ (RI.go (fun r S2 hq => ?_))
    obtain ⟨rfl, hq⟩ := hq
    rcases hq with ⟨rfl, h3, h4⟩ | ⟨rfl, h3⟩
    ·
      refine V_if_eq 19 30 dX12_span_19 (by decide) (fun q => absurd q (by decide)) (fun _ => ?_)
      refine V_aload_0 22 dX12_span_22 ?_
      refine V_iload_3 23 dX12_span_23 ?_
      refine V_callV 24 (ci := 12) [.int _] _ (c_isKindM M.2.1 Γ _ F D.1 _) dX12_span_24 cb_X12_isKind ml_RX12_361 im_yX12_isKind se_yX12_isKind (F.m 0 (Nat.le_of_ble_eq_true rfl)) (F.k 0 12 rfl) (Nat.le_of_ble_eq_true rfl) ⟨(Nat.le_of_ble_eq_true rfl), (Nat.le_of_ble_eq_true rfl)⟩ rfl rfl (Nat.le_of_ble_eq_true rfl) ⟨(Nat.le_of_ble_eq_true rfl), (Nat.le_of_ble_eq_true rfl)⟩ (RI.go (fun r3 S3 hq => ?_))
      obtain ⟨rfl, rfl⟩ := hq
      refine V_if_ne 27 32 dX12_span_27 (by decide) (fun q => absurd (by decide) q) (fun _ => ?_)
      refine V_iconst 30 (-1) dX12_span_30 (by decide) ?_
      refine V_iret 31 .int dX12_span_31 rfl rfl (Nat.le_of_ble_eq_true rfl) (Nat.le_of_ble_eq_true rfl) (RI.mk rfl)
    ·
      refine V_if_eq 19 30 dX12_span_19 (by decide) (fun _ => ?_) (fun q => absurd (by decide) q)
      refine V_iconst 30 (-1) dX12_span_30 (by decide) ?_
      refine V_iret 31 .int dX12_span_31 rfl rfl (Nat.le_of_ble_eq_true rfl) (Nat.le_of_ble_eq_true rfl) (RI.mk rfl)
  ·
    refine V_if_eq 9 30 dX12_span_9 (by decide) (fun _ => ?_) (fun q => absurd (by decide) q)
    refine V_iconst 30 (-1) dX12_span_30 (by decide) ?_
    refine V_iret 31 .int dX12_span_31 rfl rfl (Nat.le_of_ble_eq_true rfl) (Nat.le_of_ble_eq_true rfl) (RI.mk rfl)

