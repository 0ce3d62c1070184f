/-! the class on a new table: sure, lies -/
theorem lc_ge {a b : Int32} (h : a ≤ b) : ¬ lg_cmp (1 * b.toInt64) (a.toInt64 * 1) < 0 := by
  have h2 : a.toInt64 ≤ b.toInt64 := by
    rw [Int64.le_iff_toInt_le, Int32.toInt_toInt64, Int32.toInt_toInt64]
    exact Int32.le_iff_toInt_le.mp h
  rw [Int64.one_mul, Int64.mul_one]
  unfold lg_cmp
  split
  · decide
  · split
    · decide
    · rename_i q1 q2
      exact absurd (Int64.le_antisymm (Int64.not_lt.mp q1) h2) q2
set_option maxRecDepth 100000 in
set_option maxHeartbeats 8000000 in
theorem c_leastSure (l : Launch) (Γ : GC) (S : PS) {o : Nat} (F : isL lyOrders Γ.2.2.2.2.1 S o) (L : LK o S) (a b : Int32) (hab : a ≤ b) : CT l Γ yX5_leastSure cX5_leastSure 6 (some .int) (4) (0) (0) [.ref o, .int a, .int b] S (RI (fun r S' => r = 0)) := by
  refine CT.of RX5 "leastSure" [some (.ref o), some (.int a), some (.int b), none, none, none] (by decide +kernel) rfl rfl (Nat.le_of_ble_eq_true rfl) rfl (fun M hM => ?_)
  subst hM
  refine V_iload_1 0 dX5_leastSure_0 ?_
  refine V_i2l 1 dX5_leastSure_1 ?_
  refine V_aload_0 2 dX5_leastSure_2 ?_
  refine V_getI 3 (c := 5) 3 dX5_leastSure_3 fl_RX5_57 (F.m 0 (Nat.le_of_ble_eq_true rfl)) (F.k 0 5 rfl) (Nat.le_of_ble_eq_true rfl) (Nat.le_of_ble_eq_true rfl) rfl ?_
  refine V_callSN 6 [.int _] _ (c_factorial M.2.1 Γ S _ L.1) dX5_leastSure_6 cb_X11_factorial ne_RX5_67 sm_yX11_factorial ⟨(Nat.le_of_ble_eq_true rfl), (Nat.le_of_ble_eq_true rfl)⟩ rfl rfl (Nat.le_of_ble_eq_true rfl) ⟨(Nat.le_of_ble_eq_true rfl), (Nat.le_of_ble_eq_true rfl)⟩ (RLg.go (fun r S1 hq => ?_))
  obtain ⟨rfl, rfl⟩ := hq
  refine V_lmul 9 dX5_leastSure_9 ?_
  refine V_lstore_3 10 dX5_leastSure_10 rfl (Nat.le_of_ble_eq_true rfl) ?_
  refine V_iconst 11 (0) dX5_leastSure_11 (by decide) ?_
  refine V_istore_5 12 dX5_leastSure_12 rfl (Nat.le_of_ble_eq_true rfl) ?_
  refine V_iload_5 14 dX5_leastSure_14 ?_
  refine V_bipush 16 (18) dX5_leastSure_16 (by decide) ?_
  refine V_icmp_gt 18 50 dX5_leastSure_18 (by decide) (fun q => absurd q (by decide)) (fun _ => ?_)
  refine V_lload_3 21 dX5_leastSure_21 ?_
  refine V_lconst 22 0 dX5_leastSure_22 (by decide) ?_
  refine V_lcmp 23 dX5_leastSure_23 ?_
  refine V_if_eq 24 41 dX5_leastSure_24 (by decide) (fun c => ?_) (fun c => ?_)
  ·
    refine V_iload_5 41 dX5_leastSure_41 ?_
    refine V_iret 43 .int dX5_leastSure_43 rfl rfl (Nat.le_of_ble_eq_true rfl) (Nat.le_of_ble_eq_true rfl) (RI.mk rfl)
  ·
    refine V_aload_0 27 dX5_leastSure_27 ?_
    refine V_iload_5 28 dX5_leastSure_28 ?_
    refine V_callV 30 (ci := 5) [.int _] _ (c_withinCount M.2.1 Γ S1 F L _ (by decide) (by decide)) dX5_leastSure_30 cb_X5_withinCount ml_RX5_70 im_yX5_withinCount se_yX5_withinCount (F.m 0 (Nat.le_of_ble_eq_true rfl)) (F.k 0 5 rfl) (Nat.le_of_ble_eq_true rfl) ⟨(Nat.le_of_ble_eq_true rfl), (Nat.le_of_ble_eq_true rfl)⟩ rfl rfl (Nat.le_of_ble_eq_true rfl) ⟨(Nat.le_of_ble_eq_true rfl), (Nat.le_of_ble_eq_true rfl)⟩ (RLg.go (fun r S2 hq2 => ?_))
    obtain ⟨rfl, hq2⟩ := hq2
    refine V_iload_2 33 dX5_leastSure_33 ?_
    refine V_i2l 34 dX5_leastSure_34 ?_
    refine V_lmul 35 dX5_leastSure_35 ?_
    refine V_lload_3 36 dX5_leastSure_36 ?_
    refine V_lcmp 37 dX5_leastSure_37 ?_
    refine V_if_lt 38 44 dX5_leastSure_38 (by decide) (fun q => absurd q (lc_ge hab)) (fun _ => ?_)
    refine V_iload_5 41 dX5_leastSure_41 ?_
    refine V_iret 43 .int dX5_leastSure_43 rfl rfl (Nat.le_of_ble_eq_true rfl) (Nat.le_of_ble_eq_true rfl) (RI.mk rfl)
set_option maxRecDepth 100000 in
set_option maxHeartbeats 8000000 in
theorem f_sure (l : Launch) (Γ : GC) (S : PS) {h : Nat} (F : isL lySockTable Γ.2.2.2.2.1 S h) (D : FRESH h S) (a b : Int32) : CT l Γ yX11_sure cX11_sure 3 (some .int) (5) (0) (0) [.ref h, .int a, .int b] S (RI (fun r S' => r = if b < 1 ∨ 99 < b ∨ a < 0 ∨ b < a then -1 else 0)) := by
  refine CT.of RX11 "sure" [some (.ref h), some (.int a), some (.int b)] (by decide +kernel) rfl rfl (Nat.le_of_ble_eq_true rfl) rfl (fun M hM => ?_)
  subst hM
  obtain ⟨⟨d1, d2, d3, ⟨⟨k0, k1, k8, k9, k10, k11, k13⟩, kn, kp⟩, ⟨w1, w2, w3, w4⟩, dh, ⟨o1, o2, o3⟩, ⟨l1, l2, l3⟩, ds⟩, P1, P2⟩ := D
  refine V_iload_2 0 dX11_sure_0 ?_
  refine V_iconst 1 (1) dX11_sure_1 (by decide) ?_
  refine V_icmp_lt 2 20 dX11_sure_2 (by decide) (fun c => ?_) (fun c => ?_)
  ·
    refine V_iconst 20 (-1) dX11_sure_20 (by decide) ?_
    refine V_iret 21 .int dX11_sure_21 rfl rfl (Nat.le_of_ble_eq_true rfl) (Nat.le_of_ble_eq_true rfl) (RI.mk (by rw [if_pos (Or.inl c)]))
  ·
    refine V_iload_2 5 dX11_sure_5 ?_
    refine V_bipush 6 (99) dX11_sure_6 (by decide) ?_
    refine V_icmp_gt 8 20 dX11_sure_8 (by decide) (fun c2 => ?_) (fun c2 => ?_)
    ·
      refine V_iconst 20 (-1) dX11_sure_20 (by decide) ?_
      refine V_iret 21 .int dX11_sure_21 rfl rfl (Nat.le_of_ble_eq_true rfl) (Nat.le_of_ble_eq_true rfl) (RI.mk (by rw [if_pos (Or.inr (Or.inl c2))]))
    ·
      refine V_iload_1 11 dX11_sure_11 ?_
      refine V_if_lt 12 20 dX11_sure_12 (by decide) (fun c3 => ?_) (fun c3 => ?_)
      ·
        refine V_iconst 20 (-1) dX11_sure_20 (by decide) ?_
        refine V_iret 21 .int dX11_sure_21 rfl rfl (Nat.le_of_ble_eq_true rfl) (Nat.le_of_ble_eq_true rfl) (RI.mk (by rw [if_pos (Or.inr (Or.inr (Or.inl c3)))]))
      ·
        refine V_iload_1 15 dX11_sure_15 ?_
        refine V_iload_2 16 dX11_sure_16 ?_
        refine V_icmp_le 17 22 dX11_sure_17 (by decide) (fun c4 => ?_) (fun c4 => ?_)
        ·
          have hw : ¬ (b < 1 ∨ 99 < b ∨ a < 0 ∨ b < a) := fun q => by
            rcases q with q | q | q | q
            · exact c q
            · exact c2 q
            · exact c3 q
            · exact absurd c4 (Int32.not_le.mpr q)
          refine V_aload_0 22 dX11_sure_22 ?_
          refine V_getR 23 (c := 11) 12 (F.r 0 12 52 rfl) dX11_sure_23 fl_RX11_63 (F.m 0 (Nat.le_of_ble_eq_true rfl)) (F.k 0 11 rfl) (Nat.le_of_ble_eq_true rfl) (Nat.le_of_ble_eq_true rfl) rfl ?_
          refine V_aload_0 26 dX11_sure_26 ?_
          refine V_getR 27 (c := 11) 5 (F.r 0 5 41 rfl) dX11_sure_27 fl_RX11_42 (F.m 0 (Nat.le_of_ble_eq_true rfl)) (F.k 0 11 rfl) (Nat.le_of_ble_eq_true rfl) (Nat.le_of_ble_eq_true rfl) rfl ?_
          refine V_aload_0 30 dX11_sure_30 ?_
          refine V_getR 31 (c := 11) 3 (F.r 0 3 27 rfl) dX11_sure_31 fl_RX11_31 (F.m 0 (Nat.le_of_ble_eq_true rfl)) (F.k 0 11 rfl) (Nat.le_of_ble_eq_true rfl) (Nat.le_of_ble_eq_true rfl) rfl ?_
          refine V_callV 34 (ci := 5) [.ref _, .ref _] _ (c_X5_look M.2.1 Γ S (o := h + 52) (s := h + 41) (t := h + 27) (F.sub 52 lyOrders rfl (by decide)) (F.sub 41 lyState rfl (by decide)) (F.sub 27 lyText rfl (by decide)) (by omega) o1 o2 o3 w1 w2 kp) dX11_sure_34 cb_X5_look ml_RX11_207 im_yX5_look se_yX5_look (F.m 52 (Nat.le_of_ble_eq_true rfl)) (F.k 52 5 rfl) (Nat.le_of_ble_eq_true rfl) ⟨(Nat.le_of_ble_eq_true rfl), (Nat.le_of_ble_eq_true rfl)⟩ rfl rfl (Nat.le_of_ble_eq_true rfl) ⟨(Nat.le_of_ble_eq_true rfl), (Nat.le_of_ble_eq_true rfl)⟩ (RV.go (fun S1 hq => ?_))
          have F1 := F.ss hq.1
          refine V_aload_0 37 dX11_sure_37 ?_
          refine V_getR 38 (c := 11) 12 (F1.r 0 12 52 rfl) dX11_sure_38 fl_RX11_63 (F1.m 0 (Nat.le_of_ble_eq_true rfl)) (F1.k 0 11 rfl) (Nat.le_of_ble_eq_true rfl) (Nat.le_of_ble_eq_true rfl) rfl ?_
          refine V_iload_1 41 dX11_sure_41 ?_
          refine V_iload_2 42 dX11_sure_42 ?_
          refine V_callV 43 (ci := 5) [.int _, .int _] _ (c_leastSure M.2.1 Γ S1 (o := h + 52) (F1.sub 52 lyOrders rfl (by decide)) hq.2 a b c4) dX11_sure_43 cb_X5_leastSure ml_RX11_222 im_yX5_leastSure se_yX5_leastSure (F1.m 52 (Nat.le_of_ble_eq_true rfl)) (F1.k 52 5 rfl) (Nat.le_of_ble_eq_true rfl) ⟨(Nat.le_of_ble_eq_true rfl), (Nat.le_of_ble_eq_true rfl)⟩ rfl rfl (Nat.le_of_ble_eq_true rfl) ⟨(Nat.le_of_ble_eq_true rfl), (Nat.le_of_ble_eq_true rfl)⟩ (RI.go (fun r S2 hq2 => ?_))
          refine V_iret 46 .int dX11_sure_46 rfl rfl (Nat.le_of_ble_eq_true rfl) (Nat.le_of_ble_eq_true rfl) (RI.mk (by rw [if_neg hw]; exact hq2))
        ·
          refine V_iconst 20 (-1) dX11_sure_20 (by decide) ?_
          refine V_iret 21 .int dX11_sure_21 rfl rfl (Nat.le_of_ble_eq_true rfl) (Nat.le_of_ble_eq_true rfl) (RI.mk (by rw [if_pos (Or.inr (Or.inr (Or.inr (Int32.not_le.mp c4))))]))

