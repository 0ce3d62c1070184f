/-! SockTable's feed, back, read -/
set_option maxRecDepth 100000 in
set_option maxHeartbeats 8000000 in
theorem s_feed (l : Launch) (Γ : GC) (S : PS) {h B : Nat} {L : Int32} (I : IV Γ.2.2.2.2.1 h B L S) (a b c d e : Int32) : CT l Γ yX11_feed cX11_feed 6 (some .int) (3) (0) (0) [.ref h, .int a, .int b, .int c, .int d, .int e] S (RI (fun r S' => (r = if L + 20 ≤ 2000 then L + 20 else -1) ∧ IV Γ.2.2.2.2.1 h B (if L + 20 ≤ 2000 then L + 20 else L) S')) := by
  refine CT.of RX11 "feed" [some (.ref h), some (.int a), some (.int b), some (.int c), some (.int d), some (.int e)] (by decide +kernel) rfl rfl (Nat.le_of_ble_eq_true rfl) rfl (fun M hM => ?_)
  subst hM
  have F := I.f
  have hl := I.len
  refine V_aload_0 0 dX11_feed_0 ?_
  refine V_getR 1 (c := 11) 2 (F.r 0 2 3 rfl) dX11_feed_1 fl_RX11_27 (F.m 0 (Nat.le_of_ble_eq_true rfl)) (F.k 0 11 rfl) (Nat.le_of_ble_eq_true rfl) (Nat.le_of_ble_eq_true rfl) rfl ?_
  refine V_getI 4 (c := 8) 1 dX11_feed_4 fl_RX11_88 (F.m 3 (Nat.le_of_ble_eq_true rfl)) (F.k 3 8 rfl) (Nat.le_of_ble_eq_true rfl) (Nat.le_of_ble_eq_true rfl) rfl ?_
  rw [hl]
  refine V_bipush 7 (20) dX11_feed_7 (by decide) ?_
  refine V_iadd 9 dX11_feed_9 ?_
  refine V_sipush 10 (2000) dX11_feed_10 (by decide) ?_
  refine V_icmp_le 13 18 dX11_feed_13 (by decide) (fun k => ?_) (fun k => ?_)
  ·
    refine V_aload_0 18 dX11_feed_18 ?_
    refine V_getR 19 (c := 11) 2 (F.r 0 2 3 rfl) dX11_feed_19 fl_RX11_27 (F.m 0 (Nat.le_of_ble_eq_true rfl)) (F.k 0 11 rfl) (Nat.le_of_ble_eq_true rfl) (Nat.le_of_ble_eq_true rfl) rfl ?_
    refine V_iload_1 22 dX11_feed_22 ?_
    refine V_callV 23 (ci := 8) [.int _] _ (s_addFour M.2.1 Γ S (suTa F) _) dX11_feed_23 cb_X8_addFour ml_RX11_93 im_yX8_addFour se_yX8_addFour (F.m 3 (Nat.le_of_ble_eq_true rfl)) (F.k 3 8 rfl) (Nat.le_of_ble_eq_true rfl) ⟨(Nat.le_of_ble_eq_true rfl), (Nat.le_of_ble_eq_true rfl)⟩ rfl rfl (Nat.le_of_ble_eq_true rfl) ⟨(Nat.le_of_ble_eq_true rfl), (Nat.le_of_ble_eq_true rfl)⟩ (RV.go (fun S1 h1 => ?_))
    have F1 := F.ss h1.1.1
    refine V_aload_0 26 dX11_feed_26 ?_
    refine V_getR 27 (c := 11) 2 (F1.r 0 2 3 rfl) dX11_feed_27 fl_RX11_27 (F1.m 0 (Nat.le_of_ble_eq_true rfl)) (F1.k 0 11 rfl) (Nat.le_of_ble_eq_true rfl) (Nat.le_of_ble_eq_true rfl) rfl ?_
    refine V_iload_2 30 dX11_feed_30 ?_
    refine V_callV 31 (ci := 8) [.int _] _ (s_addFour M.2.1 Γ S1 (suTa F1) _) dX11_feed_31 cb_X8_addFour ml_RX11_93 im_yX8_addFour se_yX8_addFour (F1.m 3 (Nat.le_of_ble_eq_true rfl)) (F1.k 3 8 rfl) (Nat.le_of_ble_eq_true rfl) ⟨(Nat.le_of_ble_eq_true rfl), (Nat.le_of_ble_eq_true rfl)⟩ rfl rfl (Nat.le_of_ble_eq_true rfl) ⟨(Nat.le_of_ble_eq_true rfl), (Nat.le_of_ble_eq_true rfl)⟩ (RV.go (fun S2 h2 => ?_))
    have F2 := F1.ss h2.1.1
    refine V_aload_0 34 dX11_feed_34 ?_
    refine V_getR 35 (c := 11) 2 (F2.r 0 2 3 rfl) dX11_feed_35 fl_RX11_27 (F2.m 0 (Nat.le_of_ble_eq_true rfl)) (F2.k 0 11 rfl) (Nat.le_of_ble_eq_true rfl) (Nat.le_of_ble_eq_true rfl) rfl ?_
    refine V_iload_3 38 dX11_feed_38 ?_
    refine V_callV 39 (ci := 8) [.int _] _ (s_addFour M.2.1 Γ S2 (suTa F2) _) dX11_feed_39 cb_X8_addFour ml_RX11_93 im_yX8_addFour se_yX8_addFour (F2.m 3 (Nat.le_of_ble_eq_true rfl)) (F2.k 3 8 rfl) (Nat.le_of_ble_eq_true rfl) ⟨(Nat.le_of_ble_eq_true rfl), (Nat.le_of_ble_eq_true rfl)⟩ rfl rfl (Nat.le_of_ble_eq_true rfl) ⟨(Nat.le_of_ble_eq_true rfl), (Nat.le_of_ble_eq_true rfl)⟩ (RV.go (fun S3 h3 => ?_))
    have F3 := F2.ss h3.1.1
    refine V_aload_0 42 dX11_feed_42 ?_
    refine V_getR 43 (c := 11) 2 (F3.r 0 2 3 rfl) dX11_feed_43 fl_RX11_27 (F3.m 0 (Nat.le_of_ble_eq_true rfl)) (F3.k 0 11 rfl) (Nat.le_of_ble_eq_true rfl) (Nat.le_of_ble_eq_true rfl) rfl ?_
    refine V_iload_4 46 dX11_feed_46 ?_
    refine V_callV 48 (ci := 8) [.int _] _ (s_addFour M.2.1 Γ S3 (suTa F3) _) dX11_feed_48 cb_X8_addFour ml_RX11_93 im_yX8_addFour se_yX8_addFour (F3.m 3 (Nat.le_of_ble_eq_true rfl)) (F3.k 3 8 rfl) (Nat.le_of_ble_eq_true rfl) ⟨(Nat.le_of_ble_eq_true rfl), (Nat.le_of_ble_eq_true rfl)⟩ rfl rfl (Nat.le_of_ble_eq_true rfl) ⟨(Nat.le_of_ble_eq_true rfl), (Nat.le_of_ble_eq_true rfl)⟩ (RV.go (fun S4 h4 => ?_))
    have F4 := F3.ss h4.1.1
    refine V_aload_0 51 dX11_feed_51 ?_
    refine V_getR 52 (c := 11) 2 (F4.r 0 2 3 rfl) dX11_feed_52 fl_RX11_27 (F4.m 0 (Nat.le_of_ble_eq_true rfl)) (F4.k 0 11 rfl) (Nat.le_of_ble_eq_true rfl) (Nat.le_of_ble_eq_true rfl) rfl ?_
    refine V_iload_5 55 dX11_feed_55 ?_
    refine V_callV 57 (ci := 8) [.int _] _ (s_addFour M.2.1 Γ S4 (suTa F4) _) dX11_feed_57 cb_X8_addFour ml_RX11_93 im_yX8_addFour se_yX8_addFour (F4.m 3 (Nat.le_of_ble_eq_true rfl)) (F4.k 3 8 rfl) (Nat.le_of_ble_eq_true rfl) ⟨(Nat.le_of_ble_eq_true rfl), (Nat.le_of_ble_eq_true rfl)⟩ rfl rfl (Nat.le_of_ble_eq_true rfl) ⟨(Nat.le_of_ble_eq_true rfl), (Nat.le_of_ble_eq_true rfl)⟩ (RV.go (fun S5 h5 => ?_))
    have F5 := F4.ss h5.1.1
    have e5 : sI S5 (h + 3) 1 = L + 20 := by
      rw [h5.2, h4.2, h3.2, h2.2, h1.2, hl]
      simp only [Int32.add_assoc]
      rfl
    refine V_aload_0 60 dX11_feed_60 ?_
    refine V_getR 61 (c := 11) 2 (F5.r 0 2 3 rfl) dX11_feed_61 fl_RX11_27 (F5.m 0 (Nat.le_of_ble_eq_true rfl)) (F5.k 0 11 rfl) (Nat.le_of_ble_eq_true rfl) (Nat.le_of_ble_eq_true rfl) rfl ?_
    refine V_getI 64 (c := 8) 1 dX11_feed_64 fl_RX11_88 (F5.m 3 (Nat.le_of_ble_eq_true rfl)) (F5.k 3 8 rfl) (Nat.le_of_ble_eq_true rfl) (Nat.le_of_ble_eq_true rfl) rfl ?_
    refine V_iret 67 .int dX11_feed_67 rfl rfl (Nat.le_of_ble_eq_true rfl) (Nat.le_of_ble_eq_true rfl) (RI.mk ⟨by rw [if_pos k]; exact e5, by rw [if_pos k]; exact I.onLen ((((h1.1.tr h2.1).tr h3.1).tr h4.1).tr h5.1) [4] [] rfl rfl rfl rfl e5⟩)
  ·
    refine V_iconst 16 (-1) dX11_feed_16 (by decide) ?_
    refine V_iret 17 .int dX11_feed_17 rfl rfl (Nat.le_of_ble_eq_true rfl) (Nat.le_of_ble_eq_true rfl) (RI.mk ⟨by rw [if_neg k], by rw [if_neg k]; exact I⟩)
set_option maxRecDepth 100000 in
set_option maxHeartbeats 8000000 in
theorem s_back (l : Launch) (Γ : GC) (S : PS) {h B : Nat} {L : Int32} (I : IV Γ.2.2.2.2.1 h B L S) (x : Int32) : CT l Γ yX11_back cX11_back 2 (some .int) (0) (0) (0) [.ref h, .int x] S (RI (fun r S' => (r = if x < 0 ∨ L < x then -1 else L - x) ∧ IV Γ.2.2.2.2.1 h B (if x < 0 ∨ L < x then L else L - x) S')) := by
  refine CT.of RX11 "back" [some (.ref h), some (.int x)] (by decide +kernel) rfl rfl (Nat.le_of_ble_eq_true rfl) rfl (fun M hM => ?_)
  subst hM
  have F := I.f
  have hl := I.len
  refine V_iload_1 0 dX11_back_0 ?_
  refine V_if_lt 1 15 dX11_back_1 (by decide) (fun k => ?_) (fun k => ?_)
  ·
    refine V_iconst 15 (-1) dX11_back_15 (by decide) ?_
    refine V_iret 16 .int dX11_back_16 rfl rfl (Nat.le_of_ble_eq_true rfl) (Nat.le_of_ble_eq_true rfl) (RI.mk ⟨by rw [if_pos (Or.inl k)], by rw [if_pos (Or.inl k)]; exact I⟩)
  ·
    refine V_iload_1 4 dX11_back_4 ?_
    refine V_aload_0 5 dX11_back_5 ?_
    refine V_getR 6 (c := 11) 2 (F.r 0 2 3 rfl) dX11_back_6 fl_RX11_27 (F.m 0 (Nat.le_of_ble_eq_true rfl)) (F.k 0 11 rfl) (Nat.le_of_ble_eq_true rfl) (Nat.le_of_ble_eq_true rfl) rfl ?_
    refine V_getI 9 (c := 8) 1 dX11_back_9 fl_RX11_88 (F.m 3 (Nat.le_of_ble_eq_true rfl)) (F.k 3 8 rfl) (Nat.le_of_ble_eq_true rfl) (Nat.le_of_ble_eq_true rfl) rfl ?_
    rw [hl]
    refine V_icmp_le 12 17 dX11_back_12 (by decide) (fun k2 => ?_) (fun k2 => ?_)
    ·
      have hn : ¬ (x < 0 ∨ L < x) := fun q => q.elim k (fun q => absurd k2 (Int32.not_le.mpr q))
      refine V_aload_0 17 dX11_back_17 ?_
      refine V_getR 18 (c := 11) 2 (F.r 0 2 3 rfl) dX11_back_18 fl_RX11_27 (F.m 0 (Nat.le_of_ble_eq_true rfl)) (F.k 0 11 rfl) (Nat.le_of_ble_eq_true rfl) (Nat.le_of_ble_eq_true rfl) rfl ?_
      refine V_dup 21 dX11_back_21 rfl ?_
      refine V_getI 22 (c := 8) 1 dX11_back_22 fl_RX11_88 (F.m 3 (Nat.le_of_ble_eq_true rfl)) (F.k 3 8 rfl) (Nat.le_of_ble_eq_true rfl) (Nat.le_of_ble_eq_true rfl) rfl ?_
      rw [hl]
      refine V_iload_1 25 dX11_back_25 ?_
      refine V_isub 26 dX11_back_26 ?_
      refine V_putI 27 (c := 8) 1 dX11_back_27 fl_RX11_88 (F.m 3 (Nat.le_of_ble_eq_true rfl)) (F.k 3 8 rfl) (Nat.le_of_ble_eq_true rfl) (Nat.le_of_ble_eq_true rfl) rfl (Or.inl rfl) ?_
      refine V_aload_0 30 dX11_back_30 ?_
      refine V_getR 31 (c := 11) 2 (F.r 0 2 3 rfl) dX11_back_31 fl_RX11_27 (F.m 0 (Nat.le_of_ble_eq_true rfl)) (F.k 0 11 rfl) (Nat.le_of_ble_eq_true rfl) (Nat.le_of_ble_eq_true rfl) rfl ?_
      refine V_getI 34 (c := 8) 1 dX11_back_34 fl_RX11_88 (F.m 3 (Nat.le_of_ble_eq_true rfl)) (F.k 3 8 rfl) (Nat.le_of_ble_eq_true rfl) (Nat.le_of_ble_eq_true rfl) rfl ?_
      have e5 : sI (uI S (h + 3) 1 (L - x)) (h + 3) 1 = L - x := by rw [sI_uI, up2_s]
      refine V_iret 37 .int dX11_back_37 rfl rfl (Nat.le_of_ble_eq_true rfl) (Nat.le_of_ble_eq_true rfl) (RI.mk ⟨by rw [if_neg hn]; exact e5, by rw [if_neg hn]; exact I.onLen (FZ.rf.uI (X := []) (Y := [(h + 3, 1)]) (by simp)) [] [] rfl rfl rfl rfl e5⟩)
    ·
      refine V_iconst 15 (-1) dX11_back_15 (by decide) ?_
      refine V_iret 16 .int dX11_back_16 rfl rfl (Nat.le_of_ble_eq_true rfl) (Nat.le_of_ble_eq_true rfl) (RI.mk ⟨by rw [if_pos (Or.inr (Int32.not_le.mp k2))], by rw [if_pos (Or.inr (Int32.not_le.mp k2))]; exact I⟩)
theorem numI {v : Int32} {u : Nat} {S S2 : PS} {X : List Nat} {Y : List (Nat × Nat)} (h : v = 0 → NUM u S) (e : FZ X Y S S2) (hx : u + 1 ∉ X) : v = 0 → NUM u S2 := fun q => (h q).fz e hx
set_option maxRecDepth 100000 in
set_option maxHeartbeats 8000000 in
theorem s_read (l : Launch) (Γ : GC) (S : PS) {h B : Nat} {L : Int32} (I : IV Γ.2.2.2.2.1 h B L S) (hB9 : 9 ≤ B) : CT l Γ yX11_read cX11_read 3 (some .int) (26) (0) (0) [.ref h] S (RI (fun r S' => IV Γ.2.2.2.2.1 h B 0 S')) := by
  refine CT.of RX11 "read" [some (.ref h), none, none] (by decide +kernel) rfl rfl (Nat.le_of_ble_eq_true rfl) rfl (fun M hM => ?_)
  subst hM
  have F := I.f
  have J88 : ∀ (T : PS) (v w : Int32), IV Γ.2.2.2.2.1 h B 0 T → V M Γ (3, RX11, "read", (some .int), RM (26) (0) (0)) cX11_read (RQ M Γ (RI (fun r S' => IV Γ.2.2.2.2.1 h B 0 S')) (0) (0)) 0 0 T 88 [some (.ref h), some (.int v), some (.int w)] [] := by
    intro T v w IT
    have FT9 := IT.f
    refine V_aload_0 88 dX11_read_88 ?_
    refine V_callV 89 (ci := 11) [] _ (s_beginAnew M.2.1 Γ T IT hB9) dX11_read_89 cb_X11_beginAnew ml_RX11_124 im_yX11_beginAnew se_yX11_beginAnew (FT9.m 0 (Nat.le_of_ble_eq_true rfl)) (FT9.k 0 11 rfl) (Nat.le_of_ble_eq_true rfl) ⟨(Nat.le_of_ble_eq_true rfl), (Nat.le_of_ble_eq_true rfl)⟩ rfl rfl (Nat.le_of_ble_eq_true rfl) ⟨(Nat.le_of_ble_eq_true rfl), (Nat.le_of_ble_eq_true rfl)⟩ (RV.go (fun S1 q2 => ?_))
    have h4 : FT [] [] T S1 := trivial
    have p5 : (IV Γ.2.2.2.2.1 h B 0 S1) := by exact q2
    refine V_iconst 92 (0) dX11_read_92 (by decide) ?_
    refine V_iret 93 .int dX11_read_93 rfl rfl (Nat.le_of_ble_eq_true rfl) (Nat.le_of_ble_eq_true rfl) (RI.mk p5)
  have J51 : ∀ (T : PS) (v w : Int32), IV Γ.2.2.2.2.1 h B 0 T → (v = 0 → NUM (h + 13) T) → V M Γ (3, RX11, "read", (some .int), RM (26) (0) (0)) cX11_read (RQ M Γ (RI (fun r S' => IV Γ.2.2.2.2.1 h B 0 S')) (0) (0)) 0 0 T 51 [some (.ref h), some (.int v), some (.int w)] [] := by
    intro T v w IT hv
    have FT9 := IT.f
    refine V_iload_1 51 dX11_read_51 ?_
    refine V_if_eq 52 69 dX11_read_52 (by decide) (fun c1 => ?_) (fun c1 => ?_)
    ·
      refine V_aload_0 69 dX11_read_69 ?_
      refine V_iconst 70 (-1) dX11_read_70 (by decide) ?_
      refine V_putI 71 (c := 11) 4 dX11_read_71 fl_RX11_35 (FT9.m 0 (Nat.le_of_ble_eq_true rfl)) (FT9.k 0 11 rfl) (Nat.le_of_ble_eq_true rfl) (Nat.le_of_ble_eq_true rfl) rfl (Or.inl rfl) ?_
      refine V_abs (fun T9 => FT [] [] T T9 ∧ ((fun T9 => IV Γ.2.2.2.2.1 h B 0 T9 ∧ (v = 0 → NUM (h + 13) T9)) T9)) ⟨trivial, by exact ⟨IV.pI (And.intro IT hv).1 0 4 _ rfl, (And.intro IT hv).2⟩⟩ (fun S2 hh5 => ?_)
      obtain ⟨h3, p4⟩ := hh5
      refine V_aload_0 74 dX11_read_74 ?_
      refine V_getR 75 (c := 11) 3 ((IV.f p4.1).r 0 3 27 rfl) dX11_read_75 fl_RX11_31 ((IV.f p4.1).m 0 (Nat.le_of_ble_eq_true rfl)) ((IV.f p4.1).k 0 11 rfl) (Nat.le_of_ble_eq_true rfl) (Nat.le_of_ble_eq_true rfl) rfl ?_
      refine V_aload_0 78 dX11_read_78 ?_
      refine V_getR 79 (c := 11) 0 ((IV.f p4.1).r 0 0 1 rfl) dX11_read_79 fl_RX11_10 ((IV.f p4.1).m 0 (Nat.le_of_ble_eq_true rfl)) ((IV.f p4.1).k 0 11 rfl) (Nat.le_of_ble_eq_true rfl) (Nat.le_of_ble_eq_true rfl) rfl ?_
      refine V_getR 82 (c := 9) 2 ((IV.f p4.1).r 1 2 13 rfl) dX11_read_82 fl_RX11_117 ((IV.f p4.1).m 1 (Nat.le_of_ble_eq_true rfl)) ((IV.f p4.1).k 1 9 rfl) (Nat.le_of_ble_eq_true rfl) (Nat.le_of_ble_eq_true rfl) rfl ?_
      refine V_callV 85 (ci := 10) [.ref _] _ (s_X10_becomeN M.2.1 Γ S2 (suTo (IV.f p4.1)) ((suTe (IV.f p4.1)).sub 12 lyText rfl (by decide)) (by omega) (by exact p4.2 (by assumption)) (IV.num p4.1)) dX11_read_85 cb_X10_become ml_RX11_120 im_yX10_become se_yX10_become ((IV.f p4.1).m 27 (Nat.le_of_ble_eq_true rfl)) ((IV.f p4.1).k 27 10 rfl) (Nat.le_of_ble_eq_true rfl) ⟨(Nat.le_of_ble_eq_true rfl), (Nat.le_of_ble_eq_true rfl)⟩ rfl rfl (Nat.le_of_ble_eq_true rfl) ⟨(Nat.le_of_ble_eq_true rfl), (Nat.le_of_ble_eq_true rfl)⟩ (RV.go (fun S6 q7 => ?_))
      have h9 : FT [] [] T S6 := trivial
      have p10 : ((fun T9 => IV Γ.2.2.2.2.1 h B 0 T9 ∧ (v = 0 → NUM (h + 13) T9)) S6) := by exact ⟨IV.onTold p4.1 q7.1 [29, 30, 33, 34, 38, 39] [(27, 0), (27, 1), (27, 8), (27, 9), (27, 10), (27, 11), (27, 13), (37, 2)] rfl rfl rfl rfl q7.2, numI p4.2 q7.1 (by simp)⟩
      exact J88 _ _ _ p10.1
    ·
      refine V_aload_0 55 dX11_read_55 ?_
      refine V_aload_0 56 dX11_read_56 ?_
      refine V_getR 57 (c := 11) 2 (FT9.r 0 2 3 rfl) dX11_read_57 fl_RX11_27 (FT9.m 0 (Nat.le_of_ble_eq_true rfl)) (FT9.k 0 11 rfl) (Nat.le_of_ble_eq_true rfl) (Nat.le_of_ble_eq_true rfl) rfl ?_
      refine V_iload_2 60 dX11_read_60 ?_
      refine V_callV 61 (ci := 8) [.int _] _ (s_startAt M.2.1 Γ T (suTa FT9) _) dX11_read_61 cb_X8_startAt ml_RX11_113 im_yX8_startAt se_yX8_startAt (FT9.m 3 (Nat.le_of_ble_eq_true rfl)) (FT9.k 3 8 rfl) (Nat.le_of_ble_eq_true rfl) ⟨(Nat.le_of_ble_eq_true rfl), (Nat.le_of_ble_eq_true rfl)⟩ rfl rfl (Nat.le_of_ble_eq_true rfl) ⟨(Nat.le_of_ble_eq_true rfl), (Nat.le_of_ble_eq_true rfl)⟩ (RI.go (fun r13 S11 q12 => ?_))
      have h14 : FT [] [] T S11 := trivial
      have p15 : ((fun T9 => IV Γ.2.2.2.2.1 h B 0 T9 ∧ (v = 0 → NUM (h + 13) T9)) S11) := by exact ⟨IV.z (And.intro IT hv).1 [] [] q12 rfl rfl rfl rfl, numI (And.intro IT hv).2 q12 (by simp)⟩
      refine V_putI 64 (c := 11) 4 dX11_read_64 fl_RX11_35 ((IV.f p15.1).m 0 (Nat.le_of_ble_eq_true rfl)) ((IV.f p15.1).k 0 11 rfl) (Nat.le_of_ble_eq_true rfl) (Nat.le_of_ble_eq_true rfl) rfl (Or.inl rfl) ?_
      refine V_abs (fun T9 => FT [] [] T T9 ∧ ((fun T9 => IV Γ.2.2.2.2.1 h B 0 T9 ∧ (v = 0 → NUM (h + 13) T9)) T9)) ⟨trivial, by exact ⟨IV.pI p15.1 0 4 _ rfl, p15.2⟩⟩ (fun S16 hh19 => ?_)
      obtain ⟨h17, p18⟩ := hh19
      refine V_iload_1 67 dX11_read_67 ?_
      refine V_iret 68 .int dX11_read_68 rfl rfl (Nat.le_of_ble_eq_true rfl) (Nat.le_of_ble_eq_true rfl) (RI.mk p18.1)
  refine V_aload_0 0 dX11_read_0 ?_
  refine V_getR 1 (c := 11) 2 (F.r 0 2 3 rfl) dX11_read_1 fl_RX11_27 (F.m 0 (Nat.le_of_ble_eq_true rfl)) (F.k 0 11 rfl) (Nat.le_of_ble_eq_true rfl) (Nat.le_of_ble_eq_true rfl) rfl ?_
  refine V_callV 4 (ci := 8) [] _ (s_split M.2.1 Γ S (suTa F)) dX11_read_4 cb_X8_split ml_RX11_97 im_yX8_split se_yX8_split (F.m 3 (Nat.le_of_ble_eq_true rfl)) (F.k 3 8 rfl) (Nat.le_of_ble_eq_true rfl) ⟨(Nat.le_of_ble_eq_true rfl), (Nat.le_of_ble_eq_true rfl)⟩ rfl rfl (Nat.le_of_ble_eq_true rfl) ⟨(Nat.le_of_ble_eq_true rfl), (Nat.le_of_ble_eq_true rfl)⟩ (RV.go (fun S1 h1 => ?_))
  have I1 := IV.z I [5, 7] [(3, 5)] h1 rfl rfl rfl rfl
  have F1 := I1.f
  refine V_aload_0 7 dX11_read_7 ?_
  refine V_getR 8 (c := 11) 2 (F1.r 0 2 3 rfl) dX11_read_8 fl_RX11_27 (F1.m 0 (Nat.le_of_ble_eq_true rfl)) (F1.k 0 11 rfl) (Nat.le_of_ble_eq_true rfl) (Nat.le_of_ble_eq_true rfl) rfl ?_
  refine V_iconst 11 (0) dX11_read_11 (by decide) ?_
  refine V_putI 12 (c := 8) 1 dX11_read_12 fl_RX11_88 (F1.m 3 (Nat.le_of_ble_eq_true rfl)) (F1.k 3 8 rfl) (Nat.le_of_ble_eq_true rfl) (Nat.le_of_ble_eq_true rfl) rfl (Or.inl rfl) ?_
  refine V_abs (IV Γ.2.2.2.2.1 h B 0) (I1.onLen (FZ.rf.uI (X := []) (Y := [(h + 3, 1)]) (by simp)) [] [] rfl rfl rfl rfl (by rw [sI_uI, up2_s])) (fun S2 I2 => ?_)
  have F2 := I2.f
  refine V_aload_0 15 dX11_read_15 ?_
  refine V_getR 16 (c := 11) 1 (F2.r 0 1 2 rfl) dX11_read_16 fl_RX11_20 (F2.m 0 (Nat.le_of_ble_eq_true rfl)) (F2.k 0 11 rfl) (Nat.le_of_ble_eq_true rfl) (Nat.le_of_ble_eq_true rfl) rfl ?_
  refine V_callV 19 (ci := 0) [] _ (s_check M.2.1 Γ S2 (suGr F2)) dX11_read_19 cb_X0_check ml_RX11_100 im_yX0_check se_yX0_check (F2.m 2 (Nat.le_of_ble_eq_true rfl)) (F2.k 2 0 rfl) (Nat.le_of_ble_eq_true rfl) ⟨(Nat.le_of_ble_eq_true rfl), (Nat.le_of_ble_eq_true rfl)⟩ rfl rfl (Nat.le_of_ble_eq_true rfl) ⟨(Nat.le_of_ble_eq_true rfl), (Nat.le_of_ble_eq_true rfl)⟩ (RI.go (fun r3 S3 h3 => ?_))
  refine V_istore_1 22 dX11_read_22 rfl (Nat.le_of_ble_eq_true rfl) ?_
  have I3 := IV.z I2 [10, 11] [(2, 2), (2, 3), (2, 4), (2, 5), (2, 6), (2, 7), (9, 2)] h3 rfl rfl rfl rfl
  have F3 := I3.f
  refine V_aload_0 23 dX11_read_23 ?_
  refine V_getR 24 (c := 11) 1 (F3.r 0 1 2 rfl) dX11_read_24 fl_RX11_20 (F3.m 0 (Nat.le_of_ble_eq_true rfl)) (F3.k 0 11 rfl) (Nat.le_of_ble_eq_true rfl) (Nat.le_of_ble_eq_true rfl) rfl ?_
  refine V_getI 27 (c := 0) 2 dX11_read_27 fl_RX11_104 (F3.m 2 (Nat.le_of_ble_eq_true rfl)) (F3.k 2 0 rfl) (Nat.le_of_ble_eq_true rfl) (Nat.le_of_ble_eq_true rfl) rfl ?_
  refine V_istore_2 30 dX11_read_30 rfl (Nat.le_of_ble_eq_true rfl) ?_
  refine V_iload_1 31 dX11_read_31 ?_
  refine V_if_ne 32 51 dX11_read_32 (by decide) (fun k => ?_) (fun k => ?_)
  · exact J51 _ _ _ I3 (fun q => absurd q k)
  ·
    refine V_aload_0 35 dX11_read_35 ?_
    refine V_getR 36 (c := 11) 0 (F3.r 0 0 1 rfl) dX11_read_36 fl_RX11_10 (F3.m 0 (Nat.le_of_ble_eq_true rfl)) (F3.k 0 11 rfl) (Nat.le_of_ble_eq_true rfl) (Nat.le_of_ble_eq_true rfl) rfl ?_
    refine V_callV 39 (ci := 9) [] _ (s_tellAll M.2.1 Γ S3 (suTe F3)) dX11_read_39 cb_X9_tellAll ml_RX11_107 im_yX9_tellAll se_yX9_tellAll (F3.m 1 (Nat.le_of_ble_eq_true rfl)) (F3.k 1 9 rfl) (Nat.le_of_ble_eq_true rfl) ⟨(Nat.le_of_ble_eq_true rfl), (Nat.le_of_ble_eq_true rfl)⟩ rfl rfl (Nat.le_of_ble_eq_true rfl) ⟨(Nat.le_of_ble_eq_true rfl), (Nat.le_of_ble_eq_true rfl)⟩ (RI.go (fun r4 S4 h4 => ?_))
    refine V_istore_1 42 dX11_read_42 rfl (Nat.le_of_ble_eq_true rfl) ?_
    have I4 := IV.z I3 [14, 15, 16, 18, 19, 20, 21, 24, 25] [(1, 3), (1, 4), (13, 0), (13, 1), (13, 13), (13, 8), (13, 9), (13, 10), (13, 11), (23, 2)] h4.1 rfl rfl rfl rfl
    have F4 := I4.f
    refine V_aload_0 43 dX11_read_43 ?_
    refine V_getR 44 (c := 11) 0 (F4.r 0 0 1 rfl) dX11_read_44 fl_RX11_10 (F4.m 0 (Nat.le_of_ble_eq_true rfl)) (F4.k 0 11 rfl) (Nat.le_of_ble_eq_true rfl) (Nat.le_of_ble_eq_true rfl) rfl ?_
    refine V_getI 47 (c := 9) 4 dX11_read_47 fl_RX11_110 (F4.m 1 (Nat.le_of_ble_eq_true rfl)) (F4.k 1 9 rfl) (Nat.le_of_ble_eq_true rfl) (Nat.le_of_ble_eq_true rfl) rfl ?_
    refine V_istore_2 50 dX11_read_50 rfl (Nat.le_of_ble_eq_true rfl) ?_
    exact J51 _ _ _ I4 h4.2

