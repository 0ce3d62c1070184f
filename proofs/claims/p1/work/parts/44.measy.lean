/-! the model on a fresh state: methods -/
set_option maxRecDepth 100000 in
set_option maxHeartbeats 8000000 in
theorem g_place (l : Launch) (Γ : GC) (S : PS) {m : Nat} (F : isL lyModel Γ.2.2.2.2.1 S m) (D : FRM m S) : CT l Γ yX12_place cX12_place 1 (some .int) (0) (0) (0) [.ref m] S (RI (fun r S' => r = -1)) := by
  refine CT.of RX12 "place" [some (.ref m)] (by decide +kernel) rfl rfl (Nat.le_of_ble_eq_true rfl) rfl (fun M hM => ?_)
  subst hM
  refine V_aload_0 0 dX12_place_0 ?_
  refine V_getI 1 (c := 12) 17 dX12_place_1 fl_RX12_37 (F.m 0 (Nat.le_of_ble_eq_true rfl)) (F.k 0 12 rfl) (Nat.le_of_ble_eq_true rfl) (Nat.le_of_ble_eq_true rfl) rfl ?_
  refine V_iret 4 .int dX12_place_4 rfl rfl (Nat.le_of_ble_eq_true rfl) (Nat.le_of_ble_eq_true rfl) (RI.mk D.1.1)
set_option maxRecDepth 100000 in
set_option maxHeartbeats 8000000 in
theorem g_kind (l : Launch) (Γ : GC) (S : PS) {m : Nat} (F : isL lyModel Γ.2.2.2.2.1 S m) (D : FRM m S) (k w : Int32) : CT l Γ yX12_kind cX12_kind 3 (some .int) (2) (0) (0) [.ref m, .int k, .int w] S (RI (fun r S' => r = -1)) := by
  refine CT.of RX12 "kind" [some (.ref m), some (.int k), some (.int w)] (by decide +kernel) rfl rfl (Nat.le_of_ble_eq_true rfl) rfl (fun M hM => ?_)
  subst hM
  refine V_aload_0 0 dX12_kind_0 ?_
  refine V_iload_1 1 dX12_kind_1 ?_
  refine V_callV 2 (ci := 12) [.int _] _ (c_isKindM M.2.1 Γ _ F D.1 _) dX12_kind_2 cb_X12_isKind ml_RX12_361 im_yX12_isKind se_yX12_isKind (F.m 0 (Nat.le_of_ble_eq_true rfl)) (F.k 0 12 rfl) (Nat.le_of_ble_eq_true rfl) ⟨(Nat.le_of_ble_eq_true rfl), (Nat.le_of_ble_eq_true rfl)⟩ rfl rfl (Nat.le_of_ble_eq_true rfl) ⟨(Nat.le_of_ble_eq_true rfl), (Nat.le_of_ble_eq_true rfl)⟩ (RI.go (fun r S1 hq => ?_))
  obtain ⟨rfl, rfl⟩ := hq
  refine V_if_ne 5 10 dX12_kind_5 (by decide) (fun q => absurd (by decide) q) (fun _ => ?_)
  refine V_iconst 8 (-1) dX12_kind_8 (by decide) ?_
  refine V_iret 9 .int dX12_kind_9 rfl rfl (Nat.le_of_ble_eq_true rfl) (Nat.le_of_ble_eq_true rfl) (RI.mk rfl)
set_option maxRecDepth 100000 in
set_option maxHeartbeats 8000000 in
theorem g_draw (l : Launch) (Γ : GC) (S : PS) {m : Nat} (F : isL lyModel Γ.2.2.2.2.1 S m) (D : FRM m S) (k : Int32) : CT l Γ yX12_draw cX12_draw 3 (some .int) (2) (0) (0) [.ref m, .int k] S (RI (fun r S' => r = -1)) := by
  refine CT.of RX12 "draw" [some (.ref m), some (.int k), none] (by decide +kernel) rfl rfl (Nat.le_of_ble_eq_true rfl) rfl (fun M hM => ?_)
  subst hM
  refine V_aload_0 0 dX12_draw_0 ?_
  refine V_iload_1 1 dX12_draw_1 ?_
  refine V_callV 2 (ci := 12) [.int _] _ (c_isKindM M.2.1 Γ _ F D.1 _) dX12_draw_2 cb_X12_isKind ml_RX12_361 im_yX12_isKind se_yX12_isKind (F.m 0 (Nat.le_of_ble_eq_true rfl)) (F.k 0 12 rfl) (Nat.le_of_ble_eq_true rfl) ⟨(Nat.le_of_ble_eq_true rfl), (Nat.le_of_ble_eq_true rfl)⟩ rfl rfl (Nat.le_of_ble_eq_true rfl) ⟨(Nat.le_of_ble_eq_true rfl), (Nat.le_of_ble_eq_true rfl)⟩ (RI.go (fun r S1 hq => ?_))
  obtain ⟨rfl, rfl⟩ := hq
  refine V_if_eq 5 17 dX12_draw_5 (by decide) (fun _ => ?_) (fun q => absurd (by decide) q)
  refine V_iconst 17 (-1) dX12_draw_17 (by decide) ?_
  refine V_iret 18 .int dX12_draw_18 rfl rfl (Nat.le_of_ble_eq_true rfl) (Nat.le_of_ble_eq_true rfl) (RI.mk rfl)
set_option maxRecDepth 100000 in
set_option maxHeartbeats 8000000 in
theorem g_take (l : Launch) (Γ : GC) (S : PS) {m : Nat} (F : isL lyModel Γ.2.2.2.2.1 S m) (D : FRM m S) (k : Int32) : CT l Γ yX12_take cX12_take 2 (some .boolean) (2) (0) (0) [.ref m, .int k] S (RI (fun r S' => r = 0)) := by
  refine CT.of RX12 "take" [some (.ref m), some (.int k)] (by decide +kernel) rfl rfl (Nat.le_of_ble_eq_true rfl) rfl (fun M hM => ?_)
  subst hM
  refine V_aload_0 0 dX12_take_0 ?_
  refine V_iload_1 1 dX12_take_1 ?_
  refine V_callV 2 (ci := 12) [.int _] _ (c_isKindM M.2.1 Γ _ F D.1 _) dX12_take_2 cb_X12_isKind ml_RX12_361 im_yX12_isKind se_yX12_isKind (F.m 0 (Nat.le_of_ble_eq_true rfl)) (F.k 0 12 rfl) (Nat.le_of_ble_eq_true rfl) ⟨(Nat.le_of_ble_eq_true rfl), (Nat.le_of_ble_eq_true rfl)⟩ rfl rfl (Nat.le_of_ble_eq_true rfl) ⟨(Nat.le_of_ble_eq_true rfl), (Nat.le_of_ble_eq_true rfl)⟩ (RI.go (fun r S1 hq => ?_))
  obtain ⟨rfl, rfl⟩ := hq
  refine V_if_eq 5 20 dX12_take_5 (by decide) (fun _ => ?_) (fun q => absurd (by decide) q)
  refine V_iconst 20 (0) dX12_take_20 (by decide) ?_
  refine V_iret 21 .boolean dX12_take_21 rfl (by rfl) (Nat.le_of_ble_eq_true rfl) (Nat.le_of_ble_eq_true rfl) (RI.mk rfl)
set_option maxRecDepth 100000 in
set_option maxHeartbeats 8000000 in
theorem g_undo (l : Launch) (Γ : GC) (S : PS) {m : Nat} (F : isL lyModel Γ.2.2.2.2.1 S m) (D : FRM m S) : CT l Γ yX12_undo cX12_undo 2 (some .boolean) (0) (0) (0) [.ref m] S (RI (fun r S' => r = 0)) := by
  refine CT.of RX12 "undo" [some (.ref m), none] (by decide +kernel) rfl rfl (Nat.le_of_ble_eq_true rfl) rfl (fun M hM => ?_)
  subst hM
  refine V_aload_0 0 dX12_undo_0 ?_
  refine V_getI 1 (c := 12) 57 dX12_undo_1 fl_RX12_279 (F.m 0 (Nat.le_of_ble_eq_true rfl)) (F.k 0 12 rfl) (Nat.le_of_ble_eq_true rfl) (Nat.le_of_ble_eq_true rfl) rfl ?_
  rw [D.1.i 57 (by decide)]
  refine V_if_ne 4 9 dX12_undo_4 (by decide) (fun q => absurd (by decide) q) (fun _ => ?_)
  refine V_iconst 7 (0) dX12_undo_7 (by decide) ?_
  refine V_iret 8 .boolean dX12_undo_8 rfl (by rfl) (Nat.le_of_ble_eq_true rfl) (Nat.le_of_ble_eq_true rfl) (RI.mk rfl)
set_option maxRecDepth 100000 in
set_option maxHeartbeats 8000000 in
theorem g_see (l : Launch) (Γ : GC) (S : PS) {m : Nat} (F : isL lyModel Γ.2.2.2.2.1 S m) (D : FRM m S) (k n : Int32) : CT l Γ yX12_see cX12_see 3 (some .int) (2) (0) (0) [.ref m, .int k, .int n] S (RI (fun r S' => r = -1)) := by
  refine CT.of RX12 "see" [some (.ref m), some (.int k), some (.int n)] (by decide +kernel) rfl rfl (Nat.le_of_ble_eq_true rfl) rfl (fun M hM => ?_)
  subst hM
  refine V_aload_0 0 dX12_see_0 ?_
  refine V_getI 1 (c := 12) 70 dX12_see_1 fl_RX12_282 (F.m 0 (Nat.le_of_ble_eq_true rfl)) (F.k 0 12 rfl) (Nat.le_of_ble_eq_true rfl) (Nat.le_of_ble_eq_true rfl) rfl ?_
  rw [D.1.i 70 (by decide)]
  refine V_bipush 4 (20) dX12_see_4 (by decide) ?_
  refine V_icmp_eq 6 27 dX12_see_6 (by decide) (fun q => absurd q (by decide)) (fun _ => ?_)
  refine V_aload_0 9 dX12_see_9 ?_
  refine V_iload_1 10 dX12_see_10 ?_
  refine V_callV 11 (ci := 12) [.int _] _ (c_isKindM M.2.1 Γ _ F D.1 _) dX12_see_11 cb_X12_isKind ml_RX12_361 im_yX12_isKind se_yX12_isKind (F.m 0 (Nat.le_of_ble_eq_true rfl)) (F.k 0 12 rfl) (Nat.le_of_ble_eq_true rfl) ⟨(Nat.le_of_ble_eq_true rfl), (Nat.le_of_ble_eq_true rfl)⟩ rfl rfl (Nat.le_of_ble_eq_true rfl) ⟨(Nat.le_of_ble_eq_true rfl), (Nat.le_of_ble_eq_true rfl)⟩ (RI.go (fun r S1 hq => ?_))
  obtain ⟨rfl, rfl⟩ := hq
  refine V_if_eq 14 27 dX12_see_14 (by decide) (fun _ => ?_) (fun q => absurd (by decide) q)
  refine V_iconst 27 (-1) dX12_see_27 (by decide) ?_
  refine V_iret 28 .int dX12_see_28 rfl rfl (Nat.le_of_ble_eq_true rfl) (Nat.le_of_ble_eq_true rfl) (RI.mk rfl)
set_option maxRecDepth 100000 in
set_option maxHeartbeats 8000000 in
theorem g_forget (l : Launch) (Γ : GC) (S : PS) {m : Nat} (F : isL lyModel Γ.2.2.2.2.1 S m) (D : FRM m S) : CT l Γ yX12_forget cX12_forget 2 (some .int) (0) (0) (0) [.ref m] S (RI (fun r S' => r = 0)) := by
  refine CT.of RX12 "forget" [some (.ref m), none] (by decide +kernel) rfl rfl (Nat.le_of_ble_eq_true rfl) rfl (fun M hM => ?_)
  subst hM
  refine V_aload_0 0 dX12_forget_0 ?_
  refine V_getI 1 (c := 12) 70 dX12_forget_1 fl_RX12_282 (F.m 0 (Nat.le_of_ble_eq_true rfl)) (F.k 0 12 rfl) (Nat.le_of_ble_eq_true rfl) (Nat.le_of_ble_eq_true rfl) rfl ?_
  rw [D.1.i 70 (by decide)]
  refine V_istore_1 4 dX12_forget_4 rfl (Nat.le_of_ble_eq_true rfl) ?_
  refine V_aload_0 5 dX12_forget_5 ?_
  refine V_iconst 6 (0) dX12_forget_6 (by decide) ?_
  refine V_putI 7 (c := 12) 70 dX12_forget_7 fl_RX12_282 (F.m 0 (Nat.le_of_ble_eq_true rfl)) (F.k 0 12 rfl) (Nat.le_of_ble_eq_true rfl) (Nat.le_of_ble_eq_true rfl) rfl (Or.inl rfl) ?_
  refine V_iload_1 10 dX12_forget_10 ?_
  refine V_iret 11 .int dX12_forget_11 rfl rfl (Nat.le_of_ble_eq_true rfl) (Nat.le_of_ble_eq_true rfl) (RI.mk rfl)
set_option maxRecDepth 100000 in
set_option maxHeartbeats 8000000 in
theorem g_unlike (l : Launch) (Γ : GC) (S : PS) {m : Nat} (F : isL lyModel Γ.2.2.2.2.1 S m) (D : FRM m S) (x y : Int32) : CT l Γ yX12_unlike cX12_unlike 3 (some .int) (1) (0) (0) [.ref m, .int x, .int y] S (RI (fun r S' => r = -1)) := by
  refine CT.of RX12 "unlike" [some (.ref m), some (.int x), some (.int y)] (by decide +kernel) rfl rfl (Nat.le_of_ble_eq_true rfl) rfl (fun M hM => ?_)
  subst hM
  refine V_iload_1 0 dX12_unlike_0 ?_
  refine V_iconst 1 (0) dX12_unlike_1 (by decide) ?_
  refine V_aload_0 2 dX12_unlike_2 ?_
  refine V_getR 3 (c := 12) 20 (F.r 0 20 8 rfl) dX12_unlike_3 fl_RX12_40 (F.m 0 (Nat.le_of_ble_eq_true rfl)) (F.k 0 12 rfl) (Nat.le_of_ble_eq_true rfl) (Nat.le_of_ble_eq_true rfl) rfl ?_
  refine V_aload_0 6 dX12_unlike_6 ?_
  refine V_getI 7 (c := 12) 18 dX12_unlike_7 fl_RX12_264 (F.m 0 (Nat.le_of_ble_eq_true rfl)) (F.k 0 12 rfl) (Nat.le_of_ble_eq_true rfl) (Nat.le_of_ble_eq_true rfl) rfl ?_
  rw [D.1.i 18 (by decide)]
  refine V_iaload2 10 dX12_unlike_10 (F.m 8 (Nat.le_of_ble_eq_true rfl)) (F.k 8 14 rfl) (F.l 8 2 rfl) ?_ ?_
  · exact (by unfold vp_in; decide)
  rw [D.1.o 8 (by decide)]
  refine V_iconst 11 (1) dX12_unlike_11 (by decide) ?_
  refine V_isub 12 dX12_unlike_12 ?_
  refine V_callS 13 [.int _, .int _, .int _] _ (c_in M.2.1 Γ _ _ _ _) dX12_unlike_13 cb_X12_in ml_RX12_335 sm_yX12_in ⟨(Nat.le_of_ble_eq_true rfl), (Nat.le_of_ble_eq_true rfl)⟩ rfl rfl (Nat.le_of_ble_eq_true rfl) ⟨(Nat.le_of_ble_eq_true rfl), (Nat.le_of_ble_eq_true rfl)⟩ (RI.go (fun r S1 hq => ?_))
  obtain ⟨rfl, hq⟩ := hq
  rcases hq with ⟨rfl, h1, h2⟩ | ⟨rfl, -⟩
  · exact absurd (no_m1 h1 h2) id
  ·
    refine V_if_eq 16 38 dX12_unlike_16 (by decide) (fun _ => ?_) (fun q => absurd (by decide) q)
    refine V_iconst 38 (-1) dX12_unlike_38 (by decide) ?_
    refine V_iret 39 .int dX12_unlike_39 rfl rfl (Nat.le_of_ble_eq_true rfl) (Nat.le_of_ble_eq_true rfl) (RI.mk rfl)
set_option maxRecDepth 100000 in
set_option maxHeartbeats 8000000 in
theorem g_lot (l : Launch) (Γ : GC) (S : PS) {m : Nat} (F : isL lyModel Γ.2.2.2.2.1 S m) (D : FRM m S) : CT l Γ yX12_lot cX12_lot 3 (some .int) (1) (0) (0) [.ref m] S (RI (fun r S' => r = -2)) := by
  refine CT.of RX12 "lot" [some (.ref m), none, none] (by decide +kernel) rfl rfl (Nat.le_of_ble_eq_true rfl) rfl (fun M hM => ?_)
  subst hM
  refine V_aload_0 0 dX12_lot_0 ?_
  refine V_callV 1 (ci := 12) [] _ (c_copies M.2.1 Γ _ F D.1) dX12_lot_1 cb_X12_copies ml_RX12_364 im_yX12_copies se_yX12_copies (F.m 0 (Nat.le_of_ble_eq_true rfl)) (F.k 0 12 rfl) (Nat.le_of_ble_eq_true rfl) ⟨(Nat.le_of_ble_eq_true rfl), (Nat.le_of_ble_eq_true rfl)⟩ rfl rfl (Nat.le_of_ble_eq_true rfl) ⟨(Nat.le_of_ble_eq_true rfl), (Nat.le_of_ble_eq_true rfl)⟩ (RV.go (fun S1 hq => ?_))
  have D1 : FM m S1 := by rw [hq]; exact (D.1.uI (Or.inl rfl)).uI (Or.inr rfl)
  have s1 : SSm S S1 := by rw [hq]; exact ⟨rfl, rfl, rfl, rfl, rfl⟩
  have z5 : ∀ j, sA S1 (m + 55) j = 0 := by rw [hq]; exact D.2
  clear hq
  have F1 := F.ss s1
  refine V_aload_0 4 dX12_lot_4 ?_
  refine V_iconst 5 (0) dX12_lot_5 (by decide) ?_
  refine V_callV 6 (ci := 12) [.int _] _ (c_sumOnM M.2.1 Γ _ F1 D1 _ (Or.inl rfl)) dX12_lot_6 cb_X12_sumOn ml_RX12_352 im_yX12_sumOn se_yX12_sumOn (F1.m 0 (Nat.le_of_ble_eq_true rfl)) (F1.k 0 12 rfl) (Nat.le_of_ble_eq_true rfl) ⟨(Nat.le_of_ble_eq_true rfl), (Nat.le_of_ble_eq_true rfl)⟩ rfl rfl (Nat.le_of_ble_eq_true rfl) ⟨(Nat.le_of_ble_eq_true rfl), (Nat.le_of_ble_eq_true rfl)⟩ (RI.go (fun r S2 hq => ?_))
  obtain ⟨rfl, rfl⟩ := hq
  refine V_if_ne 9 15 dX12_lot_9 (by decide) (fun q => absurd (by decide) q) (fun _ => ?_)
  refine V_bipush 12 (-2) dX12_lot_12 (by decide) ?_
  refine V_iret 14 .int dX12_lot_14 rfl rfl (Nat.le_of_ble_eq_true rfl) (Nat.le_of_ble_eq_true rfl) (RI.mk rfl)
set_option maxRecDepth 100000 in
set_option maxHeartbeats 8000000 in
theorem g_back (l : Launch) (Γ : GC) (S : PS) {m : Nat} (F : isL lyModel Γ.2.2.2.2.1 S m) (D : FRM m S) (n : Int32) : CT l Γ yX12_back cX12_back 2 (some .int) (0) (0) (0) [.ref m, .int n] S (RI (fun r S' => r = if n = 0 then 0 else -1)) := by
  refine CT.of RX12 "back" [some (.ref m), some (.int n)] (by decide +kernel) rfl rfl (Nat.le_of_ble_eq_true rfl) rfl (fun M hM => ?_)
  subst hM
  refine V_iload_1 0 dX12_back_0 ?_
  refine V_if_lt 1 12 dX12_back_1 (by decide) (fun c => ?_) (fun c => ?_)
  ·
    refine V_iconst 12 (-1) dX12_back_12 (by decide) ?_
    refine V_iret 13 .int dX12_back_13 rfl rfl (Nat.le_of_ble_eq_true rfl) (Nat.le_of_ble_eq_true rfl) (RI.mk (by rw [if_neg (fun q => by subst q; exact absurd c (by decide))]))
  ·
    refine V_iload_1 4 dX12_back_4 ?_
    refine V_aload_0 5 dX12_back_5 ?_
    refine V_getI 6 (c := 12) 2 dX12_back_6 fl_RX12_197 (F.m 0 (Nat.le_of_ble_eq_true rfl)) (F.k 0 12 rfl) (Nat.le_of_ble_eq_true rfl) (Nat.le_of_ble_eq_true rfl) rfl ?_
    rw [D.1.i 2 (by decide)]
    refine V_icmp_le 9 14 dX12_back_9 (by decide) (fun c2 => ?_) (fun c2 => ?_)
    ·
      have hn : n = 0 := Int32.le_antisymm c2 (Int32.not_lt.mp c)
      subst hn
      refine V_aload_0 14 dX12_back_14 ?_
      refine V_dup 15 dX12_back_15 rfl ?_
      refine V_getI 16 (c := 12) 2 dX12_back_16 fl_RX12_197 (F.m 0 (Nat.le_of_ble_eq_true rfl)) (F.k 0 12 rfl) (Nat.le_of_ble_eq_true rfl) (Nat.le_of_ble_eq_true rfl) rfl ?_
      rw [D.1.i 2 (by decide)]
      refine V_iload_1 19 dX12_back_19 ?_
      refine V_isub 20 dX12_back_20 ?_
      refine V_putI 21 (c := 12) 2 dX12_back_21 fl_RX12_197 (F.m 0 (Nat.le_of_ble_eq_true rfl)) (F.k 0 12 rfl) (Nat.le_of_ble_eq_true rfl) (Nat.le_of_ble_eq_true rfl) rfl (Or.inl rfl) ?_
      refine V_aload_0 24 dX12_back_24 ?_
      refine V_getI 25 (c := 12) 2 dX12_back_25 fl_RX12_197 (F.m 0 (Nat.le_of_ble_eq_true rfl)) (F.k 0 12 rfl) (Nat.le_of_ble_eq_true rfl) (Nat.le_of_ble_eq_true rfl) rfl ?_
      refine V_iret 28 .int dX12_back_28 rfl rfl (Nat.le_of_ble_eq_true rfl) (Nat.le_of_ble_eq_true rfl) (RI.mk (by rw [sI_uI, up2_s]; rfl))
    ·
      refine V_iconst 12 (-1) dX12_back_12 (by decide) ?_
      refine V_iret 13 .int dX12_back_13 rfl rfl (Nat.le_of_ble_eq_true rfl) (Nat.le_of_ble_eq_true rfl) (RI.mk (by rw [if_neg (fun q => by subst q; exact absurd (Int32.le_refl 0) c2)]))
set_option maxRecDepth 100000 in
set_option maxHeartbeats 8000000 in
theorem g_hold (l : Launch) (Γ : GC) (S : PS) {m : Nat} (F : isL lyModel Γ.2.2.2.2.1 S m) (D : FRM m S) (n : Int32) : CT l Γ yX12_hold cX12_hold 3 (some .boolean) (1) (0) (0) [.ref m, .int n] S (RI (fun r S' => r = if n < 0 ∨ 3 ≤ n then 0 else 1)) := by
  refine CT.of RX12 "hold" [some (.ref m), some (.int n), none] (by decide +kernel) rfl rfl (Nat.le_of_ble_eq_true rfl) rfl (fun M hM => ?_)
  subst hM
  refine V_iload_1 0 dX12_hold_0 ?_
  refine V_iconst 1 (0) dX12_hold_1 (by decide) ?_
  refine V_iconst 2 (2) dX12_hold_2 (by decide) ?_
  refine V_callS 3 [.int _, .int _, .int _] _ (c_in M.2.1 Γ _ _ _ _) dX12_hold_3 cb_X12_in ml_RX12_335 sm_yX12_in ⟨(Nat.le_of_ble_eq_true rfl), (Nat.le_of_ble_eq_true rfl)⟩ rfl rfl (Nat.le_of_ble_eq_true rfl) ⟨(Nat.le_of_ble_eq_true rfl), (Nat.le_of_ble_eq_true rfl)⟩ (RI.go (fun r S1 hq => ?_))
  obtain ⟨rfl, hq⟩ := hq
  rcases hq with ⟨rfl, h1, h2⟩ | ⟨rfl, h1⟩
  · obtain ⟨k, hk, rfl⟩ := nI_of2 (M := 2) (n := 2) (by decide) h1 (Int32.not_lt.mp h2)
    refine V_if_ne 6 11 dX12_hold_6 (by decide) (fun _ => ?_) (fun q => absurd q (by decide))
    refine V_aload_0 11 dX12_hold_11 ?_
    refine V_getR 12 (c := 12) 75 (F.r 0 75 55 rfl) dX12_hold_12 fl_RX12_183 (F.m 0 (Nat.le_of_ble_eq_true rfl)) (F.k 0 12 rfl) (Nat.le_of_ble_eq_true rfl) (Nat.le_of_ble_eq_true rfl) rfl ?_
    refine V_iload_1 15 dX12_hold_15 ?_
    refine V_iconst 16 (1) dX12_hold_16 (by decide) ?_
    refine V_zastore2 17 dX12_hold_17 (F.m 55 (Nat.le_of_ble_eq_true rfl)) (F.k 55 16 rfl) (F.l 55 3 rfl) ?_ (Or.inr rfl) ?_
    · exact vp_in_nI (by omega) (by decide)
    rw [nI_clamp (by omega)]
    have D2 : FM m (uA S1 (m + 55) k 1) := D.1.uA (Or.inr rfl)
    refine V_abs (fun T => SSm S1 T ∧ FM m T) ⟨⟨rfl, rfl, rfl, rfl, rfl⟩, D2⟩ (fun S3 h3 => ?_)
    have F3 := F.ss h3.1
    refine V_iconst 18 (0) dX12_hold_18 (by decide) ?_
    refine V_istore_2 19 dX12_hold_19 rfl (Nat.le_of_ble_eq_true rfl) ?_
    refine V_while (α := Nat) (fun i => 30 - i) (fun i => i ≤ 30) (fun _ => S3) (fun i => [some (.ref m), some (.int (nI k)), some (.int (nI i))]) 0 (Nat.zero_le _) (fun i hi ih => ?_)
    refine V_iload_2 20 dX12_hold_20 ?_
    refine V_bipush 21 (30) dX12_hold_21 (by decide) ?_
    refine V_icmp_ge 23 49 dX12_hold_23 (by decide) (fun c => ?_) (fun c => ?_)
    ·
      refine V_iconst 49 (1) dX12_hold_49 (by decide) ?_
      refine V_iret 50 .boolean dX12_hold_50 rfl (by rfl) (Nat.le_of_ble_eq_true rfl) (Nat.le_of_ble_eq_true rfl) (RI.mk (by rw [if_neg (fun q => q.elim h1 (fun q => h2 (Int32.lt_of_lt_of_le (by decide) q)))]))
    ·
      have hi2 := nI_lt8 (by decide) hi c
      have hx : vp_in ((30 : Int32) * nI k + nI i) 90 := by
        rw [show (30 : Int32) * nI k + nI i = nI (30 * k + i) from by
          rcases (show k = 0 ∨ k = 1 ∨ k = 2 by omega) with rfl | rfl | rfl
          · rw [show (30 : Int32) * nI 0 = nI 0 from by decide, nI_add]
          · rw [show (30 : Int32) * nI 1 = nI 30 from by decide, nI_add]
          · rw [show (30 : Int32) * nI 2 = nI 60 from by decide, nI_add]]
        exact vp_in_nI (by omega) (by decide)
      refine V_aload_0 26 dX12_hold_26 ?_
      refine V_getR 27 (c := 12) 76 (F3.r 0 76 56 rfl) dX12_hold_27 fl_RX12_186 (F3.m 0 (Nat.le_of_ble_eq_true rfl)) (F3.k 0 12 rfl) (Nat.le_of_ble_eq_true rfl) (Nat.le_of_ble_eq_true rfl) rfl ?_
      refine V_bipush 30 (30) dX12_hold_30 (by decide) ?_
      refine V_iload_1 32 dX12_hold_32 ?_
      refine V_imul 33 dX12_hold_33 ?_
      refine V_iload_2 34 dX12_hold_34 ?_
      refine V_iadd 35 dX12_hold_35 ?_
      refine V_aload_0 36 dX12_hold_36 ?_
      refine V_getR 37 (c := 12) 53 (F3.r 0 53 37 rfl) dX12_hold_37 fl_RX12_128 (F3.m 0 (Nat.le_of_ble_eq_true rfl)) (F3.k 0 12 rfl) (Nat.le_of_ble_eq_true rfl) (Nat.le_of_ble_eq_true rfl) rfl ?_
      refine V_iload_2 40 dX12_hold_40 ?_
      refine V_iaload2 41 dX12_hold_41 (F3.m 37 (Nat.le_of_ble_eq_true rfl)) (F3.k 37 14 rfl) (F3.l 37 30 rfl) ?_ ?_
      · exact vp_in_nI hi2 (by decide)
      rw [h3.2.z 37 (by decide)]
      refine V_iastore2 42 dX12_hold_42 (F3.m 56 (Nat.le_of_ble_eq_true rfl)) (F3.k 56 14 rfl) (F3.l 56 90 rfl) ?_ ?_
      · exact hx
      refine V.to (uA_id ((h3.2.z 56 (by decide) _).trans (by decide))) ?_
      refine V_iinc_2 43 (1) dX12_hold_43 (by decide) rfl (Nat.le_of_ble_eq_true rfl) ?_
      refine V_goto 46 20 dX12_hold_46 (by decide) ?_
      rw [← nI_succ]
      exact ih (i + 1) (by omega) (by omega)
  ·
    refine V_if_ne 6 11 dX12_hold_6 (by decide) (fun q => absurd (by decide) q) (fun _ => ?_)
    refine V_iconst 9 (0) dX12_hold_9 (by decide) ?_
    refine V_iret 10 .boolean dX12_hold_10 rfl (by rfl) (Nat.le_of_ble_eq_true rfl) (Nat.le_of_ble_eq_true rfl) (RI.mk (by rw [if_pos (h1.imp id (fun q => by rw [Int32.le_iff_toInt_le]; have := Int32.lt_iff_toInt_lt.mp q; exact this))]))
set_option maxRecDepth 100000 in
set_option maxHeartbeats 8000000 in
theorem g_restore (l : Launch) (Γ : GC) (S : PS) {m : Nat} (F : isL lyModel Γ.2.2.2.2.1 S m) (D : FRM m S) (n : Int32) : CT l Γ yX12_restore cX12_restore 3 (some .boolean) (1) (0) (0) [.ref m, .int n] S (RI (fun r S' => r = 0)) := by
  refine CT.of RX12 "restore" [some (.ref m), some (.int n), none] (by decide +kernel) rfl rfl (Nat.le_of_ble_eq_true rfl) rfl (fun M hM => ?_)
  subst hM
  have z5 := D.2
  refine V_iload_1 0 dX12_restore_0 ?_
  refine V_iconst 1 (0) dX12_restore_1 (by decide) ?_
  refine V_iconst 2 (2) dX12_restore_2 (by decide) ?_
  refine V_callS 3 [.int _, .int _, .int _] _ (c_in M.2.1 Γ _ _ _ _) dX12_restore_3 cb_X12_in ml_RX12_335 sm_yX12_in ⟨(Nat.le_of_ble_eq_true rfl), (Nat.le_of_ble_eq_true rfl)⟩ rfl rfl (Nat.le_of_ble_eq_true rfl) ⟨(Nat.le_of_ble_eq_true rfl), (Nat.le_of_ble_eq_true rfl)⟩ (RI.go (fun r S1 hq => ?_))
  obtain ⟨rfl, hq⟩ := hq
  rcases hq with ⟨rfl, h1, h2⟩ | ⟨rfl, h1⟩
  · obtain ⟨k, hk, rfl⟩ := nI_of2 (M := 2) (n := 2) (by decide) h1 (Int32.not_lt.mp h2)
    refine V_if_eq 6 18 dX12_restore_6 (by decide) (fun q => absurd q (by decide)) (fun _ => ?_)
    refine V_aload_0 9 dX12_restore_9 ?_
    refine V_getR 10 (c := 12) 75 (F.r 0 75 55 rfl) dX12_restore_10 fl_RX12_183 (F.m 0 (Nat.le_of_ble_eq_true rfl)) (F.k 0 12 rfl) (Nat.le_of_ble_eq_true rfl) (Nat.le_of_ble_eq_true rfl) rfl ?_
    refine V_iload_1 13 dX12_restore_13 ?_
    refine V_zaload2 14 dX12_restore_14 (F.m 55 (Nat.le_of_ble_eq_true rfl)) (F.k 55 16 rfl) (F.l 55 3 rfl) ?_ ?_
    · exact vp_in_nI (by omega) (by decide)
    rw [z5]
    refine V_if_ne 15 20 dX12_restore_15 (by decide) (fun q => absurd (by decide) q) (fun _ => ?_)
    refine V_iconst 18 (0) dX12_restore_18 (by decide) ?_
    refine V_iret 19 .boolean dX12_restore_19 rfl (by rfl) (Nat.le_of_ble_eq_true rfl) (Nat.le_of_ble_eq_true rfl) (RI.mk rfl)
  ·
    refine V_if_eq 6 18 dX12_restore_6 (by decide) (fun _ => ?_) (fun q => absurd (by decide) q)
    refine V_iconst 18 (0) dX12_restore_18 (by decide) ?_
    refine V_iret 19 .boolean dX12_restore_19 rfl (by rfl) (Nat.le_of_ble_eq_true rfl) (Nat.le_of_ble_eq_true rfl) (RI.mk rfl)
set_option maxRecDepth 100000 in
set_option maxHeartbeats 8000000 in
theorem g_count (l : Launch) (Γ : GC) (S : PS) {m : Nat} (F : isL lyModel Γ.2.2.2.2.1 S m) (D : FRM m S) (w : Int32) : CT l Γ yX12_count cX12_count 2 (some .int) (1) (0) (0) [.ref m, .int w] S (RI (fun r S' => r = if w = 6 then 18 else if w = 7 then 1 else if w < 0 ∨ 14 < w then -1 else 0)) := by
  refine CT.of RX12 "count" [some (.ref m), some (.int w)] (by decide +kernel) rfl rfl (Nat.le_of_ble_eq_true rfl) rfl (fun M hM => ?_)
  subst hM
  refine V_aload_0 0 dX12_count_0 ?_
  refine V_callV 1 (ci := 12) [] _ (c_copies M.2.1 Γ _ F D.1) dX12_count_1 cb_X12_copies ml_RX12_364 im_yX12_copies se_yX12_copies (F.m 0 (Nat.le_of_ble_eq_true rfl)) (F.k 0 12 rfl) (Nat.le_of_ble_eq_true rfl) ⟨(Nat.le_of_ble_eq_true rfl), (Nat.le_of_ble_eq_true rfl)⟩ rfl rfl (Nat.le_of_ble_eq_true rfl) ⟨(Nat.le_of_ble_eq_true rfl), (Nat.le_of_ble_eq_true rfl)⟩ (RV.go (fun S1 hq => ?_))
  have D1 : FM m S1 := by rw [hq]; exact (D.1.uI (Or.inl rfl)).uI (Or.inr rfl)
  have s1 : SSm S S1 := by rw [hq]; exact ⟨rfl, rfl, rfl, rfl, rfl⟩
  have z5 : ∀ j, sA S1 (m + 55) j = 0 := by rw [hq]; exact D.2
  clear hq
  have F1 := F.ss s1
  refine V_iload_1 4 dX12_count_4 ?_
  by_cases hw : w < 0 ∨ 14 < w
  ·
    refine V_tableOut 5 236 dX12_count_5 (by rcases hw with q | q; exact Or.inl (Int32.lt_iff_toInt_lt.mp q); exact Or.inr (Int32.lt_iff_toInt_lt.mp q)) (by decide) ?_
    refine V_iconst 236 (-1) dX12_count_236 (by decide) ?_
    refine V_iret 237 .int dX12_count_237 rfl rfl (Nat.le_of_ble_eq_true rfl) (Nat.le_of_ble_eq_true rfl) (RI.mk (by rw [if_neg (fun q => by subst q; revert hw; decide), if_neg (fun q => by subst q; revert hw; decide), if_pos hw]))
  · obtain ⟨j, hj, rfl⟩ := nI_of2 (M := 14) (n := 14) (by decide) (fun q => hw (Or.inl q)) (Int32.not_lt.mp (fun q => hw (Or.inr q)))
    rcases (show j = 0 ∨ j = 1 ∨ j = 2 ∨ j = 3 ∨ j = 4 ∨ j = 5 ∨ j = 6 ∨ j = 7 ∨ j = 8 ∨ j = 9 ∨ j = 10 ∨ j = 11 ∨ j = 12 ∨ j = 13 ∨ j = 14 by omega) with rfl | rfl | rfl | rfl | rfl | rfl | rfl | rfl | rfl | rfl | rfl | rfl | rfl | rfl | rfl
    ·
      refine V_tableIn 5 80 (off := 75) (x := nI 0) dX12_count_5 (by decide) (by decide) (by decide) (by decide) ?_
      refine V_aload_0 80 dX12_count_80 ?_
      refine V_getR 81 (c := 12) 23 (F1.r 0 23 11 rfl) dX12_count_81 fl_RX12_49 (F1.m 0 (Nat.le_of_ble_eq_true rfl)) (F1.k 0 12 rfl) (Nat.le_of_ble_eq_true rfl) (Nat.le_of_ble_eq_true rfl) rfl ?_
      refine V_aload_0 84 dX12_count_84 ?_
      refine V_getI 85 (c := 12) 18 dX12_count_85 fl_RX12_264 (F1.m 0 (Nat.le_of_ble_eq_true rfl)) (F1.k 0 12 rfl) (Nat.le_of_ble_eq_true rfl) (Nat.le_of_ble_eq_true rfl) rfl ?_
      rw [D1.i 18 (by decide)]
      refine V_iaload2 88 dX12_count_88 (F1.m 11 (Nat.le_of_ble_eq_true rfl)) (F1.k 11 14 rfl) (F1.l 11 2 rfl) ?_ ?_
      · exact (by unfold vp_in; decide)
      rw [D1.o 11 (by decide)]
      refine V_iret 89 .int dX12_count_89 rfl rfl (Nat.le_of_ble_eq_true rfl) (Nat.le_of_ble_eq_true rfl) (RI.mk (by decide))
    ·
      refine V_tableIn 5 90 (off := 85) (x := nI 1) dX12_count_5 (by decide) (by decide) (by decide) (by decide) ?_
      refine V_aload_0 90 dX12_count_90 ?_
      refine V_getR 91 (c := 12) 20 (F1.r 0 20 8 rfl) dX12_count_91 fl_RX12_40 (F1.m 0 (Nat.le_of_ble_eq_true rfl)) (F1.k 0 12 rfl) (Nat.le_of_ble_eq_true rfl) (Nat.le_of_ble_eq_true rfl) rfl ?_
      refine V_aload_0 94 dX12_count_94 ?_
      refine V_getI 95 (c := 12) 18 dX12_count_95 fl_RX12_264 (F1.m 0 (Nat.le_of_ble_eq_true rfl)) (F1.k 0 12 rfl) (Nat.le_of_ble_eq_true rfl) (Nat.le_of_ble_eq_true rfl) rfl ?_
      rw [D1.i 18 (by decide)]
      refine V_iaload2 98 dX12_count_98 (F1.m 8 (Nat.le_of_ble_eq_true rfl)) (F1.k 8 14 rfl) (F1.l 8 2 rfl) ?_ ?_
      · exact (by unfold vp_in; decide)
      rw [D1.o 8 (by decide)]
      refine V_iret 99 .int dX12_count_99 rfl rfl (Nat.le_of_ble_eq_true rfl) (Nat.le_of_ble_eq_true rfl) (RI.mk (by decide))
    ·
      refine V_tableIn 5 100 (off := 95) (x := nI 2) dX12_count_5 (by decide) (by decide) (by decide) (by decide) ?_
      refine V_aload_0 100 dX12_count_100 ?_
      refine V_getR 101 (c := 12) 27 (F1.r 0 27 15 rfl) dX12_count_101 fl_RX12_61 (F1.m 0 (Nat.le_of_ble_eq_true rfl)) (F1.k 0 12 rfl) (Nat.le_of_ble_eq_true rfl) (Nat.le_of_ble_eq_true rfl) rfl ?_
      refine V_aload_0 104 dX12_count_104 ?_
      refine V_getI 105 (c := 12) 18 dX12_count_105 fl_RX12_264 (F1.m 0 (Nat.le_of_ble_eq_true rfl)) (F1.k 0 12 rfl) (Nat.le_of_ble_eq_true rfl) (Nat.le_of_ble_eq_true rfl) rfl ?_
      rw [D1.i 18 (by decide)]
      refine V_iaload2 108 dX12_count_108 (F1.m 15 (Nat.le_of_ble_eq_true rfl)) (F1.k 15 14 rfl) (F1.l 15 2 rfl) ?_ ?_
      · exact (by unfold vp_in; decide)
      rw [D1.o 15 (by decide)]
      refine V_iret 109 .int dX12_count_109 rfl rfl (Nat.le_of_ble_eq_true rfl) (Nat.le_of_ble_eq_true rfl) (RI.mk (by decide))
    ·
      refine V_tableIn 5 110 (off := 105) (x := nI 3) dX12_count_5 (by decide) (by decide) (by decide) (by decide) ?_
      refine V_aload_0 110 dX12_count_110 ?_
      refine V_iconst 111 (0) dX12_count_111 (by decide) ?_
      refine V_callV 112 (ci := 12) [.int _] _ (c_sumOnM M.2.1 Γ _ F1 D1 _ (Or.inl rfl)) dX12_count_112 cb_X12_sumOn ml_RX12_352 im_yX12_sumOn se_yX12_sumOn (F1.m 0 (Nat.le_of_ble_eq_true rfl)) (F1.k 0 12 rfl) (Nat.le_of_ble_eq_true rfl) ⟨(Nat.le_of_ble_eq_true rfl), (Nat.le_of_ble_eq_true rfl)⟩ rfl rfl (Nat.le_of_ble_eq_true rfl) ⟨(Nat.le_of_ble_eq_true rfl), (Nat.le_of_ble_eq_true rfl)⟩ (RI.go (fun r S2 hq => ?_))
      obtain ⟨rfl, rfl⟩ := hq
      refine V_iret 115 .int dX12_count_115 rfl rfl (Nat.le_of_ble_eq_true rfl) (Nat.le_of_ble_eq_true rfl) (RI.mk (by decide))
    ·
      refine V_tableIn 5 116 (off := 111) (x := nI 4) dX12_count_5 (by decide) (by decide) (by decide) (by decide) ?_
      refine V_aload_0 116 dX12_count_116 ?_
      refine V_bipush 117 (8) dX12_count_117 (by decide) ?_
      refine V_callV 119 (ci := 12) [.int _] _ (c_sumOnM M.2.1 Γ _ F1 D1 _ (Or.inr rfl)) dX12_count_119 cb_X12_sumOn ml_RX12_352 im_yX12_sumOn se_yX12_sumOn (F1.m 0 (Nat.le_of_ble_eq_true rfl)) (F1.k 0 12 rfl) (Nat.le_of_ble_eq_true rfl) ⟨(Nat.le_of_ble_eq_true rfl), (Nat.le_of_ble_eq_true rfl)⟩ rfl rfl (Nat.le_of_ble_eq_true rfl) ⟨(Nat.le_of_ble_eq_true rfl), (Nat.le_of_ble_eq_true rfl)⟩ (RI.go (fun r S2 hq => ?_))
      obtain ⟨rfl, rfl⟩ := hq
      refine V_iret 122 .int dX12_count_122 rfl rfl (Nat.le_of_ble_eq_true rfl) (Nat.le_of_ble_eq_true rfl) (RI.mk (by decide))
    ·
      refine V_tableIn 5 123 (off := 118) (x := nI 5) dX12_count_5 (by decide) (by decide) (by decide) (by decide) ?_
      refine V_aload_0 123 dX12_count_123 ?_
      refine V_callV 124 (ci := 12) [] _ (c_rolledAll M.2.1 Γ _ F1 D1) dX12_count_124 cb_X12_rolledAll ml_RX12_440 im_yX12_rolledAll se_yX12_rolledAll (F1.m 0 (Nat.le_of_ble_eq_true rfl)) (F1.k 0 12 rfl) (Nat.le_of_ble_eq_true rfl) ⟨(Nat.le_of_ble_eq_true rfl), (Nat.le_of_ble_eq_true rfl)⟩ rfl rfl (Nat.le_of_ble_eq_true rfl) ⟨(Nat.le_of_ble_eq_true rfl), (Nat.le_of_ble_eq_true rfl)⟩ (RI.go (fun r S2 hq => ?_))
      obtain ⟨rfl, rfl⟩ := hq
      refine V_iret 127 .int dX12_count_127 rfl rfl (Nat.le_of_ble_eq_true rfl) (Nat.le_of_ble_eq_true rfl) (RI.mk (by decide))
    ·
      refine V_tableIn 5 128 (off := 123) (x := nI 6) dX12_count_5 (by decide) (by decide) (by decide) (by decide) ?_
      refine V_aload_0 128 dX12_count_128 ?_
      refine V_getR 129 (c := 12) 31 (F1.r 0 31 19 rfl) dX12_count_129 fl_RX12_73 (F1.m 0 (Nat.le_of_ble_eq_true rfl)) (F1.k 0 12 rfl) (Nat.le_of_ble_eq_true rfl) (Nat.le_of_ble_eq_true rfl) rfl ?_
      refine V_aload_0 132 dX12_count_132 ?_
      refine V_getI 133 (c := 12) 18 dX12_count_133 fl_RX12_264 (F1.m 0 (Nat.le_of_ble_eq_true rfl)) (F1.k 0 12 rfl) (Nat.le_of_ble_eq_true rfl) (Nat.le_of_ble_eq_true rfl) rfl ?_
      rw [D1.i 18 (by decide)]
      refine V_iaload2 136 dX12_count_136 (F1.m 19 (Nat.le_of_ble_eq_true rfl)) (F1.k 19 14 rfl) (F1.l 19 2 rfl) ?_ ?_
      · exact (by unfold vp_in; decide)
      rw [D1.room]
      refine V_iret 137 .int dX12_count_137 rfl rfl (Nat.le_of_ble_eq_true rfl) (Nat.le_of_ble_eq_true rfl) (RI.mk (by decide))
    ·
      refine V_tableIn 5 138 (off := 133) (x := nI 7) dX12_count_5 (by decide) (by decide) (by decide) (by decide) ?_
      refine V_aload_0 138 dX12_count_138 ?_
      refine V_getR 139 (c := 12) 32 (F1.r 0 32 20 rfl) dX12_count_139 fl_RX12_76 (F1.m 0 (Nat.le_of_ble_eq_true rfl)) (F1.k 0 12 rfl) (Nat.le_of_ble_eq_true rfl) (Nat.le_of_ble_eq_true rfl) rfl ?_
      refine V_aload_0 142 dX12_count_142 ?_
      refine V_getI 143 (c := 12) 18 dX12_count_143 fl_RX12_264 (F1.m 0 (Nat.le_of_ble_eq_true rfl)) (F1.k 0 12 rfl) (Nat.le_of_ble_eq_true rfl) (Nat.le_of_ble_eq_true rfl) rfl ?_
      rw [D1.i 18 (by decide)]
      refine V_iaload2 146 dX12_count_146 (F1.m 20 (Nat.le_of_ble_eq_true rfl)) (F1.k 20 14 rfl) (F1.l 20 2 rfl) ?_ ?_
      · exact (by unfold vp_in; decide)
      rw [D1.full]
      refine V_iret 147 .int dX12_count_147 rfl rfl (Nat.le_of_ble_eq_true rfl) (Nat.le_of_ble_eq_true rfl) (RI.mk (by decide))
    ·
      refine V_tableIn 5 148 (off := 143) (x := nI 8) dX12_count_5 (by decide) (by decide) (by decide) (by decide) ?_
      refine V_aload_0 148 dX12_count_148 ?_
      refine V_getR 149 (c := 12) 54 (F1.r 0 54 38 rfl) dX12_count_149 fl_RX12_131 (F1.m 0 (Nat.le_of_ble_eq_true rfl)) (F1.k 0 12 rfl) (Nat.le_of_ble_eq_true rfl) (Nat.le_of_ble_eq_true rfl) rfl ?_
      refine V_bipush 152 (24) dX12_count_152 (by decide) ?_
      refine V_iaload2 154 dX12_count_154 (F1.m 38 (Nat.le_of_ble_eq_true rfl)) (F1.k 38 14 rfl) (F1.l 38 30 rfl) ?_ ?_
      · exact (by unfold vp_in; decide)
      rw [D1.z 38 (by decide)]
      refine V_iret 155 .int dX12_count_155 rfl rfl (Nat.le_of_ble_eq_true rfl) (Nat.le_of_ble_eq_true rfl) (RI.mk (by decide))
    ·
      refine V_tableIn 5 156 (off := 151) (x := nI 9) dX12_count_5 (by decide) (by decide) (by decide) (by decide) ?_
      refine V_aload_0 156 dX12_count_156 ?_
      refine V_getR 157 (c := 12) 33 (F1.r 0 33 21 rfl) dX12_count_157 fl_RX12_79 (F1.m 0 (Nat.le_of_ble_eq_true rfl)) (F1.k 0 12 rfl) (Nat.le_of_ble_eq_true rfl) (Nat.le_of_ble_eq_true rfl) rfl ?_
      refine V_aload_0 160 dX12_count_160 ?_
      refine V_getI 161 (c := 12) 18 dX12_count_161 fl_RX12_264 (F1.m 0 (Nat.le_of_ble_eq_true rfl)) (F1.k 0 12 rfl) (Nat.le_of_ble_eq_true rfl) (Nat.le_of_ble_eq_true rfl) rfl ?_
      rw [D1.i 18 (by decide)]
      refine V_iaload2 164 dX12_count_164 (F1.m 21 (Nat.le_of_ble_eq_true rfl)) (F1.k 21 14 rfl) (F1.l 21 2 rfl) ?_ ?_
      · exact (by unfold vp_in; decide)
      rw [D1.o 21 (by decide)]
      refine V_iret 165 .int dX12_count_165 rfl rfl (Nat.le_of_ble_eq_true rfl) (Nat.le_of_ble_eq_true rfl) (RI.mk (by decide))
    ·
      refine V_tableIn 5 166 (off := 161) (x := nI 10) dX12_count_5 (by decide) (by decide) (by decide) (by decide) ?_
      refine V_aload_0 166 dX12_count_166 ?_
      refine V_getR 167 (c := 12) 30 (F1.r 0 30 18 rfl) dX12_count_167 fl_RX12_70 (F1.m 0 (Nat.le_of_ble_eq_true rfl)) (F1.k 0 12 rfl) (Nat.le_of_ble_eq_true rfl) (Nat.le_of_ble_eq_true rfl) rfl ?_
      refine V_aload_0 170 dX12_count_170 ?_
      refine V_getI 171 (c := 12) 18 dX12_count_171 fl_RX12_264 (F1.m 0 (Nat.le_of_ble_eq_true rfl)) (F1.k 0 12 rfl) (Nat.le_of_ble_eq_true rfl) (Nat.le_of_ble_eq_true rfl) rfl ?_
      rw [D1.i 18 (by decide)]
      refine V_iaload2 174 dX12_count_174 (F1.m 18 (Nat.le_of_ble_eq_true rfl)) (F1.k 18 14 rfl) (F1.l 18 2 rfl) ?_ ?_
      · exact (by unfold vp_in; decide)
      rw [D1.o 18 (by decide)]
      refine V_iret 175 .int dX12_count_175 rfl rfl (Nat.le_of_ble_eq_true rfl) (Nat.le_of_ble_eq_true rfl) (RI.mk (by decide))
    ·
      refine V_tableIn 5 176 (off := 171) (x := nI 11) dX12_count_5 (by decide) (by decide) (by decide) (by decide) ?_
      refine V_aload_0 176 dX12_count_176 ?_
      refine V_getI 177 (c := 12) 2 dX12_count_177 fl_RX12_197 (F1.m 0 (Nat.le_of_ble_eq_true rfl)) (F1.k 0 12 rfl) (Nat.le_of_ble_eq_true rfl) (Nat.le_of_ble_eq_true rfl) rfl ?_
      rw [D1.i 2 (by decide)]
      refine V_iret 180 .int dX12_count_180 rfl rfl (Nat.le_of_ble_eq_true rfl) (Nat.le_of_ble_eq_true rfl) (RI.mk (by decide))
    ·
      refine V_tableIn 5 181 (off := 176) (x := nI 12) dX12_count_5 (by decide) (by decide) (by decide) (by decide) ?_
      refine V_aload_0 181 dX12_count_181 ?_
      refine V_getI 182 (c := 12) 57 dX12_count_182 fl_RX12_279 (F1.m 0 (Nat.le_of_ble_eq_true rfl)) (F1.k 0 12 rfl) (Nat.le_of_ble_eq_true rfl) (Nat.le_of_ble_eq_true rfl) rfl ?_
      rw [D1.i 57 (by decide)]
      refine V_iret 185 .int dX12_count_185 rfl rfl (Nat.le_of_ble_eq_true rfl) (Nat.le_of_ble_eq_true rfl) (RI.mk (by decide))
    ·
      refine V_tableIn 5 186 (off := 181) (x := nI 13) dX12_count_5 (by decide) (by decide) (by decide) (by decide) ?_
      refine V_aload_0 186 dX12_count_186 ?_
      refine V_getI 187 (c := 12) 70 dX12_count_187 fl_RX12_282 (F1.m 0 (Nat.le_of_ble_eq_true rfl)) (F1.k 0 12 rfl) (Nat.le_of_ble_eq_true rfl) (Nat.le_of_ble_eq_true rfl) rfl ?_
      rw [D1.i 70 (by decide)]
      refine V_iret 190 .int dX12_count_190 rfl rfl (Nat.le_of_ble_eq_true rfl) (Nat.le_of_ble_eq_true rfl) (RI.mk (by decide))
    ·
      refine V_tableIn 5 191 (off := 186) (x := nI 14) dX12_count_5 (by decide) (by decide) (by decide) (by decide) ?_
      refine V_aload_0 191 dX12_count_191 ?_
      refine V_getR 192 (c := 12) 75 (F1.r 0 75 55 rfl) dX12_count_192 fl_RX12_183 (F1.m 0 (Nat.le_of_ble_eq_true rfl)) (F1.k 0 12 rfl) (Nat.le_of_ble_eq_true rfl) (Nat.le_of_ble_eq_true rfl) rfl ?_
      refine V_iconst 195 (0) dX12_count_195 (by decide) ?_
      refine V_zaload2 196 dX12_count_196 (F1.m 55 (Nat.le_of_ble_eq_true rfl)) (F1.k 55 16 rfl) (F1.l 55 3 rfl) ?_ ?_
      · exact (by unfold vp_in; decide)
      rw [z5]
      refine V_if_eq 197 204 dX12_count_197 (by decide) (fun _ => ?_) (fun q => absurd (by decide) q)
      refine V_iconst 204 (0) dX12_count_204 (by decide) ?_
      refine V_aload_0 205 dX12_count_205 ?_
      refine V_getR 206 (c := 12) 75 (F1.r 0 75 55 rfl) dX12_count_206 fl_RX12_183 (F1.m 0 (Nat.le_of_ble_eq_true rfl)) (F1.k 0 12 rfl) (Nat.le_of_ble_eq_true rfl) (Nat.le_of_ble_eq_true rfl) rfl ?_
      refine V_iconst 209 (1) dX12_count_209 (by decide) ?_
      refine V_zaload2 210 dX12_count_210 (F1.m 55 (Nat.le_of_ble_eq_true rfl)) (F1.k 55 16 rfl) (F1.l 55 3 rfl) ?_ ?_
      · exact (by unfold vp_in; decide)
      rw [z5]
      refine V_if_eq 211 218 dX12_count_211 (by decide) (fun _ => ?_) (fun q => absurd (by decide) q)
      refine V_iconst 218 (0) dX12_count_218 (by decide) ?_
      refine V_iadd 219 dX12_count_219 ?_
      refine V_aload_0 220 dX12_count_220 ?_
      refine V_getR 221 (c := 12) 75 (F1.r 0 75 55 rfl) dX12_count_221 fl_RX12_183 (F1.m 0 (Nat.le_of_ble_eq_true rfl)) (F1.k 0 12 rfl) (Nat.le_of_ble_eq_true rfl) (Nat.le_of_ble_eq_true rfl) rfl ?_
      refine V_iconst 224 (2) dX12_count_224 (by decide) ?_
      refine V_zaload2 225 dX12_count_225 (F1.m 55 (Nat.le_of_ble_eq_true rfl)) (F1.k 55 16 rfl) (F1.l 55 3 rfl) ?_ ?_
      · exact (by unfold vp_in; decide)
      rw [z5]
      refine V_if_eq 226 233 dX12_count_226 (by decide) (fun _ => ?_) (fun q => absurd (by decide) q)
      refine V_iconst 233 (0) dX12_count_233 (by decide) ?_
      refine V_iadd 234 dX12_count_234 ?_
      refine V_iret 235 .int dX12_count_235 rfl rfl (Nat.le_of_ble_eq_true rfl) (Nat.le_of_ble_eq_true rfl) (RI.mk (by decide))

