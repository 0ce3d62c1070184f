/-! The reference's reading: the steps -/
/-- a fault now, the token's place the same; or no fault before and now, one token on -/
def ADV (m t : Nat) (S S2 : PS) (Q : Prop) : Prop := (0 < sI S2 m 13 ∧ sI S2 m 11 = nI t) ∨ (sI S m 13 = 0 ∧ sI S2 m 13 = 0 ∧ t < 400 ∧ sI S2 m 11 = nI (t + 1) ∧ Q)
/-- what is wrong stays so -/
def WMN (m : Nat) (S S2 : PS) : Prop := (¬ sI S m 15 = 0 → ¬ sI S2 m 15 = 0) ∧ (0 ≤ sI S m 15 → 0 ≤ sI S2 m 15)
set_option maxRecDepth 100000 in
set_option maxHeartbeats 8000000 in
theorem s_mis (l : Launch) (Γ : GC) (S : PS) {m t : Nat} (F : isL lyModel Γ.2.2.2.2.1 S m) (et : sI S m 11 = nI t) (ht : t ≤ 400) (x : Int32) : CT l Γ yX12_is cX12_is 2 (some .boolean) (0) (0) (0) [.ref m, .int x] S (RI (fun r S' => ((r = 0 ∧ ¬ (sI S m 13 = 0 ∧ sA S (m + 3) t = x)) ∨ (r = 1 ∧ sI S m 13 = 0 ∧ sA S (m + 3) t = x)) ∧ S' = S)) := by
  refine CT.of RX12 "is" [some (.ref m), some (.int x)] (by decide +kernel) rfl rfl (Nat.le_of_ble_eq_true rfl) rfl (fun M hM => ?_)
  subst hM
  have J24 : ¬ (sI S m 13 = 0 ∧ sA S (m + 3) t = x) → V M Γ (2, RX12, "is", (some .boolean), RM (0) (0) (0)) cX12_is (RQ M Γ (RI (fun r S' => ((r = 0 ∧ ¬ (sI S m 13 = 0 ∧ sA S (m + 3) t = x)) ∨ (r = 1 ∧ sI S m 13 = 0 ∧ sA S (m + 3) t = x)) ∧ S' = S)) (0) (0)) 0 0 S 24 [some (.ref m), some (.int x)] [] := by
    intro hn
    refine V_iconst 24 (0) dX12_is_24 (by decide) ?_
    refine V_iret 25 .boolean dX12_is_25 rfl (nrwB (Or.inl rfl)) (Nat.le_of_ble_eq_true rfl) (Nat.le_of_ble_eq_true rfl) (RI.mk ⟨Or.inl ⟨rfl, hn⟩, rfl⟩)
  refine V_aload_0 0 dX12_is_0 ?_
  refine V_getI 1 (c := 12) 13 dX12_is_1 fl_RX12_234 (F.m 0 (Nat.le_of_ble_eq_true rfl)) (F.k 0 12 rfl) (Nat.le_of_ble_eq_true rfl) (Nat.le_of_ble_eq_true rfl) rfl ?_
  refine V_if_ne 4 24 dX12_is_4 (by decide) (fun c => ?_) (fun c => ?_)
  · exact J24 (fun q => c q.1)
  ·
    refine V_aload_0 7 dX12_is_7 ?_
    refine V_getR 8 (c := 12) 5 (F.r 0 5 3 rfl) dX12_is_8 fl_RX12_20 (F.m 0 (Nat.le_of_ble_eq_true rfl)) (F.k 0 12 rfl) (Nat.le_of_ble_eq_true rfl) (Nat.le_of_ble_eq_true rfl) rfl ?_
    refine V_aload_0 11 dX12_is_11 ?_
    refine V_getI 12 (c := 12) 11 dX12_is_12 fl_RX12_237 (F.m 0 (Nat.le_of_ble_eq_true rfl)) (F.k 0 12 rfl) (Nat.le_of_ble_eq_true rfl) (Nat.le_of_ble_eq_true rfl) rfl ?_
    rw [et]
    refine V_iaload2 15 dX12_is_15 (F.m 3 (Nat.le_of_ble_eq_true rfl)) (F.k 3 14 rfl) (F.l 3 403 rfl) ?_ ?_
    · exact vp_in_nI (by omega) (by decide)
    refine V_iload_1 16 dX12_is_16 ?_
    rw [nI_clamp (by omega)]
    refine V_icmp_ne 17 24 dX12_is_17 (by decide) (fun c2 => ?_) (fun c2 => ?_)
    · exact J24 (fun q => c2 q.2)
    ·
      refine V_iconst 20 (1) dX12_is_20 (by decide) ?_
      refine V_goto 21 25 dX12_is_21 (by decide) ?_
      refine V_iret 25 .boolean dX12_is_25 rfl (nrwB (Or.inr rfl)) (Nat.le_of_ble_eq_true rfl) (Nat.le_of_ble_eq_true rfl) (RI.mk ⟨Or.inr ⟨rfl, c, c2⟩, rfl⟩)
set_option maxRecDepth 100000 in
set_option maxHeartbeats 8000000 in
theorem s_mfail (l : Launch) (Γ : GC) (S : PS) {m t : Nat} (F : isL lyModel Γ.2.2.2.2.1 S m) (et : sI S m 11 = nI t) (ht : t ≤ 400) (x : Int32) (hx : 0 < x) : CT l Γ yX12_fail cX12_fail 2 none (0) (0) (0) [.ref m, .int x] S (RV (fun S' => FZ [] [(m, 13), (m, 14)] S S' ∧ 0 < sI S' m 13)) := by
  refine CT.of RX12 "fail" [some (.ref m), some (.int x)] (by decide +kernel) rfl rfl (Nat.le_of_ble_eq_true rfl) rfl (fun M hM => ?_)
  subst hM
  refine V_aload_0 0 dX12_fail_0 ?_
  refine V_getI 1 (c := 12) 13 dX12_fail_1 fl_RX12_234 (F.m 0 (Nat.le_of_ble_eq_true rfl)) (F.k 0 12 rfl) (Nat.le_of_ble_eq_true rfl) (Nat.le_of_ble_eq_true rfl) rfl ?_
  refine V_if_le 4 8 dX12_fail_4 (by decide) (fun c => ?_) (fun c => ?_)
  ·
    refine V_aload_0 8 dX12_fail_8 ?_
    refine V_iload_1 9 dX12_fail_9 ?_
    refine V_putI 10 (c := 12) 13 dX12_fail_10 fl_RX12_234 (F.m 0 (Nat.le_of_ble_eq_true rfl)) (F.k 0 12 rfl) (Nat.le_of_ble_eq_true rfl) (Nat.le_of_ble_eq_true rfl) rfl (Or.inl rfl) ?_
    refine V_aload_0 13 dX12_fail_13 ?_
    refine V_aload_0 14 dX12_fail_14 ?_
    refine V_getR 15 (c := 12) 6 (F.r 0 6 4 rfl) dX12_fail_15 fl_RX12_24 (F.m 0 (Nat.le_of_ble_eq_true rfl)) (F.k 0 12 rfl) (Nat.le_of_ble_eq_true rfl) (Nat.le_of_ble_eq_true rfl) rfl ?_
    refine V_aload_0 18 dX12_fail_18 ?_
    refine V_getI 19 (c := 12) 11 dX12_fail_19 fl_RX12_237 (F.m 0 (Nat.le_of_ble_eq_true rfl)) (F.k 0 12 rfl) (Nat.le_of_ble_eq_true rfl) (Nat.le_of_ble_eq_true rfl) rfl ?_
    rw [show sI (uI S m 13 x) m 11 = nI t from (up2_k _ _ (by decide)).trans et]
    refine V_iaload2 22 dX12_fail_22 (F.m 4 (Nat.le_of_ble_eq_true rfl)) (F.k 4 14 rfl) (F.l 4 403 rfl) ?_ ?_
    · exact vp_in_nI (by omega) (by decide)
    refine V_putI 23 (c := 12) 14 dX12_fail_23 fl_RX12_240 (F.m 0 (Nat.le_of_ble_eq_true rfl)) (F.k 0 12 rfl) (Nat.le_of_ble_eq_true rfl) (Nat.le_of_ble_eq_true rfl) rfl (Or.inl rfl) ?_
    refine V_vret 26 dX12_fail_26 rfl (Nat.le_of_ble_eq_true rfl) (Nat.le_of_ble_eq_true rfl) (RV.mk ⟨(FZ.rf.uI (by simp)).uI (by simp), ?_⟩)
    show 0 < up2 (up2 (sI S) m 13 x) m 14 _ m 13
    rw [up2_k _ _ (by decide), up2_s]
    exact hx
  ·
    refine V_vret 7 dX12_fail_7 rfl (Nat.le_of_ble_eq_true rfl) (Nat.le_of_ble_eq_true rfl) (RV.mk ⟨FZ.rf, Int32.not_le.mp c⟩)
set_option maxRecDepth 100000 in
set_option maxHeartbeats 8000000 in
theorem s_mgoesOn (l : Launch) (Γ : GC) (S : PS) {m t : Nat} (F : isL lyModel Γ.2.2.2.2.1 S m) (et : sI S m 11 = nI t) (ht : t ≤ 400) : CT l Γ yX12_goesOn cX12_goesOn 1 none (1) (0) (0) [.ref m] S (RV (fun S' => FZ [] [(m, 11), (m, 13), (m, 14)] S S' ∧ ((0 < sI S' m 13 ∧ sI S' m 11 = nI t) ∨ (sI S' m 13 = sI S m 13 ∧ t < 400 ∧ sI S' m 11 = nI (t + 1))))) := by
  refine CT.of RX12 "goesOn" [some (.ref m)] (by decide +kernel) rfl rfl (Nat.le_of_ble_eq_true rfl) rfl (fun M hM => ?_)
  subst hM
  refine V_aload_0 0 dX12_goesOn_0 ?_
  refine V_getI 1 (c := 12) 11 dX12_goesOn_1 fl_RX12_237 (F.m 0 (Nat.le_of_ble_eq_true rfl)) (F.k 0 12 rfl) (Nat.le_of_ble_eq_true rfl) (Nat.le_of_ble_eq_true rfl) rfl ?_
  rw [et]
  refine V_sipush 4 (400) dX12_goesOn_4 (by decide) ?_
  refine V_icmp_ne 7 18 dX12_goesOn_7 (by decide) (fun c => ?_) (fun c => ?_)
  · have c2 := mt (nI_eqE (Eq.refl (nI t)) (show (400 : Int32) = nI 400 from rfl) (by omega) (by omega)).mpr c
    refine V_aload_0 18 dX12_goesOn_18 ?_
    refine V_dup 19 dX12_goesOn_19 rfl ?_
    refine V_getI 20 (c := 12) 11 dX12_goesOn_20 fl_RX12_237 (F.m 0 (Nat.le_of_ble_eq_true rfl)) (F.k 0 12 rfl) (Nat.le_of_ble_eq_true rfl) (Nat.le_of_ble_eq_true rfl) rfl ?_
    rw [et]
    refine V_iconst 23 (1) dX12_goesOn_23 (by decide) ?_
    refine V_iadd 24 dX12_goesOn_24 ?_
    refine V_putI 25 (c := 12) 11 dX12_goesOn_25 fl_RX12_237 (F.m 0 (Nat.le_of_ble_eq_true rfl)) (F.k 0 12 rfl) (Nat.le_of_ble_eq_true rfl) (Nat.le_of_ble_eq_true rfl) rfl (Or.inl rfl) ?_
    refine V_vret 28 dX12_goesOn_28 rfl (Nat.le_of_ble_eq_true rfl) (Nat.le_of_ble_eq_true rfl) (RV.mk ⟨FZ.rf.uI (by simp), Or.inr ⟨up2_k _ _ (by decide), by omega, (up2_s _ _ _ _).trans (nI_1 t)⟩⟩)
  ·
    refine V_aload_0 10 dX12_goesOn_10 ?_
    refine V_iconst 11 (2) dX12_goesOn_11 (by decide) ?_
    refine V_callV 12 (ci := 12) [.int _] _ (s_mfail M.2.1 Γ S F et ht _ (by decide)) dX12_goesOn_12 cb_X12_fail ml_RX12_249 im_yX12_fail se_yX12_fail (F.m 0 (Nat.le_of_ble_eq_true rfl)) (F.k 0 12 rfl) (Nat.le_of_ble_eq_true rfl) ⟨(Nat.le_of_ble_eq_true rfl), (Nat.le_of_ble_eq_true rfl)⟩ rfl rfl (Nat.le_of_ble_eq_true rfl) ⟨(Nat.le_of_ble_eq_true rfl), (Nat.le_of_ble_eq_true rfl)⟩ (RV.go (fun S1 h1 => ?_))
    refine V_goto 15 28 dX12_goesOn_15 (by decide) ?_
    refine V_vret 28 dX12_goesOn_28 rfl (Nat.le_of_ble_eq_true rfl) (Nat.le_of_ble_eq_true rfl) (RV.mk ⟨h1.1.sub (by simp) (by simp), Or.inl ⟨h1.2, (h1.1.2.2 m 11 (by simp)).trans et⟩⟩)
set_option maxRecDepth 100000 in
set_option maxHeartbeats 8000000 in
theorem s_mmust (l : Launch) (Γ : GC) (S : PS) {m t : Nat} (F : isL lyModel Γ.2.2.2.2.1 S m) (et : sI S m 11 = nI t) (ht : t ≤ 400) (x : Int32) : CT l Γ yX12_must cX12_must 2 none (2) (0) (0) [.ref m, .int x] S (RV (fun S' => FZ [] [(m, 11), (m, 13), (m, 14)] S S' ∧ ADV m t S S' (sA S (m + 3) t = x))) := by
  refine CT.of RX12 "must" [some (.ref m), some (.int x)] (by decide +kernel) rfl rfl (Nat.le_of_ble_eq_true rfl) rfl (fun M hM => ?_)
  subst hM
  refine V_aload_0 0 dX12_must_0 ?_
  refine V_iload_1 1 dX12_must_1 ?_
  refine V_callV 2 (ci := 12) [.int _] _ (s_mis M.2.1 Γ S F et ht _) dX12_must_2 cb_X12_is ml_RX12_252 im_yX12_is se_yX12_is (F.m 0 (Nat.le_of_ble_eq_true rfl)) (F.k 0 12 rfl) (Nat.le_of_ble_eq_true rfl) ⟨(Nat.le_of_ble_eq_true rfl), (Nat.le_of_ble_eq_true rfl)⟩ rfl rfl (Nat.le_of_ble_eq_true rfl) ⟨(Nat.le_of_ble_eq_true rfl), (Nat.le_of_ble_eq_true rfl)⟩ (RI.go (fun r1 S1 q1 => ?_))
  rw [q1.2]
  have q1 := q1.1
  refine V_if_eq 5 15 dX12_must_5 (by decide) (fun c => ?_) (fun c => ?_)
  ·
    refine V_aload_0 15 dX12_must_15 ?_
    refine V_iconst 16 (1) dX12_must_16 (by decide) ?_
    refine V_callV 17 (ci := 12) [.int _] _ (s_mfail M.2.1 Γ S F et ht _ (by decide)) dX12_must_17 cb_X12_fail ml_RX12_249 im_yX12_fail se_yX12_fail (F.m 0 (Nat.le_of_ble_eq_true rfl)) (F.k 0 12 rfl) (Nat.le_of_ble_eq_true rfl) ⟨(Nat.le_of_ble_eq_true rfl), (Nat.le_of_ble_eq_true rfl)⟩ rfl rfl (Nat.le_of_ble_eq_true rfl) ⟨(Nat.le_of_ble_eq_true rfl), (Nat.le_of_ble_eq_true rfl)⟩ (RV.go (fun S2 h2 => ?_))
    refine V_vret 20 dX12_must_20 rfl (Nat.le_of_ble_eq_true rfl) (Nat.le_of_ble_eq_true rfl) (RV.mk ⟨h2.1.sub (by simp) (by simp), Or.inl ⟨h2.2, (h2.1.2.2 m 11 (by simp)).trans et⟩⟩)
  · have q2 := q1.resolve_left (fun q => c q.1)
    refine V_aload_0 8 dX12_must_8 ?_
    refine V_callV 9 (ci := 12) [] _ (s_mgoesOn M.2.1 Γ S F et ht) dX12_must_9 cb_X12_goesOn ml_RX12_255 im_yX12_goesOn se_yX12_goesOn (F.m 0 (Nat.le_of_ble_eq_true rfl)) (F.k 0 12 rfl) (Nat.le_of_ble_eq_true rfl) ⟨(Nat.le_of_ble_eq_true rfl), (Nat.le_of_ble_eq_true rfl)⟩ rfl rfl (Nat.le_of_ble_eq_true rfl) ⟨(Nat.le_of_ble_eq_true rfl), (Nat.le_of_ble_eq_true rfl)⟩ (RV.go (fun S2 h2 => ?_))
    refine V_goto 12 20 dX12_must_12 (by decide) ?_
    refine V_vret 20 dX12_must_20 rfl (Nat.le_of_ble_eq_true rfl) (Nat.le_of_ble_eq_true rfl) (RV.mk ⟨h2.1, h2.2.imp id (fun q => ⟨q2.2.1, q.1.trans q2.2.1, q.2.1, q.2.2, q2.2.2⟩)⟩)
set_option maxRecDepth 100000 in
set_option maxHeartbeats 8000000 in
theorem s_mwrong (l : Launch) (Γ : GC) (S : PS) {m k : Nat} (F : isL lyModel Γ.2.2.2.2.1 S m) (hk : k ≤ 402) (x : Int32) (hx : 0 < x) : CT l Γ yX12_wrong cX12_wrong 4 none (0) (0) (0) [.ref m, .int x, .int (nI k)] S (RV (fun S' => FZ [] [(m, 15), (m, 16)] S S' ∧ (¬ sI S' m 15 = 0 ∨ 0 < sI S m 13) ∧ WMN m S S')) := by
  refine CT.of RX12 "wrong" [some (.ref m), some (.int x), some (.int (nI k)), none] (by decide +kernel) rfl rfl (Nat.le_of_ble_eq_true rfl) rfl (fun M hM => ?_)
  subst hM
  have J46 : ∀ (v : Int32), V M Γ (4, RX12, "wrong", none, RM (0) (0) (0)) cX12_wrong (RQ M Γ (RV (fun S' => FZ [] [(m, 15), (m, 16)] S S' ∧ (¬ sI S' m 15 = 0 ∨ 0 < sI S m 13) ∧ WMN m S S')) (0) (0)) 0 0 S 46 [some (.ref m), some (.int x), some (.int (nI k)), some (.int v)] [] := by
    intro v
    refine V_aload_0 46 dX12_wrong_46 ?_
    refine V_iload_1 47 dX12_wrong_47 ?_
    refine V_putI 48 (c := 12) 15 dX12_wrong_48 fl_RX12_243 (F.m 0 (Nat.le_of_ble_eq_true rfl)) (F.k 0 12 rfl) (Nat.le_of_ble_eq_true rfl) (Nat.le_of_ble_eq_true rfl) rfl (Or.inl rfl) ?_
    refine V_aload_0 51 dX12_wrong_51 ?_
    refine V_iload_3 52 dX12_wrong_52 ?_
    refine V_putI 53 (c := 12) 16 dX12_wrong_53 fl_RX12_246 (F.m 0 (Nat.le_of_ble_eq_true rfl)) (F.k 0 12 rfl) (Nat.le_of_ble_eq_true rfl) (Nat.le_of_ble_eq_true rfl) rfl (Or.inl rfl) ?_
    have e : sI (uI (uI S m 15 x) m 16 v) m 15 = x := by
      show up2 (up2 (sI S) m 15 x) m 16 v m 15 = x
      rw [up2_k _ _ (by decide), up2_s]
    refine V_vret 56 dX12_wrong_56 rfl (Nat.le_of_ble_eq_true rfl) (Nat.le_of_ble_eq_true rfl) (RV.mk ⟨(FZ.rf.uI (by simp)).uI (by simp), Or.inl (by rw [e]; exact fun q => absurd (q ▸ hx) (by decide)), fun _ => by rw [e]; exact fun q => absurd (q ▸ hx) (by decide), fun _ => by rw [e]; exact Int32.le_of_lt hx⟩)
  refine V_aload_0 0 dX12_wrong_0 ?_
  refine V_getR 1 (c := 12) 6 (F.r 0 6 4 rfl) dX12_wrong_1 fl_RX12_24 (F.m 0 (Nat.le_of_ble_eq_true rfl)) (F.k 0 12 rfl) (Nat.le_of_ble_eq_true rfl) (Nat.le_of_ble_eq_true rfl) rfl ?_
  refine V_iload_2 4 dX12_wrong_4 ?_
  refine V_iaload2 5 dX12_wrong_5 (F.m 4 (Nat.le_of_ble_eq_true rfl)) (F.k 4 14 rfl) (F.l 4 403 rfl) ?_ ?_
  · exact vp_in_nI (by omega) (by decide)
  refine V_istore_3 6 dX12_wrong_6 rfl (Nat.le_of_ble_eq_true rfl) ?_
  refine V_aload_0 7 dX12_wrong_7 ?_
  refine V_getI 8 (c := 12) 13 dX12_wrong_8 fl_RX12_234 (F.m 0 (Nat.le_of_ble_eq_true rfl)) (F.k 0 12 rfl) (Nat.le_of_ble_eq_true rfl) (Nat.le_of_ble_eq_true rfl) rfl ?_
  refine V_if_gt 11 45 dX12_wrong_11 (by decide) (fun c => ?_) (fun c => ?_)
  ·
    refine V_vret 45 dX12_wrong_45 rfl (Nat.le_of_ble_eq_true rfl) (Nat.le_of_ble_eq_true rfl) (RV.mk ⟨FZ.rf, Or.inr c, fun q => q, fun q => q⟩)
  ·
    refine V_aload_0 14 dX12_wrong_14 ?_
    refine V_getI 15 (c := 12) 15 dX12_wrong_15 fl_RX12_243 (F.m 0 (Nat.le_of_ble_eq_true rfl)) (F.k 0 12 rfl) (Nat.le_of_ble_eq_true rfl) (Nat.le_of_ble_eq_true rfl) rfl ?_
    refine V_if_eq 18 46 dX12_wrong_18 (by decide) (fun c2 => ?_) (fun c2 => ?_)
    · exact J46 _
    · have J45 : ∀ (v : Int32), V M Γ (4, RX12, "wrong", none, RM (0) (0) (0)) cX12_wrong (RQ M Γ (RV (fun S' => FZ [] [(m, 15), (m, 16)] S S' ∧ (¬ sI S' m 15 = 0 ∨ 0 < sI S m 13) ∧ WMN m S S')) (0) (0)) 0 0 S 45 [some (.ref m), some (.int x), some (.int (nI k)), some (.int v)] [] := by
        intro v
        refine V_vret 45 dX12_wrong_45 rfl (Nat.le_of_ble_eq_true rfl) (Nat.le_of_ble_eq_true rfl) (RV.mk ⟨FZ.rf, Or.inl c2, fun q => q, fun q => q⟩)
      refine V_iload_3 21 dX12_wrong_21 ?_
      refine V_aload_0 22 dX12_wrong_22 ?_
      refine V_getI 23 (c := 12) 16 dX12_wrong_23 fl_RX12_246 (F.m 0 (Nat.le_of_ble_eq_true rfl)) (F.k 0 12 rfl) (Nat.le_of_ble_eq_true rfl) (Nat.le_of_ble_eq_true rfl) rfl ?_
      refine V_icmp_gt 26 45 dX12_wrong_26 (by decide) (fun c3 => ?_) (fun c3 => ?_)
      · exact J45 _
      ·
        refine V_iload_3 29 dX12_wrong_29 ?_
        refine V_aload_0 30 dX12_wrong_30 ?_
        refine V_getI 31 (c := 12) 16 dX12_wrong_31 fl_RX12_246 (F.m 0 (Nat.le_of_ble_eq_true rfl)) (F.k 0 12 rfl) (Nat.le_of_ble_eq_true rfl) (Nat.le_of_ble_eq_true rfl) rfl ?_
        refine V_icmp_ne 34 46 dX12_wrong_34 (by decide) (fun c4 => ?_) (fun c4 => ?_)
        · exact J46 _
        ·
          refine V_iload_1 37 dX12_wrong_37 ?_
          refine V_aload_0 38 dX12_wrong_38 ?_
          refine V_getI 39 (c := 12) 15 dX12_wrong_39 fl_RX12_243 (F.m 0 (Nat.le_of_ble_eq_true rfl)) (F.k 0 12 rfl) (Nat.le_of_ble_eq_true rfl) (Nat.le_of_ble_eq_true rfl) rfl ?_
          refine V_icmp_lt 42 46 dX12_wrong_42 (by decide) (fun c5 => ?_) (fun c5 => ?_)
          · exact J46 _
          · exact J45 _
set_option maxRecDepth 100000 in
set_option maxHeartbeats 8000000 in
theorem s_mbounded (l : Launch) (Γ : GC) (S : PS) {m t : Nat} (F : isL lyModel Γ.2.2.2.2.1 S m) (et : sI S m 11 = nI t) (ht : t ≤ 400) (x y : Int32) : CT l Γ yX12_bounded cX12_bounded 4 (some .int) (2) (0) (0) [.ref m, .int x, .int y] S (RI (fun r S' => FZ [] [(m, 11), (m, 13), (m, 14), (m, 15), (m, 16)] S S' ∧ WMN m S S' ∧ ADV m t S S' ((x ≤ r ∧ r ≤ y) ∨ ¬ sI S' m 15 = 0))) := by
  refine CT.of RX12 "bounded" [some (.ref m), some (.int x), some (.int y), none] (by decide +kernel) rfl rfl (Nat.le_of_ble_eq_true rfl) rfl (fun M hM => ?_)
  subst hM
  have J15 : V M Γ (4, RX12, "bounded", (some .int), RM (2) (0) (0)) cX12_bounded (RQ M Γ (RI (fun r S' => FZ [] [(m, 11), (m, 13), (m, 14), (m, 15), (m, 16)] S S' ∧ WMN m S S' ∧ ADV m t S S' ((x ≤ r ∧ r ≤ y) ∨ ¬ sI S' m 15 = 0))) (0) (0)) 0 0 S 15 [some (.ref m), some (.int x), some (.int y), none] [] := by
    refine V_aload_0 15 dX12_bounded_15 ?_
    refine V_iconst 16 (1) dX12_bounded_16 (by decide) ?_
    refine V_callV 17 (ci := 12) [.int _] _ (s_mfail M.2.1 Γ S F et ht _ (by decide)) dX12_bounded_17 cb_X12_fail ml_RX12_249 im_yX12_fail se_yX12_fail (F.m 0 (Nat.le_of_ble_eq_true rfl)) (F.k 0 12 rfl) (Nat.le_of_ble_eq_true rfl) ⟨(Nat.le_of_ble_eq_true rfl), (Nat.le_of_ble_eq_true rfl)⟩ rfl rfl (Nat.le_of_ble_eq_true rfl) ⟨(Nat.le_of_ble_eq_true rfl), (Nat.le_of_ble_eq_true rfl)⟩ (RV.go (fun S2 h2 => ?_))
    refine V_iload_1 20 dX12_bounded_20 ?_
    refine V_iret 21 .int dX12_bounded_21 rfl rfl (Nat.le_of_ble_eq_true rfl) (Nat.le_of_ble_eq_true rfl) (RI.mk ⟨h2.1.sub (by simp) (by simp), ⟨fun q => by rw [h2.1.2.2 m 15 (by simp)]; exact q, fun q => by rw [h2.1.2.2 m 15 (by simp)]; exact q⟩, Or.inl ⟨h2.2, (h2.1.2.2 m 11 (by simp)).trans et⟩⟩)
  refine V_aload_0 0 dX12_bounded_0 ?_
  refine V_getI 1 (c := 12) 13 dX12_bounded_1 fl_RX12_234 (F.m 0 (Nat.le_of_ble_eq_true rfl)) (F.k 0 12 rfl) (Nat.le_of_ble_eq_true rfl) (Nat.le_of_ble_eq_true rfl) rfl ?_
  refine V_if_gt 4 15 dX12_bounded_4 (by decide) (fun c => ?_) (fun c => ?_)
  · exact J15
  ·
    refine V_aload_0 7 dX12_bounded_7 ?_
    refine V_iconst 8 (2) dX12_bounded_8 (by decide) ?_
    refine V_callV 9 (ci := 12) [.int _] _ (s_mis M.2.1 Γ S F et ht _) dX12_bounded_9 cb_X12_is ml_RX12_252 im_yX12_is se_yX12_is (F.m 0 (Nat.le_of_ble_eq_true rfl)) (F.k 0 12 rfl) (Nat.le_of_ble_eq_true rfl) ⟨(Nat.le_of_ble_eq_true rfl), (Nat.le_of_ble_eq_true rfl)⟩ rfl rfl (Nat.le_of_ble_eq_true rfl) ⟨(Nat.le_of_ble_eq_true rfl), (Nat.le_of_ble_eq_true rfl)⟩ (RI.go (fun r1 S1 q1 => ?_))
    rw [q1.2]
    have q1 := q1.1
    refine V_if_ne 12 22 dX12_bounded_12 (by decide) (fun c2 => ?_) (fun c2 => ?_)
    · have q2 := q1.resolve_left (fun q => c2 q.1)
      have J51 : ∀ (T : PS) (v : Int32), FZ [] [(m, 15), (m, 16)] S T → WMN m S T → ((x ≤ v ∧ v ≤ y) ∨ ¬ sI T m 15 = 0) → V M Γ (4, RX12, "bounded", (some .int), RM (2) (0) (0)) cX12_bounded (RQ M Γ (RI (fun r S' => FZ [] [(m, 11), (m, 13), (m, 14), (m, 15), (m, 16)] S S' ∧ WMN m S S' ∧ ADV m t S S' ((x ≤ r ∧ r ≤ y) ∨ ¬ sI S' m 15 = 0))) (0) (0)) 0 0 T 51 [some (.ref m), some (.int x), some (.int y), some (.int v)] [] := by
        intro T v e w hv
        have FT9 := F.ss e.1
        refine V_aload_0 51 dX12_bounded_51 ?_
        refine V_callV 52 (ci := 12) [] _ (s_mgoesOn M.2.1 Γ T FT9 ((e.2.2 m 11 (by simp)).trans et) ht) dX12_bounded_52 cb_X12_goesOn ml_RX12_255 im_yX12_goesOn se_yX12_goesOn (FT9.m 0 (Nat.le_of_ble_eq_true rfl)) (FT9.k 0 12 rfl) (Nat.le_of_ble_eq_true rfl) ⟨(Nat.le_of_ble_eq_true rfl), (Nat.le_of_ble_eq_true rfl)⟩ rfl rfl (Nat.le_of_ble_eq_true rfl) ⟨(Nat.le_of_ble_eq_true rfl), (Nat.le_of_ble_eq_true rfl)⟩ (RV.go (fun S2 h2 => ?_))
        refine V_iload_3 55 dX12_bounded_55 ?_
        have e15 : sI S2 m 15 = sI T m 15 := h2.1.2.2 m 15 (by simp)
        refine V_iret 56 .int dX12_bounded_56 rfl rfl (Nat.le_of_ble_eq_true rfl) (Nat.le_of_ble_eq_true rfl) (RI.mk ⟨(e.sub (by simp) (by simp)).tr (h2.1.sub (by simp) (by simp)), ⟨fun q => by rw [e15]; exact w.1 q, fun q => by rw [e15]; exact w.2 q⟩, h2.2.imp id (fun q => ⟨q2.2.1, (q.1.trans (e.2.2 m 13 (by simp))).trans q2.2.1, q.2.1, q.2.2, by rw [e15]; exact hv⟩)⟩)
      refine V_aload_0 22 dX12_bounded_22 ?_
      refine V_getR 23 (c := 12) 7 (F.r 0 7 5 rfl) dX12_bounded_23 fl_RX12_27 (F.m 0 (Nat.le_of_ble_eq_true rfl)) (F.k 0 12 rfl) (Nat.le_of_ble_eq_true rfl) (Nat.le_of_ble_eq_true rfl) rfl ?_
      refine V_aload_0 26 dX12_bounded_26 ?_
      refine V_getI 27 (c := 12) 11 dX12_bounded_27 fl_RX12_237 (F.m 0 (Nat.le_of_ble_eq_true rfl)) (F.k 0 12 rfl) (Nat.le_of_ble_eq_true rfl) (Nat.le_of_ble_eq_true rfl) rfl ?_
      rw [et]
      refine V_iaload2 30 dX12_bounded_30 (F.m 5 (Nat.le_of_ble_eq_true rfl)) (F.k 5 14 rfl) (F.l 5 403 rfl) ?_ ?_
      · exact vp_in_nI (by omega) (by decide)
      refine V_istore_3 31 dX12_bounded_31 rfl (Nat.le_of_ble_eq_true rfl) ?_
      rw [nI_clamp (by omega)]
      have J42 : ∀ (v : Int32), V M Γ (4, RX12, "bounded", (some .int), RM (2) (0) (0)) cX12_bounded (RQ M Γ (RI (fun r S' => FZ [] [(m, 11), (m, 13), (m, 14), (m, 15), (m, 16)] S S' ∧ WMN m S S' ∧ ADV m t S S' ((x ≤ r ∧ r ≤ y) ∨ ¬ sI S' m 15 = 0))) (0) (0)) 0 0 S 42 [some (.ref m), some (.int x), some (.int y), some (.int v)] [] := by
        intro v
        refine V_aload_0 42 dX12_bounded_42 ?_
        refine V_iconst 43 (5) dX12_bounded_43 (by decide) ?_
        refine V_aload_0 44 dX12_bounded_44 ?_
        refine V_getI 45 (c := 12) 11 dX12_bounded_45 fl_RX12_237 (F.m 0 (Nat.le_of_ble_eq_true rfl)) (F.k 0 12 rfl) (Nat.le_of_ble_eq_true rfl) (Nat.le_of_ble_eq_true rfl) rfl ?_
        rw [et]
        refine V_callV 48 (ci := 12) [.int _, .int _] _ (s_mwrong M.2.1 Γ S F (k := t) (by omega) _ (by decide)) dX12_bounded_48 cb_X12_wrong ml_RX12_304 im_yX12_wrong se_yX12_wrong (F.m 0 (Nat.le_of_ble_eq_true rfl)) (F.k 0 12 rfl) (Nat.le_of_ble_eq_true rfl) ⟨(Nat.le_of_ble_eq_true rfl), (Nat.le_of_ble_eq_true rfl)⟩ rfl rfl (Nat.le_of_ble_eq_true rfl) ⟨(Nat.le_of_ble_eq_true rfl), (Nat.le_of_ble_eq_true rfl)⟩ (RV.go (fun S3 h3 => ?_))
        refine J51 S3 v h3.1 h3.2.2 (Or.inr (h3.2.1.resolve_right (fun q => ?_)))
        rw [q2.2.1] at q
        exact absurd q (by decide)
      refine V_iload_3 32 dX12_bounded_32 ?_
      refine V_iload_1 33 dX12_bounded_33 ?_
      refine V_icmp_lt 34 42 dX12_bounded_34 (by decide) (fun c3 => ?_) (fun c3 => ?_)
      · exact J42 _
      ·
        refine V_iload_3 37 dX12_bounded_37 ?_
        refine V_iload_2 38 dX12_bounded_38 ?_
        refine V_icmp_le 39 51 dX12_bounded_39 (by decide) (fun c4 => ?_) (fun c4 => ?_)
        · exact J51 S _ FZ.rf ⟨fun q => q, fun q => q⟩ (Or.inl ⟨Int32.not_lt.mp c3, c4⟩)
        · exact J42 _
    · exact J15

