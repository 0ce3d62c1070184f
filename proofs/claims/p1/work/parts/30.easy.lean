/-! the class on a new table: what is soon told -/
theorem sum0 {f : Nat → Int32} : ∀ n, (∀ j, j < n → f j = 0) → aSum f n = 0
  | 0, _ => rfl
  | n + 1, h => by rw [aSum, sum0 n (fun j hj => h j (by omega)), h n (by omega)]; rfl
theorem cpA_ne {S : PS} {a b n c : Nat} (h : c ≠ b) : sA (cpA S a b n) c = sA S c := by
  funext j
  show (if c = b ∧ j < n then sA S a j else sA S c j) = _
  rw [if_neg (fun q => h q.1)]
theorem cpA_at {S : PS} {a b n j : Nat} (h : j < n) : sA (cpA S a b n) b j = sA S a j := by
  show (if b = b ∧ j < n then sA S a j else sA S b j) = _
  rw [if_pos ⟨rfl, h⟩]
set_option maxRecDepth 100000 in
set_option maxHeartbeats 8000000 in
theorem c_X7_become (l : Launch) (Γ : GC) (S : PS) {a b : Nat} (Fa : isL lyState Γ.2.2.2.2.1 S a) (Fb : isL lyState Γ.2.2.2.2.1 S b) (hs : sI S b 4 = 0 ∨ sI S b 4 = 1) : CT l Γ yX7_become cX7_become 2 none (1) (0) (0) [.ref a, .ref b] S (RV (fun S' => SSm S S' ∧ sJ S' = sJ S ∧ (∀ c, c ≠ a → sI S' c = sI S c) ∧ (∀ c, c ∉ [a + 1, a + 2, a + 3] → sA S' c = sA S c) ∧ sI S' a 4 = sI S b 4 ∧ ∀ j, j < 8 → sA S' (a + 1) j = sA S (b + 1) j)) := by
  refine CT.of RX7 "become" [some (.ref a), some (.ref b)] (by decide +kernel) rfl rfl (Nat.le_of_ble_eq_true rfl) rfl (fun M hM => ?_)
  subst hM
  have hl1 : ∀ T : PS, SSm S T → sL T (b + 1) < 2 ^ 31 ∧ sL T (b + 2) < 2 ^ 31 ∧ sL T (b + 3) < 2 ^ 31 := fun T h => by rw [h.2.2.2.1, Fb.l 1 8 rfl, Fb.l 2 8 rfl, Fb.l 3 8 rfl]; decide
  have R1 : RO [a + 1, a + 2, a + 3] S (cpA S (b + 1) (a + 1) (sL S (b + 1))) := RO.rf.cpy (by simp)
  refine V_aload_1 0 dX7_become_0 ?_
  refine V_getR 1 (c := 7) 0 (Fb.r 0 0 1 rfl) dX7_become_1 fl_RX7_9 (Fb.m 0 (Nat.le_of_ble_eq_true rfl)) (Fb.k 0 7 rfl) (Nat.le_of_ble_eq_true rfl) (Nat.le_of_ble_eq_true rfl) rfl ?_
  refine V_aload_0 4 dX7_become_4 ?_
  refine V_getR 5 (c := 7) 0 (Fa.r 0 0 1 rfl) dX7_become_5 fl_RX7_9 (Fa.m 0 (Nat.le_of_ble_eq_true rfl)) (Fa.k 0 7 rfl) (Nat.le_of_ble_eq_true rfl) (Nat.le_of_ble_eq_true rfl) rfl ?_
  refine V_callSN 8 [.ref _, .ref _] _ (c_copyRow M.2.1 Γ S (a := b + 1) (b := a + 1) (Fb.m 1 (by decide)) (Fb.k 1 14 rfl) (hl1 S SSm.rf).1 (Fa.m 1 (by decide)) (Fa.k 1 14 rfl) ((Fa.l 1 8 rfl).trans (Fb.l 1 8 rfl).symm)) dX7_become_8 cb_X11_copyRow ne_RX7_26 sm_yX11_copyRow ⟨(Nat.le_of_ble_eq_true rfl), (Nat.le_of_ble_eq_true rfl)⟩ rfl rfl (Nat.le_of_ble_eq_true rfl) ⟨(Nat.le_of_ble_eq_true rfl), (Nat.le_of_ble_eq_true rfl)⟩ (RV.go (fun S1 hq => ?_))
  rw [← hq] at R1
  have e1 : ∀ j, j < 8 → sA S1 (a + 1) j = sA S (b + 1) j := fun j hj => by rw [hq]; exact cpA_at (by rw [Fb.l 1 8 rfl]; exact hj)
  clear hq
  have Fa1 := Fa.ss R1.1
  have Fb1 := Fb.ss R1.1
  have R2 : RO [a + 1, a + 2, a + 3] S (cpA S1 (b + 2) (a + 2) (sL S1 (b + 2))) := R1.cpy (by simp)
  refine V_aload_1 11 dX7_become_11 ?_
  refine V_getR 12 (c := 7) 1 (Fb1.r 0 1 2 rfl) dX7_become_12 fl_RX7_15 (Fb1.m 0 (Nat.le_of_ble_eq_true rfl)) (Fb1.k 0 7 rfl) (Nat.le_of_ble_eq_true rfl) (Nat.le_of_ble_eq_true rfl) rfl ?_
  refine V_aload_0 15 dX7_become_15 ?_
  refine V_getR 16 (c := 7) 1 (Fa1.r 0 1 2 rfl) dX7_become_16 fl_RX7_15 (Fa1.m 0 (Nat.le_of_ble_eq_true rfl)) (Fa1.k 0 7 rfl) (Nat.le_of_ble_eq_true rfl) (Nat.le_of_ble_eq_true rfl) rfl ?_
  refine V_callSN 19 [.ref _, .ref _] _ (c_copyRow M.2.1 Γ S1 (a := b + 2) (b := a + 2) (Fb1.m 2 (by decide)) (Fb1.k 2 14 rfl) (hl1 S1 R1.1).2.1 (Fa1.m 2 (by decide)) (Fa1.k 2 14 rfl) ((Fa1.l 2 8 rfl).trans (Fb1.l 2 8 rfl).symm)) dX7_become_19 cb_X11_copyRow ne_RX7_26 sm_yX11_copyRow ⟨(Nat.le_of_ble_eq_true rfl), (Nat.le_of_ble_eq_true rfl)⟩ rfl rfl (Nat.le_of_ble_eq_true rfl) ⟨(Nat.le_of_ble_eq_true rfl), (Nat.le_of_ble_eq_true rfl)⟩ (RV.go (fun S2 hq => ?_))
  rw [← hq] at R2
  have e2 : sA S2 (a + 1) = sA S1 (a + 1) := by rw [hq]; exact cpA_ne (by omega)
  clear hq
  have Fa2 := Fa.ss R2.1
  have Fb2 := Fb.ss R2.1
  have R3 : RO [a + 1, a + 2, a + 3] S (cpA S2 (b + 3) (a + 3) (sL S2 (b + 3))) := R2.cpy (by simp)
  refine V_aload_1 22 dX7_become_22 ?_
  refine V_getR 23 (c := 7) 2 (Fb2.r 0 2 3 rfl) dX7_become_23 fl_RX7_18 (Fb2.m 0 (Nat.le_of_ble_eq_true rfl)) (Fb2.k 0 7 rfl) (Nat.le_of_ble_eq_true rfl) (Nat.le_of_ble_eq_true rfl) rfl ?_
  refine V_aload_0 26 dX7_become_26 ?_
  refine V_getR 27 (c := 7) 2 (Fa2.r 0 2 3 rfl) dX7_become_27 fl_RX7_18 (Fa2.m 0 (Nat.le_of_ble_eq_true rfl)) (Fa2.k 0 7 rfl) (Nat.le_of_ble_eq_true rfl) (Nat.le_of_ble_eq_true rfl) rfl ?_
  refine V_callSN 30 [.ref _, .ref _] _ (c_copyRow M.2.1 Γ S2 (a := b + 3) (b := a + 3) (Fb2.m 3 (by decide)) (Fb2.k 3 14 rfl) (hl1 S2 R2.1).2.2 (Fa2.m 3 (by decide)) (Fa2.k 3 14 rfl) ((Fa2.l 3 8 rfl).trans (Fb2.l 3 8 rfl).symm)) dX7_become_30 cb_X11_copyRow ne_RX7_26 sm_yX11_copyRow ⟨(Nat.le_of_ble_eq_true rfl), (Nat.le_of_ble_eq_true rfl)⟩ rfl rfl (Nat.le_of_ble_eq_true rfl) ⟨(Nat.le_of_ble_eq_true rfl), (Nat.le_of_ble_eq_true rfl)⟩ (RV.go (fun S3 hq => ?_))
  rw [← hq] at R3
  have e3 : sA S3 (a + 1) = sA S2 (a + 1) := by rw [hq]; exact cpA_ne (by omega)
  clear hq
  have Fa3 := Fa.ss R3.1
  have Fb3 := Fb.ss R3.1
  have hI : sI (uI S3 a 3 (sI S3 b 3)) b 4 = sI S b 4 := by
    rw [sI_uI, R3.2.1]
    by_cases q : b = a
    · subst q; rw [up2_k _ _ (by decide)]
    · rw [up2_a _ _ q]
  refine V_aload_0 33 dX7_become_33 ?_
  refine V_aload_1 34 dX7_become_34 ?_
  refine V_getI 35 (c := 7) 3 dX7_become_35 fl_RX7_30 (Fb3.m 0 (Nat.le_of_ble_eq_true rfl)) (Fb3.k 0 7 rfl) (Nat.le_of_ble_eq_true rfl) (Nat.le_of_ble_eq_true rfl) rfl ?_
  refine V_putI 38 (c := 7) 3 dX7_become_38 fl_RX7_30 (Fa3.m 0 (Nat.le_of_ble_eq_true rfl)) (Fa3.k 0 7 rfl) (Nat.le_of_ble_eq_true rfl) (Nat.le_of_ble_eq_true rfl) rfl (Or.inl rfl) ?_
  refine V_aload_0 41 dX7_become_41 ?_
  refine V_aload_1 42 dX7_become_42 ?_
  refine V_getI 43 (c := 7) 4 dX7_become_43 fl_RX7_34 (Fb3.m 0 (Nat.le_of_ble_eq_true rfl)) (Fb3.k 0 7 rfl) (Nat.le_of_ble_eq_true rfl) (Nat.le_of_ble_eq_true rfl) rfl ?_
  refine V_putI 46 (c := 7) 4 dX7_become_46 fl_RX7_34 (Fa3.m 0 (by decide)) (Fa3.k 0 7 rfl) (by decide) (by decide) rfl (Or.inr ⟨rfl, by rw [hI]; exact hs⟩) ?_
  refine V_vret 49 dX7_become_49 rfl (Nat.le_of_ble_eq_true rfl) (Nat.le_of_ble_eq_true rfl) ?_
  refine RV.mk ⟨R3.1, R3.2.2.1, fun c hc => ?_, R3.2.2.2, ?_, fun j hj => ?_⟩
  · rw [sI_uI, up2_an _ _ hc, sI_uI, up2_an _ _ hc, R3.2.1]
  · rw [sI_uI, up2_s]; exact hI
  · show sA S3 (a + 1) j = _
    rw [e3, e2]; exact e1 j hj
set_option maxRecDepth 100000 in
set_option maxHeartbeats 8000000 in
theorem c_isKind (l : Launch) (Γ : GC) (S : PS) {h : Nat} (F : isL lySockTable Γ.2.2.2.2.1 S h) (D : FRESH h S) (k : Int32) : CT l Γ yX11_isKind cX11_isKind 2 (some .boolean) (0) (0) (0) [.ref h, .int k] S (RI (fun r S' => r = 0 ∧ S' = S)) := by
  refine CT.of RX11 "isKind" [some (.ref h), some (.int k)] (by decide +kernel) rfl rfl (Nat.le_of_ble_eq_true rfl) rfl (fun M hM => ?_)
  subst hM
  obtain ⟨⟨d1, d2, d3, ⟨⟨k0, k1, k8, k9, k10, k11, k13⟩, kn, kp⟩, ⟨w1, w2, w3, w4⟩, dh, ⟨o1, o2, o3⟩, ⟨l1, l2, l3⟩, ds⟩, P1, P2⟩ := D
  refine V_iload_1 0 dX11_isKind_0 ?_
  refine V_if_lt 1 19 dX11_isKind_1 (by decide) (fun c => ?_) (fun c => ?_)
  ·
    refine V_iconst 19 (0) dX11_isKind_19 (by decide) ?_
    refine V_iret 20 .boolean dX11_isKind_20 rfl (by rfl) (Nat.le_of_ble_eq_true rfl) (Nat.le_of_ble_eq_true rfl) (RI.mk ⟨rfl, rfl⟩)
  ·
    refine V_iload_1 4 dX11_isKind_4 ?_
    refine V_aload_0 5 dX11_isKind_5 ?_
    refine V_getR 6 (c := 11) 3 (F.r 0 3 27 rfl) dX11_isKind_6 fl_RX11_31 (F.m 0 (Nat.le_of_ble_eq_true rfl)) (F.k 0 11 rfl) (Nat.le_of_ble_eq_true rfl) (Nat.le_of_ble_eq_true rfl) rfl ?_
    refine V_getI 9 (c := 10) 0 dX11_isKind_9 fl_RX11_275 (F.m 27 (Nat.le_of_ble_eq_true rfl)) (F.k 27 10 rfl) (Nat.le_of_ble_eq_true rfl) (Nat.le_of_ble_eq_true rfl) rfl ?_
    rw [k0]
    refine V_icmp_ge 12 19 dX11_isKind_12 (by decide) (fun _ => ?_) (fun q => absurd ((Int32.not_lt.mp c)) q)
    refine V_iconst 19 (0) dX11_isKind_19 (by decide) ?_
    refine V_iret 20 .boolean dX11_isKind_20 rfl (by rfl) (Nat.le_of_ble_eq_true rfl) (Nat.le_of_ble_eq_true rfl) (RI.mk ⟨rfl, rfl⟩)
set_option maxRecDepth 100000 in
set_option maxHeartbeats 8000000 in
theorem f_place (l : Launch) (Γ : GC) (S : PS) {h : Nat} (F : isL lySockTable Γ.2.2.2.2.1 S h) (D : FRESH h S) : CT l Γ yX11_place cX11_place 1 (some .int) (0) (0) (0) [.ref h] S (RI (fun r S' => r = -1)) := by
  refine CT.of RX11 "place" [some (.ref h)] (by decide +kernel) rfl rfl (Nat.le_of_ble_eq_true rfl) rfl (fun M hM => ?_)
  subst hM
  obtain ⟨⟨d1, d2, d3, ⟨⟨k0, k1, k8, k9, k10, k11, k13⟩, kn, kp⟩, ⟨w1, w2, w3, w4⟩, dh, ⟨o1, o2, o3⟩, ⟨l1, l2, l3⟩, ds⟩, P1, P2⟩ := D
  refine V_aload_0 0 dX11_place_0 ?_
  refine V_getI 1 (c := 11) 4 dX11_place_1 fl_RX11_35 (F.m 0 (Nat.le_of_ble_eq_true rfl)) (F.k 0 11 rfl) (Nat.le_of_ble_eq_true rfl) (Nat.le_of_ble_eq_true rfl) rfl ?_
  refine V_iret 4 .int dX11_place_4 rfl rfl (Nat.le_of_ble_eq_true rfl) (Nat.le_of_ble_eq_true rfl) (RI.mk d1)
set_option maxRecDepth 100000 in
set_option maxHeartbeats 8000000 in
theorem f_kind (l : Launch) (Γ : GC) (S : PS) {h : Nat} (F : isL lySockTable Γ.2.2.2.2.1 S h) (D : FRESH h S) (k w : Int32) : CT l Γ yX11_kind cX11_kind 3 (some .int) (1) (0) (0) [.ref h, .int k, .int w] S (RI (fun r S' => r = -1)) := by
  refine CT.of RX11 "kind" [some (.ref h), some (.int k), some (.int w)] (by decide +kernel) rfl rfl (Nat.le_of_ble_eq_true rfl) rfl (fun M hM => ?_)
  subst hM
  refine V_aload_0 0 dX11_kind_0 ?_
  refine V_iload_1 1 dX11_kind_1 ?_
  refine V_callV 2 (ci := 11) [.int _] _ (c_isKind M.2.1 Γ S F D k) dX11_kind_2 cb_X11_isKind ml_RX11_127 im_yX11_isKind se_yX11_isKind (F.m 0 (Nat.le_of_ble_eq_true rfl)) (F.k 0 11 rfl) (Nat.le_of_ble_eq_true rfl) ⟨(Nat.le_of_ble_eq_true rfl), (Nat.le_of_ble_eq_true rfl)⟩ rfl rfl (Nat.le_of_ble_eq_true rfl) ⟨(Nat.le_of_ble_eq_true rfl), (Nat.le_of_ble_eq_true rfl)⟩ (RI.go (fun r S1 hq => ?_))
  obtain ⟨rfl, rfl⟩ := hq
  refine V_if_ne 5 10 dX11_kind_5 (by decide) (fun q => absurd (rfl) q) (fun _ => ?_)
  refine V_iconst 8 (-1) dX11_kind_8 (by decide) ?_
  refine V_iret 9 .int dX11_kind_9 rfl rfl (Nat.le_of_ble_eq_true rfl) (Nat.le_of_ble_eq_true rfl) (RI.mk rfl)
set_option maxRecDepth 100000 in
set_option maxHeartbeats 8000000 in
theorem f_unlike (l : Launch) (Γ : GC) (S : PS) {h : Nat} (F : isL lySockTable Γ.2.2.2.2.1 S h) (D : FRESH h S) (x y : Int32) : CT l Γ yX11_unlike cX11_unlike 3 (some .int) (0) (0) (0) [.ref h, .int x, .int y] S (RI (fun r S' => r = -1)) := by
  refine CT.of RX11 "unlike" [some (.ref h), some (.int x), some (.int y)] (by decide +kernel) rfl rfl (Nat.le_of_ble_eq_true rfl) rfl (fun M hM => ?_)
  subst hM
  obtain ⟨⟨d1, d2, d3, ⟨⟨k0, k1, k8, k9, k10, k11, k13⟩, kn, kp⟩, ⟨w1, w2, w3, w4⟩, dh, ⟨o1, o2, o3⟩, ⟨l1, l2, l3⟩, ds⟩, P1, P2⟩ := D
  refine V_iload_1 0 dX11_unlike_0 ?_
  refine V_if_lt 1 30 dX11_unlike_1 (by decide) (fun c => ?_) (fun c => ?_)
  ·
    refine V_iconst 30 (-1) dX11_unlike_30 (by decide) ?_
    refine V_iret 31 .int dX11_unlike_31 rfl rfl (Nat.le_of_ble_eq_true rfl) (Nat.le_of_ble_eq_true rfl) (RI.mk rfl)
  ·
    refine V_iload_1 4 dX11_unlike_4 ?_
    refine V_aload_0 5 dX11_unlike_5 ?_
    refine V_getR 6 (c := 11) 3 (F.r 0 3 27 rfl) dX11_unlike_6 fl_RX11_31 (F.m 0 (Nat.le_of_ble_eq_true rfl)) (F.k 0 11 rfl) (Nat.le_of_ble_eq_true rfl) (Nat.le_of_ble_eq_true rfl) rfl ?_
    refine V_getI 9 (c := 10) 1 dX11_unlike_9 fl_RX11_160 (F.m 27 (Nat.le_of_ble_eq_true rfl)) (F.k 27 10 rfl) (Nat.le_of_ble_eq_true rfl) (Nat.le_of_ble_eq_true rfl) rfl ?_
    rw [k1]
    refine V_icmp_ge 12 30 dX11_unlike_12 (by decide) (fun _ => ?_) (fun q => absurd ((Int32.not_lt.mp c)) q)
    refine V_iconst 30 (-1) dX11_unlike_30 (by decide) ?_
    refine V_iret 31 .int dX11_unlike_31 rfl rfl (Nat.le_of_ble_eq_true rfl) (Nat.le_of_ble_eq_true rfl) (RI.mk rfl)
set_option maxRecDepth 100000 in
set_option maxHeartbeats 8000000 in
theorem f_draw (l : Launch) (Γ : GC) (S : PS) {h : Nat} (F : isL lySockTable Γ.2.2.2.2.1 S h) (D : FRESH h S) (k : Int32) : CT l Γ yX11_draw cX11_draw 2 (some .int) (1) (0) (0) [.ref h, .int k] S (RI (fun r S' => r = -1)) := by
  refine CT.of RX11 "draw" [some (.ref h), some (.int k)] (by decide +kernel) rfl rfl (Nat.le_of_ble_eq_true rfl) rfl (fun M hM => ?_)
  subst hM
  refine V_aload_0 0 dX11_draw_0 ?_
  refine V_iload_1 1 dX11_draw_1 ?_
  refine V_callV 2 (ci := 11) [.int _] _ (c_isKind M.2.1 Γ S F D k) dX11_draw_2 cb_X11_isKind ml_RX11_127 im_yX11_isKind se_yX11_isKind (F.m 0 (Nat.le_of_ble_eq_true rfl)) (F.k 0 11 rfl) (Nat.le_of_ble_eq_true rfl) ⟨(Nat.le_of_ble_eq_true rfl), (Nat.le_of_ble_eq_true rfl)⟩ rfl rfl (Nat.le_of_ble_eq_true rfl) ⟨(Nat.le_of_ble_eq_true rfl), (Nat.le_of_ble_eq_true rfl)⟩ (RI.go (fun r S1 hq => ?_))
  obtain ⟨rfl, rfl⟩ := hq
  refine V_if_eq 5 23 dX11_draw_5 (by decide) (fun _ => ?_) (fun q => absurd (rfl) q)
  refine V_iconst 23 (-1) dX11_draw_23 (by decide) ?_
  refine V_iret 24 .int dX11_draw_24 rfl rfl (Nat.le_of_ble_eq_true rfl) (Nat.le_of_ble_eq_true rfl) (RI.mk rfl)
set_option maxRecDepth 100000 in
set_option maxHeartbeats 8000000 in
theorem f_lot (l : Launch) (Γ : GC) (S : PS) {h : Nat} (F : isL lySockTable Γ.2.2.2.2.1 S h) (D : FRESH h S) : CT l Γ yX11_lot cX11_lot 2 (some .int) (1) (0) (0) [.ref h] S (RI (fun r S' => r = -2)) := by
  refine CT.of RX11 "lot" [some (.ref h), none] (by decide +kernel) rfl rfl (Nat.le_of_ble_eq_true rfl) rfl (fun M hM => ?_)
  subst hM
  obtain ⟨⟨d1, d2, d3, ⟨⟨k0, k1, k8, k9, k10, k11, k13⟩, kn, kp⟩, ⟨w1, w2, w3, w4⟩, dh, ⟨o1, o2, o3⟩, ⟨l1, l2, l3⟩, ds⟩, P1, P2⟩ := D
  refine V_aload_0 0 dX11_lot_0 ?_
  refine V_getR 1 (c := 11) 5 (F.r 0 5 41 rfl) dX11_lot_1 fl_RX11_42 (F.m 0 (Nat.le_of_ble_eq_true rfl)) (F.k 0 11 rfl) (Nat.le_of_ble_eq_true rfl) (Nat.le_of_ble_eq_true rfl) rfl ?_
  refine V_getR 4 (c := 7) 0 (F.r 41 0 42 rfl) dX11_lot_4 fl_RX11_131 (F.m 41 (Nat.le_of_ble_eq_true rfl)) (F.k 41 7 rfl) (Nat.le_of_ble_eq_true rfl) (Nat.le_of_ble_eq_true rfl) rfl ?_
  refine V_callS 7 [.ref _] _ (c_total M.2.1 Γ S (a := h + 42) (F.m 42 (by decide)) (F.k 42 14 rfl) (by rw [F.l 42 8 rfl]; decide)) dX11_lot_7 cb_X11_total ml_RX11_180 sm_yX11_total ⟨(Nat.le_of_ble_eq_true rfl), (Nat.le_of_ble_eq_true rfl)⟩ rfl rfl (Nat.le_of_ble_eq_true rfl) ⟨(Nat.le_of_ble_eq_true rfl), (Nat.le_of_ble_eq_true rfl)⟩ (RI.go (fun r S1 hq => ?_))
  obtain ⟨rfl, rfl⟩ := hq
  refine V_if_ne 10 16 dX11_lot_10 (by decide) (fun q => absurd ((sum0 _ (fun j _ => congrFun w1 j))) q) (fun _ => ?_)
  refine V_bipush 13 (-2) dX11_lot_13 (by decide) ?_
  refine V_iret 15 .int dX11_lot_15 rfl rfl (Nat.le_of_ble_eq_true rfl) (Nat.le_of_ble_eq_true rfl) (RI.mk rfl)
set_option maxRecDepth 100000 in
set_option maxHeartbeats 8000000 in
theorem f_take (l : Launch) (Γ : GC) (S : PS) {h : Nat} (F : isL lySockTable Γ.2.2.2.2.1 S h) (D : FRESH h S) (k : Int32) : CT l Γ yX11_take cX11_take 2 (some .boolean) (1) (0) (0) [.ref h, .int k] S (RI (fun r S' => r = 0)) := by
  refine CT.of RX11 "take" [some (.ref h), some (.int k)] (by decide +kernel) rfl rfl (Nat.le_of_ble_eq_true rfl) rfl (fun M hM => ?_)
  subst hM
  refine V_aload_0 0 dX11_take_0 ?_
  refine V_iload_1 1 dX11_take_1 ?_
  refine V_callV 2 (ci := 11) [.int _] _ (c_isKind M.2.1 Γ S F D k) dX11_take_2 cb_X11_isKind ml_RX11_127 im_yX11_isKind se_yX11_isKind (F.m 0 (Nat.le_of_ble_eq_true rfl)) (F.k 0 11 rfl) (Nat.le_of_ble_eq_true rfl) ⟨(Nat.le_of_ble_eq_true rfl), (Nat.le_of_ble_eq_true rfl)⟩ rfl rfl (Nat.le_of_ble_eq_true rfl) ⟨(Nat.le_of_ble_eq_true rfl), (Nat.le_of_ble_eq_true rfl)⟩ (RI.go (fun r S1 hq => ?_))
  obtain ⟨rfl, rfl⟩ := hq
  refine V_if_eq 5 23 dX11_take_5 (by decide) (fun _ => ?_) (fun q => absurd (rfl) q)
  refine V_iconst 23 (0) dX11_take_23 (by decide) ?_
  refine V_iret 24 .boolean dX11_take_24 rfl (by rfl) (Nat.le_of_ble_eq_true rfl) (Nat.le_of_ble_eq_true rfl) (RI.mk rfl)
set_option maxRecDepth 100000 in
set_option maxHeartbeats 8000000 in
theorem f_undo (l : Launch) (Γ : GC) (S : PS) {h : Nat} (F : isL lySockTable Γ.2.2.2.2.1 S h) (D : FRESH h S) : CT l Γ yX11_undo cX11_undo 1 (some .boolean) (0) (0) (0) [.ref h] S (RI (fun r S' => r = 0)) := by
  refine CT.of RX11 "undo" [some (.ref h)] (by decide +kernel) rfl rfl (Nat.le_of_ble_eq_true rfl) rfl (fun M hM => ?_)
  subst hM
  obtain ⟨⟨d1, d2, d3, ⟨⟨k0, k1, k8, k9, k10, k11, k13⟩, kn, kp⟩, ⟨w1, w2, w3, w4⟩, dh, ⟨o1, o2, o3⟩, ⟨l1, l2, l3⟩, ds⟩, P1, P2⟩ := D
  refine V_aload_0 0 dX11_undo_0 ?_
  refine V_getI 1 (c := 11) 9 dX11_undo_1 fl_RX11_193 (F.m 0 (Nat.le_of_ble_eq_true rfl)) (F.k 0 11 rfl) (Nat.le_of_ble_eq_true rfl) (Nat.le_of_ble_eq_true rfl) rfl ?_
  refine V_iconst 4 (1) dX11_undo_4 (by decide) ?_
  rw [d2 9 (by decide)]
  refine V_icmp_ge 5 10 dX11_undo_5 (by decide) (fun q => absurd q (by decide)) (fun _ => ?_)
  refine V_iconst 8 (0) dX11_undo_8 (by decide) ?_
  refine V_iret 9 .boolean dX11_undo_9 rfl (by rfl) (Nat.le_of_ble_eq_true rfl) (Nat.le_of_ble_eq_true rfl) (RI.mk rfl)
set_option maxRecDepth 100000 in
set_option maxHeartbeats 8000000 in
theorem f_see (l : Launch) (Γ : GC) (S : PS) {h : Nat} (F : isL lySockTable Γ.2.2.2.2.1 S h) (D : FRESH h S) (k n : Int32) : CT l Γ yX11_see cX11_see 3 (some .int) (1) (0) (0) [.ref h, .int k, .int n] S (RI (fun r S' => r = -1)) := by
  refine CT.of RX11 "see" [some (.ref h), some (.int k), some (.int n)] (by decide +kernel) rfl rfl (Nat.le_of_ble_eq_true rfl) rfl (fun M hM => ?_)
  subst hM
  refine V_aload_0 0 dX11_see_0 ?_
  refine V_iload_1 1 dX11_see_1 ?_
  refine V_callV 2 (ci := 11) [.int _] _ (c_isKind M.2.1 Γ S F D k) dX11_see_2 cb_X11_isKind ml_RX11_127 im_yX11_isKind se_yX11_isKind (F.m 0 (Nat.le_of_ble_eq_true rfl)) (F.k 0 11 rfl) (Nat.le_of_ble_eq_true rfl) ⟨(Nat.le_of_ble_eq_true rfl), (Nat.le_of_ble_eq_true rfl)⟩ rfl rfl (Nat.le_of_ble_eq_true rfl) ⟨(Nat.le_of_ble_eq_true rfl), (Nat.le_of_ble_eq_true rfl)⟩ (RI.go (fun r S1 hq => ?_))
  obtain ⟨rfl, rfl⟩ := hq
  refine V_if_eq 5 18 dX11_see_5 (by decide) (fun _ => ?_) (fun q => absurd (rfl) q)
  refine V_iconst 18 (-1) dX11_see_18 (by decide) ?_
  refine V_iret 19 .int dX11_see_19 rfl rfl (Nat.le_of_ble_eq_true rfl) (Nat.le_of_ble_eq_true rfl) (RI.mk rfl)
set_option maxRecDepth 100000 in
set_option maxHeartbeats 8000000 in
theorem f_forget (l : Launch) (Γ : GC) (S : PS) {h : Nat} (F : isL lySockTable Γ.2.2.2.2.1 S h) (D : FRESH h S) : CT l Γ yX11_forget cX11_forget 2 (some .int) (0) (0) (0) [.ref h] S (RI (fun r S' => r = 0)) := by
  refine CT.of RX11 "forget" [some (.ref h), none] (by decide +kernel) rfl rfl (Nat.le_of_ble_eq_true rfl) rfl (fun M hM => ?_)
  subst hM
  obtain ⟨⟨d1, d2, d3, ⟨⟨k0, k1, k8, k9, k10, k11, k13⟩, kn, kp⟩, ⟨w1, w2, w3, w4⟩, dh, ⟨o1, o2, o3⟩, ⟨l1, l2, l3⟩, ds⟩, P1, P2⟩ := D
  refine V_aload_0 0 dX11_forget_0 ?_
  refine V_getR 1 (c := 11) 15 (F.r 0 15 76 rfl) dX11_forget_1 fl_RX11_84 (F.m 0 (Nat.le_of_ble_eq_true rfl)) (F.k 0 11 rfl) (Nat.le_of_ble_eq_true rfl) (Nat.le_of_ble_eq_true rfl) rfl ?_
  refine V_getI 4 (c := 6) 2 dX11_forget_4 fl_RX11_268 (F.m 76 (Nat.le_of_ble_eq_true rfl)) (F.k 76 6 rfl) (Nat.le_of_ble_eq_true rfl) (Nat.le_of_ble_eq_true rfl) rfl ?_
  refine V_istore_1 7 dX11_forget_7 rfl (Nat.le_of_ble_eq_true rfl) ?_
  refine V_aload_0 8 dX11_forget_8 ?_
  refine V_getR 9 (c := 11) 15 (F.r 0 15 76 rfl) dX11_forget_9 fl_RX11_84 (F.m 0 (Nat.le_of_ble_eq_true rfl)) (F.k 0 11 rfl) (Nat.le_of_ble_eq_true rfl) (Nat.le_of_ble_eq_true rfl) rfl ?_
  refine V_iconst 12 (0) dX11_forget_12 (by decide) ?_
  refine V_putI 13 (c := 6) 2 dX11_forget_13 fl_RX11_268 (F.m 76 (Nat.le_of_ble_eq_true rfl)) (F.k 76 6 rfl) (Nat.le_of_ble_eq_true rfl) (Nat.le_of_ble_eq_true rfl) rfl (Or.inl rfl) ?_
  refine V_iload_1 16 dX11_forget_16 ?_
  refine V_iret 17 .int dX11_forget_17 rfl rfl (Nat.le_of_ble_eq_true rfl) (Nat.le_of_ble_eq_true rfl) (RI.mk (congrFun ds 2))
set_option maxRecDepth 100000 in
set_option maxHeartbeats 8000000 in
theorem f_back (l : Launch) (Γ : GC) (S : PS) {h : Nat} (F : isL lySockTable Γ.2.2.2.2.1 S h) (D : FRESH h S) (n : Int32) : CT l Γ yX11_back cX11_back 2 (some .int) (0) (0) (0) [.ref h, .int n] S (RI (fun r S' => r = if n = 0 then 0 else -1)) := by
  refine CT.of RX11 "back" [some (.ref h), some (.int n)] (by decide +kernel) rfl rfl (Nat.le_of_ble_eq_true rfl) rfl (fun M hM => ?_)
  subst hM
  obtain ⟨⟨d1, d2, d3, ⟨⟨k0, k1, k8, k9, k10, k11, k13⟩, kn, kp⟩, ⟨w1, w2, w3, w4⟩, dh, ⟨o1, o2, o3⟩, ⟨l1, l2, l3⟩, ds⟩, P1, P2⟩ := D
  have c3 : sI S (h + 3) 1 = 0 := congrFun d3 1
  refine V_iload_1 0 dX11_back_0 ?_
  refine V_if_lt 1 15 dX11_back_1 (by decide) (fun c => ?_) (fun c => ?_)
  ·
    refine V_iconst 15 (-1) dX11_back_15 (by decide) ?_
    refine V_iret 16 .int dX11_back_16 rfl rfl (Nat.le_of_ble_eq_true rfl) (Nat.le_of_ble_eq_true rfl) (RI.mk (by rw [if_neg (fun q => by subst q; exact absurd c (by decide))]))
  ·
    refine V_iload_1 4 dX11_back_4 ?_
    refine V_aload_0 5 dX11_back_5 ?_
    refine V_getR 6 (c := 11) 2 (F.r 0 2 3 rfl) dX11_back_6 fl_RX11_27 (F.m 0 (Nat.le_of_ble_eq_true rfl)) (F.k 0 11 rfl) (Nat.le_of_ble_eq_true rfl) (Nat.le_of_ble_eq_true rfl) rfl ?_
    refine V_getI 9 (c := 8) 1 dX11_back_9 fl_RX11_88 (F.m 3 (Nat.le_of_ble_eq_true rfl)) (F.k 3 8 rfl) (Nat.le_of_ble_eq_true rfl) (Nat.le_of_ble_eq_true rfl) rfl ?_
    rw [c3]
    refine V_icmp_le 12 17 dX11_back_12 (by decide) (fun c2 => ?_) (fun c2 => ?_)
    ·
      have hn : n = 0 := Int32.le_antisymm c2 (Int32.not_lt.mp c)
      subst hn
      refine V_aload_0 17 dX11_back_17 ?_
      refine V_getR 18 (c := 11) 2 (F.r 0 2 3 rfl) dX11_back_18 fl_RX11_27 (F.m 0 (Nat.le_of_ble_eq_true rfl)) (F.k 0 11 rfl) (Nat.le_of_ble_eq_true rfl) (Nat.le_of_ble_eq_true rfl) rfl ?_
      refine V_dup 21 dX11_back_21 rfl ?_
      refine V_getI 22 (c := 8) 1 dX11_back_22 fl_RX11_88 (F.m 3 (Nat.le_of_ble_eq_true rfl)) (F.k 3 8 rfl) (Nat.le_of_ble_eq_true rfl) (Nat.le_of_ble_eq_true rfl) rfl ?_
      refine V_iload_1 25 dX11_back_25 ?_
      refine V_isub 26 dX11_back_26 ?_
      refine V_putI 27 (c := 8) 1 dX11_back_27 fl_RX11_88 (F.m 3 (Nat.le_of_ble_eq_true rfl)) (F.k 3 8 rfl) (Nat.le_of_ble_eq_true rfl) (Nat.le_of_ble_eq_true rfl) rfl (Or.inl rfl) ?_
      refine V_aload_0 30 dX11_back_30 ?_
      refine V_getR 31 (c := 11) 2 (F.r 0 2 3 rfl) dX11_back_31 fl_RX11_27 (F.m 0 (Nat.le_of_ble_eq_true rfl)) (F.k 0 11 rfl) (Nat.le_of_ble_eq_true rfl) (Nat.le_of_ble_eq_true rfl) rfl ?_
      refine V_getI 34 (c := 8) 1 dX11_back_34 fl_RX11_88 (F.m 3 (Nat.le_of_ble_eq_true rfl)) (F.k 3 8 rfl) (Nat.le_of_ble_eq_true rfl) (Nat.le_of_ble_eq_true rfl) rfl ?_
      refine V_iret 37 .int dX11_back_37 rfl rfl (Nat.le_of_ble_eq_true rfl) (Nat.le_of_ble_eq_true rfl) (RI.mk (by rw [sI_uI, up2_s, c3]; rfl))
    ·
      refine V_iconst 15 (-1) dX11_back_15 (by decide) ?_
      refine V_iret 16 .int dX11_back_16 rfl rfl (Nat.le_of_ble_eq_true rfl) (Nat.le_of_ble_eq_true rfl) (RI.mk (by rw [if_neg (fun q => by subst q; exact absurd (Int32.le_refl 0) c2)]))
set_option maxRecDepth 100000 in
set_option maxHeartbeats 8000000 in
theorem f_restore (l : Launch) (Γ : GC) (S : PS) {h : Nat} (F : isL lySockTable Γ.2.2.2.2.1 S h) (D : FRESH h S) (n : Int32) : CT l Γ yX11_restore cX11_restore 2 (some .boolean) (0) (0) (0) [.ref h, .int n] S (RI (fun r S' => r = 0)) := by
  refine CT.of RX11 "restore" [some (.ref h), some (.int n)] (by decide +kernel) rfl rfl (Nat.le_of_ble_eq_true rfl) rfl (fun M hM => ?_)
  subst hM
  obtain ⟨⟨d1, d2, d3, ⟨⟨k0, k1, k8, k9, k10, k11, k13⟩, kn, kp⟩, ⟨w1, w2, w3, w4⟩, dh, ⟨o1, o2, o3⟩, ⟨l1, l2, l3⟩, ds⟩, P1, P2⟩ := D
  refine V_iload_1 0 dX11_restore_0 ?_
  refine V_if_lt 1 18 dX11_restore_1 (by decide) (fun c => ?_) (fun c => ?_)
  ·
    refine V_iconst 18 (0) dX11_restore_18 (by decide) ?_
    refine V_iret 19 .boolean dX11_restore_19 rfl (by rfl) (Nat.le_of_ble_eq_true rfl) (Nat.le_of_ble_eq_true rfl) (RI.mk rfl)
  ·
    refine V_iload_1 4 dX11_restore_4 ?_
    refine V_iconst 5 (3) dX11_restore_5 (by decide) ?_
    refine V_icmp_ge 6 18 dX11_restore_6 (by decide) (fun c2 => ?_) (fun c2 => ?_)
    ·
      refine V_iconst 18 (0) dX11_restore_18 (by decide) ?_
      refine V_iret 19 .boolean dX11_restore_19 rfl (by rfl) (Nat.le_of_ble_eq_true rfl) (Nat.le_of_ble_eq_true rfl) (RI.mk rfl)
    ·
      refine V_aload_0 9 dX11_restore_9 ?_
      refine V_getR 10 (c := 11) 11 (F.r 0 11 51 rfl) dX11_restore_10 fl_RX11_56 (F.m 0 (Nat.le_of_ble_eq_true rfl)) (F.k 0 11 rfl) (Nat.le_of_ble_eq_true rfl) (Nat.le_of_ble_eq_true rfl) rfl ?_
      refine V_iload_1 13 dX11_restore_13 ?_
      refine V_zaload2 14 dX11_restore_14 (F.m 51 (Nat.le_of_ble_eq_true rfl)) (F.k 51 16 rfl) (F.l 51 3 rfl) ?_ ?_
      · exact in_of (n := 3) (by decide) c c2
      rw [dh]
      refine V_if_ne 15 20 dX11_restore_15 (by decide) (fun q => absurd (rfl) q) (fun _ => ?_)
      refine V_iconst 18 (0) dX11_restore_18 (by decide) ?_
      refine V_iret 19 .boolean dX11_restore_19 rfl (by rfl) (Nat.le_of_ble_eq_true rfl) (Nat.le_of_ble_eq_true rfl) (RI.mk rfl)
set_option maxRecDepth 100000 in
set_option maxHeartbeats 8000000 in
theorem f_hold (l : Launch) (Γ : GC) (S : PS) {h : Nat} (F : isL lySockTable Γ.2.2.2.2.1 S h) (D : FRESH h S) (n : Int32) : CT l Γ yX11_hold cX11_hold 2 (some .boolean) (2) (0) (0) [.ref h, .int n] S (RI (fun r S' => r = if n < 0 ∨ 3 ≤ n then 0 else 1)) := by
  refine CT.of RX11 "hold" [some (.ref h), some (.int n)] (by decide +kernel) rfl rfl (Nat.le_of_ble_eq_true rfl) rfl (fun M hM => ?_)
  subst hM
  obtain ⟨⟨d1, d2, d3, ⟨⟨k0, k1, k8, k9, k10, k11, k13⟩, kn, kp⟩, ⟨w1, w2, w3, w4⟩, dh, ⟨o1, o2, o3⟩, ⟨l1, l2, l3⟩, ds⟩, P1, P2⟩ := D
  refine V_iload_1 0 dX11_hold_0 ?_
  refine V_if_lt 1 9 dX11_hold_1 (by decide) (fun c => ?_) (fun c => ?_)
  ·
    refine V_iconst 9 (0) dX11_hold_9 (by decide) ?_
    refine V_iret 10 .boolean dX11_hold_10 rfl (by rfl) (Nat.le_of_ble_eq_true rfl) (Nat.le_of_ble_eq_true rfl) (RI.mk (by rw [if_pos (Or.inl c)]))
  ·
    refine V_iload_1 4 dX11_hold_4 ?_
    refine V_iconst 5 (3) dX11_hold_5 (by decide) ?_
    refine V_icmp_lt 6 11 dX11_hold_6 (by decide) (fun c2 => ?_) (fun c2 => ?_)
    ·
      have hin : vp_in n 3 := in_of (n := 3) (by decide) c (Int32.not_le.mpr c2)
      obtain ⟨k, hk, rfl⟩ := vp_in_of hin (by decide)
      have G : isL lyState Γ.2.2.2.2.1 S (h + (81 + 4 * (40 + k))) := F.sub (81 + 4 * (40 + k)) lyState (lySock_st (40 + k) (by omega)) (by rw [len_Sock, len_State]; omega)
      have W4 : isL lyState Γ.2.2.2.2.1 S (h + 41) := F.sub 41 lyState rfl (by decide)
      refine V_aload_0 11 dX11_hold_11 ?_
      refine V_getR 12 (c := 11) 10 (F.r 0 10 50 rfl) dX11_hold_12 fl_RX11_53 (F.m 0 (Nat.le_of_ble_eq_true rfl)) (F.k 0 11 rfl) (Nat.le_of_ble_eq_true rfl) (Nat.le_of_ble_eq_true rfl) rfl ?_
      refine V_iload_1 15 dX11_hold_15 ?_
      refine V_aaload2 16 (by rw [nI_clamp (by omega)]; exact P2 k hk) dX11_hold_16 (F.m 50 (Nat.le_of_ble_eq_true rfl)) (F.k 50 17 rfl) (F.l 50 3 rfl) ?_ ?_
      · exact hin
      refine V_aload_0 17 dX11_hold_17 ?_
      refine V_getR 18 (c := 11) 5 (F.r 0 5 41 rfl) dX11_hold_18 fl_RX11_42 (F.m 0 (Nat.le_of_ble_eq_true rfl)) (F.k 0 11 rfl) (Nat.le_of_ble_eq_true rfl) (Nat.le_of_ble_eq_true rfl) rfl ?_
      refine V_callV 21 (ci := 7) [.ref _] _ (c_X7_become M.2.1 Γ S (a := h + (81 + 4 * (40 + k))) (b := h + 41) G W4 (Or.inl (congrFun w4 4))) dX11_hold_21 cb_X7_become ml_RX11_202 im_yX7_become se_yX7_become (G.m 0 (Nat.le_of_ble_eq_true rfl)) (G.k 0 7 rfl) (Nat.le_of_ble_eq_true rfl) ⟨(Nat.le_of_ble_eq_true rfl), (Nat.le_of_ble_eq_true rfl)⟩ rfl rfl (Nat.le_of_ble_eq_true rfl) ⟨(Nat.le_of_ble_eq_true rfl), (Nat.le_of_ble_eq_true rfl)⟩ (RV.go (fun S1 hq => ?_))
      have F1 := F.ss hq.1
      refine V_aload_0 24 dX11_hold_24 ?_
      refine V_getR 25 (c := 11) 11 (F1.r 0 11 51 rfl) dX11_hold_25 fl_RX11_56 (F1.m 0 (Nat.le_of_ble_eq_true rfl)) (F1.k 0 11 rfl) (Nat.le_of_ble_eq_true rfl) (Nat.le_of_ble_eq_true rfl) rfl ?_
      refine V_iload_1 28 dX11_hold_28 ?_
      refine V_iconst 29 (1) dX11_hold_29 (by decide) ?_
      refine V_zastore2 30 dX11_hold_30 (F1.m 51 (Nat.le_of_ble_eq_true rfl)) (F1.k 51 16 rfl) (F1.l 51 3 rfl) ?_ (Or.inr rfl) ?_
      · exact hin
      refine V_iconst 31 (1) dX11_hold_31 (by decide) ?_
      refine V_iret 32 .boolean dX11_hold_32 rfl (by rfl) (Nat.le_of_ble_eq_true rfl) (Nat.le_of_ble_eq_true rfl) (RI.mk (by rw [if_neg (fun q => q.elim c (fun q => absurd c2 (Int32.not_lt.mpr q)))]))
    ·
      refine V_iconst 9 (0) dX11_hold_9 (by decide) ?_
      refine V_iret 10 .boolean dX11_hold_10 rfl (by rfl) (Nat.le_of_ble_eq_true rfl) (Nat.le_of_ble_eq_true rfl) (RI.mk (by rw [if_pos (Or.inr (Int32.not_lt.mp c2))]))

