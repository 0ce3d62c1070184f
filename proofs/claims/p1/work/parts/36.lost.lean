/-! the class on a new table: lost -/
/-- only the row b of longs has changed -/
def JO (b : Nat) (S S2 : PS) : Prop := SSm S S2 ∧ sI S2 = sI S ∧ sA S2 = sA S ∧ ∀ c, c ≠ b → sJ S2 c = sJ S c
theorem JO.rf {b : Nat} {S : PS} : JO b S S := ⟨SSm.rf, rfl, rfl, fun _ _ => rfl⟩
theorem JO.uJ {b i : Nat} {v : Int64} {S S2 : PS} (h : JO b S S2) : JO b S (uJ S2 b i v) := ⟨h.1, h.2.1, h.2.2.1, fun c hc => by rw [sJ_uJ, up2_an _ _ hc]; exact h.2.2.2 c hc⟩
theorem JO.tr {b : Nat} {S S2 S3 : PS} (h : JO b S S2) (g : JO b S2 S3) : JO b S S3 := ⟨h.1.tr g.1, g.2.1.trans h.2.1, g.2.2.1.trans h.2.2.1, fun c hc => (g.2.2.2 c hc).trans (h.2.2.2 c hc)⟩
/-- an object of the kind c whose fields j0, j1 hold the rows a and b of 19 longs -/
def WAY (c j0 j1 lo : Nat) (S : PS) (o a b : Nat) : Prop := o ∈ PL lo S ∧ sK S o = c ∧ sR S o j0 = some a ∧ sR S o j1 = some b ∧ (a ∈ PL lo S ∧ sK S a = 15 ∧ sL S a = 19) ∧ (b ∈ PL lo S ∧ sK S b = 15 ∧ sL S b = 19) ∧ a ≠ b
theorem WAY.ss {c j0 j1 lo : Nat} {S S2 : PS} {o a b : Nat} (W : WAY c j0 j1 lo S o a b) (h : SSm S S2) : WAY c j0 j1 lo S2 o a b := by
  obtain ⟨w1, w2, w3, w4, ⟨x1, x2, x3⟩, ⟨y1, y2, y3⟩, ne⟩ := W
  obtain ⟨h1, h2, h3, h4, h5⟩ := h
  refine ⟨?_, by rw [h2]; exact w2, by rw [h3]; exact w3, by rw [h3]; exact w4, ⟨?_, by rw [h2]; exact x2, by rw [h4]; exact x3⟩, ⟨?_, by rw [h2]; exact y2, by rw [h4]; exact y3⟩, ne⟩
  · rw [PL_mem, h1]; exact PL_mem.mp w1
  · rw [PL_mem, h1]; exact PL_mem.mp x1
  · rw [PL_mem, h1]; exact PL_mem.mp y1
theorem WAY.swap {c j0 j1 lo : Nat} {S : PS} {o a b : Nat} (W : WAY c j0 j1 lo S o a b) (hj : j0 ≠ j1) : WAY c j0 j1 lo (uR (uR S o j0 (some b)) o j1 (some a)) o b a := by
  obtain ⟨w1, w2, w3, w4, x, y, ne⟩ := W
  refine ⟨w1, w2, ?_, ?_, y, x, fun q => ne q.symm⟩
  · rw [sR_uR, up2_k _ _ hj, sR_uR, up2_s]
  · rw [sR_uR, up2_s]
def UNI (S : PS) (a : Nat) : Prop := ∀ j, j < 19 → sJ S a j = if j = 0 then 1 else 0
/-- rows of longs and the fields of o apart nothing has changed -/
def SRo (o : Nat) (S S2 : PS) : Prop := sN S2 = sN S ∧ sK S2 = sK S ∧ sL S2 = sL S ∧ sP S2 = sP S ∧ sI S2 = sI S ∧ sA S2 = sA S ∧ ∀ c, c ≠ o → sR S2 c = sR S c
theorem SRo.rf {o : Nat} {S : PS} : SRo o S S := ⟨rfl, rfl, rfl, rfl, rfl, rfl, fun _ _ => rfl⟩
theorem SRo.tr {o : Nat} {S S2 S3 : PS} (h : SRo o S S2) (g : SRo o S2 S3) : SRo o S S3 := ⟨g.1.trans h.1, g.2.1.trans h.2.1, g.2.2.1.trans h.2.2.1, g.2.2.2.1.trans h.2.2.2.1, g.2.2.2.2.1.trans h.2.2.2.2.1, g.2.2.2.2.2.1.trans h.2.2.2.2.2.1, fun c hc => (g.2.2.2.2.2.2 c hc).trans (h.2.2.2.2.2.2 c hc)⟩
theorem JO.sro {o b : Nat} {S S2 : PS} (h : JO b S S2) : SRo o S S2 := ⟨h.1.1, h.1.2.1, h.1.2.2.2.1, h.1.2.2.2.2, h.2.1, h.2.2.1, fun c _ => by rw [h.1.2.2.1]⟩
theorem SRo.uR {o j : Nat} {v : Option Nat} {S S2 : PS} (h : SRo o S S2) : SRo o S (uR S2 o j v) := ⟨h.1, h.2.1, h.2.2.1, h.2.2.2.1, h.2.2.2.2.1, h.2.2.2.2.2.1, fun c hc => by rw [← h.2.2.2.2.2.2 c hc]; funext k; rw [sR_uR, up2_an _ _ hc]⟩
theorem isL.sro {ly : LAY} {lo b o : Nat} {S S' : PS} (F : isL ly lo S b) (h : SRo o S S') (hd : b + ly.length ≤ o) : isL ly lo S' b := F.eq (Nat.le_of_eq h.1.symm) (fun r hr => ⟨by rw [h.2.1], h.2.2.2.2.2.2 _ (by omega), by rw [h.2.2.1]⟩)
theorem jAt_nI {S : PS} {a n i : Nat} (h : sL S a = n) (hi : i < n) (hn : n < 2 ^ 31) : jAt S a (nI i) = sJ S a i := by
  unfold jAt
  rw [nI_clamp (by omega), h, if_neg (fun q => q.elim (nI_pos (by omega)) (fun q => by omega))]
theorem if_nI0 {k : Nat} (h : k < 2 ^ 31) : (if k = 0 then (1 : Int64) else 0) = if nI k = 0 then 1 else 0 := by
  by_cases q : k = 0
  · rw [if_pos q, if_pos (by rw [q]; rfl)]
  · rw [if_neg q, if_neg (fun q2 => nI_ne0 (Nat.pos_of_ne_zero q) (by omega) q2)]
theorem s19 : 19 < 2 ^ 31 := by decide
set_option maxRecDepth 100000 in
set_option maxHeartbeats 8000000 in
theorem c_power (l : Launch) (Γ : GC) (S : PS) (n k : Int32) (hk : k = 0) : CT l Γ yX11_power cX11_power 5 (some .long) (0) (0) (0) [.int n, .int k] S (RLg (fun r S' => r = 1 ∧ S' = S)) := by
  refine CT.of RX11 "power" [some (.int n), some (.int k), none, none, none] (by decide +kernel) rfl rfl (Nat.le_of_ble_eq_true rfl) rfl (fun M hM => ?_)
  subst hM
  subst hk
  refine V_lconst 0 1 dX11_power_0 (by decide) ?_
  refine V_lstore_2 1 dX11_power_1 rfl (Nat.le_of_ble_eq_true rfl) ?_
  refine V_iconst 2 (0) dX11_power_2 (by decide) ?_
  refine V_istore_4 3 dX11_power_3 rfl (Nat.le_of_ble_eq_true rfl) ?_
  refine V_iload_4 5 dX11_power_5 ?_
  refine V_iload_1 7 dX11_power_7 ?_
  refine V_icmp_ge 8 22 dX11_power_8 (by decide) (fun _ => ?_) (fun q => absurd (by decide) q)
  refine V_lload_2 22 dX11_power_22 ?_
  refine V_lret 23 dX11_power_23 rfl (Nat.le_of_ble_eq_true rfl) (Nat.le_of_ble_eq_true rfl) (RLg.mk ⟨rfl, rfl⟩)
set_option maxRecDepth 100000 in
set_option maxHeartbeats 8000000 in
theorem c_waysLeft (l : Launch) (Γ : GC) (S : PS) (n k x y : Int32) (hn : n = 0) (hk : k = 0) : CT l Γ yX3_waysLeft cX3_waysLeft 4 (some .long) (1) (0) (0) [.int n, .int k, .int x, .int y] S (RLg (fun r S' => r = 1 ∧ S' = S)) := by
  refine CT.of RX3 "waysLeft" [some (.int n), some (.int k), some (.int x), some (.int y)] (by decide +kernel) rfl rfl (Nat.le_of_ble_eq_true rfl) rfl (fun M hM => ?_)
  subst hM
  subst hn
  subst hk
  refine V_iload_0 0 dX3_waysLeft_0 ?_
  refine V_iload_1 1 dX3_waysLeft_1 ?_
  refine V_callSN 2 [.int _, .int _] _ (c_choose M.2.1 Γ S _ _ rfl rfl) dX3_waysLeft_2 cb_X11_choose ne_RX3_82 sm_yX11_choose ⟨(Nat.le_of_ble_eq_true rfl), (Nat.le_of_ble_eq_true rfl)⟩ rfl rfl (Nat.le_of_ble_eq_true rfl) ⟨(Nat.le_of_ble_eq_true rfl), (Nat.le_of_ble_eq_true rfl)⟩ (RLg.go (fun r S1 hq => ?_))
  obtain ⟨rfl, rfl⟩ := hq
  refine V_iload_3 5 dX3_waysLeft_5 ?_
  refine V_iload_2 6 dX3_waysLeft_6 ?_
  refine V_isub 7 dX3_waysLeft_7 ?_
  refine V_iload_1 8 dX3_waysLeft_8 ?_
  refine V_callSN 9 [.int _, .int _] _ (c_power M.2.1 Γ S1 _ _ rfl) dX3_waysLeft_9 cb_X11_power ne_RX3_86 sm_yX11_power ⟨(Nat.le_of_ble_eq_true rfl), (Nat.le_of_ble_eq_true rfl)⟩ rfl rfl (Nat.le_of_ble_eq_true rfl) ⟨(Nat.le_of_ble_eq_true rfl), (Nat.le_of_ble_eq_true rfl)⟩ (RLg.go (fun r S2 hq => ?_))
  obtain ⟨rfl, rfl⟩ := hq
  refine V_lmul 12 dX3_waysLeft_12 ?_
  refine V_iload_2 13 dX3_waysLeft_13 ?_
  refine V_iload_0 14 dX3_waysLeft_14 ?_
  refine V_iload_1 15 dX3_waysLeft_15 ?_
  refine V_isub 16 dX3_waysLeft_16 ?_
  refine V_callSN 17 [.int _, .int _] _ (c_power M.2.1 Γ S2 _ _ (by decide)) dX3_waysLeft_17 cb_X11_power ne_RX3_86 sm_yX11_power ⟨(Nat.le_of_ble_eq_true rfl), (Nat.le_of_ble_eq_true rfl)⟩ rfl rfl (Nat.le_of_ble_eq_true rfl) ⟨(Nat.le_of_ble_eq_true rfl), (Nat.le_of_ble_eq_true rfl)⟩ (RLg.go (fun r S3 hq => ?_))
  obtain ⟨rfl, rfl⟩ := hq
  refine V_lmul 20 dX3_waysLeft_20 ?_
  refine V_lret 21 dX3_waysLeft_21 rfl (Nat.le_of_ble_eq_true rfl) (Nat.le_of_ble_eq_true rfl) (RLg.mk ⟨by decide, rfl⟩)
set_option maxRecDepth 100000 in
set_option maxHeartbeats 8000000 in
theorem c_X3_addShifted (l : Launch) (Γ : GC) (S : PS) {o a b : Nat} (W : WAY 3 0 1 Γ.2.2.2.2.1 S o a b) (hb : ∀ j, j < 19 → sJ S b j = 0) (w : Int32) (m : Int64) (hw : w = 0) (hm : m = 1) : CT l Γ yX3_addShifted cX3_addShifted 5 none (1) (0) (0) [.ref o, .int w, .long m] S (RV (fun S' => JO b S S' ∧ ∀ j, j < 19 → sJ S' b j = sJ S a j)) := by
  refine CT.of RX3 "addShifted" [some (.ref o), some (.int w), some (.long m), none, none] (by decide +kernel) rfl rfl (Nat.le_of_ble_eq_true rfl) rfl (fun M hM => ?_)
  subst hM
  subst hw
  subst hm
  refine V_iconst 0 (0) dX3_addShifted_0 (by decide) ?_
  refine V_istore_4 1 dX3_addShifted_1 rfl (Nat.le_of_ble_eq_true rfl) ?_
  refine V_while (α := Nat × PS) (fun x => 19 - x.1) (fun x => x.1 ≤ 19 ∧ JO b S x.2 ∧ (∀ j, j < x.1 → sJ x.2 b j = sJ S a j) ∧ ∀ j, x.1 ≤ j → j < 19 → sJ x.2 b j = 0) (fun x => x.2) (fun x => [some (.ref o), some (.int 0), some (.long 1), none, some (.int (nI x.1))]) (0, S) ⟨Nat.zero_le _, JO.rf, fun j hj => absurd hj (Nat.not_lt_zero _), fun j _ hj => hb j hj⟩ (fun x hx ih => ?_)
  obtain ⟨i, S2⟩ := x
  obtain ⟨hi, hR, h1, h2⟩ := hx
  dsimp only at hi hR h1 h2 ih ⊢
  have W2 := W.ss hR.1
  refine V_iload_4 3 dX3_addShifted_3 ?_
  refine V_aload_0 5 dX3_addShifted_5 ?_
  refine V_getR 6 (c := 3) 1 W2.2.2.2.1 dX3_addShifted_6 fl_RX3_15 W2.1 W2.2.1 (Nat.le_of_ble_eq_true rfl) (Nat.le_of_ble_eq_true rfl) rfl ?_
  refine V_alen2 9 dX3_addShifted_9 W2.2.2.2.2.2.1.1 W2.2.2.2.2.2.1.2.1 (Nat.le_of_ble_eq_true rfl) (Nat.le_of_ble_eq_true rfl) W2.2.2.2.2.2.1.2.2 ?_
  refine V_icmp_ge 10 42 dX3_addShifted_10 (by decide) (fun c => ?_) (fun c => ?_)
  ·
    have hi2 := nI_ge8 s19 hi c
    subst hi2
    refine V_vret 42 dX3_addShifted_42 rfl (Nat.le_of_ble_eq_true rfl) (Nat.le_of_ble_eq_true rfl) (RV.mk ⟨hR, h1⟩)
  ·
    have hi2 := nI_lt8 s19 hi c
    refine V_aload_0 13 dX3_addShifted_13 ?_
    refine V_getR 14 (c := 3) 1 W2.2.2.2.1 dX3_addShifted_14 fl_RX3_15 W2.1 W2.2.1 (Nat.le_of_ble_eq_true rfl) (Nat.le_of_ble_eq_true rfl) rfl ?_
    refine V_iload_4 17 dX3_addShifted_17 ?_
    refine V_dup2 19 dX3_addShifted_19 rfl rfl ?_
    refine V_laload2 20 dX3_addShifted_20 W2.2.2.2.2.2.1.1 W2.2.2.2.2.2.1.2.1 W2.2.2.2.2.2.1.2.2 ?_ ?_
    · exact vp_in_nI hi2 s19
    rw [nI_clamp (by omega), h2 i (Nat.le_refl _) hi2]
    refine V_aload_0 21 dX3_addShifted_21 ?_
    refine V_getR 22 (c := 3) 0 W2.2.2.1 dX3_addShifted_22 fl_RX3_9 W2.1 W2.2.1 (Nat.le_of_ble_eq_true rfl) (Nat.le_of_ble_eq_true rfl) rfl ?_
    refine V_iload_4 25 dX3_addShifted_25 ?_
    refine V_iload_1 27 dX3_addShifted_27 ?_
    refine V_isub 28 dX3_addShifted_28 ?_
    refine V_callSN 29 [.ref _, .int _] _ (c_longAt M.2.1 Γ S2 (a := a) W2.2.2.2.2.1.1 W2.2.2.2.2.1.2.1 (by rw [W2.2.2.2.2.1.2.2]; decide) _) dX3_addShifted_29 cb_X11_longAt ne_RX3_60 sm_yX11_longAt ⟨(Nat.le_of_ble_eq_true rfl), (Nat.le_of_ble_eq_true rfl)⟩ rfl rfl (Nat.le_of_ble_eq_true rfl) ⟨(Nat.le_of_ble_eq_true rfl), (Nat.le_of_ble_eq_true rfl)⟩ (RLg.go (fun r S3 hq => ?_))
    obtain ⟨rfl, rfl⟩ := hq
    rw [Int32.sub_zero, jAt_nI W2.2.2.2.2.1.2.2 hi2 s19, hR.2.2.2 a W.2.2.2.2.2.2]
    refine V_lload_2 32 dX3_addShifted_32 ?_
    refine V_lmul 33 dX3_addShifted_33 ?_
    refine V_ladd 34 dX3_addShifted_34 ?_
    rw [Int64.mul_one, Int64.zero_add]
    refine V_lastore2 35 dX3_addShifted_35 W2.2.2.2.2.2.1.1 W2.2.2.2.2.2.1.2.1 W2.2.2.2.2.2.1.2.2 ?_ ?_
    · exact vp_in_nI hi2 s19
    refine V_iinc_4 36 (1) dX3_addShifted_36 (by decide) rfl (Nat.le_of_ble_eq_true rfl) ?_
    refine V_goto 39 3 dX3_addShifted_39 (by decide) ?_
    rw [nI_clamp (by omega), ← nI_succ]
    refine ih (i + 1, _) ⟨by dsimp only; omega, hR.uJ, fun j hj => ?_, fun j hj hj2 => ?_⟩ (by dsimp only; omega)
    · dsimp only at hj
      show sJ (uJ S3 b i _) b j = _
      by_cases q : j = i
      · subst q; rw [sJ_uJ, up2_s]
      · rw [sJ_uJ, up2_k _ _ q]; exact h1 j (by omega)
    · dsimp only at hj
      show sJ (uJ S3 b i _) b j = _
      rw [sJ_uJ, up2_k _ _ (by omega)]; exact h2 j (by omega) hj2
set_option maxRecDepth 100000 in
set_option maxHeartbeats 8000000 in
theorem c_X3_joinKinds (l : Launch) (Γ : GC) (S : PS) {o a b : Nat} (W : WAY 3 0 1 Γ.2.2.2.2.1 S o a b) (n x y : Int32) (hn : n = 0) : CT l Γ yX3_joinKinds cX3_joinKinds 9 none (2) (0) (0) [.ref o, .int n, .int (-1), .int x, .int y] S (RV (fun S' => SRo o S S' ∧ WAY 3 0 1 Γ.2.2.2.2.1 S' o b a ∧ ∀ j, j < 19 → sJ S' b j = sJ S a j)) := by
  refine CT.of RX3 "joinKinds" [some (.ref o), some (.int n), some (.int (-1)), some (.int x), some (.int y), none, none, none, none] (by decide +kernel) rfl rfl (Nat.le_of_ble_eq_true rfl) rfl (fun M hM => ?_)
  subst hM
  subst hn
  refine V_iconst 0 (0) dX3_joinKinds_0 (by decide) ?_
  refine V_istore_5 1 dX3_joinKinds_1 rfl (Nat.le_of_ble_eq_true rfl) ?_
  refine V_while (α := Nat × PS) (fun x => 19 - x.1) (fun x => x.1 ≤ 19 ∧ JO b S x.2 ∧ (∀ j, j < x.1 → sJ x.2 b j = 0)) (fun x => x.2) (fun z => [some (.ref o), some (.int 0), some (.int (-1)), some (.int x), some (.int y), some (.int (nI z.1)), none, none, none]) (0, S) ⟨Nat.zero_le _, JO.rf, fun j hj => absurd hj (Nat.not_lt_zero _)⟩ (fun z hz ih => ?_)
  obtain ⟨i, S2⟩ := z
  obtain ⟨hi, hR, h1⟩ := hz
  dsimp only at hi hR h1 ih ⊢
  have W2 := W.ss hR.1
  refine V_iload_5 3 dX3_joinKinds_3 ?_
  refine V_aload_0 5 dX3_joinKinds_5 ?_
  refine V_getR 6 (c := 3) 1 W2.2.2.2.1 dX3_joinKinds_6 fl_RX3_15 W2.1 W2.2.1 (Nat.le_of_ble_eq_true rfl) (Nat.le_of_ble_eq_true rfl) rfl ?_
  refine V_alen2 9 dX3_joinKinds_9 W2.2.2.2.2.2.1.1 W2.2.2.2.2.2.1.2.1 (Nat.le_of_ble_eq_true rfl) (Nat.le_of_ble_eq_true rfl) W2.2.2.2.2.2.1.2.2 ?_
  refine V_icmp_ge 10 27 dX3_joinKinds_10 (by decide) (fun c => ?_) (fun c => ?_)
  ·
    have hi2 := nI_ge8 s19 hi c
    subst hi2
    clear ih
    refine V_iconst 27 (0) dX3_joinKinds_27 (by decide) ?_
    refine V_istore_5 28 dX3_joinKinds_28 rfl (Nat.le_of_ble_eq_true rfl) ?_
    refine V_iload_5 30 dX3_joinKinds_30 ?_
    refine V_iload_1 32 dX3_joinKinds_32 ?_
    refine V_icmp_gt 33 112 dX3_joinKinds_33 (by decide) (fun q => absurd q (by decide)) (fun _ => ?_)
    refine V_iconst 36 (0) dX3_joinKinds_36 (by decide) ?_
    refine V_istore_6 37 dX3_joinKinds_37 rfl (Nat.le_of_ble_eq_true rfl) ?_
    refine V_iload_6 39 dX3_joinKinds_39 ?_
    refine V_iconst 41 (0) dX3_joinKinds_41 (by decide) ?_
    refine V_iload_2 42 dX3_joinKinds_42 ?_
    refine V_mmax 43 dX3_joinKinds_43 ml_RX3_64 (Nat.le_of_ble_eq_true rfl) (Nat.le_of_ble_eq_true rfl) (Nat.le_of_ble_eq_true rfl) (Nat.le_of_ble_eq_true rfl) ?_
    refine V_icmp_gt 46 106 dX3_joinKinds_46 (by decide) (fun q => absurd q (by decide)) (fun _ => ?_)
    refine V_iload_1 49 dX3_joinKinds_49 ?_
    refine V_iload_5 50 dX3_joinKinds_50 ?_
    refine V_iload_3 52 dX3_joinKinds_52 ?_
    refine V_iload_4 53 dX3_joinKinds_53 ?_
    refine V_callS 55 [.int _, .int _, .int _, .int _] _ (c_waysLeft M.2.1 Γ S2 _ _ _ _ rfl rfl) dX3_joinKinds_55 cb_X3_waysLeft ml_RX3_70 sm_yX3_waysLeft ⟨(Nat.le_of_ble_eq_true rfl), (Nat.le_of_ble_eq_true rfl)⟩ rfl rfl (Nat.le_of_ble_eq_true rfl) ⟨(Nat.le_of_ble_eq_true rfl), (Nat.le_of_ble_eq_true rfl)⟩ (RLg.go (fun r S3 hq => ?_))
    obtain ⟨rfl, rfl⟩ := hq
    refine V_iconst 58 (0) dX3_joinKinds_58 (by decide) ?_
    refine V_iload_2 59 dX3_joinKinds_59 ?_
    refine V_mmax 60 dX3_joinKinds_60 ml_RX3_64 (Nat.le_of_ble_eq_true rfl) (Nat.le_of_ble_eq_true rfl) (Nat.le_of_ble_eq_true rfl) (Nat.le_of_ble_eq_true rfl) ?_
    refine V_iload_6 63 dX3_joinKinds_63 ?_
    refine V_iload_3 65 dX3_joinKinds_65 ?_
    refine V_iload_4 66 dX3_joinKinds_66 ?_
    refine V_callS 68 [.int _, .int _, .int _, .int _] _ (c_waysLeft M.2.1 Γ S3 _ _ _ _ (by decide) rfl) dX3_joinKinds_68 cb_X3_waysLeft ml_RX3_70 sm_yX3_waysLeft ⟨(Nat.le_of_ble_eq_true rfl), (Nat.le_of_ble_eq_true rfl)⟩ rfl rfl (Nat.le_of_ble_eq_true rfl) ⟨(Nat.le_of_ble_eq_true rfl), (Nat.le_of_ble_eq_true rfl)⟩ (RLg.go (fun r S4 hq => ?_))
    obtain ⟨rfl, rfl⟩ := hq
    refine V_lmul 71 dX3_joinKinds_71 ?_
    refine V_lstore_7 72 dX3_joinKinds_72 rfl (Nat.le_of_ble_eq_true rfl) ?_
    refine V_aload_0 74 dX3_joinKinds_74 ?_
    refine V_iload_2 75 dX3_joinKinds_75 ?_
    refine V_iconst 76 (-1) dX3_joinKinds_76 (by decide) ?_
    refine V_icmp_ne 77 87 dX3_joinKinds_77 (by decide) (fun q => absurd (rfl) q) (fun _ => ?_)
    refine V_iload_5 80 dX3_joinKinds_80 ?_
    refine V_iconst 82 (1) dX3_joinKinds_82 (by decide) ?_
    refine V_iand 83 dX3_joinKinds_83 ?_
    refine V_goto 84 95 dX3_joinKinds_84 (by decide) ?_
    refine V_lload_7 95 dX3_joinKinds_95 ?_
    refine V_callV 97 (ci := 3) [.int _, .long _] _ (c_X3_addShifted M.2.1 Γ S4 W2 h1 _ _ (by decide) (by decide)) dX3_joinKinds_97 cb_X3_addShifted ml_RX3_78 im_yX3_addShifted se_yX3_addShifted W2.1 W2.2.1 (Nat.le_of_ble_eq_true rfl) ⟨(Nat.le_of_ble_eq_true rfl), (Nat.le_of_ble_eq_true rfl)⟩ rfl rfl (Nat.le_of_ble_eq_true rfl) ⟨(Nat.le_of_ble_eq_true rfl), (Nat.le_of_ble_eq_true rfl)⟩ (RV.go (fun S5 hq => ?_))
    have W5 := W2.ss hq.1.1
    refine V_iinc_6 100 (1) dX3_joinKinds_100 (by decide) rfl (Nat.le_of_ble_eq_true rfl) ?_
    refine V_goto 103 39 dX3_joinKinds_103 (by decide) ?_
    refine V_iload_6 39 dX3_joinKinds_39 ?_
    refine V_iconst 41 (0) dX3_joinKinds_41 (by decide) ?_
    refine V_iload_2 42 dX3_joinKinds_42 ?_
    refine V_mmax 43 dX3_joinKinds_43 ml_RX3_64 (Nat.le_of_ble_eq_true rfl) (Nat.le_of_ble_eq_true rfl) (Nat.le_of_ble_eq_true rfl) (Nat.le_of_ble_eq_true rfl) ?_
    refine V_icmp_gt 46 106 dX3_joinKinds_46 (by decide) (fun _ => ?_) (fun q => absurd (by decide) q)
    refine V_iinc_5 106 (1) dX3_joinKinds_106 (by decide) rfl (Nat.le_of_ble_eq_true rfl) ?_
    refine V_goto 109 30 dX3_joinKinds_109 (by decide) ?_
    refine V_iload_5 30 dX3_joinKinds_30 ?_
    refine V_iload_1 32 dX3_joinKinds_32 ?_
    refine V_icmp_gt 33 112 dX3_joinKinds_33 (by decide) (fun _ => ?_) (fun q => absurd (by decide) q)
    refine V_aload_0 112 dX3_joinKinds_112 ?_
    refine V_getR 113 (c := 3) 0 W5.2.2.1 dX3_joinKinds_113 fl_RX3_9 W5.1 W5.2.1 (Nat.le_of_ble_eq_true rfl) (Nat.le_of_ble_eq_true rfl) rfl ?_
    refine V_astore_5 116 dX3_joinKinds_116 rfl (Nat.le_of_ble_eq_true rfl) ?_
    refine V_aload_0 118 dX3_joinKinds_118 ?_
    refine V_aload_0 119 dX3_joinKinds_119 ?_
    refine V_getR 120 (c := 3) 1 W5.2.2.2.1 dX3_joinKinds_120 fl_RX3_15 W5.1 W5.2.1 (Nat.le_of_ble_eq_true rfl) (Nat.le_of_ble_eq_true rfl) rfl ?_
    refine V_putR 123 (c := 3) 0 dX3_joinKinds_123 fl_RX3_9 W5.1 W5.2.1 (Nat.le_of_ble_eq_true rfl) (Nat.le_of_ble_eq_true rfl) rfl rfl rfl rfl ?_
    refine V_aload_0 126 dX3_joinKinds_126 ?_
    refine V_aload_5 127 dX3_joinKinds_127 ?_
    refine V_putR 129 (c := 3) 1 dX3_joinKinds_129 fl_RX3_15 W5.1 W5.2.1 (Nat.le_of_ble_eq_true rfl) (Nat.le_of_ble_eq_true rfl) rfl rfl rfl rfl ?_
    refine V_vret 132 dX3_joinKinds_132 rfl (Nat.le_of_ble_eq_true rfl) (Nat.le_of_ble_eq_true rfl) (RV.mk ⟨((hR.tr hq.1).sro.uR).uR, W5.swap (by decide), fun j hj => (hq.2 j hj).trans (by rw [hR.2.2.2 a W.2.2.2.2.2.2])⟩)
  ·
    have hi2 := nI_lt8 s19 hi c
    refine V_aload_0 13 dX3_joinKinds_13 ?_
    refine V_getR 14 (c := 3) 1 W2.2.2.2.1 dX3_joinKinds_14 fl_RX3_15 W2.1 W2.2.1 (Nat.le_of_ble_eq_true rfl) (Nat.le_of_ble_eq_true rfl) rfl ?_
    refine V_iload_5 17 dX3_joinKinds_17 ?_
    refine V_lconst 19 0 dX3_joinKinds_19 (by decide) ?_
    refine V_lastore2 20 dX3_joinKinds_20 W2.2.2.2.2.2.1.1 W2.2.2.2.2.2.1.2.1 W2.2.2.2.2.2.1.2.2 ?_ ?_
    · exact vp_in_nI hi2 s19
    refine V_iinc_5 21 (1) dX3_joinKinds_21 (by decide) rfl (Nat.le_of_ble_eq_true rfl) ?_
    refine V_goto 24 3 dX3_joinKinds_24 (by decide) ?_
    rw [nI_clamp (by omega), ← nI_succ]
    refine ih (i + 1, _) ⟨by dsimp only; omega, hR.uJ, fun j hj => ?_⟩ (by dsimp only; omega)
    dsimp only at hj
    show sJ (uJ S2 b i _) b j = _
    by_cases q : j = i
    · subst q; rw [sJ_uJ, up2_s]
    · rw [sJ_uJ, up2_k _ _ q]; exact h1 j (by omega)
set_option maxRecDepth 100000 in
set_option maxHeartbeats 8000000 in
theorem c_waysWithout (l : Launch) (Γ : GC) (S : PS) {o s t : Nat} (W : WAY 3 0 1 Γ.2.2.2.2.1 S o (o + 1) (o + 2)) (Fs : isL lyState Γ.2.2.2.2.1 S s) (Ft : isL lyText Γ.2.2.2.2.1 S t) (hd : s + lyState.length ≤ o ∧ t + lyText.length ≤ o) (w1 : sA S (s + 1) = fun _ => 0) (w2 : sA S (s + 2) = fun _ => 0) (kp : ∀ j, j < 8 → sA S (t + 2) j = nI j) (n : Nat) (hn : n < 19) (x y : Int32) : CT l Γ yX3_waysWithout cX3_waysWithout 9 (some .long) (3) (0) (0) [.ref o, .ref s, .ref t, .int (nI n), .int x, .int y] S (RLg (fun r S' => r = if n = 0 then 1 else 0)) := by
  refine CT.of RX3 "waysWithout" [some (.ref o), some (.ref s), some (.ref t), some (.int (nI n)), some (.int x), some (.int y), none, none, none] (by decide +kernel) rfl rfl (Nat.le_of_ble_eq_true rfl) rfl (fun M hM => ?_)
  subst hM
  refine V_iconst 0 (0) dX3_waysWithout_0 (by decide) ?_
  refine V_istore_6 1 dX3_waysWithout_1 rfl (Nat.le_of_ble_eq_true rfl) ?_
  refine V_while (α := Nat × PS) (fun x => 19 - x.1) (fun x => x.1 ≤ 19 ∧ JO (o + 1) S x.2 ∧ (∀ j, j < x.1 → sJ x.2 (o + 1) j = if j = 0 then 1 else 0)) (fun x => x.2) (fun z => [some (.ref o), some (.ref s), some (.ref t), some (.int (nI n)), some (.int x), some (.int y), some (.int (nI z.1)), none, none]) (0, S) ⟨Nat.zero_le _, JO.rf, fun j hj => absurd hj (Nat.not_lt_zero _)⟩ (fun z hz ih => ?_)
  obtain ⟨i, S2⟩ := z
  obtain ⟨hi, hR, h1⟩ := hz
  dsimp only at hi hR h1 ih ⊢
  have W2 := W.ss hR.1
  refine V_iload_6 3 dX3_waysWithout_3 ?_
  refine V_aload_0 5 dX3_waysWithout_5 ?_
  refine V_getR 6 (c := 3) 0 W2.2.2.1 dX3_waysWithout_6 fl_RX3_9 W2.1 W2.2.1 (Nat.le_of_ble_eq_true rfl) (Nat.le_of_ble_eq_true rfl) rfl ?_
  refine V_alen2 9 dX3_waysWithout_9 W2.2.2.2.2.1.1 W2.2.2.2.2.1.2.1 (Nat.le_of_ble_eq_true rfl) (Nat.le_of_ble_eq_true rfl) W2.2.2.2.2.1.2.2 ?_
  refine V_icmp_ge 10 36 dX3_waysWithout_10 (by decide) (fun c => ?_) (fun c => ?_)
  ·
    have hi2 := nI_ge8 s19 hi c
    subst hi2
    clear ih
    refine V_iconst 36 (0) dX3_waysWithout_36 (by decide) ?_
    refine V_istore_6 37 dX3_waysWithout_37 rfl (Nat.le_of_ble_eq_true rfl) ?_
    refine V_while (α := Nat × PS × Nat × Nat × Option Value × Option Value) (fun x => 8 - x.1) (fun x => x.1 ≤ 8 ∧ SRo o S x.2.1 ∧ WAY 3 0 1 Γ.2.2.2.2.1 x.2.1 o x.2.2.1 x.2.2.2.1 ∧ UNI x.2.1 x.2.2.1) (fun x => x.2.1) (fun z => [some (.ref o), some (.ref s), some (.ref t), some (.int (nI n)), some (.int x), some (.int y), some (.int (nI z.1)), z.2.2.2.2.1, z.2.2.2.2.2]) (0, S2, o + 1, o + 2, none, none) ⟨Nat.zero_le _, hR.sro, W2, h1⟩ (fun z hz ih => ?_)
    obtain ⟨i, S3, a, b, v7, v8⟩ := z
    obtain ⟨hi, hR3, W3, hU⟩ := hz
    dsimp only at hi hR3 W3 hU ih ⊢
    have Fs3 := Fs.sro hR3 hd.1
    have Ft3 := Ft.sro hR3 hd.2
    refine V_iload_6 39 dX3_waysWithout_39 ?_
    refine V_bipush 41 (8) dX3_waysWithout_41 (by decide) ?_
    refine V_icmp_ge 43 127 dX3_waysWithout_43 (by decide) (fun c3 => ?_) (fun c3 => ?_)
    ·
      refine V_aload_0 127 dX3_waysWithout_127 ?_
      refine V_getR 128 (c := 3) 0 W3.2.2.1 dX3_waysWithout_128 fl_RX3_9 W3.1 W3.2.1 (Nat.le_of_ble_eq_true rfl) (Nat.le_of_ble_eq_true rfl) rfl ?_
      refine V_iload_3 131 dX3_waysWithout_131 ?_
      refine V_callSN 132 [.ref _, .int _] _ (c_longAt M.2.1 Γ S3 (a := a) W3.2.2.2.2.1.1 W3.2.2.2.2.1.2.1 (by rw [W3.2.2.2.2.1.2.2]; decide) _) dX3_waysWithout_132 cb_X11_longAt ne_RX3_60 sm_yX11_longAt ⟨(Nat.le_of_ble_eq_true rfl), (Nat.le_of_ble_eq_true rfl)⟩ rfl rfl (Nat.le_of_ble_eq_true rfl) ⟨(Nat.le_of_ble_eq_true rfl), (Nat.le_of_ble_eq_true rfl)⟩ (RLg.go (fun r S4 hq => ?_))
      obtain ⟨rfl, rfl⟩ := hq
      refine V_lret 135 dX3_waysWithout_135 rfl (Nat.le_of_ble_eq_true rfl) (Nat.le_of_ble_eq_true rfl) (RLg.mk (by rw [jAt_nI W3.2.2.2.2.1.2.2 hn s19]; exact hU n hn))
    ·
      have hi2 := nI_lt8 (by decide) hi c3
      have ek : aAt S3 (t + 2) (nI i) = nI i := by rw [aAt_nI (Ft3.l 2 8 rfl) hi2 (by decide), hR3.2.2.2.2.2.1]; exact kp i hi2
      have e1 : sA S3 (s + 1) i = 0 := by rw [hR3.2.2.2.2.2.1, w1]
      have e2 : sA S3 (s + 2) i = 0 := by rw [hR3.2.2.2.2.2.1, w2]
      refine V_aload_2 46 dX3_waysWithout_46 ?_
      refine V_getR 47 (c := 10) 3 (Ft3.r 0 3 2 rfl) dX3_waysWithout_47 fl_RX3_39 (Ft3.m 0 (Nat.le_of_ble_eq_true rfl)) (Ft3.k 0 10 rfl) (Nat.le_of_ble_eq_true rfl) (Nat.le_of_ble_eq_true rfl) rfl ?_
      refine V_iload_6 50 dX3_waysWithout_50 ?_
      refine V_callSN 52 [.ref _, .int _] _ (c_at M.2.1 Γ S3 (a := t + 2) (Ft3.m 2 (by decide)) (Ft3.k 2 14 rfl) (by rw [Ft3.l 2 8 rfl]; decide) _) dX3_waysWithout_52 cb_X11_at ne_RX3_44 sm_yX11_at ⟨(Nat.le_of_ble_eq_true rfl), (Nat.le_of_ble_eq_true rfl)⟩ rfl rfl (Nat.le_of_ble_eq_true rfl) ⟨(Nat.le_of_ble_eq_true rfl), (Nat.le_of_ble_eq_true rfl)⟩ (RI.go (fun r S4 hq => ?_))
      obtain ⟨rfl, rfl⟩ := hq
      rw [ek]
      refine V_istore_7 55 dX3_waysWithout_55 rfl (Nat.le_of_ble_eq_true rfl) ?_
      refine V_aload_1 57 dX3_waysWithout_57 ?_
      refine V_getR 58 (c := 7) 0 (Fs3.r 0 0 1 rfl) dX3_waysWithout_58 fl_RX3_48 (Fs3.m 0 (Nat.le_of_ble_eq_true rfl)) (Fs3.k 0 7 rfl) (Nat.le_of_ble_eq_true rfl) (Nat.le_of_ble_eq_true rfl) rfl ?_
      refine V_iload_6 61 dX3_waysWithout_61 ?_
      refine V_iaload2 63 dX3_waysWithout_63 (Fs3.m 1 (Nat.le_of_ble_eq_true rfl)) (Fs3.k 1 14 rfl) (Fs3.l 1 8 rfl) ?_ ?_
      · exact vp_in_nI hi2 (by decide)
      refine V_aload_1 64 dX3_waysWithout_64 ?_
      refine V_getR 65 (c := 7) 1 (Fs3.r 0 1 2 rfl) dX3_waysWithout_65 fl_RX3_53 (Fs3.m 0 (Nat.le_of_ble_eq_true rfl)) (Fs3.k 0 7 rfl) (Nat.le_of_ble_eq_true rfl) (Nat.le_of_ble_eq_true rfl) rfl ?_
      refine V_iload_6 68 dX3_waysWithout_68 ?_
      refine V_iaload2 70 dX3_waysWithout_70 (Fs3.m 2 (Nat.le_of_ble_eq_true rfl)) (Fs3.k 2 14 rfl) (Fs3.l 2 8 rfl) ?_ ?_
      · exact vp_in_nI hi2 (by decide)
      rw [nI_clamp (by omega), e1, e2]
      refine V_iadd 71 dX3_waysWithout_71 ?_
      refine V_istore_8 72 dX3_waysWithout_72 rfl (Nat.le_of_ble_eq_true rfl) ?_
      refine V_iload_6 74 dX3_waysWithout_74 ?_
      refine V_iload_7 76 dX3_waysWithout_76 ?_
      refine V_icmp_gt 78 121 dX3_waysWithout_78 (by decide) (fun q => absurd q (Int32.not_lt.mpr (Int32.le_refl _))) (fun _ => ?_)
      refine V_aload_0 81 dX3_waysWithout_81 ?_
      refine V_iload_8 82 dX3_waysWithout_82 ?_
      refine V_iload_6 84 dX3_waysWithout_84 ?_
      refine V_iload_7 86 dX3_waysWithout_86 ?_
      refine V_icmp_ne 88 95 dX3_waysWithout_88 (by decide) (fun q => absurd (rfl) q) (fun _ => ?_)
      refine V_iconst 91 (-1) dX3_waysWithout_91 (by decide) ?_
      refine V_goto 92 114 dX3_waysWithout_92 (by decide) ?_
      refine V_iload_4 114 dX3_waysWithout_114 ?_
      refine V_iload_5 116 dX3_waysWithout_116 ?_
      refine V_callV 118 (ci := 3) [.int _, .int _, .int _, .int _] _ (c_X3_joinKinds M.2.1 Γ S4 W3 _ _ _ (by decide)) dX3_waysWithout_118 cb_X3_joinKinds ml_RX3_56 im_yX3_joinKinds se_yX3_joinKinds W3.1 W3.2.1 (Nat.le_of_ble_eq_true rfl) ⟨(Nat.le_of_ble_eq_true rfl), (Nat.le_of_ble_eq_true rfl)⟩ rfl rfl (Nat.le_of_ble_eq_true rfl) ⟨(Nat.le_of_ble_eq_true rfl), (Nat.le_of_ble_eq_true rfl)⟩ (RV.go (fun S5 hq => ?_))
      refine V_iinc_6 121 (1) dX3_waysWithout_121 (by decide) rfl (Nat.le_of_ble_eq_true rfl) ?_
      refine V_goto 124 39 dX3_waysWithout_124 (by decide) ?_
      rw [← nI_succ]
      exact ih (i + 1, S5, b, a, _, _) ⟨by dsimp only; omega, hR3.tr hq.1, hq.2.1, fun j hj => (hq.2.2 j hj).trans (hU j hj)⟩ (by dsimp only; omega)
  ·
    have hi2 := nI_lt8 s19 hi c
    refine V_aload_0 13 dX3_waysWithout_13 ?_
    refine V_getR 14 (c := 3) 0 W2.2.2.1 dX3_waysWithout_14 fl_RX3_9 W2.1 W2.2.1 (Nat.le_of_ble_eq_true rfl) (Nat.le_of_ble_eq_true rfl) rfl ?_
    refine V_iload_6 17 dX3_waysWithout_17 ?_
    refine V_iload_6 19 dX3_waysWithout_19 ?_
    refine V_if_ne 21 28 dX3_waysWithout_21 (by decide) (fun c2 => ?_) (fun c2 => ?_)
    ·
      refine V_lconst 28 0 dX3_waysWithout_28 (by decide) ?_
      refine V_lastore2 29 dX3_waysWithout_29 W2.2.2.2.2.1.1 W2.2.2.2.2.1.2.1 W2.2.2.2.2.1.2.2 ?_ ?_
      · exact vp_in_nI hi2 s19
      refine V_iinc_6 30 (1) dX3_waysWithout_30 (by decide) rfl (Nat.le_of_ble_eq_true rfl) ?_
      refine V_goto 33 3 dX3_waysWithout_33 (by decide) ?_
      rw [nI_clamp (by omega), ← nI_succ]
      refine ih (i + 1, _) ⟨by dsimp only; omega, hR.uJ, fun j hj => ?_⟩ (by dsimp only; omega)
      dsimp only at hj
      show sJ (uJ S2 (o + 1) i _) (o + 1) j = _
      by_cases q : j = i
      · subst q; rw [sJ_uJ, up2_s, if_neg (fun q => c2 (by rw [q]; rfl))]
      · rw [sJ_uJ, up2_k _ _ q]; exact h1 j (by omega)
    ·
      refine V_lconst 24 1 dX3_waysWithout_24 (by decide) ?_
      refine V_goto 25 29 dX3_waysWithout_25 (by decide) ?_
      refine V_lastore2 29 dX3_waysWithout_29 W2.2.2.2.2.1.1 W2.2.2.2.2.1.2.1 W2.2.2.2.2.1.2.2 ?_ ?_
      · exact vp_in_nI hi2 s19
      refine V_iinc_6 30 (1) dX3_waysWithout_30 (by decide) rfl (Nat.le_of_ble_eq_true rfl) ?_
      refine V_goto 33 3 dX3_waysWithout_33 (by decide) ?_
      rw [nI_clamp (by omega), ← nI_succ]
      refine ih (i + 1, _) ⟨by dsimp only; omega, hR.uJ, fun j hj => ?_⟩ (by dsimp only; omega)
      dsimp only at hj
      show sJ (uJ S2 (o + 1) i _) (o + 1) j = _
      by_cases q : j = i
      · subst q; rw [sJ_uJ, up2_s, if_pos (Nat.eq_zero_of_not_pos (fun q => absurd c2 (fun c2 => nI_ne0 q (by omega) c2)))]
      · rw [sJ_uJ, up2_k _ _ q]; exact h1 j (by omega)
set_option maxRecDepth 100000 in
set_option maxHeartbeats 8000000 in
theorem f_lost (l : Launch) (Γ : GC) (S : PS) {h : Nat} (F : isL lySockTable Γ.2.2.2.2.1 S h) (D : FRESH h S) (n a b : Int32) : CT l Γ yX11_lost cX11_lost 4 (some .long) (4) (0) (0) [.ref h, .int n, .int a, .int b] S (RLg (fun r S' => r = if n < 0 ∨ 18 < n ∨ b < 1 ∨ 9 < b ∨ a < 0 ∨ b < a then -1 else if n = 0 then 1 else 0)) := by
  refine CT.of RX11 "lost" [some (.ref h), some (.int n), some (.int a), some (.int b)] (by decide +kernel) rfl rfl (Nat.le_of_ble_eq_true rfl) rfl (fun M hM => ?_)
  subst hM
  obtain ⟨⟨d1, d2, d3, ⟨⟨k0, k1, k8, k9, k10, k11, k13⟩, kn, kp⟩, ⟨w1, w2, w3, w4⟩, dh, ⟨o1, o2, o3⟩, ⟨l1, l2, l3⟩, ds⟩, P1, P2⟩ := D
  refine V_iload_1 0 dX11_lost_0 ?_
  refine V_if_lt 1 30 dX11_lost_1 (by decide) (fun c1 => ?_) (fun c1 => ?_)
  ·
    refine V_ldc2_w 30 dX11_lost_30 kL_RX11_205 ?_
    refine V_lret 33 dX11_lost_33 rfl (Nat.le_of_ble_eq_true rfl) (Nat.le_of_ble_eq_true rfl) (RLg.mk (by rw [if_pos (Or.inl c1)]))
  refine V_iload_1 4 dX11_lost_4 ?_
  refine V_bipush 5 (18) dX11_lost_5 (by decide) ?_
  refine V_icmp_gt 7 30 dX11_lost_7 (by decide) (fun c2 => ?_) (fun c2 => ?_)
  ·
    refine V_ldc2_w 30 dX11_lost_30 kL_RX11_205 ?_
    refine V_lret 33 dX11_lost_33 rfl (Nat.le_of_ble_eq_true rfl) (Nat.le_of_ble_eq_true rfl) (RLg.mk (by rw [if_pos (Or.inr (Or.inl c2))]))
  refine V_iload_3 10 dX11_lost_10 ?_
  refine V_iconst 11 (1) dX11_lost_11 (by decide) ?_
  refine V_icmp_lt 12 30 dX11_lost_12 (by decide) (fun c3 => ?_) (fun c3 => ?_)
  ·
    refine V_ldc2_w 30 dX11_lost_30 kL_RX11_205 ?_
    refine V_lret 33 dX11_lost_33 rfl (Nat.le_of_ble_eq_true rfl) (Nat.le_of_ble_eq_true rfl) (RLg.mk (by rw [if_pos (Or.inr (Or.inr (Or.inl c3)))]))
  refine V_iload_3 15 dX11_lost_15 ?_
  refine V_bipush 16 (9) dX11_lost_16 (by decide) ?_
  refine V_icmp_gt 18 30 dX11_lost_18 (by decide) (fun c4 => ?_) (fun c4 => ?_)
  ·
    refine V_ldc2_w 30 dX11_lost_30 kL_RX11_205 ?_
    refine V_lret 33 dX11_lost_33 rfl (Nat.le_of_ble_eq_true rfl) (Nat.le_of_ble_eq_true rfl) (RLg.mk (by rw [if_pos (Or.inr (Or.inr (Or.inr (Or.inl c4))))]))
  refine V_iload_2 21 dX11_lost_21 ?_
  refine V_if_lt 22 30 dX11_lost_22 (by decide) (fun c5 => ?_) (fun c5 => ?_)
  ·
    refine V_ldc2_w 30 dX11_lost_30 kL_RX11_205 ?_
    refine V_lret 33 dX11_lost_33 rfl (Nat.le_of_ble_eq_true rfl) (Nat.le_of_ble_eq_true rfl) (RLg.mk (by rw [if_pos (Or.inr (Or.inr (Or.inr (Or.inr (Or.inl c5)))))]))
  refine V_iload_2 25 dX11_lost_25 ?_
  refine V_iload_3 26 dX11_lost_26 ?_
  refine V_icmp_le 27 34 dX11_lost_27 (by decide) (fun c6 => ?_) (fun c6 => ?_)
  rotate_left
  ·
    refine V_ldc2_w 30 dX11_lost_30 kL_RX11_205 ?_
    refine V_lret 33 dX11_lost_33 rfl (Nat.le_of_ble_eq_true rfl) (Nat.le_of_ble_eq_true rfl) (RLg.mk (by rw [if_pos (Or.inr (Or.inr (Or.inr (Or.inr (Or.inr (Int32.not_le.mp c6))))))]))
  have hw : ¬ (n < 0 ∨ 18 < n ∨ b < 1 ∨ 9 < b ∨ a < 0 ∨ b < a) := fun q => by
    rcases q with q | q | q | q | q | q
    · exact c1 q
    · exact c2 q
    · exact c3 q
    · exact c4 q
    · exact c5 q
    · exact absurd c6 (Int32.not_le.mpr q)
  rw [if_neg hw]
  obtain ⟨k, hk, rfl⟩ := nI_of2 (M := 18) (n := 18) (by decide) c1 (Int32.not_lt.mp c2)
  have F68 := F.sub 68 lyLosses rfl (by decide)
  refine V_aload_0 34 dX11_lost_34 ?_
  refine V_getR 35 (c := 11) 14 (F.r 0 14 68 rfl) dX11_lost_35 fl_RX11_77 (F.m 0 (Nat.le_of_ble_eq_true rfl)) (F.k 0 11 rfl) (Nat.le_of_ble_eq_true rfl) (Nat.le_of_ble_eq_true rfl) rfl ?_
  refine V_aload_0 38 dX11_lost_38 ?_
  refine V_getR 39 (c := 11) 5 (F.r 0 5 41 rfl) dX11_lost_39 fl_RX11_42 (F.m 0 (Nat.le_of_ble_eq_true rfl)) (F.k 0 11 rfl) (Nat.le_of_ble_eq_true rfl) (Nat.le_of_ble_eq_true rfl) rfl ?_
  refine V_aload_0 42 dX11_lost_42 ?_
  refine V_getR 43 (c := 11) 3 (F.r 0 3 27 rfl) dX11_lost_43 fl_RX11_31 (F.m 0 (Nat.le_of_ble_eq_true rfl)) (F.k 0 11 rfl) (Nat.le_of_ble_eq_true rfl) (Nat.le_of_ble_eq_true rfl) rfl ?_
  refine V_iload_1 46 dX11_lost_46 ?_
  refine V_iload_2 47 dX11_lost_47 ?_
  refine V_iload_3 48 dX11_lost_48 ?_
  refine V_callV 49 (ci := 3) [.ref _, .ref _, .int _, .int _, .int _] _ (c_waysWithout M.2.1 Γ S (o := h + 68) (s := h + 41) (t := h + 27) ⟨F68.m 0 (by decide), F68.k 0 3 rfl, F68.r 0 0 1 rfl, F68.r 0 1 2 rfl, ⟨F68.m 1 (by decide), F68.k 1 15 rfl, F68.l 1 19 rfl⟩, ⟨F68.m 2 (by decide), F68.k 2 15 rfl, F68.l 2 19 rfl⟩, by omega⟩ (F.sub 41 lyState rfl (by decide)) (F.sub 27 lyText rfl (by decide)) ⟨by show h + 41 + 4 ≤ _; omega, by show h + 27 + 14 ≤ _; omega⟩ w1 w2 kp k (by omega) _ _) dX11_lost_49 cb_X3_waysWithout ml_RX11_248 im_yX3_waysWithout se_yX3_waysWithout (F.m 68 (Nat.le_of_ble_eq_true rfl)) (F.k 68 3 rfl) (Nat.le_of_ble_eq_true rfl) ⟨(Nat.le_of_ble_eq_true rfl), (Nat.le_of_ble_eq_true rfl)⟩ rfl rfl (Nat.le_of_ble_eq_true rfl) ⟨(Nat.le_of_ble_eq_true rfl), (Nat.le_of_ble_eq_true rfl)⟩ (RLg.go (fun r S1 hq => ?_))
  refine V_lret 52 dX11_lost_52 rfl (Nat.le_of_ble_eq_true rfl) (Nat.le_of_ble_eq_true rfl) (RLg.mk (hq.trans (if_nI0 (by omega))))

