/-! what stays: the shape; rows; Text.clear -/
def SSm (S S' : PS) : Prop := sN S' = sN S ∧ sK S' = sK S ∧ sR S' = sR S ∧ sL S' = sL S ∧ sP S' = sP S
theorem SSm.rf {S : PS} : SSm S S := ⟨rfl, rfl, rfl, rfl, rfl⟩
theorem SSm.tr {S1 S2 S3 : PS} (h : SSm S1 S2) (g : SSm S2 S3) : SSm S1 S3 := ⟨g.1.trans h.1, g.2.1.trans h.2.1, g.2.2.1.trans h.2.2.1, g.2.2.2.1.trans h.2.2.2.1, g.2.2.2.2.trans h.2.2.2.2⟩
theorem isL.ss {ly : LAY} {lo b : Nat} {S S' : PS} (F : isL ly lo S b) (h : SSm S S') : isL ly lo S' b := F.eq (Nat.le_of_eq h.1.symm) (fun r _ => ⟨by rw [h.2.1], by rw [h.2.2.1], by rw [h.2.2.2.1]⟩)
/-- only the rows X have changed -/
def RO (X : List Nat) (S S2 : PS) : Prop := SSm S S2 ∧ sI S2 = sI S ∧ sJ S2 = sJ S ∧ ∀ a, a ∉ X → sA S2 a = sA S a
theorem RO.rf {X : List Nat} {S : PS} : RO X S S := ⟨SSm.rf, rfl, rfl, fun _ _ => rfl⟩
theorem RO.tr {X : List Nat} {S1 S2 S3 : PS} (h : RO X S1 S2) (g : RO X S2 S3) : RO X S1 S3 := ⟨h.1.tr g.1, g.2.1.trans h.2.1, g.2.2.1.trans h.2.2.1, fun a ha => (g.2.2.2 a ha).trans (h.2.2.2 a ha)⟩
theorem RO.sub {X Y : List Nat} {S S2 : PS} (h : RO X S S2) (hs : ∀ a, a ∈ X → a ∈ Y) : RO Y S S2 := ⟨h.1, h.2.1, h.2.2.1, fun a ha => h.2.2.2 a (fun q => ha (hs a q))⟩
theorem RO.uA {X : List Nat} {S S2 : PS} {a i : Nat} {v : Int32} (h : RO X S S2) (ha : a ∈ X) : RO X S (uA S2 a i v) := ⟨h.1, h.2.1, h.2.2.1, fun b hb => by rw [sA_uA, up2_an _ _ (fun q => hb (by rw [q]; exact ha))]; exact h.2.2.2 b hb⟩
theorem RO.aPt {X : List Nat} {S S2 : PS} {a : Nat} {i v : Int32} (h : RO X S S2) (ha : a ∈ X) : RO X S (aPut S2 a i v) := by
  unfold aPut; split
  · exact h
  · exact h.uA ha
theorem RO.cpy {X : List Nat} {S S2 : PS} {a b n : Nat} (h : RO X S S2) (hb : b ∈ X) : RO X S (cpA S2 a b n) := ⟨h.1, h.2.1, h.2.2.1, fun c hc => by
  have e : sA (cpA S2 a b n) c = sA S2 c := by
    funext j
    show (if c = b ∧ j < n then sA S2 a j else sA S2 c j) = _
    rw [if_neg (fun q => hc (by rw [q.1]; exact hb))]
  rw [e]; exact h.2.2.2 c hc⟩
theorem nI_lt8 {i n : Nat} (hn : n < 2 ^ 31) (hi : i ≤ n) (c : ¬ nI n ≤ nI i) : i < n := Nat.lt_of_not_le (fun q => c (nI_le q (by omega)))
theorem nI_ge8 {i n : Nat} (hn : n < 2 ^ 31) (hi : i ≤ n) (c : nI n ≤ nI i) : i = n := by
  rcases Nat.lt_or_ge i n with q | q
  · exact absurd c (nI_ge q hn)
  · omega
set_option maxRecDepth 100000 in
set_option maxHeartbeats 8000000 in
theorem c_X2_clear (l : Launch) (Γ : GC) (S : PS) {t : Nat} (F : isL lyLaw Γ.2.2.2.2.1 S t) : CT l Γ yX2_clear cX2_clear 1 none (0) (0) (0) [.ref t] S (RV (fun S' => S' = uI S t 2 0)) := by
  refine CT.of RX2 "clear" [some (.ref t)] (by decide +kernel) rfl rfl (Nat.le_of_ble_eq_true rfl) rfl (fun M hM => ?_)
  subst hM
  refine V_aload_0 0 dX2_clear_0 ?_
  refine V_iconst 1 (0) dX2_clear_1 (by decide) ?_
  refine V_putI 2 (c := 2) 2 dX2_clear_2 fl_RX2_21 (F.m 0 (Nat.le_of_ble_eq_true rfl)) (F.k 0 2 rfl) (Nat.le_of_ble_eq_true rfl) (Nat.le_of_ble_eq_true rfl) rfl (Or.inl rfl) ?_
  refine V_vret 5 dX2_clear_5 rfl (Nat.le_of_ble_eq_true rfl) (Nat.le_of_ble_eq_true rfl) (RV.mk rfl)
set_option maxRecDepth 100000 in
set_option maxHeartbeats 8000000 in
theorem c_X10_takeLineAway (l : Launch) (Γ : GC) (S : PS) {t : Nat} (F : isL lyText Γ.2.2.2.2.1 S t) : CT l Γ yX10_takeLineAway cX10_takeLineAway 2 none (0) (0) (0) [.ref t] S (RV (fun S' => RO [t + 8] (uI S t 13 0) S')) := by
  refine CT.of RX10 "takeLineAway" [some (.ref t), none] (by decide +kernel) rfl rfl (Nat.le_of_ble_eq_true rfl) rfl (fun M hM => ?_)
  subst hM
  refine V_aload_0 0 dX10_takeLineAway_0 ?_
  refine V_iconst 1 (0) dX10_takeLineAway_1 (by decide) ?_
  refine V_putI 2 (c := 10) 13 dX10_takeLineAway_2 fl_RX10_81 (F.m 0 (Nat.le_of_ble_eq_true rfl)) (F.k 0 10 rfl) (Nat.le_of_ble_eq_true rfl) (Nat.le_of_ble_eq_true rfl) rfl (Or.inl rfl) ?_
  refine V_iconst 5 (0) dX10_takeLineAway_5 (by decide) ?_
  refine V_istore_1 6 dX10_takeLineAway_6 rfl (Nat.le_of_ble_eq_true rfl) ?_
  refine V_while (α := Nat × PS) (fun x => 8 - x.1) (fun x => x.1 ≤ 8 ∧ RO [t + 8] (uI S t 13 0) x.2) (fun x => x.2) (fun x => [some (.ref t), some (.int (nI x.1))]) (0, uI S t 13 0) ⟨Nat.zero_le _, RO.rf⟩ (fun x hx ih => ?_)
  obtain ⟨i, S2⟩ := x
  obtain ⟨hi, hR⟩ := hx
  dsimp only at hi hR ih ⊢
  have F2 : isL lyText Γ.2.2.2.2.1 S2 t := F.ss hR.1
  refine V_iload_1 7 dX10_takeLineAway_7 ?_
  refine V_aload_0 8 dX10_takeLineAway_8 ?_
  refine V_getR 9 (c := 10) 14 (F2.r 0 14 8 rfl) dX10_takeLineAway_9 fl_RX10_34 (F2.m 0 (Nat.le_of_ble_eq_true rfl)) (F2.k 0 10 rfl) (Nat.le_of_ble_eq_true rfl) (Nat.le_of_ble_eq_true rfl) rfl ?_
  refine V_alen2 12 dX10_takeLineAway_12 (F2.m 8 (Nat.le_of_ble_eq_true rfl)) (F2.k 8 14 rfl) (Nat.le_of_ble_eq_true rfl) (Nat.le_of_ble_eq_true rfl) (F2.l 8 8 rfl) ?_
  refine V_icmp_ge 13 29 dX10_takeLineAway_13 (by decide) (fun c => ?_) (fun c => ?_)
  ·
    refine V_vret 29 dX10_takeLineAway_29 rfl (Nat.le_of_ble_eq_true rfl) (Nat.le_of_ble_eq_true rfl) (RV.mk hR)
  ·
    have hi2 := nI_lt8 (by decide) hi c
    refine V_aload_0 16 dX10_takeLineAway_16 ?_
    refine V_getR 17 (c := 10) 14 (F2.r 0 14 8 rfl) dX10_takeLineAway_17 fl_RX10_34 (F2.m 0 (Nat.le_of_ble_eq_true rfl)) (F2.k 0 10 rfl) (Nat.le_of_ble_eq_true rfl) (Nat.le_of_ble_eq_true rfl) rfl ?_
    refine V_iload_1 20 dX10_takeLineAway_20 ?_
    refine V_iconst 21 (0) dX10_takeLineAway_21 (by decide) ?_
    refine V_iastore2 22 dX10_takeLineAway_22 (F2.m 8 (Nat.le_of_ble_eq_true rfl)) (F2.k 8 14 rfl) (F2.l 8 8 rfl) ?_ ?_
    · exact vp_in_nI hi2 (by decide)
    refine V_iinc_1 23 (1) dX10_takeLineAway_23 (by decide) rfl (Nat.le_of_ble_eq_true rfl) ?_
    refine V_goto 26 7 dX10_takeLineAway_26 (by decide) ?_
    rw [← nI_succ]
    exact ih (i + 1, _) ⟨by dsimp only; omega, hR.uA (by simp)⟩ (by dsimp only; omega)
/-- what Text.clear leaves -/
def CLR (t : Nat) (S S' : PS) : Prop := SSm S S' ∧ (∀ a, a ≠ t → a ≠ t + 10 → sI S' a = sI S a) ∧ (∀ a, a ∉ [t + 1, t + 2, t + 3, t + 6, t + 8] → sA S' a = sA S a) ∧ sJ S' = sJ S ∧
  (sI S' t 0 = 0 ∧ sI S' t 1 = 0 ∧ sI S' t 8 = 0 ∧ sI S' t 9 = 18 ∧ sI S' t 10 = 1 ∧ sI S' t 11 = 0 ∧ sI S' t 13 = 0) ∧ (∀ j, j < 8 → sA S' (t + 1) j = 0) ∧ (∀ j, j < 8 → sA S' (t + 2) j = nI j)
def inv10 (t : Nat) (S : PS) (i : Nat) (S2 : PS) : Prop := RO [t + 1, t + 2, t + 3, t + 6] S S2 ∧ (∀ j, j < i → sA S2 (t + 1) j = 0) ∧ (∀ j, j < i → sA S2 (t + 2) j = nI j)
theorem inv10_step {t i : Nat} {S S2 S3 : PS} (h : inv10 t S i S2) (hi : i < 8) (hR : RO [t + 6] (uA (uA (uA S2 (t + 1) i 0) (t + 2) i (nI i)) (t + 3) i 0) S3) : inv10 t S (i + 1) S3 := by
  obtain ⟨h1, h2, h3⟩ := h
  refine ⟨RO.tr (((h1.uA (by simp)).uA (by simp)).uA (by simp)) (hR.sub (by simp)), fun j hj => ?_, fun j hj => ?_⟩
  · rw [hR.2.2.2 (t + 1) (by simp)]
    rw [sA_uA, up2_an _ _ (by omega), sA_uA, up2_an _ _ (by omega), sA_uA]
    by_cases q : j = i
    · subst q; exact up2_s _ _ _ _
    · rw [up2_k _ _ q]; exact h2 j (by omega)
  · rw [hR.2.2.2 (t + 2) (by simp)]
    rw [sA_uA, up2_an _ _ (by omega), sA_uA]
    by_cases q : j = i
    · subst q; exact up2_s _ _ _ _
    · rw [up2_k _ _ q, sA_uA, up2_an _ _ (by omega)]; exact h3 j (by omega)
set_option maxRecDepth 100000 in
set_option maxHeartbeats 8000000 in
theorem c_X10_clear (l : Launch) (Γ : GC) (S : PS) {t : Nat} (F : isL lyText Γ.2.2.2.2.1 S t) : CT l Γ yX10_clear cX10_clear 3 none (1) (0) (0) [.ref t] S (RV (fun S' => CLR t S S')) := by
  refine CT.of RX10 "clear" [some (.ref t), none, none] (by decide +kernel) rfl rfl (Nat.le_of_ble_eq_true rfl) rfl (fun M hM => ?_)
  subst hM
  refine V_aload_0 0 dX10_clear_0 ?_
  refine V_iconst 1 (0) dX10_clear_1 (by decide) ?_
  refine V_putI 2 (c := 10) 0 dX10_clear_2 fl_RX10_50 (F.m 0 (Nat.le_of_ble_eq_true rfl)) (F.k 0 10 rfl) (Nat.le_of_ble_eq_true rfl) (Nat.le_of_ble_eq_true rfl) rfl (Or.inl rfl) ?_
  refine V_aload_0 5 dX10_clear_5 ?_
  refine V_iconst 6 (0) dX10_clear_6 (by decide) ?_
  refine V_putI 7 (c := 10) 1 dX10_clear_7 fl_RX10_54 (F.m 0 (Nat.le_of_ble_eq_true rfl)) (F.k 0 10 rfl) (Nat.le_of_ble_eq_true rfl) (Nat.le_of_ble_eq_true rfl) rfl (Or.inl rfl) ?_
  refine V_iconst 10 (0) dX10_clear_10 (by decide) ?_
  refine V_istore_1 11 dX10_clear_11 rfl (Nat.le_of_ble_eq_true rfl) ?_
  refine V_while (α := Nat × PS × Option Value) (fun x => 8 - x.1) (fun x => x.1 ≤ 8 ∧ inv10 t (uI (uI S t 0 0) t 1 0) x.1 x.2.1) (fun x => x.2.1) (fun x => [some (.ref t), some (.int (nI x.1)), x.2.2]) (0, uI (uI S t 0 0) t 1 0, none) ⟨Nat.zero_le _, RO.rf, fun j hj => absurd hj (Nat.not_lt_zero _), fun j hj => absurd hj (Nat.not_lt_zero _)⟩ (fun x hx ih => ?_)
  obtain ⟨i, S2, c2⟩ := x
  obtain ⟨hi, hR⟩ := hx
  dsimp only at hi hR ih ⊢
  have F2 : isL lyText Γ.2.2.2.2.1 S2 t := F.ss hR.1.1
  refine V_iload_1 12 dX10_clear_12 ?_
  refine V_bipush 13 (8) dX10_clear_13 (by decide) ?_
  refine V_icmp_ge 15 83 dX10_clear_15 (by decide) (fun c => ?_) (fun c => ?_)
  ·
    have hi2 := nI_ge8 (by decide) hi c
    subst hi2
    refine V_aload_0 83 dX10_clear_83 ?_
    refine V_iconst 84 (0) dX10_clear_84 (by decide) ?_
    refine V_putI 85 (c := 10) 8 dX10_clear_85 fl_RX10_61 (F2.m 0 (Nat.le_of_ble_eq_true rfl)) (F2.k 0 10 rfl) (Nat.le_of_ble_eq_true rfl) (Nat.le_of_ble_eq_true rfl) rfl (Or.inl rfl) ?_
    refine V_aload_0 88 dX10_clear_88 ?_
    refine V_bipush 89 (18) dX10_clear_89 (by decide) ?_
    refine V_putI 91 (c := 10) 9 dX10_clear_91 fl_RX10_64 (F2.m 0 (Nat.le_of_ble_eq_true rfl)) (F2.k 0 10 rfl) (Nat.le_of_ble_eq_true rfl) (Nat.le_of_ble_eq_true rfl) rfl (Or.inl rfl) ?_
    refine V_aload_0 94 dX10_clear_94 ?_
    refine V_iconst 95 (1) dX10_clear_95 (by decide) ?_
    refine V_putI 96 (c := 10) 10 dX10_clear_96 fl_RX10_67 (F2.m 0 (Nat.le_of_ble_eq_true rfl)) (F2.k 0 10 rfl) (Nat.le_of_ble_eq_true rfl) (Nat.le_of_ble_eq_true rfl) rfl (Or.inl rfl) ?_
    refine V_aload_0 99 dX10_clear_99 ?_
    refine V_iconst 100 (0) dX10_clear_100 (by decide) ?_
    refine V_putI 101 (c := 10) 11 dX10_clear_101 fl_RX10_70 (F2.m 0 (Nat.le_of_ble_eq_true rfl)) (F2.k 0 10 rfl) (Nat.le_of_ble_eq_true rfl) (Nat.le_of_ble_eq_true rfl) rfl (Or.inl rfl) ?_
    refine V_aload_0 104 dX10_clear_104 ?_
    refine V_callV 105 (ci := 10) [] _ (c_X10_takeLineAway M.2.1 Γ _ (t := t) F2) dX10_clear_105 cb_X10_takeLineAway ml_RX10_73 im_yX10_takeLineAway se_yX10_takeLineAway (F2.m 0 (Nat.le_of_ble_eq_true rfl)) (F2.k 0 10 rfl) (Nat.le_of_ble_eq_true rfl) ⟨(Nat.le_of_ble_eq_true rfl), (Nat.le_of_ble_eq_true rfl)⟩ rfl rfl (Nat.le_of_ble_eq_true rfl) ⟨(Nat.le_of_ble_eq_true rfl), (Nat.le_of_ble_eq_true rfl)⟩ (RV.go (fun S3 hq => ?_))
    have F3 : isL lyText Γ.2.2.2.2.1 S3 t := F2.ss hq.1
    refine V_aload_0 108 dX10_clear_108 ?_
    refine V_getR 109 (c := 10) 16 (F3.r 0 16 10 rfl) dX10_clear_109 fl_RX10_43 (F3.m 0 (Nat.le_of_ble_eq_true rfl)) (F3.k 0 10 rfl) (Nat.le_of_ble_eq_true rfl) (Nat.le_of_ble_eq_true rfl) rfl ?_
    refine V_callV 112 (ci := 2) [] _ (c_X2_clear M.2.1 Γ _ (t := t + 10) (F3.sub 10 lyLaw rfl (by decide))) dX10_clear_112 cb_X2_clear ml_RX10_76 im_yX2_clear se_yX2_clear (F3.m 10 (Nat.le_of_ble_eq_true rfl)) (F3.k 10 2 rfl) (Nat.le_of_ble_eq_true rfl) ⟨(Nat.le_of_ble_eq_true rfl), (Nat.le_of_ble_eq_true rfl)⟩ rfl rfl (Nat.le_of_ble_eq_true rfl) ⟨(Nat.le_of_ble_eq_true rfl), (Nat.le_of_ble_eq_true rfl)⟩ (RV.go (fun S4 hq4 => ?_))
    subst hq4
    refine V_vret 115 dX10_clear_115 rfl (Nat.le_of_ble_eq_true rfl) (Nat.le_of_ble_eq_true rfl) ?_
    have e1 : sI S3 = up2 (up2 (up2 (up2 (up2 (up2 (up2 (sI S) t 0 0) t 1 0) t 8 0) t 9 18) t 10 1) t 11 0) t 13 0 := by rw [hq.2.1]; simp only [sI_uI]; rw [hR.1.2.1]; rfl
    refine RV.mk ⟨hR.1.1.tr hq.1, fun a h1 h2 => ?_, fun a ha => ?_, ?_, ?_, fun j hj => ?_, fun j hj => ?_⟩
    · show sI (uI S3 (t + 10) 2 0) a = _
      rw [sI_uI, up2_an _ _ h2, e1]
      simp (disch := omega) only [up2_an]
    · show sA S3 a = _
      rw [hq.2.2.2 a (by simp at ha ⊢; omega)]
      show sA S2 a = _
      rw [hR.1.2.2.2 a (by simp at ha ⊢; omega)]; rfl
    · show sJ S3 = _
      rw [hq.2.2.1]
      show sJ S2 = _
      rw [hR.1.2.2.1]; rfl
    · have e2 : sI (uI S3 (t + 10) 2 0) t = sI S3 t := up2_an _ _ (by omega)
      rw [e2, e1]
      refine ⟨?_, ?_, ?_, ?_, ?_, ?_, ?_⟩ <;> simp (disch := omega) only [up2_is, up2_k]
    · show sA S3 (t + 1) j = 0
      rw [hq.2.2.2 (t + 1) (by simp)]
      exact hR.2.1 j hj
    · show sA S3 (t + 2) j = nI j
      rw [hq.2.2.2 (t + 2) (by simp)]
      exact hR.2.2 j hj
  ·
    have hi2 := nI_lt8 (by decide) hi c
    refine V_aload_0 18 dX10_clear_18 ?_
    refine V_getR 19 (c := 10) 2 (F2.r 0 2 1 rfl) dX10_clear_19 fl_RX10_9 (F2.m 0 (Nat.le_of_ble_eq_true rfl)) (F2.k 0 10 rfl) (Nat.le_of_ble_eq_true rfl) (Nat.le_of_ble_eq_true rfl) rfl ?_
    refine V_iload_1 22 dX10_clear_22 ?_
    refine V_iconst 23 (0) dX10_clear_23 (by decide) ?_
    refine V_iastore2 24 dX10_clear_24 (F2.m 1 (Nat.le_of_ble_eq_true rfl)) (F2.k 1 14 rfl) (F2.l 1 8 rfl) ?_ ?_
    · exact vp_in_nI hi2 (by decide)
    refine V_aload_0 25 dX10_clear_25 ?_
    refine V_getR 26 (c := 10) 3 (F2.r 0 3 2 rfl) dX10_clear_26 fl_RX10_15 (F2.m 0 (Nat.le_of_ble_eq_true rfl)) (F2.k 0 10 rfl) (Nat.le_of_ble_eq_true rfl) (Nat.le_of_ble_eq_true rfl) rfl ?_
    refine V_iload_1 29 dX10_clear_29 ?_
    refine V_iload_1 30 dX10_clear_30 ?_
    refine V_iastore2 31 dX10_clear_31 (F2.m 2 (Nat.le_of_ble_eq_true rfl)) (F2.k 2 14 rfl) (F2.l 2 8 rfl) ?_ ?_
    · exact vp_in_nI hi2 (by decide)
    refine V_aload_0 32 dX10_clear_32 ?_
    refine V_getR 33 (c := 10) 4 (F2.r 0 4 3 rfl) dX10_clear_33 fl_RX10_18 (F2.m 0 (Nat.le_of_ble_eq_true rfl)) (F2.k 0 10 rfl) (Nat.le_of_ble_eq_true rfl) (Nat.le_of_ble_eq_true rfl) rfl ?_
    refine V_iload_1 36 dX10_clear_36 ?_
    refine V_iconst 37 (0) dX10_clear_37 (by decide) ?_
    refine V_iastore2 38 dX10_clear_38 (F2.m 3 (Nat.le_of_ble_eq_true rfl)) (F2.k 3 14 rfl) (F2.l 3 8 rfl) ?_ ?_
    · exact vp_in_nI hi2 (by decide)
    rw [nI_clamp (by omega)]
    refine V_iconst 39 (0) dX10_clear_39 (by decide) ?_
    refine V_istore_2 40 dX10_clear_40 rfl (Nat.le_of_ble_eq_true rfl) ?_
    refine V_while (α := Nat × PS) (fun x => 8 - x.1) (fun x => x.1 ≤ 8 ∧ RO [t + 6] (uA (uA (uA S2 (t + 1) i 0) (t + 2) i (nI i)) (t + 3) i 0) x.2) (fun x => x.2) (fun x => [some (.ref t), some (.int (nI i)), some (.int (nI x.1))]) (0, _) ⟨Nat.zero_le _, RO.rf⟩ (fun x hx ih2 => ?_)
    obtain ⟨j, S3⟩ := x
    obtain ⟨hj, hR3⟩ := hx
    dsimp only at hj hR3 ih2 ⊢
    have F3 : isL lyText Γ.2.2.2.2.1 S3 t := F2.ss hR3.1
    refine V_iload_2 41 dX10_clear_41 ?_
    refine V_bipush 42 (8) dX10_clear_42 (by decide) ?_
    refine V_icmp_ge 44 77 dX10_clear_44 (by decide) (fun cj => ?_) (fun cj => ?_)
    ·
      refine V_iinc_1 77 (1) dX10_clear_77 (by decide) rfl (Nat.le_of_ble_eq_true rfl) ?_
      refine V_goto 80 12 dX10_clear_80 (by decide) ?_
      rw [← nI_succ]
      exact ih (i + 1, S3, some (.int (nI j))) ⟨by dsimp only; omega, inv10_step hR hi2 hR3⟩ (by dsimp only; omega)
    ·
      have hj2 := nI_lt8 (by decide) hj cj
      refine V_aload_0 47 dX10_clear_47 ?_
      refine V_getR 48 (c := 10) 7 (F3.r 0 7 6 rfl) dX10_clear_48 fl_RX10_28 (F3.m 0 (Nat.le_of_ble_eq_true rfl)) (F3.k 0 10 rfl) (Nat.le_of_ble_eq_true rfl) (Nat.le_of_ble_eq_true rfl) rfl ?_
      refine V_iload_1 51 dX10_clear_51 ?_
      refine V_bipush 52 (8) dX10_clear_52 (by decide) ?_
      refine V_imul 54 dX10_clear_54 ?_
      refine V_iload_2 55 dX10_clear_55 ?_
      refine V_iadd 56 dX10_clear_56 ?_
      refine V_iload_1 57 dX10_clear_57 ?_
      refine V_iload_2 58 dX10_clear_58 ?_
      refine V_icmp_ne 59 66 dX10_clear_59 (by decide) (fun ce => ?_) (fun ce => ?_)
      ·
        refine V_bipush 66 (100) dX10_clear_66 (by decide) ?_
        refine V_callSN 68 [.ref _, .int _, .int _] _ (c_put M.2.1 Γ _ (a := t + 6) (F3.m 6 (by decide)) (F3.k 6 14 rfl) (by rw [F3.l 6 64 rfl]; decide) _ _) dX10_clear_68 cb_X11_put ne_RX10_57 sm_yX11_put ⟨(Nat.le_of_ble_eq_true rfl), (Nat.le_of_ble_eq_true rfl)⟩ rfl rfl (Nat.le_of_ble_eq_true rfl) ⟨(Nat.le_of_ble_eq_true rfl), (Nat.le_of_ble_eq_true rfl)⟩ (RV.go (fun S4 hq => ?_))
        subst hq
        refine V_iinc_2 71 (1) dX10_clear_71 (by decide) rfl (Nat.le_of_ble_eq_true rfl) ?_
        refine V_goto 74 41 dX10_clear_74 (by decide) ?_
        rw [← nI_succ]
        exact ih2 (j + 1, _) ⟨by dsimp only; omega, hR3.aPt (by simp)⟩ (by dsimp only; omega)
      ·
        refine V_iconst 62 (0) dX10_clear_62 (by decide) ?_
        refine V_goto 63 68 dX10_clear_63 (by decide) ?_
        refine V_callSN 68 [.ref _, .int _, .int _] _ (c_put M.2.1 Γ _ (a := t + 6) (F3.m 6 (by decide)) (F3.k 6 14 rfl) (by rw [F3.l 6 64 rfl]; decide) _ _) dX10_clear_68 cb_X11_put ne_RX10_57 sm_yX11_put ⟨(Nat.le_of_ble_eq_true rfl), (Nat.le_of_ble_eq_true rfl)⟩ rfl rfl (Nat.le_of_ble_eq_true rfl) ⟨(Nat.le_of_ble_eq_true rfl), (Nat.le_of_ble_eq_true rfl)⟩ (RV.go (fun S4 hq => ?_))
        subst hq
        refine V_iinc_2 71 (1) dX10_clear_71 (by decide) rfl (Nat.le_of_ble_eq_true rfl) ?_
        refine V_goto 74 41 dX10_clear_74 (by decide) ?_
        rw [← nI_succ]
        exact ih2 (j + 1, _) ⟨by dsimp only; omega, hR3.aPt (by simp)⟩ (by dsimp only; omega)

