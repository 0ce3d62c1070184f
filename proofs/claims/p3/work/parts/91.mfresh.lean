/-! the reference fresh: as p1 has it -/
def JO (b : Nat) (S S2 : PS) : Prop := SSm S S2 ∧ sI S2 = sI S ∧ sA S2 = sA S ∧ ∀ c, c ≠ b → sJ S2 c = sJ S c
theorem JO.rf {b : Nat} {S : PS} : JO b S S := ⟨SSm.rf, rfl, rfl, fun _ _ => rfl⟩
theorem JO.uJ {b i : Nat} {v : Int64} {S S2 : PS} (h : JO b S S2) : JO b S (uJ S2 b i v) := ⟨h.1, h.2.1, h.2.2.1, fun c hc => by rw [sJ_uJ, up2_an _ _ hc]; exact h.2.2.2 c hc⟩
theorem JO.tr {b : Nat} {S S2 S3 : PS} (h : JO b S S2) (g : JO b S2 S3) : JO b S S3 := ⟨h.1.tr g.1, g.2.1.trans h.2.1, g.2.2.1.trans h.2.2.1, fun c hc => (g.2.2.2 c hc).trans (h.2.2.2 c hc)⟩
/-! the model: its fresh state; its constructor -/
def ZRL : List Nat := [1, 2, 3, 4, 5, 10, 12, 13, 14, 22, 23, 27, 28, 29, 30, 31, 32, 33, 34, 35, 36, 37, 38, 39, 42, 43, 44, 45, 46, 49, 50, 51, 52, 53, 54, 56]
def ONL : List Nat := [8, 11, 15, 16, 18, 21, 24, 25, 26]
/-- a fresh model but its row of held slots -/
def FMd (m : Nat) (S : PS) : Prop := sI S m 17 = -1 ∧ (∀ i, i ≠ 17 ∧ i ≠ 55 ∧ i ≠ 56 → sI S m i = 0) ∧ (∀ r, r ∈ ZRL → sA S (m + r) = fun _ => 0) ∧ (∀ r, r ∈ ONL → sA S (m + r) 0 = 0) ∧ sA S (m + 19) 0 = 18 ∧ sA S (m + 20) 0 = 1
section FMS
variable {m : Nat} {S S2 : PS}
theorem FMd.i (h : FMd m S) (i : Nat) (hi : i ≠ 17 ∧ i ≠ 55 ∧ i ≠ 56) : sI S m i = 0 := h.2.1 i hi
theorem FMd.z (h : FMd m S) (r : Nat) (hr : r ∈ ZRL) (j : Nat) : sA S (m + r) j = 0 := congrFun (h.2.2.1 r hr) j
theorem FMd.o (h : FMd m S) (r : Nat) (hr : r ∈ ONL) : sA S (m + r) (Int32.toNatClampNeg 0) = 0 := h.2.2.2.1 r hr
theorem FMd.room (h : FMd m S) : sA S (m + 19) (Int32.toNatClampNeg 0) = 18 := h.2.2.2.2.1
theorem FMd.full (h : FMd m S) : sA S (m + 20) (Int32.toNatClampNeg 0) = 1 := h.2.2.2.2.2
/-- the same where the int fields and the rows that are looked at are the same -/
theorem FMd.to (h : FMd m S) (h1 : ∀ i, i ≠ 55 ∧ i ≠ 56 → sI S2 m i = sI S m i) (h2 : ∀ r, 1 ≤ r ∧ r < 57 ∧ r ≠ 40 ∧ r ≠ 55 → sA S2 (m + r) = sA S (m + r)) : FMd m S2 := by
  obtain ⟨a1, a2, a3, a4, a5, a6⟩ := h
  refine ⟨(h1 17 (by decide)).trans a1, fun i hi => (h1 i hi.2).trans (a2 i hi), fun r hr => (h2 r ?_).trans (a3 r hr), fun r hr => (congrFun (h2 r ?_) 0).trans (a4 r hr), (congrFun (h2 19 (by decide)) 0).trans a5, (congrFun (h2 20 (by decide)) 0).trans a6⟩
  · revert r hr; decide
  · revert r hr; decide
theorem FMd.uA (h : FMd m S) {r i : Nat} {v : Int32} (hr : r = 40 ∨ r = 55) : FMd m (uA S (m + r) i v) := h.to (fun _ _ => rfl) (fun q hq => by rw [sA_uA, up2_an _ _ (by omega)])
theorem FMd.uJ (h : FMd m S) {a i : Nat} {v : Int64} : FMd m (uJ S a i v) := h.to (fun _ _ => rfl) (fun _ _ => rfl)
theorem FMd.uI (h : FMd m S) {i : Nat} {v : Int32} (hi : i = 55 ∨ i = 56) : FMd m (uI S m i v) := h.to (fun q hq => by rw [sI_uI, up2_k _ _ (by omega)]) (fun _ _ => rfl)
end FMS
/-- a fresh model -/
def FRM (m : Nat) (S : PS) : Prop := FMd m S ∧ ∀ j, sA S (m + 55) j = 0
/-- the constructor's work: the first k cells stand, all rows are 0 -/
def MB (k : Nat) (dn : List Nat) (lo : Nat) (S0 : PS) (h : Nat) (S : PS) : Prop := BLD lyModel k dn lo S0 h S ∧ ∀ r, 1 ≤ r → r < k → sA S (h + r) = fun _ => 0
theorem mb_arr {k : Nat} {dn : List Nat} {lo : Nat} {S0 : PS} {h : Nat} {S : PS} (B : MB k dn lo S0 h S) (j kd n : Nat) (hj : lyR lyModel j = some (some k)) (he : lyModel[k]? = some (kd, [], n)) :
    MB (k + 1) (j :: dn) lo S0 h (uR (nA S (lo + sN S) kd n) h j (some (lo + sN S))) ∧ sI (uR (nA S (lo + sN S) kd n) h j (some (lo + sN S))) h = sI S h := by
  obtain ⟨b1, b2, b3, -⟩ := bld_arr B.1 j kd n hj he
  refine ⟨⟨b1, fun r h1 h2 => ?_⟩, b2.2⟩
  by_cases q : r = k
  · subst q; exact b3
  · rw [(b2.1 (h + r) (by omega) (by omega)).2.2.2.2.2.1]; exact B.2 r h1 (by omega)
theorem mb_int {k : Nat} {dn : List Nat} {lo : Nat} {S0 : PS} {h : Nat} {S : PS} (B : MB k dn lo S0 h S) (j : Nat) (v : Int32) : MB k dn lo S0 h (uI S h j v) ∧ sI (uI S h j v) h = (fun i => if i = j then v else sI S h i) := by
  obtain ⟨b1, b2, b3, b4⟩ := bld_int B.1 j v
  refine ⟨⟨b1, fun r h1 h2 => ?_⟩, ?_⟩
  · rw [(b2 (h + r) (by omega) (by omega)).2.2.2.2.2.1]; exact B.2 r h1 h2
  · funext i
    by_cases q : i = j
    · subst q; rw [if_pos rfl]; exact b3
    · rw [if_neg q]; exact b4 i q
theorem NEWO.ro {ly : LAY} {lo : Nat} {S : PS} {h : Nat} {S1 S2 : PS} {X : List Nat} (hN : NEWO ly lo S h S1) (hR : RO X S1 S2) (hX : ∀ a, a ∈ X → h ≤ a) : NEWO ly lo S h S2 :=
  ⟨by rw [hR.1.1]; exact hN.1, fun a ha => (hN.2.1 a ha).tr ⟨by rw [hR.1.2.1], by rw [hR.1.2.2.1], by rw [hR.2.1], by rw [hR.1.2.2.2.1], by rw [hR.1.2.2.2.2], hR.2.2.2 a (fun q => by have := hX a q; omega), by rw [hR.2.2.1]⟩, hN.2.2.ss hR.1⟩
theorem NEWO.jo {ly : LAY} {lo : Nat} {S : PS} {h : Nat} {S1 S2 : PS} {b : Nat} (hN : NEWO ly lo S h S1) (hR : JO b S1 S2) (hX : h ≤ b) : NEWO ly lo S h S2 :=
  ⟨by rw [hR.1.1]; exact hN.1, fun a ha => (hN.2.1 a ha).tr ⟨by rw [hR.1.2.1], by rw [hR.1.2.2.1], by rw [hR.2.1], by rw [hR.1.2.2.2.1], by rw [hR.1.2.2.2.2], by rw [hR.2.2.1], hR.2.2.2 a (by omega)⟩, hN.2.2.ss hR.1⟩
set_option maxRecDepth 100000 in
set_option maxHeartbeats 8000000 in
theorem c_appends (l : Launch) (Γ : GC) (S : PS) (x : Int64) (y : Int32) : CT l Γ yX12_appends cX12_appends 3 (some .long) (0) (0) (0) [.long x, .int y] S (RLg (fun r S' => S' = S)) := by
  refine CT.of RX12 "appends" [some (.long x), none, some (.int y)] (by decide +kernel) rfl rfl (Nat.le_of_ble_eq_true rfl) rfl (fun M hM => ?_)
  subst hM
  refine V_iload_2 0 dX12_appends_0 ?_
  refine V_if_ne 1 8 dX12_appends_1 (by decide) (fun c => ?_) (fun c => ?_)
  ·
    refine V_ldc2_w 8 dX12_appends_8 kL_RX12_206 ?_
    refine V_lload_0 11 dX12_appends_11 ?_
    refine V_lmul 12 dX12_appends_12 ?_
    refine V_iload_2 13 dX12_appends_13 ?_
    refine V_bipush 14 (97) dX12_appends_14 (by decide) ?_
    refine V_isub 16 dX12_appends_16 ?_
    refine V_iconst 17 (1) dX12_appends_17 (by decide) ?_
    refine V_iadd 18 dX12_appends_18 ?_
    refine V_i2l 19 dX12_appends_19 ?_
    refine V_ladd 20 dX12_appends_20 ?_
    refine V_lret 21 dX12_appends_21 rfl (Nat.le_of_ble_eq_true rfl) (Nat.le_of_ble_eq_true rfl) (RLg.mk rfl)
  ·
    refine V_lload_0 4 dX12_appends_4 ?_
    refine V_goto 5 21 dX12_appends_5 (by decide) ?_
    refine V_lret 21 dX12_appends_21 rfl (Nat.le_of_ble_eq_true rfl) (Nat.le_of_ble_eq_true rfl) (RLg.mk rfl)
set_option maxRecDepth 100000 in
set_option maxHeartbeats 8000000 in
theorem c_word (l : Launch) (Γ : GC) (S : PS) (x0 x1 x2 x3 x4 x5 x6 : Int32) : CT l Γ yX12_word cX12_word 7 (some .long) (1) (0) (0) [.int x0, .int x1, .int x2, .int x3, .int x4, .int x5, .int x6] S (RLg (fun r S' => S' = S)) := by
  refine CT.of RX12 "word" [some (.int x0), some (.int x1), some (.int x2), some (.int x3), some (.int x4), some (.int x5), some (.int x6)] (by decide +kernel) rfl rfl (Nat.le_of_ble_eq_true rfl) rfl (fun M hM => ?_)
  subst hM
  refine V_lconst 0 0 dX12_word_0 (by decide) ?_
  refine V_iload_0 1 dX12_word_1 ?_
  refine V_callS 2 [.long _, .int _] _ (c_appends M.2.1 Γ _ _ _) dX12_word_2 cb_X12_appends ml_RX12_208 sm_yX12_appends ⟨(Nat.le_of_ble_eq_true rfl), (Nat.le_of_ble_eq_true rfl)⟩ rfl rfl (Nat.le_of_ble_eq_true rfl) ⟨(Nat.le_of_ble_eq_true rfl), (Nat.le_of_ble_eq_true rfl)⟩ (RLg.go (fun r1 S1 h1 => ?_))
  subst h1
  refine V_iload_1 5 dX12_word_5 ?_
  refine V_callS 6 [.long _, .int _] _ (c_appends M.2.1 Γ _ _ _) dX12_word_6 cb_X12_appends ml_RX12_208 sm_yX12_appends ⟨(Nat.le_of_ble_eq_true rfl), (Nat.le_of_ble_eq_true rfl)⟩ rfl rfl (Nat.le_of_ble_eq_true rfl) ⟨(Nat.le_of_ble_eq_true rfl), (Nat.le_of_ble_eq_true rfl)⟩ (RLg.go (fun r2 S2 h2 => ?_))
  subst h2
  refine V_iload_2 9 dX12_word_9 ?_
  refine V_callS 10 [.long _, .int _] _ (c_appends M.2.1 Γ _ _ _) dX12_word_10 cb_X12_appends ml_RX12_208 sm_yX12_appends ⟨(Nat.le_of_ble_eq_true rfl), (Nat.le_of_ble_eq_true rfl)⟩ rfl rfl (Nat.le_of_ble_eq_true rfl) ⟨(Nat.le_of_ble_eq_true rfl), (Nat.le_of_ble_eq_true rfl)⟩ (RLg.go (fun r3 S3 h3 => ?_))
  subst h3
  refine V_iload_3 13 dX12_word_13 ?_
  refine V_callS 14 [.long _, .int _] _ (c_appends M.2.1 Γ _ _ _) dX12_word_14 cb_X12_appends ml_RX12_208 sm_yX12_appends ⟨(Nat.le_of_ble_eq_true rfl), (Nat.le_of_ble_eq_true rfl)⟩ rfl rfl (Nat.le_of_ble_eq_true rfl) ⟨(Nat.le_of_ble_eq_true rfl), (Nat.le_of_ble_eq_true rfl)⟩ (RLg.go (fun r4 S4 h4 => ?_))
  subst h4
  refine V_iload_4 17 dX12_word_17 ?_
  refine V_callS 19 [.long _, .int _] _ (c_appends M.2.1 Γ _ _ _) dX12_word_19 cb_X12_appends ml_RX12_208 sm_yX12_appends ⟨(Nat.le_of_ble_eq_true rfl), (Nat.le_of_ble_eq_true rfl)⟩ rfl rfl (Nat.le_of_ble_eq_true rfl) ⟨(Nat.le_of_ble_eq_true rfl), (Nat.le_of_ble_eq_true rfl)⟩ (RLg.go (fun r5 S5 h5 => ?_))
  subst h5
  refine V_iload_5 22 dX12_word_22 ?_
  refine V_callS 24 [.long _, .int _] _ (c_appends M.2.1 Γ _ _ _) dX12_word_24 cb_X12_appends ml_RX12_208 sm_yX12_appends ⟨(Nat.le_of_ble_eq_true rfl), (Nat.le_of_ble_eq_true rfl)⟩ rfl rfl (Nat.le_of_ble_eq_true rfl) ⟨(Nat.le_of_ble_eq_true rfl), (Nat.le_of_ble_eq_true rfl)⟩ (RLg.go (fun r6 S6 h6 => ?_))
  subst h6
  refine V_iload_6 27 dX12_word_27 ?_
  refine V_callS 29 [.long _, .int _] _ (c_appends M.2.1 Γ _ _ _) dX12_word_29 cb_X12_appends ml_RX12_208 sm_yX12_appends ⟨(Nat.le_of_ble_eq_true rfl), (Nat.le_of_ble_eq_true rfl)⟩ rfl rfl (Nat.le_of_ble_eq_true rfl) ⟨(Nat.le_of_ble_eq_true rfl), (Nat.le_of_ble_eq_true rfl)⟩ (RLg.go (fun r7 S7 h7 => ?_))
  subst h7
  refine V_lret 32 dX12_word_32 rfl (Nat.le_of_ble_eq_true rfl) (Nat.le_of_ble_eq_true rfl) (RLg.mk rfl)
def PLL (m : Nat) : List Nat := [m + 8, m + 11, m + 15, m + 16, m + 18, m + 19, m + 20, m + 21, m + 24, m + 25, m + 26, m + 17]
/-- what plain leaves of side s -/
def PLN (m s : Nat) (S S' : PS) : Prop := RO (PLL m) S S' ∧ (∀ r, r ∈ ONL → sA S' (m + r) s = 0) ∧ sA S' (m + 19) s = 18 ∧ sA S' (m + 20) s = 1

