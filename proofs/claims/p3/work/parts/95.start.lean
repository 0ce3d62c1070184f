/-! the law's start: what the tables and the statement give of the classes and the String constants -/
theorem st_aor : Cond.arrayOver (.object "SockTable$State") ∈ lw_tbl := tG2 (List.mem_of_getElem? (i := 95) (by decide +kernel))
theorem st_lcs : Cond.laysStatic "java/lang/String" "COMPACT_STRINGS" "Z" ∈ lw_tbl := tG1 (List.mem_of_getElem? (i := 57) (by decide +kernel))
theorem st_lsi : Cond.laysStatic "jdk/internal/util/Preconditions" "SIOOBE_FORMATTER" "Ljava/util/function/BiFunction;" ∈ lw_tbl := tG1 (List.mem_of_getElem? (i := 73) (by decide +kernel))
theorem st_st0 : Cond.stringRef RX8 28 strT0 ∈ lw_tbl := tG1 (List.mem_of_getElem? (i := 47) (by decide +kernel))
theorem st_st1 : Cond.stringRef RX8 100 strT1 ∈ lw_tbl := tG3 (List.mem_of_getElem? (i := 107) (by decide +kernel))
def lwF : List Cond := flatC (Jvm.Cond.and given_1 narrow_1)
def tmS (i : Nat) : Term := if i = 0 then .string "SockTable$Tape" 28 else .string "SockTable$Tape" 100
theorem fl_cs : lwF[4]? = some (Cond.eq (.static "java/lang/String" "COMPACT_STRINGS" "Z") (.int 1)) := by decide +kernel
theorem fl_si : lwF[5]? = some (Cond.isRef (.static "jdk/internal/util/Preconditions" "SIOOBE_FORMATTER" "Ljava/util/function/BiFunction;")) := by decide +kernel
theorem fl_ex : ∀ i, i < 2 → lwF[9 + 113 * i]? = some (Cond.exactly (tmS i) "java/lang/String") := by decide +kernel
theorem fl_co : ∀ i, i < 2 → lwF[10 + 113 * i]? = some (Cond.eq (.field (tmS i) "java/lang/String" "coder" "B") (.int 0)) := by decide +kernel
theorem fl_ar : ∀ i, i < 2 → lwF[11 + 113 * i]? = some (Cond.arrayOf (.field (tmS i) "java/lang/String" "value" "[B") .byte) := by decide +kernel
theorem fl_le : ∀ i, i < 2 → lwF[12 + 113 * i]? = some (Cond.eq (.length (.field (tmS i) "java/lang/String" "value" "[B")) (.int (Int32.ofNat (strLen.getD i 0)))) := by decide +kernel
theorem fl_e0 : ∀ j, j < 109 → lwF[13 + j]? = some (Cond.eq (.elem (.field (tmS 0) "java/lang/String" "value" "[B") (.int (Int32.ofNat j))) (.int ((strByt.getD 0 []).getD j 0))) := by decide +kernel
theorem fl_e1 : ∀ j, j < 9 → lwF[126 + j]? = some (Cond.eq (.elem (.field (tmS 1) "java/lang/String" "value" "[B") (.int (Int32.ofNat j))) (.int ((strByt.getD 1 []).getD j 0))) := by decide +kernel
theorem fl_ne : lwF[135]? = some (Cond.not (Cond.eq (tmS 0) (tmS 1))) := by decide +kernel
set_option maxRecDepth 100000 in
set_option maxHeartbeats 4000000 in
theorem start_str {s : State} {A : Array Value} (hgv : (Jvm.Cond.and given_1 narrow_1).before A s = true) (hts : ∀ w ∈ lw_tbl, w.before A s = true) (Ag : Nat → Prop) (hA : ∀ a : Nat, a < s.heap.size → ¬ Ag a) :
    ∃ (kS vS : Nat → Nat), vk_S 2 strLen strByt kS vS Ag s s.heap ∧ va_Z "java/lang/String" "COMPACT_STRINGS" "Z" (.int 1) Ag s s.heap ∧ va_Zq "jdk/internal/util/Preconditions" "SIOOBE_FORMATTER" "Ljava/util/function/BiFunction;" Ag s s.heap ∧ vk_R RX8 28 strT0 (kS 0) s ∧ vk_R RX8 100 strT1 (kS 1) s := by
  have hf : ∀ w ∈ lwF, w.before A s = true := flat_of_before _ hgv
  have hg : ∀ (i : Nat) (w : Cond), lwF[i]? = some w → w.before A s = true := fun i w h => hf w (List.mem_of_getElem? h)
  obtain ⟨kS, vS, h1, h2⟩ := vk_Sof (args := A) (s := s) (N := 2) (tm := tmS) (len := strLen) (byt := strByt) (A := Ag) (by decide) (fun i hi => hg _ _ (fl_ex i hi)) (fun i hi => hg _ _ (fl_co i hi)) (fun i hi => hg _ _ (fl_ar i hi)) (fun i hi => hg _ _ (fl_le i hi))
    (fun i hi j hj => by
      rcases (show i = 0 ∨ i = 1 by omega) with rfl | rfl
      · exact hg _ _ (fl_e0 j hj)
      · exact hg _ _ (fl_e1 j hj))
    (fun i j hi hj hne => by
      rcases (show (i = 0 ∧ j = 1) ∨ (i = 1 ∧ j = 0) by omega) with ⟨rfl, rfl⟩ | ⟨rfl, rfl⟩
      · exact Or.inl (hg _ _ fl_ne)
      · exact Or.inr (hg _ _ fl_ne)) hA
  exact ⟨kS, vS, h1, va_Zof (hts _ st_lcs) (hts _ (lwG_in _ in_RJ0)) (va_eqt (hg _ _ fl_cs)) hA, va_Zqof (hts _ st_lsi) (hts _ (lwG_in _ in_RJ3)) (hg _ _ fl_si) hA, vk_R.of (hts _ st_st0) (h2 0 (by decide)), vk_R.of (hts _ st_st1) (h2 1 (by decide))⟩
set_option maxRecDepth 100000 in
set_option maxHeartbeats 4000000 in
theorem start_K {s : State} {A : Array Value} (hts : ∀ w ∈ lw_tbl, w.before A s = true) : ∃ (cy : Nat → ClassId) (G : va_G), va_K G vwCl [(cy 13, .byte), (cy 14, .int), (cy 15, .long), (cy 16, .boolean), (cy 17, .object "SockTable$State")] s := by
  have ht : ∀ w ∈ lwG, w.before A s = true := fun w h => hts w (lwG_in w h)
  have hk : ∀ c, ∃ q : ClassId × (Nat → Nat), c < 13 → u_Kn s (RXOf c) (TXOf c) (nfOf c) q.1 q.2 := by
    intro c
    by_cases hc : c < 13
    · have hx : ∃ (cC : ClassId) (iS : Nat → Nat), u_Kn s (RXOf c) (TXOf c) (nfOf c) cC iS := by
        rcases (show c = 0 ∨ c = 1 ∨ c = 2 ∨ c = 3 ∨ c = 4 ∨ c = 5 ∨ c = 6 ∨ c = 7 ∨ c = 8 ∨ c = 9 ∨ c = 10 ∨ c = 11 ∨ c = 12 by omega) with h | h | h | h | h | h | h | h | h | h | h | h | h <;> subst h
        · exact u_known ht inG0 (ht _ ib_RX0)
        · exact u_known ht inG1 (ht _ ib_RX1)
        · exact u_known ht inG2 (ht _ ib_RX2)
        · exact u_known ht inG3 (ht _ ib_RX3)
        · exact u_known ht inG4 (ht _ ib_RX4)
        · exact u_known ht inG5 (ht _ ib_RX5)
        · exact u_known ht inG6 (ht _ ib_RX6)
        · exact u_known ht inG7 (ht _ ib_RX7)
        · exact u_known ht inG8 (ht _ ib_RX8)
        · exact u_known ht inG9 (ht _ ib_RX9)
        · exact u_known ht inG10 (ht _ ib_RX10)
        · exact u_known ht inG11 (ht _ ib_RX11)
        · exact u_known ht inG12 (ht _ ib_RX12)
      obtain ⟨cC, iS, h⟩ := hx
      exact ⟨(cC, iS), fun _ => h⟩
    · exact ⟨(0, fun _ => 0), fun h => absurd h hc⟩
  obtain ⟨ad, had⟩ := Classical.axiomOfChoice hk
  obtain ⟨cB, kB, pB, b1, b2, b3⟩ := Cond.arrayClass_spec (ht _ ac_byte)
  obtain ⟨cI, kI, pI, i1, i2, i3⟩ := Cond.arrayClass_spec (ht _ ac_int)
  obtain ⟨cL, kL, pL, l1, l2, l3⟩ := Cond.arrayClass_spec (ht _ ac_long)
  obtain ⟨cZ, kZ, pZ, z1, z2, z3⟩ := Cond.arrayClass_spec (ht _ ac_boolean)
  obtain ⟨pQ, cQ, kQ, q1, q2, q3, q4, q5⟩ := Cond.arrayOver_spec (hts _ st_aor)
  refine ⟨fun k => if k = 13 then cB else if k = 14 then cI else if k = 15 then cL else if k = 16 then cZ else cQ, (fun c => (ad c).1, fun c => (ad c).2), fun c q hq => ?_, fun k q hq => ?_⟩
  · have hc : c < 13 := by
      rcases Nat.lt_or_ge c 13 with h | h
      · exact h
      · rw [List.getElem?_eq_none (show vwCl.length ≤ c from h)] at hq; cases hq
    cases (vwCl_at c hc).symm.trans hq
    exact had c hc
  · have hk : k < 5 := (List.getElem?_eq_some_iff.mp hq).1
    rcases (show k = 0 ∨ k = 1 ∨ k = 2 ∨ k = 3 ∨ k = 4 by omega) with h | h | h | h | h <;> subst h <;> cases hq
    · exact ⟨fun N z => ⟨(fun k h => by cases h), kB, b2, pB, b3⟩, b1⟩
    · exact ⟨fun N z => ⟨(fun k h => by cases h), kI, i2, pI, i3⟩, i1⟩
    · exact ⟨fun N z => ⟨(fun k h => by cases h), kL, l2, pL, l3⟩, l1⟩
    · exact ⟨fun N z => ⟨(fun k h => by cases h), kZ, z2, pZ, z3⟩, z1⟩
    · exact ⟨fun N z => ⟨(fun k h => by cases h), kQ, q3, pQ, q4⟩, kQ, pQ, q3, q4, q1, q5⟩
theorem start_known {s : State} {A : Array Value} (hgv : (Jvm.Cond.and given_1 narrow_1).before A s = true) (hts : ∀ w ∈ lw_tbl, w.before A s = true) : ∃ (cy : Nat → ClassId) (G : va_G) (kS vS : Nat → Nat), ∀ (W : va_W) (lo base : Nat), KK (s.heap.size, W, cy, G, lo, base, kS, vS) s ∧ KStr (s.heap.size, W, cy, G, lo, base, kS, vS) s s.heap := by
  obtain ⟨cy, G, hK⟩ := start_K hts
  obtain ⟨kS, vS, hS⟩ := start_str hgv hts (fun q => s.heap.size ≤ q) (fun a h => Nat.not_le.mpr h)
  exact ⟨cy, G, kS, vS, fun W lo base => ⟨⟨hK, fun q hq => va_Nw.of rfl (hts _ (nestW_in q hq)), va_AO.of (hts _ st_aor)⟩, hS⟩⟩

