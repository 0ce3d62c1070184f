section VM2
variable {M : MC} {Γ : GC} {μ : MI} {cc : ByteArray} {Q : State → Prop} {k sl : Nat} {S : PS} {lv : List (Option Value)} {st : List Value}
/-- a reference field that isn't final -/
theorem V_putR (pc : Nat) {a i c t : Nat} (j : Nat) (d : decode cc pc = .ok (.putfield i, 3)) (hw : Cond.fieldLink μ.2.1 i (TXOf c j).1 (TXOf c j).2.1 (TXOf c j).2.2.1 ∈ lwG) (ha : a ∈ PL Γ.2.2.2.2.1 S) (hk : sK S a = c) (hc : c < 13) (hj : j < nfOf c) (hfin : (TXOf c j).2.2.2 = false) (hn : narrow (tyOf c j) (.ref t) = .ref t) (hfit : fits (tyOf c j) (.ref t) = true) (ht : tint (tyOf c j) = false) (h : V M Γ μ cc Q k sl (uR S a j (some t)) (pc + 3) lv st) : V M Γ μ cc Q k sl S pc lv (.ref t :: .ref a :: st) := fun C H locs ls hr hs hl => by
  obtain ⟨i0, hi0⟩ := WDL_get (Γ := Γ) ha
  have hAa : gA Γ a := hr.2.1.2 i0 _ hi0
  have he : (WDL Γ S)[i0]? = some (a, .inr (c, flds S a)) := by rw [hi0, EN_o hk hc]
  have e1 : (flds S a).set j (.ref t) = flds (uR S a j (some t)) a := flds_set (c := c) rfl hk hj (by show fv _ _ (up2 (sR S) a j (some t) a j) = _; rw [up2_s]; unfold fv; rw [if_neg (by rw [ht]; decide)]; rfl) (fun q hq => ⟨rfl, up2_k _ _ hq⟩)
  obtain ⟨r, g1, cell, q1, q2, q3, q4⟩ := hr.1 i0 _ he
  cases g1.symm.trans (vwCl_at c hc)
  obtain ⟨hS, hfc, kC, hkC, hkind⟩ := C.2.2.1.1.1 c _ (vwCl_at c hc)
  obtain ⟨cf, kf, fi, f, hi, hsl⟩ := hS j hj
  have hts := C.1.2.2.2.2
  have hlay := hts _ (inG_ok c hc _ (u_in_lay hj))
  unfold u_lay at hlay
  rw [if_neg (by rw [hfin]; decide)] at hlay
  have hap := va_apart (own := μ.2.1) hts (inG_ok c hc) (tyOf c) (ty_ok c hc) (nm_ok c hc) C.2.2.1.1 (vwCl_at c hc)
  have hst := (u_facts hfc hkC (u_lays hts (inG_ok c hc) hj) hi).1
  have h6 := u_store hfc hkC hkind hlay hi (ty_ok c hc j hj) hn hfit
  refine W.putK C.1.1 C.1.2.1 (f := f) ⟨C.1.2.2.2.1, hts _ hw, ⟨_, _, _, hi⟩, hst⟩ (by rw [q2]; exact h6) q1 q3 (by rw [hsl]; exact k2_hasslot (q4 j hj)) rfl rfl d fun H1 y1 y2 y3 => ?_
  rw [hsl] at y1
  refine h C H1 _ ls (RLs_set (S' := uR S a j (some t)) hr ha hi0 rfl (fun b hb => EN_uR hb) (at_put hc hj hk hk e1 hap q2 q3 q4 y1) y3 y2) (hs.put y2 y3 hAa) hl
-- String constants
abbrev sK0 (Γ : GC) (i : Nat) : Nat := Γ.2.2.2.2.2.2.1 i
abbrev sV0 (Γ : GC) (i : Nat) : Nat := Γ.2.2.2.2.2.2.2 i
theorem V_ldcS0 (pc : Nat) (d : decode cc pc = .ok (.ldc 28, 2)) (ho : μ.2.1 = RX8) (h : V M Γ μ cc Q k sl S (pc + 2) lv (.ref (sK0 Γ 0) :: st)) : V M Γ μ cc Q k sl S pc lv st := fun C H locs ls hr hs hl =>
  va_ldcS C.1.1 C.1.2.1 C.1.2.2.2.1 (by rw [ho]; exact C.2.2.2.1.2.2.2.1) d (h C H locs ls hr hs hl)
theorem V_ldcS1 (pc : Nat) (d : decode cc pc = .ok (.ldc 100, 2)) (ho : μ.2.1 = RX8) (h : V M Γ μ cc Q k sl S (pc + 2) lv (.ref (sK0 Γ 1) :: st)) : V M Γ μ cc Q k sl S pc lv st := fun C H locs ls hr hs hl =>
  va_ldcS C.1.1 C.1.2.1 C.1.2.2.2.1 (by rw [ho]; exact C.2.2.2.1.2.2.2.2) d (h C H locs ls hr hs hl)
theorem V_getsC (pc : Nat) {i : Nat} (d : decode cc pc = .ok (.getstatic i, 3)) (hw : Cond.fieldLink μ.2.1 i "java/lang/String" "COMPACT_STRINGS" "Z" ∈ lwG) (h : V M Γ μ cc Q k sl S (pc + 3) lv (.int 1 :: st)) : V M Γ μ cc Q k sl S pc lv st := fun C H locs ls hr hs hl =>
  va_gets C.1.1 C.1.2.1 C.2.2.2.1.2.1 hs C.1.2.2.2.1 (C.1.2.2.2.2 _ hw) (fun _ h9 => h9) d (h C H locs ls hr hs hl)
theorem V_getsF (pc : Nat) {i : Nat} (d : decode cc pc = .ok (.getstatic i, 3)) (hw : Cond.fieldLink μ.2.1 i "jdk/internal/util/Preconditions" "SIOOBE_FORMATTER" "Ljava/util/function/BiFunction;" ∈ lwG) (h : ∀ r : Option Nat, V M Γ μ cc Q k sl S (pc + 3) lv (va_rf r :: st)) : V M Γ μ cc Q k sl S pc lv st := fun C H locs ls hr hs hl => by
  rcases C.2.2.2.1.2.2.1 with hZ | ⟨t, hZ⟩
  · exact va_gets C.1.1 C.1.2.1 hZ hs C.1.2.2.2.1 (C.1.2.2.2.2 _ hw) (fun _ h9 => h9) d (h none C H locs ls hr hs hl)
  · exact va_gets C.1.1 C.1.2.1 hZ hs C.1.2.2.2.1 (C.1.2.2.2.2 _ hw) (fun _ h9 => h9) d (h (some t) C H locs ls hr hs hl)
theorem V_kcoder (pc : Nat) {i n : Nat} (hn : n < 2) (d : decode cc pc = .ok (.getfield i, 3)) (hw : Cond.fieldLink μ.2.1 i "java/lang/String" "coder" "B" ∈ lwG) (h : V M Γ μ cc Q k sl S (pc + 3) lv (.int 0 :: st)) : V M Γ μ cc Q k sl S pc lv (.ref (sK0 Γ n) :: st) := fun C H locs ls hr hs hl =>
  vk_getf C.1.1 C.1.2.1 (C.2.2.2.1.1.1 n hn).2.1 hs C.1.2.2.2.1 (C.1.2.2.2.2 _ hw) (fun _ h9 => h9) d (h C H locs ls hr hs hl)
theorem V_kvalue (pc : Nat) {i n : Nat} (hn : n < 2) (d : decode cc pc = .ok (.getfield i, 3)) (hw : Cond.fieldLink μ.2.1 i "java/lang/String" "value" "[B" ∈ lwG) (h : V M Γ μ cc Q k sl S (pc + 3) lv (.ref (sV0 Γ n) :: st)) : V M Γ μ cc Q k sl S pc lv (.ref (sK0 Γ n) :: st) := fun C H locs ls hr hs hl =>
  vk_getf C.1.1 C.1.2.1 (C.2.2.2.1.1.1 n hn).2.2.1 hs C.1.2.2.2.1 (C.1.2.2.2.2 _ hw) (fun _ h9 => h9) d (h C H locs ls hr hs hl)
theorem V_kalen (pc : Nat) {n : Nat} (hn : n < 2) (d : decode cc pc = .ok (.arraylength, 1)) (h : V M Γ μ cc Q k sl S (pc + 1) lv (.int (nI (strLen.getD n 0)) :: st)) : V M Γ μ cc Q k sl S pc lv (.ref (sV0 Γ n) :: st) := fun C H locs ls hr hs hl =>
  va_tlen C.1.1 C.1.2.1 (C.2.2.2.1.1.1 n hn).2.2.2 hs rfl d (h C H locs ls hr hs hl)
theorem V_kbald (pc : Nat) {n : Nat} {i : Int32} (hn : n < 2) (hin : vp_in i (strLen.getD n 0)) (d : decode cc pc = .ok (.baload, 1)) (h : V M Γ μ cc Q k sl S (pc + 1) lv (.int ((strByt.getD n []).getD i.toNatClampNeg 0) :: st)) : V M Γ μ cc Q k sl S pc lv (.int i :: .ref (sV0 Γ n) :: st) := fun C H locs ls hr hs hl =>
  va_tb C.1.1 C.1.2.1 (C.2.2.2.1.1.1 n hn).2.2.2 hs hin rfl d (h C H locs ls hr hs hl)
theorem V_callVK (pc : Nat) {y : MethodName} {c2 : ByteArray} {nL : Nat} {ret : Option FieldType} {n i dp k2 s2 b : Nat} {Qr : Option Value → PS → Prop} (hb2 : b < 2) (As rest : List Value) (hC : CT M.2.1 Γ y c2 nL ret dp k2 s2 (.ref (sK0 Γ b) :: As) S Qr) (d : decode cc pc = .ok (.invokevirtual i, 3)) (hb : CLB y c2 nL ret n) (hl : Cond.methodLink μ.2.1 i y ∈ lwG) (him : Cond.instanceMethod y ∈ lwG) (hse : Cond.selects "java/lang/String" y y ∈ lwG)
    (hroom : dp + 1 ≤ μ.2.2.2.2.frames ∧ 8 + (nL + 11) + 60 * dp ≤ μ.2.2.2.2.locals) (hn : As.length = n) (hst : st = As.reverse ++ .ref (sK0 Γ b) :: rest) (hW : (rest.map fun v => v.category).sum ≤ 8) (hf : k + k2 ≤ μ.2.2.2.2.cells ∧ sl + s2 ≤ μ.2.2.2.2.slots)
    (h : ∀ (v : Option Value) (S' : PS), Qr v S' → V M Γ μ cc Q (k + k2) (sl + s2) S' (pc + 3) lv (v.toList ++ rest)) : V M Γ μ cc Q k sl S pc lv st := fun C H locs ls hr hs hl2 =>
  run_go (va_runV (As := As) (rest := rest) (C := "java/lang/String") C.1 hC ⟨callB_lw C hb hl hroom, C.1.2.2.2.2 _ him, C.1.2.2.2.2 _ hse⟩ ⟨RU_blind, vk_recv C.2.2.2.1.1 hb2 hs, fun U hU hW => ⟨rfl, pre_U C hr hs U hU hW⟩⟩ rfl hn hl2.1 hst (lv_room hW) d (by rw [C.2.2.2.2.2.2.2]; exact hf)) hs (fun v S' H1 locs1 hq hr1 hs1 => h v S' hq C H1 locs1 ls hr1 hs1 hl2)
-- writes that change nothing; what is read behind a write
theorem uA_id {a i : Nat} {v : Int32} (h : sA S a i = v) : uA S a i v = S := by
  have e : up2 (sA S) a i v = sA S := by
    funext b j; unfold up2; split
    · next q => rw [q.1, q.2, h]
    · rfl
  unfold uA; rw [e]; rfl
theorem uJ_id {a i : Nat} {v : Int64} (h : sJ S a i = v) : uJ S a i v = S := by
  have e : up2 (sJ S) a i v = sJ S := by
    funext b j; unfold up2; split
    · next q => rw [q.1, q.2, h]
    · rfl
  unfold uJ; rw [e]; rfl
theorem uI_id {a i : Nat} {v : Int32} (h : sI S a i = v) : uI S a i v = S := by
  have e : up2 (sI S) a i v = sI S := by
    funext b j; unfold up2; split
    · next q => rw [q.1, q.2, h]
    · rfl
  unfold uI; rw [e]; rfl
theorem V.to {S2 : PS} {pc : Nat} (e : S2 = S) (h : V M Γ μ cc Q k sl S pc lv st) : V M Γ μ cc Q k sl S2 pc lv st := e ▸ h
end VM2
-- layouts: what lies behind an object, in the order in which its constructor makes it: kind, reference fields (by their places behind it), length
abbrev LAY : Type := List (Nat × List (Option Nat) × Nat)
def isL (ly : LAY) (lo : Nat) (S : PS) (b : Nat) : Prop := lo ≤ b ∧ b + ly.length ≤ lo + sN S ∧ ∀ (r : Nat) (e : Nat × List (Option Nat) × Nat), ly[r]? = some e → sK S (b + r) = e.1 ∧ (∀ (j t : Nat), e.2.1[j]? = some (some t) → sR S (b + r) j = some (b + t)) ∧ (13 ≤ e.1 → sL S (b + r) = e.2.2)
section LY
variable {ly : LAY} {lo b : Nat} {S : PS}
theorem isL.m (F : isL ly lo S b) (r : Nat) (h : r < ly.length) : b + r ∈ PL lo S := PL_mem.mpr ⟨by have := F.1; omega, by have := F.2.1; omega⟩
theorem isL.k (F : isL ly lo S b) (r c : Nat) (h : (ly[r]?).map Prod.fst = some c) : sK S (b + r) = c := by
  cases he : ly[r]? with
  | none => rw [he] at h; cases h
  | some e => rw [he] at h; exact ((F.2.2 r e he).1).trans (Option.some.inj h)
theorem isL.r (F : isL ly lo S b) (r j t : Nat) (h : (ly[r]?).bind (fun e => e.2.1[j]?) = some (some t)) : sR S (b + r) j = some (b + t) := by
  cases he : ly[r]? with
  | none => rw [he] at h; cases h
  | some e => rw [he] at h; exact (F.2.2 r e he).2.1 j t h
theorem isL.l (F : isL ly lo S b) (r n : Nat) (h : (ly[r]?).map (fun e => (decide (13 ≤ e.1), e.2.2)) = some (true, n)) : sL S (b + r) = n := by
  cases he : ly[r]? with
  | none => rw [he] at h; cases h
  | some e =>
    rw [he] at h
    simp only [Option.map_some, Option.some.injEq, Prod.mk.injEq, decide_eq_true_eq] at h
    exact ((F.2.2 r e he).2.2 h.1).trans h.2
def lyUp (o : Nat) (ly : LAY) : LAY := ly.map (fun e => (e.1, e.2.1.map (fun t => t.map (· + o)), e.2.2))
theorem isL.sub (F : isL ly lo S b) (o : Nat) (ly2 : LAY) (h : (ly.drop o).take ly2.length = lyUp o ly2) (h2 : o + ly2.length ≤ ly.length) : isL ly2 lo S (b + o) := by
  refine ⟨by have := F.1; omega, by have := F.2.1; omega, fun r e he => ?_⟩
  have hr : r < ly2.length := (List.getElem?_eq_some_iff.mp he).1
  have h3 : ly[o + r]? = some (e.1, e.2.1.map (fun t => t.map (· + o)), e.2.2) := by
    have h4 : ((ly.drop o).take ly2.length)[r]? = ly[o + r]? := by rw [List.getElem?_take, if_pos hr, List.getElem?_drop]
    rw [← h4, h]
    unfold lyUp
    rw [List.getElem?_map, he]
    rfl
  obtain ⟨g1, g2, g3⟩ := F.2.2 (o + r) _ h3
  rw [← Nat.add_assoc] at g1 g2 g3
  refine ⟨g1, fun j t hj => ?_, g3⟩
  rw [g2 j (t + o) (by rw [List.getElem?_map, hj]; rfl)]
  congr 1; omega
end LY
