/-! THE POOL: every object and array of the system at the addresses lo, lo + 1, ..: kinds, fields, rows; all by address -/
abbrev PS : Type := Nat × (Nat → Nat) × (Nat → Nat → Option Nat) × (Nat → Nat) × (Nat → Nat → Option Nat) × (Nat → Nat → Int32) × (Nat → Nat → Int32) × (Nat → Nat → Int64)
def sN (S : PS) : Nat := S.1
def sK (S : PS) : Nat → Nat := S.2.1
def sR (S : PS) : Nat → Nat → Option Nat := S.2.2.1
def sL (S : PS) : Nat → Nat := S.2.2.2.1
def sP (S : PS) : Nat → Nat → Option Nat := S.2.2.2.2.1
def sI (S : PS) : Nat → Nat → Int32 := S.2.2.2.2.2.1
def sA (S : PS) : Nat → Nat → Int32 := S.2.2.2.2.2.2.1
def sJ (S : PS) : Nat → Nat → Int64 := S.2.2.2.2.2.2.2
def up2 {α : Type} (f : Nat → Nat → α) (a k : Nat) (v : α) : Nat → Nat → α := fun b j => if b = a ∧ j = k then v else f b j
theorem up2_s {α : Type} (f : Nat → Nat → α) (a k : Nat) (v : α) : up2 f a k v a k = v := by simp [up2]
theorem up2_k {α : Type} (f : Nat → Nat → α) {a k b j : Nat} (v : α) (h : j ≠ k) : up2 f a k v b j = f b j := by simp [up2, h]
theorem up2_a {α : Type} (f : Nat → Nat → α) {a k b j : Nat} (v : α) (h : b ≠ a) : up2 f a k v b j = f b j := by simp [up2, h]
/-- an int field, a reference field, a place of an int row, of a long row, of a row of references is written -/
def uI (S : PS) (a k : Nat) (v : Int32) : PS := (sN S, sK S, sR S, sL S, sP S, up2 (sI S) a k v, sA S, sJ S)
def uR (S : PS) (a k : Nat) (v : Option Nat) : PS := (sN S, sK S, up2 (sR S) a k v, sL S, sP S, sI S, sA S, sJ S)
def uA (S : PS) (a k : Nat) (v : Int32) : PS := (sN S, sK S, sR S, sL S, sP S, sI S, up2 (sA S) a k v, sJ S)
def uJ (S : PS) (a k : Nat) (v : Int64) : PS := (sN S, sK S, sR S, sL S, sP S, sI S, sA S, up2 (sJ S) a k v)
def uP (S : PS) (a k : Nat) (v : Option Nat) : PS := (sN S, sK S, sR S, sL S, up2 (sP S) a k v, sI S, sA S, sJ S)
/-- a new object of kind c at a: its fields are 0 and null; a new row of n places -/
def nO (S : PS) (a c : Nat) : PS := (sN S + 1, va_up (sK S) a c, va_up (sR S) a (fun _ => none), sL S, sP S, va_up (sI S) a (fun _ => 0), sA S, sJ S)
def nA (S : PS) (a c n : Nat) : PS := (sN S + 1, va_up (sK S) a c, sR S, va_up (sL S) a n, va_up (sP S) a (fun _ => none), sI S, va_up (sA S) a (fun _ => 0), va_up (sJ S) a (fun _ => 0))
/-- the types of the fields, and how many: by kind -/
def tyOf (c : Nat) : Nat → FieldType := match c with
  | 0 => tyX0 | 1 => tyX1 | 2 => tyX2 | 3 => tyX3 | 4 => tyX4 | 5 => tyX5 | 6 => tyX6 | 7 => tyX7 | 8 => tyX8 | 9 => tyX9 | 10 => tyX10 | 11 => tyX11 | _ => tyX12
def nfOf (c : Nat) : Nat := match c with
  | 0 => 8 | 1 => 4 | 2 => 4 | 3 => 9 | 4 => 4 | 5 => 7 | 6 => 5 | 7 => 5 | 8 => 7 | 9 => 5 | 10 => 17 | 11 => 16 | _ => 77
def RXOf (c : Nat) : String := match c with
  | 0 => RX0 | 1 => RX1 | 2 => RX2 | 3 => RX3 | 4 => RX4 | 5 => RX5 | 6 => RX6 | 7 => RX7 | 8 => RX8 | 9 => RX9 | 10 => RX10 | 11 => RX11 | _ => RX12
def TXOf (c : Nat) : u_T := match c with
  | 0 => TX0 | 1 => TX1 | 2 => TX2 | 3 => TX3 | 4 => TX4 | 5 => TX5 | 6 => TX6 | 7 => TX7 | 8 => TX8 | 9 => TX9 | 10 => TX10 | 11 => TX11 | _ => TX12
def tint (t : FieldType) : Bool := match t with
  | .int => true | .boolean => true | _ => false
def fv (t : FieldType) (i : Int32) (x : Option Nat) : Value := if tint t = true then .int i else va_rf x
def flds (S : PS) (a : Nat) : List Value := (List.range (nfOf (sK S a))).map (fun k => fv (tyOf (sK S a) k) (sI S a k) (sR S a k))
def EN (cy : Nat → ClassId) (S : PS) (a : Nat) : va_E :=
  if sK S a < 13 then .inr (sK S a, flds S a)
  else if sK S a = 13 then .inl (cy 13, sL S a, .inl (sA S a))
  else if sK S a = 14 then .inl (cy 14, sL S a, .inl (sA S a))
  else if sK S a = 15 then .inl (cy 15, sL S a, .inr (.inl (sJ S a)))
  else if sK S a = 16 then .inl (cy 16, sL S a, .inl (sA S a))
  else .inl (cy 17, sL S a, .inr (.inr (.inr (.inr (sP S a)))))
def PL (lo : Nat) (S : PS) : List Nat := List.range' lo (sN S)
theorem PL_mem {lo a : Nat} {S : PS} : a ∈ PL lo S ↔ lo ≤ a ∧ a < lo + sN S := by unfold PL; rw [List.mem_range'_1]
theorem PL_push (lo : Nat) (S : PS) : List.range' lo (sN S + 1) = PL lo S ++ [lo + sN S] := by unfold PL; rw [List.range'_concat]; simp
theorem vwCl_at : ∀ c, c < 13 → vwCl[c]? = some (RXOf c, TXOf c, nfOf c) := by
  intro c hc
  rcases (show c = 0 ∨ c = 1 ∨ c = 2 ∨ c = 3 ∨ c = 4 ∨ c = 5 ∨ c = 6 ∨ c = 7 ∨ c = 8 ∨ c = 9 ∨ c = 10 ∨ c = 11 ∨ c = 12 by omega) with h | h | h | h | h | h | h | h | h | h | h | h | h <;> subst h <;> rfl
theorem ty_ok : ∀ c, c < 13 → ∀ k, k < nfOf c → parseFieldDescriptor (TXOf c k).2.2.1 = some (tyOf c k) := by
  intro c hc
  rcases (show c = 0 ∨ c = 1 ∨ c = 2 ∨ c = 3 ∨ c = 4 ∨ c = 5 ∨ c = 6 ∨ c = 7 ∨ c = 8 ∨ c = 9 ∨ c = 10 ∨ c = 11 ∨ c = 12 by omega) with h | h | h | h | h | h | h | h | h | h | h | h | h <;> subst h
  · exact tyX0_ok
  · exact tyX1_ok
  · exact tyX2_ok
  · exact tyX3_ok
  · exact tyX4_ok
  · exact tyX5_ok
  · exact tyX6_ok
  · exact tyX7_ok
  · exact tyX8_ok
  · exact tyX9_ok
  · exact tyX10_ok
  · exact tyX11_ok
  · exact tyX12_ok
theorem nm_ok : ∀ c, c < 13 → ∀ a, a < nfOf c → ∀ b, b < nfOf c → a ≠ b → (TXOf c a).2.1 ≠ (TXOf c b).2.1 := by
  intro c hc
  rcases (show c = 0 ∨ c = 1 ∨ c = 2 ∨ c = 3 ∨ c = 4 ∨ c = 5 ∨ c = 6 ∨ c = 7 ∨ c = 8 ∨ c = 9 ∨ c = 10 ∨ c = 11 ∨ c = 12 by omega) with h | h | h | h | h | h | h | h | h | h | h | h | h <;> subst h
  · exact nmX0
  · exact nmX1
  · exact nmX2
  · exact nmX3
  · exact nmX4
  · exact nmX5
  · exact nmX6
  · exact nmX7
  · exact nmX8
  · exact nmX9
  · exact nmX10
  · exact nmX11
  · exact nmX12
theorem flds_at {S : PS} {a k c : Nat} (hc : sK S a = c) (hk : k < nfOf c) : (flds S a)[k]? = some (fv (tyOf c k) (sI S a k) (sR S a k)) := by
  unfold flds
  rw [hc, List.getElem?_map, List.getElem?_range hk]
  rfl
theorem flds_len {S : PS} {a c : Nat} (hc : sK S a = c) : (flds S a).length = nfOf c := by simp [flds, hc]
theorem flds_set {S S' : PS} {a k c : Nat} {v : Value} (hK : sK S' a = sK S a) (hc : sK S a = c) (hk : k < nfOf c) (hv : fv (tyOf c k) (sI S' a k) (sR S' a k) = v)
    (ho : ∀ j, j ≠ k → sI S' a j = sI S a j ∧ sR S' a j = sR S a j) : (flds S a).set k v = flds S' a := by
  apply List.ext_getElem?
  intro j
  by_cases hj : j < nfOf c
  · rw [flds_at (hK.trans hc) hj]
    by_cases hjk : j = k
    · subst hjk
      rw [List.getElem?_set_self (by rw [flds_len hc]; exact hj), hv]
    · rw [List.getElem?_set_ne (Ne.symm hjk), flds_at hc hj, (ho j hjk).1, (ho j hjk).2]
  · rw [List.getElem?_eq_none (by rw [List.length_set, flds_len hc]; omega), List.getElem?_eq_none (by rw [flds_len (hK.trans hc)]; omega)]
theorem EN_o {cy : Nat → ClassId} {S : PS} {a c : Nat} (h : sK S a = c) (hc : c < 13) : EN cy S a = .inr (c, flds S a) := by
  unfold EN; rw [h, if_pos hc]
theorem EN_eq {cy : Nat → ClassId} {S S' : PS} {a : Nat} (h1 : sK S' a = sK S a) (h2 : ∀ k, sI S' a k = sI S a k) (h3 : ∀ k, sR S' a k = sR S a k) (h4 : sL S' a = sL S a) (h5 : ∀ k, sA S' a k = sA S a k) (h6 : ∀ k, sJ S' a k = sJ S a k) (h7 : ∀ k, sP S' a k = sP S a k) : EN cy S' a = EN cy S a := by
  have e5 : sA S' a = sA S a := funext h5
  have e6 : sJ S' a = sJ S a := funext h6
  have e7 : sP S' a = sP S a := funext h7
  have ef : flds S' a = flds S a := by
    unfold flds; rw [h1]
    apply List.map_congr_left
    intro k _
    rw [h2, h3]
  unfold EN
  rw [h1, h4, e5, e6, e7, ef]
/-- the String constants -/
def strT0 : String := "sock glove like near table full back stop few many line right seed lose if then else week kind there all lot "
def strT1 : String := ";=+-*/<()"
def strLen : List Nat := [109, 9]
def strByt : List (List Int32) := [[115, 111, 99, 107, 32, 103, 108, 111, 118, 101, 32, 108, 105, 107, 101, 32, 110, 101, 97, 114, 32, 116, 97, 98, 108, 101, 32, 102, 117, 108, 108, 32, 98, 97, 99, 107, 32, 115, 116, 111, 112, 32, 102, 101, 119, 32, 109, 97, 110, 121, 32, 108, 105, 110, 101, 32, 114, 105, 103, 104, 116, 32, 115, 101, 101, 100, 32, 108, 111, 115, 101, 32, 105, 102, 32, 116, 104, 101, 110, 32, 101, 108, 115, 101, 32, 119, 101, 101, 107, 32, 107, 105, 110, 100, 32, 116, 104, 101, 114, 101, 32, 97, 108, 108, 32, 108, 111, 116, 32], [59, 61, 43, 45, 42, 47, 60, 40, 41]]
theorem inG_ok : ∀ c, c < 13 → ∀ w ∈ u_ws (RXOf c) (TXOf c) (nfOf c), w ∈ lwG := by
  intro c hc
  rcases (show c = 0 ∨ c = 1 ∨ c = 2 ∨ c = 3 ∨ c = 4 ∨ c = 5 ∨ c = 6 ∨ c = 7 ∨ c = 8 ∨ c = 9 ∨ c = 10 ∨ c = 11 ∨ c = 12 by omega) with h | h | h | h | h | h | h | h | h | h | h | h | h <;> subst h
  · exact inG0
  · exact inG1
  · exact inG2
  · exact inG3
  · exact inG4
  · exact inG5
  · exact inG6
  · exact inG7
  · exact inG8
  · exact inG9
  · exact inG10
  · exact inG11
  · exact inG12
