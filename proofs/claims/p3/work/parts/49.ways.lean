/-! the shape with the rows of longs of Losses and Seen left open: they change places -/
def lyLossesW : LAY := [(3, [none, none, some 3, some 4, some 5, none, none, some 6, some 7], 0), (15, [], 19), (15, [], 19), (14, [], 8), (16, [], 18), (14, [], 5), (14, [], 200), (14, [], 200)]
def lySeenW : LAY := [(6, [some 1, some 2, none, none, none], 0), (14, [], 20), (14, [], 20), (15, [], 19), (15, [], 19)]
def lySockTableW : LAY := [(11, [some 1, some 2, some 3, some 27, none, some 41, some 45, some 49, none, none, some 50, some 51, some 52, some 62, some 68, some 76], 0), (9, [some 2, some 3, some 13, none, none], 0), (0, [some 3, some 9, none, none, none, none, none, none], 0), (8, [some 4, none, some 5, some 6, some 7, none, some 8], 0), (14, [], 2000), (14, [], 402), (15, [], 402), (14, [], 402), (15, [], 22), (2, [some 10, some 11, none, some 12], 0), (14, [], 402), (14, [], 402), (14, [], 24), (10, [none, none, some 14, some 15, some 16, some 17, some 18, some 19, none, none, none, none, some 20, none, some 21, some 22, some 23], 0), (14, [], 8), (14, [], 8), (14, [], 8), (15, [], 8), (14, [], 8), (14, [], 64), (14, [], 18), (14, [], 8), (14, [], 8), (2, [some 24, some 25, none, some 26], 0), (14, [], 402), (14, [], 402), (14, [], 24), (10, [none, none, some 28, some 29, some 30, some 31, some 32, some 33, none, none, none, none, some 34, none, some 35, some 36, some 37], 0), (14, [], 8), (14, [], 8), (14, [], 8), (15, [], 8), (14, [], 8), (14, [], 64), (14, [], 18), (14, [], 8), (14, [], 8), (2, [some 38, some 39, none, some 40], 0), (14, [], 402), (14, [], 402), (14, [], 24), (7, [some 42, some 43, some 44, none, none], 0), (14, [], 8), (14, [], 8), (14, [], 8), (7, [some 46, some 47, some 48, none, none], 0), (14, [], 8), (14, [], 8), (14, [], 8), (17, [], 40), (17, [], 3), (16, [], 3), (5, [some 53, some 54, some 55, none, some 56, some 60, some 61], 0), (14, [], 8), (14, [], 8), (14, [], 8), (1, [some 57, some 58, some 59, none], 0), (14, [], 8), (14, [], 8), (14, [], 8), (15, [], 11664), (15, [], 19), (4, [some 63, some 67, none, none], 0), (1, [some 64, some 65, some 66, none], 0), (14, [], 8), (14, [], 8), (14, [], 8), (14, [], 1024), (3, [none, none, some 71, some 72, some 73, none, none, some 74, some 75], 0), (15, [], 19), (15, [], 19), (14, [], 8), (16, [], 18), (14, [], 5), (14, [], 200), (14, [], 200), (6, [some 77, some 78, none, none, none], 0), (14, [], 20), (14, [], 20), (15, [], 19), (15, [], 19), (7, [some 82, some 83, some 84, none, none], 0), (14, [], 8), (14, [], 8), (14, [], 8), (7, [some 86, some 87, some 88, none, none], 0), (14, [], 8), (14, [], 8), (14, [], 8), (7, [some 90, some 91, some 92, none, none], 0), (14, [], 8), (14, [], 8), (14, [], 8), (7, [some 94, some 95, some 96, none, none], 0), (14, [], 8), (14, [], 8), (14, [], 8), (7, [some 98, some 99, some 100, none, none], 0), (14, [], 8), (14, [], 8), (14, [], 8), (7, [some 102, some 103, some 104, none, none], 0), (14, [], 8), (14, [], 8), (14, [], 8), (7, [some 106, some 107, some 108, none, none], 0), (14, [], 8), (14, [], 8), (14, [], 8), (7, [some 110, some 111, some 112, none, none], 0), (14, [], 8), (14, [], 8), (14, [], 8), (7, [some 114, some 115, some 116, none, none], 0), (14, [], 8), (14, [], 8), (14, [], 8), (7, [some 118, some 119, some 120, none, none], 0), (14, [], 8), (14, [], 8), (14, [], 8), (7, [some 122, some 123, some 124, none, none], 0), (14, [], 8), (14, [], 8), (14, [], 8), (7, [some 126, some 127, some 128, none, none], 0), (14, [], 8), (14, [], 8), (14, [], 8), (7, [some 130, some 131, some 132, none, none], 0), (14, [], 8), (14, [], 8), (14, [], 8), (7, [some 134, some 135, some 136, none, none], 0), (14, [], 8), (14, [], 8), (14, [], 8), (7, [some 138, some 139, some 140, none, none], 0), (14, [], 8), (14, [], 8), (14, [], 8), (7, [some 142, some 143, some 144, none, none], 0), (14, [], 8), (14, [], 8), (14, [], 8), (7, [some 146, some 147, some 148, none, none], 0), (14, [], 8), (14, [], 8), (14, [], 8), (7, [some 150, some 151, some 152, none, none], 0), (14, [], 8), (14, [], 8), (14, [], 8), (7, [some 154, some 155, some 156, none, none], 0), (14, [], 8), (14, [], 8), (14, [], 8), (7, [some 158, some 159, some 160, none, none], 0), (14, [], 8), (14, [], 8), (14, [], 8), (7, [some 162, some 163, some 164, none, none], 0), (14, [], 8), (14, [], 8), (14, [], 8), (7, [some 166, some 167, some 168, none, none], 0), (14, [], 8), (14, [], 8), (14, [], 8), (7, [some 170, some 171, some 172, none, none], 0), (14, [], 8), (14, [], 8), (14, [], 8), (7, [some 174, some 175, some 176, none, none], 0), (14, [], 8), (14, [], 8), (14, [], 8), (7, [some 178, some 179, some 180, none, none], 0), (14, [], 8), (14, [], 8), (14, [], 8), (7, [some 182, some 183, some 184, none, none], 0), (14, [], 8), (14, [], 8), (14, [], 8), (7, [some 186, some 187, some 188, none, none], 0), (14, [], 8), (14, [], 8), (14, [], 8), (7, [some 190, some 191, some 192, none, none], 0), (14, [], 8), (14, [], 8), (14, [], 8), (7, [some 194, some 195, some 196, none, none], 0), (14, [], 8), (14, [], 8), (14, [], 8), (7, [some 198, some 199, some 200, none, none], 0), (14, [], 8), (14, [], 8), (14, [], 8), (7, [some 202, some 203, some 204, none, none], 0), (14, [], 8), (14, [], 8), (14, [], 8), (7, [some 206, some 207, some 208, none, none], 0), (14, [], 8), (14, [], 8), (14, [], 8), (7, [some 210, some 211, some 212, none, none], 0), (14, [], 8), (14, [], 8), (14, [], 8), (7, [some 214, some 215, some 216, none, none], 0), (14, [], 8), (14, [], 8), (14, [], 8), (7, [some 218, some 219, some 220, none, none], 0), (14, [], 8), (14, [], 8), (14, [], 8), (7, [some 222, some 223, some 224, none, none], 0), (14, [], 8), (14, [], 8), (14, [], 8), (7, [some 226, some 227, some 228, none, none], 0), (14, [], 8), (14, [], 8), (14, [], 8), (7, [some 230, some 231, some 232, none, none], 0), (14, [], 8), (14, [], 8), (14, [], 8), (7, [some 234, some 235, some 236, none, none], 0), (14, [], 8), (14, [], 8), (14, [], 8), (7, [some 238, some 239, some 240, none, none], 0), (14, [], 8), (14, [], 8), (14, [], 8), (7, [some 242, some 243, some 244, none, none], 0), (14, [], 8), (14, [], 8), (14, [], 8), (7, [some 246, some 247, some 248, none, none], 0), (14, [], 8), (14, [], 8), (14, [], 8), (7, [some 250, some 251, some 252, none, none], 0), (14, [], 8), (14, [], 8), (14, [], 8)]
def okW (ly : LAY) : Bool := ly.all fun e => (e.1 != 3 || ((e.2.1.getD 0 none).isNone && (e.2.1.getD 1 none).isNone)) && (e.1 != 6 || ((e.2.1.getD 3 none).isNone && (e.2.1.getD 4 none).isNone))
def wkE (e e2 : Nat × List (Option Nat) × Nat) : Bool := e2.1 == e.1 && e2.2.2 == e.2.2 && (e2.2.1.zip e.2.1).all (fun q => q.1.isNone || q.1 == q.2) && e2.2.1.length == e.2.1.length
def wkOK (ly ly2 : LAY) : Bool := ly2.length == ly.length && (ly2.zip ly).all (fun q => wkE q.2 q.1)
theorem isL.wk {ly ly2 : LAY} {lo b : Nat} {S : PS} (F : isL ly lo S b) (h : wkOK ly ly2 = true) : isL ly2 lo S b := by
  unfold wkOK at h
  simp only [Bool.and_eq_true, beq_iff_eq, List.all_eq_true] at h
  obtain ⟨hl, ha⟩ := h
  refine ⟨F.1, by rw [hl]; exact F.2.1, fun r e2 he => ?_⟩
  have hr : r < ly2.length := (List.getElem?_eq_some_iff.mp he).1
  have hr2 : r < ly.length := by omega
  have he1 : ly[r]? = some ly[r] := List.getElem?_eq_getElem hr2
  have hz : (e2, ly[r]) ∈ ly2.zip ly := List.mem_of_getElem? (i := r) (by rw [List.getElem?_zip_eq_some]; exact ⟨he, he1⟩)
  have hw := ha _ hz
  unfold wkE at hw
  simp only [Bool.and_eq_true, beq_iff_eq, List.all_eq_true, Bool.or_eq_true] at hw
  obtain ⟨⟨⟨w1, w2⟩, w3⟩, w4⟩ := hw
  obtain ⟨g1, g2, g3⟩ := F.2.2 r _ he1
  refine ⟨by rw [w1]; exact g1, fun j t hj => g2 j t ?_, fun hk => by rw [w2]; exact g3 (by rw [← w1]; exact hk)⟩
  have hj1 : j < e2.2.1.length := (List.getElem?_eq_some_iff.mp hj).1
  have hj2 : j < (ly[r]).2.1.length := by omega
  have hj3 : (ly[r]).2.1[j]? = some (ly[r]).2.1[j] := List.getElem?_eq_getElem hj2
  have hq := w3 (some t, (ly[r]).2.1[j]) (List.mem_of_getElem? (i := j) (by rw [List.getElem?_zip_eq_some]; exact ⟨hj, hj3⟩))
  rw [hj3]
  rcases hq with q | q
  · cases q
  · exact congrArg some q.symm
def SSW (S S2 : PS) : Prop := sN S2 = sN S ∧ sK S2 = sK S ∧ (∀ a j, ¬ (sK S a = 3 ∧ j < 2) → ¬ (sK S a = 6 ∧ (j = 3 ∨ j = 4)) → sR S2 a j = sR S a j) ∧ sL S2 = sL S ∧ sP S2 = sP S
theorem SSW.of {S S2 : PS} (h : SSm S S2) : SSW S S2 := ⟨h.1, h.2.1, fun a j _ _ => by rw [h.2.2.1], h.2.2.2.1, h.2.2.2.2⟩
theorem SSW.tr {S S1 S2 : PS} (h : SSW S S1) (g : SSW S1 S2) : SSW S S2 := ⟨g.1.trans h.1, g.2.1.trans h.2.1, fun a j n1 n2 => (g.2.2.1 a j (by rw [h.2.1]; exact n1) (by rw [h.2.1]; exact n2)).trans (h.2.2.1 a j n1 n2), g.2.2.2.1.trans h.2.2.2.1, g.2.2.2.2.trans h.2.2.2.2⟩
theorem SSW.uR {S S1 : PS} (h : SSW S S1) {a j : Nat} {v : Option Nat} (n : (sK S a = 3 ∧ j < 2) ∨ (sK S a = 6 ∧ (j = 3 ∨ j = 4))) : SSW S (uR S1 a j v) := ⟨h.1, h.2.1, fun b i n1 n2 => by
  show up2 (sR S1) a j v b i = _
  unfold up2
  rw [if_neg (fun q => by
    rw [q.1, q.2] at n1 n2
    rcases n with n | n
    · exact n1 n
    · exact n2 n)]
  exact h.2.2.1 b i n1 n2, h.2.2.2.1, h.2.2.2.2⟩
theorem isL.w {ly : LAY} {lo b : Nat} {S S2 : PS} (F : isL ly lo S b) (h : SSW S S2) (ho : okW ly = true) : isL ly lo S2 b := by
  refine ⟨F.1, by rw [h.1]; exact F.2.1, fun r e he => ?_⟩
  obtain ⟨g1, g2, g3⟩ := F.2.2 r e he
  refine ⟨by rw [h.2.1]; exact g1, fun j t hj => ?_, fun hk => by rw [h.2.2.2.1]; exact g3 hk⟩
  unfold okW at ho
  rw [List.all_eq_true] at ho
  have q := ho e (List.mem_of_getElem? he)
  simp only [Bool.and_eq_true, Bool.or_eq_true, bne_iff_ne, ne_eq] at q
  rw [h.2.2.1 (b + r) j ?_ ?_]
  · exact g2 j t hj
  · rintro ⟨k, hj2⟩
    rw [g1] at k
    have q1 := q.1.resolve_left (fun n => n k)
    rcases (show j = 0 ∨ j = 1 by omega) with rfl | rfl
    · rw [List.getD_eq_getElem?_getD, hj] at q1; exact absurd q1.1 (by simp)
    · rw [List.getD_eq_getElem?_getD (i := 1), hj] at q1; exact absurd q1.2 (by simp)
  · rintro ⟨k, hj2⟩
    rw [g1] at k
    have q1 := q.2.resolve_left (fun n => n k)
    rcases hj2 with rfl | rfl
    · rw [List.getD_eq_getElem?_getD, hj] at q1; exact absurd q1.1 (by simp)
    · rw [List.getD_eq_getElem?_getD (i := 4), hj] at q1; exact absurd q1.2 (by simp)
/-- the frame, these rows' places aside -/
def FW (X : List Nat) (Y : List (Nat × Nat)) (S S2 : PS) : Prop := SSW S S2 ∧ (∀ a, a ∉ X → sA S2 a = sA S a) ∧ ∀ a j, (a, j) ∉ Y → sI S2 a j = sI S a j
section FWS
variable {X X2 : List Nat} {Y Y2 : List (Nat × Nat)} {S S1 S2 : PS}
theorem FW.of (h : FZ X Y S S2) : FW X Y S S2 := ⟨SSW.of h.1, h.2.1, h.2.2⟩
theorem FW.rf : FW X Y S S := FW.of FZ.rf
theorem FW.tr (h : FW X Y S S1) (g : FW X Y S1 S2) : FW X Y S S2 := ⟨h.1.tr g.1, fun a ha => (g.2.1 a ha).trans (h.2.1 a ha), fun a j ha => (g.2.2 a j ha).trans (h.2.2 a j ha)⟩
theorem FW.sub (h : FW X Y S S1) (hx : ∀ a, a ∈ X → a ∈ X2) (hy : ∀ a, a ∈ Y → a ∈ Y2) : FW X2 Y2 S S1 := ⟨h.1, fun a ha => h.2.1 a (fun q => ha (hx a q)), fun a j ha => h.2.2 a j (fun q => ha (hy _ q))⟩
theorem FW.uA {a i : Nat} {v : Int32} (h : FW X Y S S1) (ha : a ∈ X) : FW X Y S (uA S1 a i v) := ⟨h.1, fun b hb => by rw [sA_uA, up2_an _ _ (fun q => hb (by rw [q]; exact ha))]; exact h.2.1 b hb, h.2.2⟩
theorem FW.uJ {a i : Nat} {v : Int64} (h : FW X Y S S1) : FW X Y S (uJ S1 a i v) := ⟨h.1, h.2.1, h.2.2⟩
theorem FW.uI {a i : Nat} {v : Int32} (h : FW X Y S S1) (ha : (a, i) ∈ Y) : FW X Y S (uI S1 a i v) := ⟨h.1, h.2.1, fun b j hb => by
  rw [sI_uI]; unfold up2; rw [if_neg (fun q => hb (by rw [q.1, q.2]; exact ha))]; exact h.2.2 b j hb⟩
end FWS
/-- the two rows of longs: r and r + 1 behind the object, one way round or the other -/
def WR (j k r o : Nat) (S : PS) : Prop := (sR S o j = some (o + r) ∧ sR S o k = some (o + r + 1)) ∨ (sR S o j = some (o + r + 1) ∧ sR S o k = some (o + r))
def wR (S : PS) (o j : Nat) : Nat := (sR S o j).getD 0
section WRS
variable {j k r o lo : Nat} {S S2 : PS}
theorem WR.ss (W : WR j k r o S) (h : SSm S S2) : WR j k r o S2 := by unfold WR; rw [h.2.2.1]; exact W
theorem WR.r1 (W : WR j k r o S) : sR S o j = some (wR S o j) := by
  unfold wR
  rcases W with w | w <;> rw [w.1] <;> rfl
theorem WR.r2 (W : WR j k r o S) : sR S o k = some (wR S o k) := by
  unfold wR
  rcases W with w | w <;> rw [w.2] <;> rfl
theorem WR.c1 (W : WR j k r o S) : wR S o j = o + r ∨ wR S o j = o + r + 1 := by
  unfold wR
  rcases W with w | w <;> rw [w.1]
  · exact Or.inl rfl
  · exact Or.inr rfl
theorem WR.c2 (W : WR j k r o S) : wR S o k = o + r ∨ wR S o k = o + r + 1 := by
  unfold wR
  rcases W with w | w <;> rw [w.2]
  · exact Or.inr rfl
  · exact Or.inl rfl
theorem WR.swap (W : WR j k r o S) (hn : k ≠ j) : WR j k r o (uR (uR S o j (some (wR S o k))) o k (some (wR S o j))) := by
  have e1 : sR (uR (uR S o j (some (wR S o k))) o k (some (wR S o j))) o j = some (wR S o k) := by
    show up2 (up2 (sR S) o j (some (wR S o k))) o k (some (wR S o j)) o j = _
    rw [up2_k _ _ (Ne.symm hn), up2_s]
  have e2 : sR (uR (uR S o j (some (wR S o k))) o k (some (wR S o j))) o k = some (wR S o j) := up2_s _ _ _ _
  unfold WR
  rw [e1, e2]
  rcases W with w | w
  · right
    unfold wR; rw [w.1, w.2]; exact ⟨rfl, rfl⟩
  · left
    unfold wR; rw [w.1, w.2]; exact ⟨rfl, rfl⟩
/-- what a row's place gives, from what both rows have -/
theorem wrow {P : Nat → Prop} {x : Nat} (c : x = o + r ∨ x = o + r + 1) (h1 : P (o + r)) (h2 : P (o + r + 1)) : P x := by
  rcases c with rfl | rfl
  · exact h1
  · exact h2
theorem wlM {x : Nat} (F : isL lyLossesW lo S o) (c : x = o + 1 ∨ x = o + 1 + 1) : x ∈ PL lo S := wrow (P := fun x => x ∈ PL lo S) c (F.m 1 (by decide)) (F.m 2 (by decide))
theorem wlK {x : Nat} (F : isL lyLossesW lo S o) (c : x = o + 1 ∨ x = o + 1 + 1) : sK S x = 15 := wrow (P := fun x => sK S x = 15) c (F.k 1 15 rfl) (F.k 2 15 rfl)
theorem wlL {x : Nat} (F : isL lyLossesW lo S o) (c : x = o + 1 ∨ x = o + 1 + 1) : sL S x = 19 := wrow (P := fun x => sL S x = 19) c (F.l 1 19 rfl) (F.l 2 19 rfl)
theorem wsM {x : Nat} (F : isL lySeenW lo S o) (c : x = o + 3 ∨ x = o + 3 + 1) : x ∈ PL lo S := wrow (P := fun x => x ∈ PL lo S) c (F.m 3 (by decide)) (F.m 4 (by decide))
theorem wsK {x : Nat} (F : isL lySeenW lo S o) (c : x = o + 3 ∨ x = o + 3 + 1) : sK S x = 15 := wrow (P := fun x => sK S x = 15) c (F.k 3 15 rfl) (F.k 4 15 rfl)
theorem wsL {x : Nat} (F : isL lySeenW lo S o) (c : x = o + 3 ∨ x = o + 3 + 1) : sL S x = 19 := wrow (P := fun x => sL S x = 19) c (F.l 3 19 rfl) (F.l 4 19 rfl)
end WRS
theorem mx0 {z : Int32} (h : z.toInt < 2147483647) : (if (0 : Int32) < z then z else 0).toInt < 2147483647 := by
  split
  · exact h
  · decide

