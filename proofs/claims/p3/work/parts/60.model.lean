/-! The reference: naturals behind its ints, what its text and its rows keep -/
theorem nI_mul (a b : Nat) : nI a * nI b = nI (a * b) := (Int32.ofNat_mul a b).symm
theorem eqAdd {x y : Int32} {a b : Nat} (h : x = nI a) (g : y = nI b) : x + y = nI (a + b) := by rw [h, g, nI_add]
theorem eqMul {x y : Int32} {a b : Nat} (h : x = nI a) (g : y = nI b) : x * y = nI (a * b) := by rw [h, g, nI_mul]
theorem eqSub {x y : Int32} {a b : Nat} (h : x = nI a) (g : y = nI b) (hb : b ≤ a) : x - y = nI (a - b) := by
  rw [h, g]
  have e : nI a = nI (a - b) + nI b := by rw [nI_add]; congr 1; omega
  rw [e]
  have q : nI (a - b) + nI b - nI b = nI (a - b) := by rw [Int32.add_sub_cancel]
  exact q
theorem vpN {x : Int32} {n len : Nat} (e : x = nI n) (h : n < len) (hl : len < 2 ^ 31) : vp_in x len := by rw [e]; exact vp_in_nI h hl
theorem clN {x : Int32} {n : Nat} (e : x = nI n) (h : n < 2 ^ 31) : x.toNatClampNeg = n := by rw [e]; exact nI_clamp h
theorem nI_ltE {x y : Int32} {a b : Nat} (ex : x = nI a) (ey : y = nI b) (ha : a < 2 ^ 31) (hb : b < 2 ^ 31) : x < y ↔ a < b := by rw [ex, ey]; exact nI_ltI ha hb
theorem nI_leE {x y : Int32} {a b : Nat} (ex : x = nI a) (ey : y = nI b) (ha : a < 2 ^ 31) (hb : b < 2 ^ 31) : x ≤ y ↔ a ≤ b := by rw [ex, ey]; exact nI_leI ha hb
theorem nI_eqE {x y : Int32} {a b : Nat} (ex : x = nI a) (ey : y = nI b) (ha : a < 2 ^ 31) (hb : b < 2 ^ 31) : x = y ↔ a = b := by rw [ex, ey]; exact nI_eq ha hb
theorem eqDiv {x y : Int32} {a b : Nat} (h : x = nI a) (g : y = nI b) (ha : a < 2 ^ 31) (hb : b < 2 ^ 31) (h0 : 0 < b) : x / y = nI (a / b) := by
  rw [h, g]
  apply Int32.toInt_inj.mp
  have hd : a / b ≤ a := Nat.div_le_self a b
  have e : ((a : Int) / (b : Int)) = ((a / b : Nat) : Int) := by simp
  rw [Int32.toInt_div, nI_toInt ha, nI_toInt hb, nI_toInt (by omega), Int.tdiv_eq_ediv_of_nonneg (by omega), e]
  generalize a / b = q at hd
  exact Int.bmod_eq_of_le (by omega) (by omega)
theorem eqRem {x y : Int32} {a b : Nat} (h : x = nI a) (g : y = nI b) (ha : a < 2 ^ 31) (hb : b < 2 ^ 31) (h0 : 0 < b) : x - x / y * y = nI (a % b) := by
  have hm : a % b + a / b * b = a := by rw [Nat.mul_comm]; exact Nat.mod_add_div a b
  have e := eqSub h (eqMul (eqDiv h g ha hb h0) g) (by omega)
  rw [e]
  congr 1
  omega
def sumN (f : Nat → Nat) : Nat → Nat
  | 0 => 0
  | n + 1 => sumN f n + f n
theorem sumN_le {f g : Nat → Nat} : ∀ n, (∀ k, k < n → f k ≤ g k) → sumN f n ≤ sumN g n
  | 0, _ => Nat.le_refl 0
  | n + 1, h => Nat.add_le_add (sumN_le n (fun k hk => h k (by omega))) (h n (by omega))
theorem sumN_eq {f g : Nat → Nat} : ∀ n, (∀ k, k < n → f k = g k) → sumN f n = sumN g n
  | 0, _ => rfl
  | n + 1, h => by show sumN f n + f n = sumN g n + g n; rw [sumN_eq n (fun k hk => h k (by omega)), h n (by omega)]
theorem sumN_mem {f : Nat → Nat} : ∀ n k, k < n → f k ≤ sumN f n
  | 0, k, h => absurd h (Nat.not_lt_zero _)
  | n + 1, k, h => by
    show f k ≤ sumN f n + f n
    by_cases q : k = n
    · subst q; omega
    · have := sumN_mem (f := f) n k (by omega); omega
theorem sumN_add {f g : Nat → Nat} : ∀ n, sumN (fun k => f k + g k) n = sumN f n + sumN g n
  | 0 => rfl
  | n + 1 => by show sumN (fun k => f k + g k) n + (f n + g n) = _ ; rw [sumN_add n]; show _ = sumN f n + f n + (sumN g n + g n); omega
theorem sumN_pos {f : Nat → Nat} : ∀ n, 0 < sumN f n → ∃ k, k < n ∧ 0 < f k
  | 0, h => absurd h (Nat.not_lt_zero _)
  | n + 1, h => by
    by_cases q : 0 < f n
    · exact ⟨n, by omega, q⟩
    · have h2 : 0 < sumN f n := by have : sumN f (n + 1) = sumN f n + f n := rfl; omega
      obtain ⟨k, hk, hf⟩ := sumN_pos n h2
      exact ⟨k, by omega, hf⟩
/-- what a text of the reference is, told in naturals: live, kinds, names, numbers, partners, names' places, room, line, law's branches -/
abbrev MG : Type := Nat × Nat × Nat × (Nat → Nat) × (Nat → Nat) × (Nat → Nat) × Nat × Nat × (Nat → Nat) × Nat × Nat
def gl (g : MG) : Nat := g.1
def gK (g : MG) : Nat := g.2.1
def gM (g : MG) : Nat := g.2.2.1
def gN (g : MG) : Nat → Nat := g.2.2.2.1
def gP (g : MG) : Nat → Nat := g.2.2.2.2.1
def gAt (g : MG) : Nat → Nat := g.2.2.2.2.2.1
def gR (g : MG) : Nat := g.2.2.2.2.2.2.1
def gLL (g : MG) : Nat := g.2.2.2.2.2.2.2.1
def gLK (g : MG) : Nat → Nat := g.2.2.2.2.2.2.2.2.1
def gf (g : MG) : Nat := g.2.2.2.2.2.2.2.2.2.1
def ga (g : MG) : Nat := g.2.2.2.2.2.2.2.2.2.2
/-- n codes from c on, done one by one, leave h values -/
def RP (m c : Nat) (S : PS) : Nat → Nat → Prop
  | 0, h => h = 0
  | n + 1, h => ∃ k, RP m c S n k ∧ (((sA S (m + 32) (c + n) = nI 0 ∨ (sA S (m + 32) (c + n) = nI 1 ∧ ∃ v, v < 5 ∧ sA S (m + 33) (c + n) = nI v)) ∧ h = k + 1) ∨ ((∃ j, 2 ≤ j ∧ j ≤ 5 ∧ sA S (m + 32) (c + n) = nI j) ∧ 2 ≤ k ∧ h + 1 = k))
def RPN (m l : Nat) (S : PS) (c d : Nat) : Prop := 420 * l ≤ c ∧ c ≤ d ∧ d ≤ 420 * l + 420 ∧ d - c ≤ 400 ∧ RP m c S (d - c) 1
/-- a branch of the law at i, its codes at side l -/
def LAW1 (m l : Nat) (S : PS) (i : Nat) : Prop := ∃ c0 c1 c2 c3 : Nat, (¬ sA S (m + 27) i = 0 → sA S (m + 28) i = nI c0 ∧ sA S (m + 29) i = nI c1 ∧ RPN m l S c0 c1 ∧ RPN m l S c1 c2) ∧ sA S (m + 30) i = nI c2 ∧ sA S (m + 31) i = nI c3 ∧ RPN m l S c2 c3
def LAWS (m l : Nat) (S : PS) (a b : Nat) : Prop := ∀ i, a ≤ i → i < b → LAW1 m l S i
def TXT (m : Nat) (g : MG) (S : PS) : Prop :=
  (sI S m 18 = nI (gl g) ∧ gl g < 2) ∧ (sA S (m + 11) (gl g) = nI (gK g) ∧ gK g ≤ 8) ∧ (sA S (m + 8) (gl g) = nI (gM g) ∧ gM g ≤ 8) ∧
  (∀ k, k < gK g → sA S (m + 13) (8 * gl g + k) = nI (gN g k) ∧ gN g k ≤ 9) ∧ (∀ k, k < gK g → sA S (m + 12) (8 * gl g + k) = nI (gP g k) ∧ gP g k < gK g) ∧ (∀ k, k < gK g → sA S (m + 14) (8 * gl g + k) = nI (gAt g k) ∧ gAt g k < 8) ∧
  sumN (gN g) (gK g) ≤ 18 ∧ (sA S (m + 19) (gl g) = nI (gR g) ∧ 1 ≤ gR g ∧ gR g ≤ 18) ∧ (sA S (m + 21) (gl g) = nI (gLL g) ∧ gLL g ≤ 18) ∧ (∀ i, i < gLL g → sA S (m + 22) (18 * gl g + i) = nI (gLK g i) ∧ gLK g i < gK g) ∧
  sA S (m + 25) (gl g) = nI (gf g) ∧ sA S (m + 26) (gl g) = nI (ga g) ∧ (gf g ≤ ga g ∧ ga g ≤ 260 ∧ (gf g < ga g → 130 * gl g ≤ gf g ∧ ga g ≤ 130 * gl g + 130)) ∧ LAWS m (gl g) S (gf g) (ga g)
/-- how many of a kind there can be -/
def lim (g : MG) (k : Nat) : Nat := if k < gK g then gN g k else 0
/-- x in the bag, y on the table -/
def ROW (a o : Nat) (x y : Nat → Nat) (S : PS) : Prop := ∀ k, k < 8 → sA S a (o + k) = nI (x k) ∧ sA S a (o + (8 + k)) = nI (y k)
def OKR (g : MG) (x y : Nat → Nat) : Prop := ∀ k, k < 8 → x k + y k ≤ lim g k
def SR (g : MG) (a o : Nat) (S : PS) : Prop := ∃ x y, ROW a o x y S ∧ OKR g x y
section MDS
variable {m a o : Nat} {g : MG} {x y : Nat → Nat} {S S2 : PS} {X : List Nat} {Y : List (Nat × Nat)}
theorem TXT.lv (h : TXT m g S) : sI S m 18 = nI (gl g) := h.1.1
theorem TXT.l2 (h : TXT m g S) : gl g < 2 := h.1.2
theorem TXT.ki (h : TXT m g S) : sA S (m + 11) (gl g) = nI (gK g) := h.2.1.1
theorem TXT.k8 (h : TXT m g S) : gK g ≤ 8 := h.2.1.2
theorem TXT.na (h : TXT m g S) : sA S (m + 8) (gl g) = nI (gM g) := h.2.2.1.1
theorem TXT.n8 (h : TXT m g S) : gM g ≤ 8 := h.2.2.1.2
theorem TXT.nu (h : TXT m g S) {k : Nat} (hk : k < gK g) : sA S (m + 13) (8 * gl g + k) = nI (gN g k) := (h.2.2.2.1 k hk).1
theorem TXT.nu9 (h : TXT m g S) {k : Nat} (hk : k < gK g) : gN g k ≤ 9 := (h.2.2.2.1 k hk).2
theorem TXT.pa (h : TXT m g S) {k : Nat} (hk : k < gK g) : sA S (m + 12) (8 * gl g + k) = nI (gP g k) := (h.2.2.2.2.1 k hk).1
theorem TXT.paK (h : TXT m g S) {k : Nat} (hk : k < gK g) : gP g k < gK g := (h.2.2.2.2.1 k hk).2
theorem TXT.pl (h : TXT m g S) {k : Nat} (hk : k < gK g) : sA S (m + 14) (8 * gl g + k) = nI (gAt g k) := (h.2.2.2.2.2.1 k hk).1
theorem TXT.pl8 (h : TXT m g S) {k : Nat} (hk : k < gK g) : gAt g k < 8 := (h.2.2.2.2.2.1 k hk).2
theorem TXT.s18 (h : TXT m g S) : sumN (gN g) (gK g) ≤ 18 := h.2.2.2.2.2.2.1
theorem TXT.ro (h : TXT m g S) : sA S (m + 19) (gl g) = nI (gR g) := h.2.2.2.2.2.2.2.1.1
theorem TXT.r1 (h : TXT m g S) : 1 ≤ gR g := h.2.2.2.2.2.2.2.1.2.1
theorem TXT.r18 (h : TXT m g S) : gR g ≤ 18 := h.2.2.2.2.2.2.2.1.2.2
theorem TXT.ll (h : TXT m g S) : sA S (m + 21) (gl g) = nI (gLL g) := h.2.2.2.2.2.2.2.2.1.1
theorem TXT.ll18 (h : TXT m g S) : gLL g ≤ 18 := h.2.2.2.2.2.2.2.2.1.2
theorem TXT.lk (h : TXT m g S) {i : Nat} (hi : i < gLL g) : sA S (m + 22) (18 * gl g + i) = nI (gLK g i) := (h.2.2.2.2.2.2.2.2.2.1 i hi).1
theorem TXT.lkK (h : TXT m g S) {i : Nat} (hi : i < gLL g) : gLK g i < gK g := (h.2.2.2.2.2.2.2.2.2.1 i hi).2
theorem TXT.lf (h : TXT m g S) : sA S (m + 25) (gl g) = nI (gf g) := h.2.2.2.2.2.2.2.2.2.2.1
theorem TXT.la (h : TXT m g S) : sA S (m + 26) (gl g) = nI (ga g) := h.2.2.2.2.2.2.2.2.2.2.2.1
theorem TXT.la260 (h : TXT m g S) : ga g ≤ 260 := h.2.2.2.2.2.2.2.2.2.2.2.2.1.2.1
theorem TXT.fa (h : TXT m g S) : gf g ≤ ga g := h.2.2.2.2.2.2.2.2.2.2.2.2.1.1
theorem TXT.laws (h : TXT m g S) : LAWS m (gl g) S (gf g) (ga g) := h.2.2.2.2.2.2.2.2.2.2.2.2.2
theorem RP.eq {c : Nat} : ∀ n h, RP m c S n h → (∀ i, sA S2 (m + 32) i = sA S (m + 32) i) → (∀ i, sA S2 (m + 33) i = sA S (m + 33) i) → RP m c S2 n h
  | 0, h, q, _, _ => q
  | n + 1, h, q, e1, e2 => by
    obtain ⟨k, q1, q2⟩ := q
    refine ⟨k, RP.eq n k q1 e1 e2, ?_⟩
    rw [e1, e2]; exact q2
theorem LAW1.eq {l i : Nat} (h : LAW1 m l S i) (e : ∀ r, 27 ≤ r → r ≤ 33 → ∀ i, sA S2 (m + r) i = sA S (m + r) i) : LAW1 m l S2 i := by
  have f : ∀ c d, RPN m l S c d → RPN m l S2 c d := fun c d q => ⟨q.1, q.2.1, q.2.2.1, q.2.2.2.1, RP.eq _ _ q.2.2.2.2 (e 32 (by decide) (by decide)) (e 33 (by decide) (by decide))⟩
  obtain ⟨c0, c1, c2, c3, q1, q2, q3, q4⟩ := h
  refine ⟨c0, c1, c2, c3, fun n => ?_, by rw [e 30 (by decide) (by decide)]; exact q2, by rw [e 31 (by decide) (by decide)]; exact q3, f _ _ q4⟩
  rw [e 27 (by decide) (by decide)] at n
  obtain ⟨r1, r2, r3, r4⟩ := q1 n
  exact ⟨by rw [e 28 (by decide) (by decide)]; exact r1, by rw [e 29 (by decide) (by decide)]; exact r2, f _ _ r3, f _ _ r4⟩
theorem LAWS.eq {l b c : Nat} (h : LAWS m l S b c) (e : ∀ r, 27 ≤ r → r ≤ 33 → ∀ i, sA S2 (m + r) i = sA S (m + r) i) : LAWS m l S2 b c := fun i h1 h2 => (h i h1 h2).eq e
def txtX (o : Nat) : Bool := o != 8 && o != 11 && o != 12 && o != 13 && o != 14 && o != 19 && o != 21 && o != 22 && o != 25 && o != 26 && !(decide (27 ≤ o) && decide (o ≤ 33))
theorem TXT.eq (h : TXT m g S) (eI : sI S2 m 18 = sI S m 18) (e : ∀ o, txtX o = false → sA S2 (m + o) = sA S (m + o)) : TXT m g S2 := by
  obtain ⟨h1, h2, h3, h4, h5, h6, h7, h8, h9, h10, h11, h12, h13, h14⟩ := h
  unfold TXT
  rw [eI, e 11 rfl, e 8 rfl, e 13 rfl, e 12 rfl, e 14 rfl, e 19 rfl, e 21 rfl, e 22 rfl, e 25 rfl, e 26 rfl]
  refine ⟨h1, h2, h3, h4, h5, h6, h7, h8, h9, h10, h11, h12, h13, h14.eq (fun r r1 r2 i => ?_)⟩
  rw [e r (by unfold txtX; rw [decide_eq_true r1, decide_eq_true r2]; simp)]
/-- the text is out of the way -/
theorem TXT.z (h : TXT m g S) (Xo : List Nat) (Yo : List (Nat × Nat)) (e : FZ X Y S S2) (hX : X = Xo.map (fun o => m + o)) (hY : Y = Yo.map (fun p => (m + p.1, p.2))) (hx : Xo.all txtX = true) (hy : Yo.all (fun p => p != (0, 18)) = true) : TXT m g S2 := by
  subst hX hY
  refine h.eq (e.2.2 m 18 (fun q => ?_)) (fun o ho => e.2.1 _ (fun q => ?_))
  · obtain ⟨p, h1, h2⟩ := List.mem_map.mp q
    have h3 := List.all_eq_true.mp hy p h1
    have e1 : p.1 = 0 := by have := congrArg Prod.fst h2; simp only at this; omega
    have e2 : p.2 = 18 := congrArg Prod.snd h2
    have : p = (0, 18) := Prod.ext e1 e2
    rw [this] at h3
    simp at h3
  · obtain ⟨o2, h1, h2⟩ := List.mem_map.mp q
    have h3 := List.all_eq_true.mp hx o2 h1
    have : o2 = o := by have := h2; omega
    rw [this, ho] at h3
    cases h3
theorem ROW.eq (h : ROW a o x y S) (e : sA S2 a = sA S a) : ROW a o x y S2 := fun k hk => by rw [e]; exact h k hk
theorem ROW.fz (h : ROW a o x y S) (e : FZ X Y S S2) (ha : a ∉ X) : ROW a o x y S2 := h.eq (e.2.1 a ha)
theorem SR.fz (h : SR g a o S) (e : FZ X Y S S2) (ha : a ∉ X) : SR g a o S2 := by
  obtain ⟨x, y, h1, h2⟩ := h
  exact ⟨x, y, h1.fz e ha, h2⟩
def fU (f : Nat → Nat) (k v : Nat) : Nat → Nat := fun j => if j = k then v else f j
theorem ROW_x {k v : Nat} (h : ROW a 0 x y S) (hk : k < 8) : ROW a 0 (fU x k v) y (uA S a k (nI v)) := fun j hj => by
  have h2 := h j hj
  rw [Nat.zero_add] at h2
  rw [Nat.zero_add, Nat.zero_add, sA_uA]
  refine ⟨?_, ?_⟩
  · unfold up2 fU
    by_cases q : j = k
    · rw [if_pos ⟨rfl, q⟩, if_pos q]
    · rw [if_neg (fun z => q z.2), if_neg q]; exact h2.1
  · unfold up2; rw [if_neg (fun z => by omega)]; have := h2.2; rw [Nat.zero_add] at this; exact this
theorem ROW_y {k v : Nat} (h : ROW a 0 x y S) (hk : k < 8) : ROW a 0 x (fU y k v) (uA S a (8 + k) (nI v)) := fun j hj => by
  have h2 := h j hj
  rw [Nat.zero_add] at h2
  rw [Nat.zero_add, Nat.zero_add, sA_uA]
  refine ⟨?_, ?_⟩
  · unfold up2; rw [if_neg (fun z => by omega)]; exact h2.1
  · have h3 := h2.2
    rw [Nat.zero_add] at h3
    unfold up2 fU
    by_cases q : j = k
    · rw [if_pos ⟨rfl, by omega⟩, if_pos q]
    · rw [if_neg (fun z => q (by omega)), if_neg q]; exact h3
theorem ROW.oth {i : Nat} {v : Int32} (h : ROW a 0 x y S) (hi : 16 ≤ i) : ROW a 0 x y (uA S a i v) := fun j hj => by
  have h2 := h j hj
  rw [sA_uA]; unfold up2
  rw [if_neg (fun z => by omega), if_neg (fun z => by omega)]
  exact h2
theorem ROW.gx (h : ROW a 0 x y S) {k : Nat} (hk : k < 8) : sA S a k = nI (x k) := by have := (h k hk).1; rw [Nat.zero_add] at this; exact this
theorem ROW.gy (h : ROW a 0 x y S) {k : Nat} (hk : k < 8) : sA S a (8 + k) = nI (y k) := by have := (h k hk).2; rw [Nat.zero_add] at this; exact this
theorem fU_s {f : Nat → Nat} {k v : Nat} : fU f k v k = v := if_pos rfl
theorem fU_n {f : Nat → Nat} {j k v : Nat} (h : j ≠ k) : fU f k v j = f j := if_neg h
theorem sum_lim (h : TXT m g S) : sumN (lim g) 8 ≤ 18 := by
  have key : ∀ n, gK g ≤ n → sumN (lim g) n = sumN (gN g) (gK g) := by
    intro n
    induction n with
    | zero => intro hn; have : gK g = 0 := by omega
              rw [this]; rfl
    | succ n ih =>
      intro hn
      by_cases q : gK g = n + 1
      · rw [q]; exact sumN_eq _ (fun k hk => by unfold lim; rw [if_pos (by omega)])
      · show sumN (lim g) n + lim g n = _
        rw [ih (by omega)]
        unfold lim; rw [if_neg (by omega)]; rfl
  rw [key 8 h.k8]; exact h.s18
theorem OKR.s18 (h : TXT m g S) (ok : OKR g x y) : sumN x 8 + sumN y 8 ≤ 18 := by
  rw [← sumN_add]
  exact Nat.le_trans (sumN_le 8 ok) (sum_lim h)
theorem OKR.K (ok : OKR g x y) {k : Nat} (hk : k < 8) (h : 0 < x k + y k) : k < gK g := by
  have := ok k hk
  unfold lim at this
  by_cases q : k < gK g
  · exact q
  · rw [if_neg q] at this; omega
theorem OKR.k18 (h : TXT m g S) (ok : OKR g x y) {k : Nat} (hk : k < 8) : x k + y k ≤ 18 := by
  have h1 := sumN_mem (f := x) 8 k hk
  have h2 := sumN_mem (f := y) 8 k hk
  have := OKR.s18 h ok
  omega
end MDS

