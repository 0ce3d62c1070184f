/-! what stays: the shape; int rows but X; int fields but those of Y (rows of longs are free) -/
def FZ (X : List Nat) (Y : List (Nat × Nat)) (S S2 : PS) : Prop := SSm S S2 ∧ (∀ a, a ∉ X → sA S2 a = sA S a) ∧ ∀ a j, (a, j) ∉ Y → sI S2 a j = sI S a j
section FZS
variable {X X2 : List Nat} {Y Y2 : List (Nat × Nat)} {S S1 S2 : PS}
theorem FZ.rf : FZ X Y S S := ⟨SSm.rf, fun _ _ => rfl, fun _ _ _ => rfl⟩
theorem FZ.tr (h : FZ X Y S S1) (g : FZ X Y S1 S2) : FZ X Y S S2 := ⟨h.1.tr g.1, fun a ha => (g.2.1 a ha).trans (h.2.1 a ha), fun a j ha => (g.2.2 a j ha).trans (h.2.2 a j ha)⟩
theorem FZ.sub (h : FZ X Y S S1) (hx : ∀ a, a ∈ X → a ∈ X2) (hy : ∀ a, a ∈ Y → a ∈ Y2) : FZ X2 Y2 S S1 := ⟨h.1, fun a ha => h.2.1 a (fun q => ha (hx a q)), fun a j ha => h.2.2 a j (fun q => ha (hy _ q))⟩
theorem FZ.ofRO (h : RO X S S1) : FZ X Y S S1 := ⟨h.1, h.2.2.2, fun a j _ => by rw [h.2.1]⟩
theorem FZ.uA {a i : Nat} {v : Int32} (h : FZ X Y S S1) (ha : a ∈ X) : FZ X Y S (uA S1 a i v) := ⟨h.1, fun b hb => by rw [sA_uA, up2_an _ _ (fun q => hb (by rw [q]; exact ha))]; exact h.2.1 b hb, h.2.2⟩
theorem FZ.uJ {a i : Nat} {v : Int64} (h : FZ X Y S S1) : FZ X Y S (uJ S1 a i v) := ⟨h.1, h.2.1, h.2.2⟩
theorem FZ.uI {a i : Nat} {v : Int32} (h : FZ X Y S S1) (ha : (a, i) ∈ Y) : FZ X Y S (uI S1 a i v) := ⟨h.1, h.2.1, fun b j hb => by
  rw [sI_uI]; unfold up2; rw [if_neg (fun q => hb (by rw [q.1, q.2]; exact ha))]; exact h.2.2 b j hb⟩
end FZS
theorem nrwB {x : Int32} (h : x = 0 ∨ x = 1) : narrow .boolean (.int x) = .int x := by
  rcases h with rfl | rfl <;> rfl
def lsub : List (Option Value) → List (Option Value) → Prop
  | [], [] => True
  | none :: a, _ :: b => lsub a b
  | some x :: a, y :: b => y = some x ∧ lsub a b
  | _, _ => False
theorem lsub_at : ∀ (a b : List (Option Value)), lsub a b → ∀ (i : Nat) (v : Value), a[i]? = some (some v) → b[i]? = some (some v)
  | [], [], _, i, v, h => by simp at h
  | none :: a, y :: b, hs, i, v, h => by
    cases i with
    | zero => simp at h
    | succ i => simpa using lsub_at a b hs i v (by simpa using h)
  | some x :: a, y :: b, hs, i, v, h => by
    cases i with
    | zero => simp at h; subst h; simpa using hs.1
    | succ i => simpa using lsub_at a b hs.2 i v (by simpa using h)
theorem V_lvw {M : MC} {Γ : GC} {μ : MI} {cc : ByteArray} {Q : State → Prop} {k sl pc : Nat} {S : PS} {lv lv2 : List (Option Value)} {st : List Value} (hs : lsub lv2 lv) (h : V M Γ μ cc Q k sl S pc lv2 st) : V M Γ μ cc Q k sl S pc lv st := fun C H locs ls hr h0 hl =>
  h C H locs ls hr h0 ⟨hl.1, hl.2.1, fun q hq => by
    obtain ⟨-, h4⟩ := lvL_mem _ _ _ hq
    have h5 := hl.at (lsub_at _ _ hs _ _ h4)
    simpa using h5⟩
theorem PL_ss {lo a : Nat} {S S2 : PS} (h : SSm S S2) (ha : a ∈ PL lo S) : a ∈ PL lo S2 := by rw [PL_mem, h.1]; exact PL_mem.mp ha
theorem clamp_lt (m : Int32) : m.toNatClampNeg < 2 ^ 31 := by
  have h := Int32.toInt_lt m
  show m.toInt.toNat < _
  omega
theorem nI_ltC {m : Int32} {i : Nat} (hi : i ≤ m.toNatClampNeg) (c : ¬ m ≤ nI i) : i < m.toNatClampNeg := by
  have h1 := clamp_lt m
  have h2 : ¬ m.toInt ≤ (nI i).toInt := fun q => c (Int32.le_iff_toInt_le.mpr q)
  rw [nI_toInt (by omega)] at h2
  show i < m.toInt.toNat
  omega
set_option maxRecDepth 100000 in
set_option maxHeartbeats 8000000 in
theorem c_add (l : Launch) (Γ : GC) (S : PS) {a : Nat} (ha : a ∈ PL Γ.2.2.2.2.1 S) (hk : sK S a = 14) (hn : sL S a < 2 ^ 31) (i v : Int32) : CT l Γ yX11_add cX11_add 3 none (0) (0) (0) [.ref a, .int i, .int v] S (RV (fun S' => S' = S ∨ S' = uA S a i.toNatClampNeg (sA S a i.toNatClampNeg + v))) := by
  refine CT.of RX11 "add" [some (.ref a), some (.int i), some (.int v)] (by decide +kernel) rfl rfl (Nat.le_of_ble_eq_true rfl) rfl (fun M hM => ?_)
  subst hM
  refine V_iload_1 0 dX11_add_0 ?_
  refine V_if_lt 1 17 dX11_add_1 (by decide) (fun c => ?_) (fun c => ?_)
  ·
    refine V_vret 17 dX11_add_17 rfl (Nat.le_of_ble_eq_true rfl) (Nat.le_of_ble_eq_true rfl) (RV.mk (Or.inl rfl))
  ·
    refine V_iload_1 4 dX11_add_4 ?_
    refine V_aload_0 5 dX11_add_5 ?_
    refine V_alen 6 (nI (sL S a)) dX11_add_6 ha (by rw [hk]; decide) (by rw [hk]; decide) rfl ?_
    refine V_icmp_ge 7 17 dX11_add_7 (by decide) (fun c2 => ?_) (fun c2 => ?_)
    ·
      refine V_vret 17 dX11_add_17 rfl (Nat.le_of_ble_eq_true rfl) (Nat.le_of_ble_eq_true rfl) (RV.mk (Or.inl rfl))
    ·
      refine V_aload_0 10 dX11_add_10 ?_
      refine V_iload_1 11 dX11_add_11 ?_
      refine V_dup2 12 dX11_add_12 rfl rfl ?_
      refine V_iaload 13 dX11_add_13 ha hk (in_of hn c c2) ?_
      refine V_iload_2 14 dX11_add_14 ?_
      refine V_iadd 15 dX11_add_15 ?_
      refine V_iastore 16 dX11_add_16 ha hk (in_of hn c c2) ?_
      refine V_vret 17 dX11_add_17 rfl (Nat.le_of_ble_eq_true rfl) (Nat.le_of_ble_eq_true rfl) (RV.mk (Or.inr rfl))
/-- the same as a frame -/
theorem fr_add {a : Nat} {x : Nat} {v : Int32} {S S2 : PS} (h : S2 = S ∨ S2 = uA S a x v) : FZ [a] [] S S2 := by
  rcases h with rfl | rfl
  · exact FZ.rf
  · exact FZ.rf.uA (by simp)
theorem fr_put {a : Nat} {i v : Int32} {S S2 : PS} (h : S2 = aPut S a i v) : FZ [a] [] S S2 := by
  rw [h]; exact FZ.ofRO (RO.rf.aPt (by simp))
theorem fr_cpy {a b n : Nat} {S S2 : PS} (h : S2 = cpA S a b n) : FZ [b] [] S S2 := by
  rw [h]; exact FZ.ofRO (RO.rf.cpy (by simp))
set_option maxRecDepth 100000 in
set_option maxHeartbeats 8000000 in
theorem s_mixed (l : Launch) (Γ : GC) (S : PS) (x y : Int32) : CT l Γ yX11_mixed cX11_mixed 3 (some .int) (0) (0) (0) [.int x, .int y] S (RI (fun r S' => S' = S)) := by
  refine CT.of RX11 "mixed" [some (.int x), some (.int y), none] (by decide +kernel) rfl rfl (Nat.le_of_ble_eq_true rfl) rfl (fun M hM => ?_)
  subst hM
  refine V_iload_0 0 dX11_mixed_0 ?_
  refine V_iload_1 1 dX11_mixed_1 ?_
  refine V_ixor 2 dX11_mixed_2 ?_
  refine V_ldc_w 3 dX11_mixed_3 kc_RX11_297 ?_
  refine V_imul 6 dX11_mixed_6 ?_
  refine V_sipush 7 (12345) dX11_mixed_7 (by decide) ?_
  refine V_iadd 10 dX11_mixed_10 ?_
  refine V_istore_2 11 dX11_mixed_11 rfl (Nat.le_of_ble_eq_true rfl) ?_
  refine V_iload_2 12 dX11_mixed_12 ?_
  refine V_iload_2 13 dX11_mixed_13 ?_
  refine V_bipush 14 (15) dX11_mixed_14 (by decide) ?_
  refine V_iushr 16 dX11_mixed_16 ?_
  refine V_ixor 17 dX11_mixed_17 ?_
  refine V_iret 18 .int dX11_mixed_18 rfl rfl (Nat.le_of_ble_eq_true rfl) (Nat.le_of_ble_eq_true rfl) (RI.mk rfl)
set_option maxRecDepth 100000 in
set_option maxHeartbeats 8000000 in
theorem s_chance (l : Launch) (Γ : GC) (S : PS) (n x y : Int32) : CT l Γ yX11_chance cX11_chance 4 (some .int) (1) (0) (0) [.int n, .int x, .int y] S (RI (fun r S' => S' = S)) := by
  refine CT.of RX11 "chance" [some (.int n), some (.int x), some (.int y), none] (by decide +kernel) rfl rfl (Nat.le_of_ble_eq_true rfl) rfl (fun M hM => ?_)
  subst hM
  refine V_iload_1 0 dX11_chance_0 ?_
  refine V_bipush 1 (26) dX11_chance_1 (by decide) ?_
  refine V_callS 3 [.int _, .int _] _ (s_mixed M.2.1 Γ _ _ _) dX11_chance_3 cb_X11_mixed ml_RX11_294 sm_yX11_mixed ⟨(Nat.le_of_ble_eq_true rfl), (Nat.le_of_ble_eq_true rfl)⟩ rfl rfl (Nat.le_of_ble_eq_true rfl) ⟨(Nat.le_of_ble_eq_true rfl), (Nat.le_of_ble_eq_true rfl)⟩ (RI.go (fun r1 S1 h1 => ?_))
  rw [h1]
  refine V_iload_2 6 dX11_chance_6 ?_
  refine V_callS 7 [.int _, .int _] _ (s_mixed M.2.1 Γ _ _ _) dX11_chance_7 cb_X11_mixed ml_RX11_294 sm_yX11_mixed ⟨(Nat.le_of_ble_eq_true rfl), (Nat.le_of_ble_eq_true rfl)⟩ rfl rfl (Nat.le_of_ble_eq_true rfl) ⟨(Nat.le_of_ble_eq_true rfl), (Nat.le_of_ble_eq_true rfl)⟩ (RI.go (fun r2 S2 h2 => ?_))
  rw [h2]
  refine V_istore_3 10 dX11_chance_10 rfl (Nat.le_of_ble_eq_true rfl) ?_
  refine V_iload_0 11 dX11_chance_11 ?_
  refine V_iconst 12 (1) dX11_chance_12 (by decide) ?_
  refine V_icmp_ge 13 20 dX11_chance_13 (by decide) (fun c => ?_) (fun c => ?_)
  ·
    have hne : ¬ n = 0 := fun q => absurd c (by rw [q]; decide)
    refine V_iload_3 20 dX11_chance_20 ?_
    refine V_iconst 21 (1) dX11_chance_21 (by decide) ?_
    refine V_iushr 22 dX11_chance_22 ?_
    refine V_iload_0 23 dX11_chance_23 ?_
    refine V_irem 24 dX11_chance_24 hne ?_
    refine V_iret 25 .int dX11_chance_25 rfl rfl (Nat.le_of_ble_eq_true rfl) (Nat.le_of_ble_eq_true rfl) (RI.mk rfl)
  ·
    refine V_iconst 16 (0) dX11_chance_16 (by decide) ?_
    refine V_goto 17 25 dX11_chance_17 (by decide) ?_
    refine V_iret 25 .int dX11_chance_25 rfl rfl (Nat.le_of_ble_eq_true rfl) (Nat.le_of_ble_eq_true rfl) (RI.mk rfl)

