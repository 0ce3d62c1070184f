/-! constructors -/
theorem va_up_is {α : Type} (f : Nat → α) {k j : Nat} (v : α) (h : j = k) : va_up f k v j = v := by subst h; exact va_up_self _ _ _
theorem up2_is {α : Type} (f : Nat → Nat → α) {a k b j : Nat} (v : α) (h : b = a) (h2 : j = k) : up2 f a k v b j = v := by subst h; subst h2; exact up2_s _ _ _ _
theorem up2_an {α : Type} (f : Nat → Nat → α) {a k b : Nat} (v : α) (h : b ≠ a) : up2 f a k v b = f b := by funext j; exact up2_a _ _ h
section SIMPS
variable (S : PS) (a k n : Nat) (v : Int32) (w : Int64) (t : Option Nat)
theorem sN_uI : sN (uI S a k v) = sN S := rfl
theorem sN_uR : sN (uR S a k t) = sN S := rfl
theorem sN_uA : sN (uA S a k v) = sN S := rfl
theorem sN_uJ : sN (uJ S a k w) = sN S := rfl
theorem sN_uP : sN (uP S a k t) = sN S := rfl
theorem sN_nO : sN (nO S a k) = sN S + 1 := rfl
theorem sN_nA : sN (nA S a k n) = sN S + 1 := rfl
theorem sK_uI : sK (uI S a k v) = sK S := rfl
theorem sK_uR : sK (uR S a k t) = sK S := rfl
theorem sK_uA : sK (uA S a k v) = sK S := rfl
theorem sK_uJ : sK (uJ S a k w) = sK S := rfl
theorem sK_uP : sK (uP S a k t) = sK S := rfl
theorem sK_nO : sK (nO S a k) = va_up (sK S) a k := rfl
theorem sK_nA : sK (nA S a k n) = va_up (sK S) a k := rfl
theorem sR_uI : sR (uI S a k v) = sR S := rfl
theorem sR_uR : sR (uR S a k t) = up2 (sR S) a k t := rfl
theorem sR_uA : sR (uA S a k v) = sR S := rfl
theorem sR_uJ : sR (uJ S a k w) = sR S := rfl
theorem sR_uP : sR (uP S a k t) = sR S := rfl
theorem sR_nO : sR (nO S a k) = va_up (sR S) a (fun _ => none) := rfl
theorem sR_nA : sR (nA S a k n) = sR S := rfl
theorem sL_uI : sL (uI S a k v) = sL S := rfl
theorem sL_uR : sL (uR S a k t) = sL S := rfl
theorem sL_uA : sL (uA S a k v) = sL S := rfl
theorem sL_uJ : sL (uJ S a k w) = sL S := rfl
theorem sL_uP : sL (uP S a k t) = sL S := rfl
theorem sL_nO : sL (nO S a k) = sL S := rfl
theorem sL_nA : sL (nA S a k n) = va_up (sL S) a n := rfl
theorem sP_uI : sP (uI S a k v) = sP S := rfl
theorem sP_uR : sP (uR S a k t) = sP S := rfl
theorem sP_uA : sP (uA S a k v) = sP S := rfl
theorem sP_uJ : sP (uJ S a k w) = sP S := rfl
theorem sP_uP : sP (uP S a k t) = up2 (sP S) a k t := rfl
theorem sP_nO : sP (nO S a k) = sP S := rfl
theorem sP_nA : sP (nA S a k n) = va_up (sP S) a (fun _ => none) := rfl
theorem sI_uI : sI (uI S a k v) = up2 (sI S) a k v := rfl
theorem sI_uR : sI (uR S a k t) = sI S := rfl
theorem sI_uA : sI (uA S a k v) = sI S := rfl
theorem sI_uJ : sI (uJ S a k w) = sI S := rfl
theorem sI_uP : sI (uP S a k t) = sI S := rfl
theorem sI_nO : sI (nO S a k) = va_up (sI S) a (fun _ => 0) := rfl
theorem sI_nA : sI (nA S a k n) = sI S := rfl
theorem sA_uI : sA (uI S a k v) = sA S := rfl
theorem sA_uR : sA (uR S a k t) = sA S := rfl
theorem sA_uA : sA (uA S a k v) = up2 (sA S) a k v := rfl
theorem sA_uJ : sA (uJ S a k w) = sA S := rfl
theorem sA_uP : sA (uP S a k t) = sA S := rfl
theorem sA_nO : sA (nO S a k) = sA S := rfl
theorem sA_nA : sA (nA S a k n) = va_up (sA S) a (fun _ => 0) := rfl
theorem sJ_uI : sJ (uI S a k v) = sJ S := rfl
theorem sJ_uR : sJ (uR S a k t) = sJ S := rfl
theorem sJ_uA : sJ (uA S a k v) = sJ S := rfl
theorem sJ_uJ : sJ (uJ S a k w) = up2 (sJ S) a k w := rfl
theorem sJ_uP : sJ (uP S a k t) = sJ S := rfl
theorem sJ_nO : sJ (nO S a k) = sJ S := rfl
theorem sJ_nA : sJ (nA S a k n) = va_up (sJ S) a (fun _ => 0) := rfl
end SIMPS
/-- a place of the pool is as it was -/
def eqA (S S' : PS) (a : Nat) : Prop := sK S' a = sK S a ∧ sR S' a = sR S a ∧ sI S' a = sI S a ∧ sL S' a = sL S a ∧ sP S' a = sP S a ∧ sA S' a = sA S a ∧ sJ S' a = sJ S a
def refE (S : PS) (b r : Nat) : List (Option Nat) → Nat → Prop
  | [], _ => True
  | none :: t, j => refE S b r t (j + 1)
  | some x :: t, j => sR S (b + r) j = some (b + x) ∧ refE S b r t (j + 1)
def allE (S : PS) (b : Nat) : LAY → Nat → Prop
  | [], _ => True
  | e :: t, r => (sK S (b + r) = e.1 ∧ refE S b r e.2.1 0 ∧ (13 ≤ e.1 → sL S (b + r) = e.2.2)) ∧ allE S b t (r + 1)
theorem refE_at {S : PS} {b r : Nat} : ∀ (l : List (Option Nat)) (j : Nat), refE S b r l j → ∀ (i x : Nat), l[i]? = some (some x) → sR S (b + r) (j + i) = some (b + x) := by
  intro l
  induction l with
  | nil => intro j _ i x h; simp at h
  | cons y t ih =>
    intro j h i x hi
    cases y with
    | none =>
      cases i with
      | zero => simp at hi
      | succ i => have := ih (j + 1) h i x (by simpa using hi); rwa [show j + 1 + i = j + (i + 1) by omega] at this
    | some y =>
      cases i with
      | zero => simp at hi; subst hi; exact h.1
      | succ i => have := ih (j + 1) h.2 i x (by simpa using hi); rwa [show j + 1 + i = j + (i + 1) by omega] at this
theorem allE_at {S : PS} {b : Nat} : ∀ (l : LAY) (r : Nat), allE S b l r → ∀ (i : Nat) (e : Nat × List (Option Nat) × Nat), l[i]? = some e → sK S (b + (r + i)) = e.1 ∧ (∀ (j t : Nat), e.2.1[j]? = some (some t) → sR S (b + (r + i)) j = some (b + t)) ∧ (13 ≤ e.1 → sL S (b + (r + i)) = e.2.2) := by
  intro l
  induction l with
  | nil => intro r _ i e h; simp at h
  | cons y t ih =>
    intro r h i e hi
    cases i with
    | zero =>
      simp at hi; subst hi
      exact ⟨h.1.1, fun j x hx => by have := refE_at _ 0 h.1.2.1 j x hx; rwa [Nat.zero_add] at this, h.1.2.2⟩
    | succ i => have := ih (r + 1) h.2 i e (by simpa using hi); rwa [show r + 1 + i = r + (i + 1) by omega] at this
theorem isL_of {ly : LAY} {lo b : Nat} {S : PS} (h1 : lo ≤ b) (h2 : b + ly.length ≤ lo + sN S) (h3 : allE S b ly 0) : isL ly lo S b := ⟨h1, h2, fun r e he => by have := allE_at ly 0 h3 r e he; rwa [Nat.zero_add] at this⟩
/-- what a constructor leaves: its object, h, was the last cell; behind it lies what it made; what was there before is as it was -/
def NEWO (ly : LAY) (lo : Nat) (S : PS) (h : Nat) (S' : PS) : Prop := sN S' + 1 = sN S + ly.length ∧ (∀ a, a < h → eqA S S' a) ∧ isL ly lo S' h
theorem isL.eq {ly : LAY} {lo b : Nat} {S S' : PS} (F : isL ly lo S b) (hN : sN S ≤ sN S') (he : ∀ r, r < ly.length → sK S' (b + r) = sK S (b + r) ∧ sR S' (b + r) = sR S (b + r) ∧ sL S' (b + r) = sL S (b + r)) : isL ly lo S' b := by
  refine ⟨F.1, by have := F.2.1; omega, fun r e h => ?_⟩
  obtain ⟨g1, g2, g3⟩ := F.2.2 r e h
  obtain ⟨h1, h2, h3⟩ := he r (List.getElem?_eq_some_iff.mp h).1
  exact ⟨by rw [h1]; exact g1, fun j t hj => by rw [h2]; exact g2 j t hj, fun h13 => by rw [h3]; exact g3 h13⟩
set_option maxRecDepth 100000 in
set_option maxHeartbeats 8000000 in
theorem c_X7_init (l : Launch) (Γ : GC) (S : PS) {h : Nat} (hw : Γ.2.2.2.2.2.1 = Γ.2.2.2.2.1) (hh : Γ.2.2.2.2.1 + sN S = h + 1) (hlo : Γ.2.2.2.2.1 ≤ h) (hk : sK S h = 7) (h0 : sI S h = fun _ => 0) : CT l Γ yX7_init cX7_init 1 none (1) (3) (24) [.ref h] S (RV (fun S' => NEWO lyState Γ.2.2.2.2.1 S h S' ∧ sA S' (h + 1) = (fun _ => 0) ∧ sA S' (h + 2) = (fun _ => 0) ∧ sA S' (h + 3) = (fun _ => 0) ∧ sI S' h = fun _ => 0)) := by
  refine CT.of RX7 "<init>" [some (.ref h)] (by decide +kernel) rfl rfl (Nat.le_of_ble_eq_true rfl) rfl (fun M hM => ?_)
  subst hM
  refine V_aload_0 0 dX7_init_0 ?_
  refine V_objInit 1 dX7_init_1 ml_RX7_3 ⟨(Nat.le_of_ble_eq_true rfl), (Nat.le_of_ble_eq_true rfl)⟩ ?_
  refine V_aload_0 4 dX7_init_4 ?_
  refine V_bipush 5 (8) dX7_init_5 (by decide) ?_
  refine V_newarray 7 14 8 (Or.inr (Or.inl ⟨rfl, rfl⟩)) dX7_init_7 ac_int (by decide) (by decide) (Nat.le_of_ble_eq_true rfl) hw (Nat.le_of_ble_eq_true rfl) (Nat.le_of_ble_eq_true rfl) ?_
  refine V_putF 9 (c := 7) 0 dX7_init_9 fl_RX7_9 (by simp only [PL_mem, sN_uI, sN_uR, sN_uA, sN_uJ, sN_uP, sN_nO, sN_nA]; omega) (by simp (disch := omega) only [sN_uI, sN_uR, sN_uA, sN_uJ, sN_uP, sN_nO, sN_nA, sK_uI, sK_uR, sK_uA, sK_uJ, sK_uP, sK_nO, sK_nA, va_up_ne, hk]) (Nat.le_of_ble_eq_true rfl) (Nat.le_of_ble_eq_true rfl) rfl rfl rfl rfl rfl rfl ?_
  refine V_aload_0 12 dX7_init_12 ?_
  refine V_bipush 13 (8) dX7_init_13 (by decide) ?_
  refine V_newarray 15 14 8 (Or.inr (Or.inl ⟨rfl, rfl⟩)) dX7_init_15 ac_int (by decide) (by decide) (Nat.le_of_ble_eq_true rfl) hw (Nat.le_of_ble_eq_true rfl) (Nat.le_of_ble_eq_true rfl) ?_
  refine V_putF 17 (c := 7) 1 dX7_init_17 fl_RX7_15 (by simp only [PL_mem, sN_uI, sN_uR, sN_uA, sN_uJ, sN_uP, sN_nO, sN_nA]; omega) (by simp (disch := omega) only [sN_uI, sN_uR, sN_uA, sN_uJ, sN_uP, sN_nO, sN_nA, sK_uI, sK_uR, sK_uA, sK_uJ, sK_uP, sK_nO, sK_nA, va_up_ne, hk]) (Nat.le_of_ble_eq_true rfl) (Nat.le_of_ble_eq_true rfl) rfl rfl rfl rfl rfl rfl ?_
  refine V_aload_0 20 dX7_init_20 ?_
  refine V_bipush 21 (8) dX7_init_21 (by decide) ?_
  refine V_newarray 23 14 8 (Or.inr (Or.inl ⟨rfl, rfl⟩)) dX7_init_23 ac_int (by decide) (by decide) (Nat.le_of_ble_eq_true rfl) hw (Nat.le_of_ble_eq_true rfl) (Nat.le_of_ble_eq_true rfl) ?_
  refine V_putF 25 (c := 7) 2 dX7_init_25 fl_RX7_18 (by simp only [PL_mem, sN_uI, sN_uR, sN_uA, sN_uJ, sN_uP, sN_nO, sN_nA]; omega) (by simp (disch := omega) only [sN_uI, sN_uR, sN_uA, sN_uJ, sN_uP, sN_nO, sN_nA, sK_uI, sK_uR, sK_uA, sK_uJ, sK_uP, sK_nO, sK_nA, va_up_ne, hk]) (Nat.le_of_ble_eq_true rfl) (Nat.le_of_ble_eq_true rfl) rfl rfl rfl rfl rfl rfl ?_
  refine V_vret 28 dX7_init_28 rfl (Nat.le_of_ble_eq_true rfl) (Nat.le_of_ble_eq_true rfl) ?_
  refine RV.mk ⟨⟨?_, ?_, ?_⟩, ?_, ?_, ?_, ?_⟩
  · simp only [sN_uI, sN_uR, sN_uA, sN_uJ, sN_uP, sN_nO, sN_nA]; rfl
  · intro a ha
    refine ⟨?_, ?_, ?_, ?_, ?_, ?_, ?_⟩ <;> simp (disch := omega) only [sN_uI, sN_uR, sN_uA, sN_uJ, sN_uP, sN_nO, sN_nA, sK_uI, sK_uR, sK_uA, sK_uJ, sK_uP, sK_nO, sK_nA, sR_uI, sR_uR, sR_uA, sR_uJ, sR_uP, sR_nO, sR_nA, sL_uI, sL_uR, sL_uA, sL_uJ, sL_uP, sL_nO, sL_nA, sP_uI, sP_uR, sP_uA, sP_uJ, sP_uP, sP_nO, sP_nA, sI_uI, sI_uR, sI_uA, sI_uJ, sI_uP, sI_nO, sI_nA, sA_uI, sA_uR, sA_uA, sA_uJ, sA_uP, sA_nO, sA_nA, sJ_uI, sJ_uR, sJ_uA, sJ_uJ, sJ_uP, sJ_nO, sJ_nA, va_up_is, va_up_ne, up2_is, up2_an, up2_a, up2_k]
  · refine isL_of hlo (by simp only [sN_uI, sN_uR, sN_uA, sN_uJ, sN_uP, sN_nO, sN_nA, lyState, List.length_cons, List.length_nil]; omega) ?_
    simp (disch := omega) only [lyState, allE, refE, sN_uI, sN_uR, sN_uA, sN_uJ, sN_uP, sN_nO, sN_nA, sK_uI, sK_uR, sK_uA, sK_uJ, sK_uP, sK_nO, sK_nA, sR_uI, sR_uR, sR_uA, sR_uJ, sR_uP, sR_nO, sR_nA, sL_uI, sL_uR, sL_uA, sL_uJ, sL_uP, sL_nO, sL_nA, sP_uI, sP_uR, sP_uA, sP_uJ, sP_uP, sP_nO, sP_nA, sI_uI, sI_uR, sI_uA, sI_uJ, sI_uP, sI_nO, sI_nA, sA_uI, sA_uR, sA_uA, sA_uJ, sA_uP, sA_nO, sA_nA, sJ_uI, sJ_uR, sJ_uA, sJ_uJ, sJ_uP, sJ_nO, sJ_nA, va_up_is, va_up_ne, up2_is, up2_an, up2_a, up2_k, hk, hh, ← Nat.add_assoc]
    simp [hk]
  · simp (disch := omega) only [sN_uI, sN_uR, sN_uA, sN_uJ, sN_uP, sN_nO, sN_nA, sK_uI, sK_uR, sK_uA, sK_uJ, sK_uP, sK_nO, sK_nA, sR_uI, sR_uR, sR_uA, sR_uJ, sR_uP, sR_nO, sR_nA, sL_uI, sL_uR, sL_uA, sL_uJ, sL_uP, sL_nO, sL_nA, sP_uI, sP_uR, sP_uA, sP_uJ, sP_uP, sP_nO, sP_nA, sI_uI, sI_uR, sI_uA, sI_uJ, sI_uP, sI_nO, sI_nA, sA_uI, sA_uR, sA_uA, sA_uJ, sA_uP, sA_nO, sA_nA, sJ_uI, sJ_uR, sJ_uA, sJ_uJ, sJ_uP, sJ_nO, sJ_nA, va_up_is, va_up_ne, up2_is, up2_an, up2_a, up2_k]
  · simp (disch := omega) only [sN_uI, sN_uR, sN_uA, sN_uJ, sN_uP, sN_nO, sN_nA, sK_uI, sK_uR, sK_uA, sK_uJ, sK_uP, sK_nO, sK_nA, sR_uI, sR_uR, sR_uA, sR_uJ, sR_uP, sR_nO, sR_nA, sL_uI, sL_uR, sL_uA, sL_uJ, sL_uP, sL_nO, sL_nA, sP_uI, sP_uR, sP_uA, sP_uJ, sP_uP, sP_nO, sP_nA, sI_uI, sI_uR, sI_uA, sI_uJ, sI_uP, sI_nO, sI_nA, sA_uI, sA_uR, sA_uA, sA_uJ, sA_uP, sA_nO, sA_nA, sJ_uI, sJ_uR, sJ_uA, sJ_uJ, sJ_uP, sJ_nO, sJ_nA, va_up_is, va_up_ne, up2_is, up2_an, up2_a, up2_k]
  · simp (disch := omega) only [sN_uI, sN_uR, sN_uA, sN_uJ, sN_uP, sN_nO, sN_nA, sK_uI, sK_uR, sK_uA, sK_uJ, sK_uP, sK_nO, sK_nA, sR_uI, sR_uR, sR_uA, sR_uJ, sR_uP, sR_nO, sR_nA, sL_uI, sL_uR, sL_uA, sL_uJ, sL_uP, sL_nO, sL_nA, sP_uI, sP_uR, sP_uA, sP_uJ, sP_uP, sP_nO, sP_nA, sI_uI, sI_uR, sI_uA, sI_uJ, sI_uP, sI_nO, sI_nA, sA_uI, sA_uR, sA_uA, sA_uJ, sA_uP, sA_nO, sA_nA, sJ_uI, sJ_uR, sJ_uA, sJ_uJ, sJ_uP, sJ_nO, sJ_nA, va_up_is, va_up_ne, up2_is, up2_an, up2_a, up2_k]
  · simp (disch := omega) only [sN_uI, sN_uR, sN_uA, sN_uJ, sN_uP, sN_nO, sN_nA, sK_uI, sK_uR, sK_uA, sK_uJ, sK_uP, sK_nO, sK_nA, sR_uI, sR_uR, sR_uA, sR_uJ, sR_uP, sR_nO, sR_nA, sL_uI, sL_uR, sL_uA, sL_uJ, sL_uP, sL_nO, sL_nA, sP_uI, sP_uR, sP_uA, sP_uJ, sP_uP, sP_nO, sP_nA, sI_uI, sI_uR, sI_uA, sI_uJ, sI_uP, sI_nO, sI_nA, sA_uI, sA_uR, sA_uA, sA_uJ, sA_uP, sA_nO, sA_nA, sJ_uI, sJ_uR, sJ_uA, sJ_uJ, sJ_uP, sJ_nO, sJ_nA, va_up_is, va_up_ne, up2_is, up2_an, up2_a, up2_k]
    exact h0
set_option maxRecDepth 100000 in
set_option maxHeartbeats 8000000 in
theorem c_X1_init (l : Launch) (Γ : GC) (S : PS) {h : Nat} (hw : Γ.2.2.2.2.2.1 = Γ.2.2.2.2.1) (hh : Γ.2.2.2.2.1 + sN S = h + 1) (hlo : Γ.2.2.2.2.1 ≤ h) (hk : sK S h = 1) (h0 : sI S h = fun _ => 0) : CT l Γ yX1_init cX1_init 1 none (1) (3) (24) [.ref h] S (RV (fun S' => NEWO lyGrid Γ.2.2.2.2.1 S h S' ∧ sA S' (h + 1) = (fun _ => 0) ∧ sA S' (h + 2) = (fun _ => 0) ∧ sA S' (h + 3) = (fun _ => 0) ∧ sI S' h = fun _ => 0)) := by
  refine CT.of RX1 "<init>" [some (.ref h)] (by decide +kernel) rfl rfl (Nat.le_of_ble_eq_true rfl) rfl (fun M hM => ?_)
  subst hM
  refine V_aload_0 0 dX1_init_0 ?_
  refine V_objInit 1 dX1_init_1 ml_RX1_3 ⟨(Nat.le_of_ble_eq_true rfl), (Nat.le_of_ble_eq_true rfl)⟩ ?_
  refine V_aload_0 4 dX1_init_4 ?_
  refine V_bipush 5 (8) dX1_init_5 (by decide) ?_
  refine V_newarray 7 14 8 (Or.inr (Or.inl ⟨rfl, rfl⟩)) dX1_init_7 ac_int (by decide) (by decide) (Nat.le_of_ble_eq_true rfl) hw (Nat.le_of_ble_eq_true rfl) (Nat.le_of_ble_eq_true rfl) ?_
  refine V_putF 9 (c := 1) 0 dX1_init_9 fl_RX1_9 (by simp only [PL_mem, sN_uI, sN_uR, sN_uA, sN_uJ, sN_uP, sN_nO, sN_nA]; omega) (by simp (disch := omega) only [sN_uI, sN_uR, sN_uA, sN_uJ, sN_uP, sN_nO, sN_nA, sK_uI, sK_uR, sK_uA, sK_uJ, sK_uP, sK_nO, sK_nA, va_up_ne, hk]) (Nat.le_of_ble_eq_true rfl) (Nat.le_of_ble_eq_true rfl) rfl rfl rfl rfl rfl rfl ?_
  refine V_aload_0 12 dX1_init_12 ?_
  refine V_bipush 13 (8) dX1_init_13 (by decide) ?_
  refine V_newarray 15 14 8 (Or.inr (Or.inl ⟨rfl, rfl⟩)) dX1_init_15 ac_int (by decide) (by decide) (Nat.le_of_ble_eq_true rfl) hw (Nat.le_of_ble_eq_true rfl) (Nat.le_of_ble_eq_true rfl) ?_
  refine V_putF 17 (c := 1) 1 dX1_init_17 fl_RX1_15 (by simp only [PL_mem, sN_uI, sN_uR, sN_uA, sN_uJ, sN_uP, sN_nO, sN_nA]; omega) (by simp (disch := omega) only [sN_uI, sN_uR, sN_uA, sN_uJ, sN_uP, sN_nO, sN_nA, sK_uI, sK_uR, sK_uA, sK_uJ, sK_uP, sK_nO, sK_nA, va_up_ne, hk]) (Nat.le_of_ble_eq_true rfl) (Nat.le_of_ble_eq_true rfl) rfl rfl rfl rfl rfl rfl ?_
  refine V_aload_0 20 dX1_init_20 ?_
  refine V_bipush 21 (8) dX1_init_21 (by decide) ?_
  refine V_newarray 23 14 8 (Or.inr (Or.inl ⟨rfl, rfl⟩)) dX1_init_23 ac_int (by decide) (by decide) (Nat.le_of_ble_eq_true rfl) hw (Nat.le_of_ble_eq_true rfl) (Nat.le_of_ble_eq_true rfl) ?_
  refine V_putF 25 (c := 1) 2 dX1_init_25 fl_RX1_18 (by simp only [PL_mem, sN_uI, sN_uR, sN_uA, sN_uJ, sN_uP, sN_nO, sN_nA]; omega) (by simp (disch := omega) only [sN_uI, sN_uR, sN_uA, sN_uJ, sN_uP, sN_nO, sN_nA, sK_uI, sK_uR, sK_uA, sK_uJ, sK_uP, sK_nO, sK_nA, va_up_ne, hk]) (Nat.le_of_ble_eq_true rfl) (Nat.le_of_ble_eq_true rfl) rfl rfl rfl rfl rfl rfl ?_
  refine V_vret 28 dX1_init_28 rfl (Nat.le_of_ble_eq_true rfl) (Nat.le_of_ble_eq_true rfl) ?_
  refine RV.mk ⟨⟨?_, ?_, ?_⟩, ?_, ?_, ?_, ?_⟩
  · simp only [sN_uI, sN_uR, sN_uA, sN_uJ, sN_uP, sN_nO, sN_nA]; rfl
  · intro a ha
    refine ⟨?_, ?_, ?_, ?_, ?_, ?_, ?_⟩ <;> simp (disch := omega) only [sN_uI, sN_uR, sN_uA, sN_uJ, sN_uP, sN_nO, sN_nA, sK_uI, sK_uR, sK_uA, sK_uJ, sK_uP, sK_nO, sK_nA, sR_uI, sR_uR, sR_uA, sR_uJ, sR_uP, sR_nO, sR_nA, sL_uI, sL_uR, sL_uA, sL_uJ, sL_uP, sL_nO, sL_nA, sP_uI, sP_uR, sP_uA, sP_uJ, sP_uP, sP_nO, sP_nA, sI_uI, sI_uR, sI_uA, sI_uJ, sI_uP, sI_nO, sI_nA, sA_uI, sA_uR, sA_uA, sA_uJ, sA_uP, sA_nO, sA_nA, sJ_uI, sJ_uR, sJ_uA, sJ_uJ, sJ_uP, sJ_nO, sJ_nA, va_up_is, va_up_ne, up2_is, up2_an, up2_a, up2_k]
  · refine isL_of hlo (by simp only [sN_uI, sN_uR, sN_uA, sN_uJ, sN_uP, sN_nO, sN_nA, lyGrid, List.length_cons, List.length_nil]; omega) ?_
    simp (disch := omega) only [lyGrid, allE, refE, sN_uI, sN_uR, sN_uA, sN_uJ, sN_uP, sN_nO, sN_nA, sK_uI, sK_uR, sK_uA, sK_uJ, sK_uP, sK_nO, sK_nA, sR_uI, sR_uR, sR_uA, sR_uJ, sR_uP, sR_nO, sR_nA, sL_uI, sL_uR, sL_uA, sL_uJ, sL_uP, sL_nO, sL_nA, sP_uI, sP_uR, sP_uA, sP_uJ, sP_uP, sP_nO, sP_nA, sI_uI, sI_uR, sI_uA, sI_uJ, sI_uP, sI_nO, sI_nA, sA_uI, sA_uR, sA_uA, sA_uJ, sA_uP, sA_nO, sA_nA, sJ_uI, sJ_uR, sJ_uA, sJ_uJ, sJ_uP, sJ_nO, sJ_nA, va_up_is, va_up_ne, up2_is, up2_an, up2_a, up2_k, hk, hh, ← Nat.add_assoc]
    simp [hk]
  · simp (disch := omega) only [sN_uI, sN_uR, sN_uA, sN_uJ, sN_uP, sN_nO, sN_nA, sK_uI, sK_uR, sK_uA, sK_uJ, sK_uP, sK_nO, sK_nA, sR_uI, sR_uR, sR_uA, sR_uJ, sR_uP, sR_nO, sR_nA, sL_uI, sL_uR, sL_uA, sL_uJ, sL_uP, sL_nO, sL_nA, sP_uI, sP_uR, sP_uA, sP_uJ, sP_uP, sP_nO, sP_nA, sI_uI, sI_uR, sI_uA, sI_uJ, sI_uP, sI_nO, sI_nA, sA_uI, sA_uR, sA_uA, sA_uJ, sA_uP, sA_nO, sA_nA, sJ_uI, sJ_uR, sJ_uA, sJ_uJ, sJ_uP, sJ_nO, sJ_nA, va_up_is, va_up_ne, up2_is, up2_an, up2_a, up2_k]
  · simp (disch := omega) only [sN_uI, sN_uR, sN_uA, sN_uJ, sN_uP, sN_nO, sN_nA, sK_uI, sK_uR, sK_uA, sK_uJ, sK_uP, sK_nO, sK_nA, sR_uI, sR_uR, sR_uA, sR_uJ, sR_uP, sR_nO, sR_nA, sL_uI, sL_uR, sL_uA, sL_uJ, sL_uP, sL_nO, sL_nA, sP_uI, sP_uR, sP_uA, sP_uJ, sP_uP, sP_nO, sP_nA, sI_uI, sI_uR, sI_uA, sI_uJ, sI_uP, sI_nO, sI_nA, sA_uI, sA_uR, sA_uA, sA_uJ, sA_uP, sA_nO, sA_nA, sJ_uI, sJ_uR, sJ_uA, sJ_uJ, sJ_uP, sJ_nO, sJ_nA, va_up_is, va_up_ne, up2_is, up2_an, up2_a, up2_k]
  · simp (disch := omega) only [sN_uI, sN_uR, sN_uA, sN_uJ, sN_uP, sN_nO, sN_nA, sK_uI, sK_uR, sK_uA, sK_uJ, sK_uP, sK_nO, sK_nA, sR_uI, sR_uR, sR_uA, sR_uJ, sR_uP, sR_nO, sR_nA, sL_uI, sL_uR, sL_uA, sL_uJ, sL_uP, sL_nO, sL_nA, sP_uI, sP_uR, sP_uA, sP_uJ, sP_uP, sP_nO, sP_nA, sI_uI, sI_uR, sI_uA, sI_uJ, sI_uP, sI_nO, sI_nA, sA_uI, sA_uR, sA_uA, sA_uJ, sA_uP, sA_nO, sA_nA, sJ_uI, sJ_uR, sJ_uA, sJ_uJ, sJ_uP, sJ_nO, sJ_nA, va_up_is, va_up_ne, up2_is, up2_an, up2_a, up2_k]
  · simp (disch := omega) only [sN_uI, sN_uR, sN_uA, sN_uJ, sN_uP, sN_nO, sN_nA, sK_uI, sK_uR, sK_uA, sK_uJ, sK_uP, sK_nO, sK_nA, sR_uI, sR_uR, sR_uA, sR_uJ, sR_uP, sR_nO, sR_nA, sL_uI, sL_uR, sL_uA, sL_uJ, sL_uP, sL_nO, sL_nA, sP_uI, sP_uR, sP_uA, sP_uJ, sP_uP, sP_nO, sP_nA, sI_uI, sI_uR, sI_uA, sI_uJ, sI_uP, sI_nO, sI_nA, sA_uI, sA_uR, sA_uA, sA_uJ, sA_uP, sA_nO, sA_nA, sJ_uI, sJ_uR, sJ_uA, sJ_uJ, sJ_uP, sJ_nO, sJ_nA, va_up_is, va_up_ne, up2_is, up2_an, up2_a, up2_k]
    exact h0
set_option maxRecDepth 100000 in
set_option maxHeartbeats 8000000 in
theorem c_X2_init (l : Launch) (Γ : GC) (S : PS) {h : Nat} (hw : Γ.2.2.2.2.2.1 = Γ.2.2.2.2.1) (hh : Γ.2.2.2.2.1 + sN S = h + 1) (hlo : Γ.2.2.2.2.1 ≤ h) (hk : sK S h = 2) (h0 : sI S h = fun _ => 0) : CT l Γ yX2_init cX2_init 1 none (1) (3) (828) [.ref h] S (RV (fun S' => NEWO lyLaw Γ.2.2.2.2.1 S h S' ∧ sA S' (h + 1) = (fun _ => 0) ∧ sA S' (h + 2) = (fun _ => 0) ∧ sA S' (h + 3) = (fun _ => 0) ∧ sI S' h = fun _ => 0)) := by
  refine CT.of RX2 "<init>" [some (.ref h)] (by decide +kernel) rfl rfl (Nat.le_of_ble_eq_true rfl) rfl (fun M hM => ?_)
  subst hM
  refine V_aload_0 0 dX2_init_0 ?_
  refine V_objInit 1 dX2_init_1 ml_RX2_3 ⟨(Nat.le_of_ble_eq_true rfl), (Nat.le_of_ble_eq_true rfl)⟩ ?_
  refine V_aload_0 4 dX2_init_4 ?_
  refine V_sipush 5 (402) dX2_init_5 (by decide) ?_
  refine V_newarray 8 14 402 (Or.inr (Or.inl ⟨rfl, rfl⟩)) dX2_init_8 ac_int (by decide) (by decide) (Nat.le_of_ble_eq_true rfl) hw (Nat.le_of_ble_eq_true rfl) (Nat.le_of_ble_eq_true rfl) ?_
  refine V_putF 10 (c := 2) 0 dX2_init_10 fl_RX2_9 (by simp only [PL_mem, sN_uI, sN_uR, sN_uA, sN_uJ, sN_uP, sN_nO, sN_nA]; omega) (by simp (disch := omega) only [sN_uI, sN_uR, sN_uA, sN_uJ, sN_uP, sN_nO, sN_nA, sK_uI, sK_uR, sK_uA, sK_uJ, sK_uP, sK_nO, sK_nA, va_up_ne, hk]) (Nat.le_of_ble_eq_true rfl) (Nat.le_of_ble_eq_true rfl) rfl rfl rfl rfl rfl rfl ?_
  refine V_aload_0 13 dX2_init_13 ?_
  refine V_sipush 14 (402) dX2_init_14 (by decide) ?_
  refine V_newarray 17 14 402 (Or.inr (Or.inl ⟨rfl, rfl⟩)) dX2_init_17 ac_int (by decide) (by decide) (Nat.le_of_ble_eq_true rfl) hw (Nat.le_of_ble_eq_true rfl) (Nat.le_of_ble_eq_true rfl) ?_
  refine V_putF 19 (c := 2) 1 dX2_init_19 fl_RX2_15 (by simp only [PL_mem, sN_uI, sN_uR, sN_uA, sN_uJ, sN_uP, sN_nO, sN_nA]; omega) (by simp (disch := omega) only [sN_uI, sN_uR, sN_uA, sN_uJ, sN_uP, sN_nO, sN_nA, sK_uI, sK_uR, sK_uA, sK_uJ, sK_uP, sK_nO, sK_nA, va_up_ne, hk]) (Nat.le_of_ble_eq_true rfl) (Nat.le_of_ble_eq_true rfl) rfl rfl rfl rfl rfl rfl ?_
  refine V_aload_0 22 dX2_init_22 ?_
  refine V_bipush 23 (24) dX2_init_23 (by decide) ?_
  refine V_newarray 25 14 24 (Or.inr (Or.inl ⟨rfl, rfl⟩)) dX2_init_25 ac_int (by decide) (by decide) (Nat.le_of_ble_eq_true rfl) hw (Nat.le_of_ble_eq_true rfl) (Nat.le_of_ble_eq_true rfl) ?_
  refine V_putF 27 (c := 2) 3 dX2_init_27 fl_RX2_18 (by simp only [PL_mem, sN_uI, sN_uR, sN_uA, sN_uJ, sN_uP, sN_nO, sN_nA]; omega) (by simp (disch := omega) only [sN_uI, sN_uR, sN_uA, sN_uJ, sN_uP, sN_nO, sN_nA, sK_uI, sK_uR, sK_uA, sK_uJ, sK_uP, sK_nO, sK_nA, va_up_ne, hk]) (Nat.le_of_ble_eq_true rfl) (Nat.le_of_ble_eq_true rfl) rfl rfl rfl rfl rfl rfl ?_
  refine V_vret 30 dX2_init_30 rfl (Nat.le_of_ble_eq_true rfl) (Nat.le_of_ble_eq_true rfl) ?_
  refine RV.mk ⟨⟨?_, ?_, ?_⟩, ?_, ?_, ?_, ?_⟩
  · simp only [sN_uI, sN_uR, sN_uA, sN_uJ, sN_uP, sN_nO, sN_nA]; rfl
  · intro a ha
    refine ⟨?_, ?_, ?_, ?_, ?_, ?_, ?_⟩ <;> simp (disch := omega) only [sN_uI, sN_uR, sN_uA, sN_uJ, sN_uP, sN_nO, sN_nA, sK_uI, sK_uR, sK_uA, sK_uJ, sK_uP, sK_nO, sK_nA, sR_uI, sR_uR, sR_uA, sR_uJ, sR_uP, sR_nO, sR_nA, sL_uI, sL_uR, sL_uA, sL_uJ, sL_uP, sL_nO, sL_nA, sP_uI, sP_uR, sP_uA, sP_uJ, sP_uP, sP_nO, sP_nA, sI_uI, sI_uR, sI_uA, sI_uJ, sI_uP, sI_nO, sI_nA, sA_uI, sA_uR, sA_uA, sA_uJ, sA_uP, sA_nO, sA_nA, sJ_uI, sJ_uR, sJ_uA, sJ_uJ, sJ_uP, sJ_nO, sJ_nA, va_up_is, va_up_ne, up2_is, up2_an, up2_a, up2_k]
  · refine isL_of hlo (by simp only [sN_uI, sN_uR, sN_uA, sN_uJ, sN_uP, sN_nO, sN_nA, lyLaw, List.length_cons, List.length_nil]; omega) ?_
    simp (disch := omega) only [lyLaw, allE, refE, sN_uI, sN_uR, sN_uA, sN_uJ, sN_uP, sN_nO, sN_nA, sK_uI, sK_uR, sK_uA, sK_uJ, sK_uP, sK_nO, sK_nA, sR_uI, sR_uR, sR_uA, sR_uJ, sR_uP, sR_nO, sR_nA, sL_uI, sL_uR, sL_uA, sL_uJ, sL_uP, sL_nO, sL_nA, sP_uI, sP_uR, sP_uA, sP_uJ, sP_uP, sP_nO, sP_nA, sI_uI, sI_uR, sI_uA, sI_uJ, sI_uP, sI_nO, sI_nA, sA_uI, sA_uR, sA_uA, sA_uJ, sA_uP, sA_nO, sA_nA, sJ_uI, sJ_uR, sJ_uA, sJ_uJ, sJ_uP, sJ_nO, sJ_nA, va_up_is, va_up_ne, up2_is, up2_an, up2_a, up2_k, hk, hh, ← Nat.add_assoc]
    simp [hk]
  · simp (disch := omega) only [sN_uI, sN_uR, sN_uA, sN_uJ, sN_uP, sN_nO, sN_nA, sK_uI, sK_uR, sK_uA, sK_uJ, sK_uP, sK_nO, sK_nA, sR_uI, sR_uR, sR_uA, sR_uJ, sR_uP, sR_nO, sR_nA, sL_uI, sL_uR, sL_uA, sL_uJ, sL_uP, sL_nO, sL_nA, sP_uI, sP_uR, sP_uA, sP_uJ, sP_uP, sP_nO, sP_nA, sI_uI, sI_uR, sI_uA, sI_uJ, sI_uP, sI_nO, sI_nA, sA_uI, sA_uR, sA_uA, sA_uJ, sA_uP, sA_nO, sA_nA, sJ_uI, sJ_uR, sJ_uA, sJ_uJ, sJ_uP, sJ_nO, sJ_nA, va_up_is, va_up_ne, up2_is, up2_an, up2_a, up2_k]
  · simp (disch := omega) only [sN_uI, sN_uR, sN_uA, sN_uJ, sN_uP, sN_nO, sN_nA, sK_uI, sK_uR, sK_uA, sK_uJ, sK_uP, sK_nO, sK_nA, sR_uI, sR_uR, sR_uA, sR_uJ, sR_uP, sR_nO, sR_nA, sL_uI, sL_uR, sL_uA, sL_uJ, sL_uP, sL_nO, sL_nA, sP_uI, sP_uR, sP_uA, sP_uJ, sP_uP, sP_nO, sP_nA, sI_uI, sI_uR, sI_uA, sI_uJ, sI_uP, sI_nO, sI_nA, sA_uI, sA_uR, sA_uA, sA_uJ, sA_uP, sA_nO, sA_nA, sJ_uI, sJ_uR, sJ_uA, sJ_uJ, sJ_uP, sJ_nO, sJ_nA, va_up_is, va_up_ne, up2_is, up2_an, up2_a, up2_k]
  · simp (disch := omega) only [sN_uI, sN_uR, sN_uA, sN_uJ, sN_uP, sN_nO, sN_nA, sK_uI, sK_uR, sK_uA, sK_uJ, sK_uP, sK_nO, sK_nA, sR_uI, sR_uR, sR_uA, sR_uJ, sR_uP, sR_nO, sR_nA, sL_uI, sL_uR, sL_uA, sL_uJ, sL_uP, sL_nO, sL_nA, sP_uI, sP_uR, sP_uA, sP_uJ, sP_uP, sP_nO, sP_nA, sI_uI, sI_uR, sI_uA, sI_uJ, sI_uP, sI_nO, sI_nA, sA_uI, sA_uR, sA_uA, sA_uJ, sA_uP, sA_nO, sA_nA, sJ_uI, sJ_uR, sJ_uA, sJ_uJ, sJ_uP, sJ_nO, sJ_nA, va_up_is, va_up_ne, up2_is, up2_an, up2_a, up2_k]
  · simp (disch := omega) only [sN_uI, sN_uR, sN_uA, sN_uJ, sN_uP, sN_nO, sN_nA, sK_uI, sK_uR, sK_uA, sK_uJ, sK_uP, sK_nO, sK_nA, sR_uI, sR_uR, sR_uA, sR_uJ, sR_uP, sR_nO, sR_nA, sL_uI, sL_uR, sL_uA, sL_uJ, sL_uP, sL_nO, sL_nA, sP_uI, sP_uR, sP_uA, sP_uJ, sP_uP, sP_nO, sP_nA, sI_uI, sI_uR, sI_uA, sI_uJ, sI_uP, sI_nO, sI_nA, sA_uI, sA_uR, sA_uA, sA_uJ, sA_uP, sA_nO, sA_nA, sJ_uI, sJ_uR, sJ_uA, sJ_uJ, sJ_uP, sJ_nO, sJ_nA, va_up_is, va_up_ne, up2_is, up2_an, up2_a, up2_k]
    exact h0
set_option maxRecDepth 100000 in
set_option maxHeartbeats 8000000 in
theorem c_J0_coder (l : Launch) (Γ : GC) (S : PS) {n : Nat} (hn : n < 2) : CT l Γ yJ0_coder_7d493 cJ0_coder_7d493 1 (some .byte) (0) (0) (0) [.ref (sK0 Γ n)] S (RI (fun r S' => r = 0 ∧ S' = S)) := by
  refine CT.of RJ0 "coder" [some (.ref (sK0 Γ n))] (by decide +kernel) rfl rfl (Nat.le_of_ble_eq_true rfl) rfl (fun M hM => ?_)
  subst hM
  refine V_getsC 0 dJ0_coder_7d493_0 fl_RJ0_38 ?_
  refine V_if_eq 3 13 dJ0_coder_7d493_3 (by decide) (fun q => absurd q (by decide)) (fun _ => ?_)
  refine V_aload_0 6 dJ0_coder_7d493_6 ?_
  refine V_kcoder 7 hn dJ0_coder_7d493_7 fl_RJ0_15 ?_
  refine V_goto 10 14 dJ0_coder_7d493_10 (by decide) ?_
  refine V_iret 14 .byte dJ0_coder_7d493_14 rfl (by rfl) (Nat.le_of_ble_eq_true rfl) (Nat.le_of_ble_eq_true rfl) (RI.mk ⟨rfl, rfl⟩)
set_option maxRecDepth 100000 in
set_option maxHeartbeats 8000000 in
theorem c_J0_isLatin1 (l : Launch) (Γ : GC) (S : PS) {n : Nat} (hn : n < 2) : CT l Γ yJ0_isLatin1_aae02 cJ0_isLatin1_aae02 1 (some .boolean) (0) (0) (0) [.ref (sK0 Γ n)] S (RI (fun r S' => r = 1 ∧ S' = S)) := by
  refine CT.of RJ0 "isLatin1" [some (.ref (sK0 Γ n))] (by decide +kernel) rfl rfl (Nat.le_of_ble_eq_true rfl) rfl (fun M hM => ?_)
  subst hM
  refine V_getsC 0 dJ0_isLatin1_aae02_0 fl_RJ0_38 ?_
  refine V_if_eq 3 17 dJ0_isLatin1_aae02_3 (by decide) (fun q => absurd q (by decide)) (fun _ => ?_)
  refine V_aload_0 6 dJ0_isLatin1_aae02_6 ?_
  refine V_kcoder 7 hn dJ0_isLatin1_aae02_7 fl_RJ0_15 ?_
  refine V_if_ne 10 17 dJ0_isLatin1_aae02_10 (by decide) (fun q => absurd (rfl) q) (fun _ => ?_)
  refine V_iconst 13 (1) dJ0_isLatin1_aae02_13 (by decide) ?_
  refine V_goto 14 18 dJ0_isLatin1_aae02_14 (by decide) ?_
  refine V_iret 18 .boolean dJ0_isLatin1_aae02_18 rfl (by rfl) (Nat.le_of_ble_eq_true rfl) (Nat.le_of_ble_eq_true rfl) (RI.mk ⟨rfl, rfl⟩)
set_option maxRecDepth 100000 in
set_option maxHeartbeats 8000000 in
theorem c_J0_length (l : Launch) (Γ : GC) (S : PS) {n : Nat} (hn : n < 2) : CT l Γ yJ0_length_8abf5 cJ0_length_8abf5 1 (some .int) (1) (0) (0) [.ref (sK0 Γ n)] S (RI (fun r S' => r = nI (strLen.getD n 0) ∧ S' = S)) := by
  refine CT.of RJ0 "length" [some (.ref (sK0 Γ n))] (by decide +kernel) rfl rfl (Nat.le_of_ble_eq_true rfl) rfl (fun M hM => ?_)
  subst hM
  refine V_aload_0 0 dJ0_length_8abf5_0 ?_
  refine V_kvalue 1 hn dJ0_length_8abf5_1 fl_RJ0_9 ?_
  refine V_kalen 4 hn dJ0_length_8abf5_4 ?_
  refine V_aload_0 5 dJ0_length_8abf5_5 ?_
  refine V_callVK 6 hn [] _ (c_J0_coder M.2.1 Γ S hn) dJ0_length_8abf5_6 cb_J0_coder_7d493 ml_RJ0_335 im_yJ0_coder_7d493 se_yJ0_coder_7d493 ⟨Nat.le_of_ble_eq_true rfl, Nat.le_of_ble_eq_true rfl⟩ rfl rfl (Nat.le_of_ble_eq_true rfl) ⟨Nat.le_of_ble_eq_true rfl, Nat.le_of_ble_eq_true rfl⟩ (RI.go (fun r S1 hq => ?_))
  obtain ⟨rfl, rfl⟩ := hq
  refine V_ishr 9 dJ0_length_8abf5_9 ?_
  refine V_iret 10 .int dJ0_length_8abf5_10 rfl rfl (Nat.le_of_ble_eq_true rfl) (Nat.le_of_ble_eq_true rfl) (RI.mk ⟨sb_shr0 _, rfl⟩)
set_option maxRecDepth 100000 in
set_option maxHeartbeats 8000000 in
theorem c_J3_checkN (l : Launch) (Γ : GC) (S : PS) (i : Int32) (n : Nat) (hn : n < 2 ^ 31) (hin : vp_in i n) : CT l Γ yJ3_checkIndex_8e157 cJ3_checkIndex_8e157 3 (some .int) (0) (0) (0) [.int i, .int (nI n), .null] S (RI (fun r S' => S' = S)) := by
  refine CT.of RJ3 "checkIndex" [some (.int i), some (.int (nI n)), some (.null)] (by decide +kernel) rfl rfl (Nat.le_of_ble_eq_true rfl) rfl (fun M hM => ?_)
  subst hM
  have h0 : ¬ i < 0 := fun q => hin (Or.inl q)
  have h1 : i < nI n := by
    obtain ⟨j, hj, rfl⟩ := vp_in_of hin hn
    exact nI_lt hj hn
  refine V_iload_0 0 dJ3_checkIndex_8e157_0 ?_
  refine V_if_lt 1 9 dJ3_checkIndex_8e157_1 (by decide) (fun q => absurd q (h0)) (fun _ => ?_)
  refine V_iload_0 4 dJ3_checkIndex_8e157_4 ?_
  refine V_iload_1 5 dJ3_checkIndex_8e157_5 ?_
  refine V_icmp_lt 6 16 dJ3_checkIndex_8e157_6 (by decide) (fun _ => ?_) (fun q => absurd (h1) q)
  refine V_iload_0 16 dJ3_checkIndex_8e157_16 ?_
  refine V_iret 17 .int dJ3_checkIndex_8e157_17 rfl rfl (Nat.le_of_ble_eq_true rfl) (Nat.le_of_ble_eq_true rfl) (RI.mk rfl)
set_option maxRecDepth 100000 in
set_option maxHeartbeats 8000000 in
theorem c_J3_checkR (l : Launch) (Γ : GC) (S : PS) (i : Int32) (n : Nat) (hn : n < 2 ^ 31) (hin : vp_in i n) (t : Nat) : CT l Γ yJ3_checkIndex_8e157 cJ3_checkIndex_8e157 3 (some .int) (0) (0) (0) [.int i, .int (nI n), .ref t] S (RI (fun r S' => S' = S)) := by
  refine CT.of RJ3 "checkIndex" [some (.int i), some (.int (nI n)), some (.ref t)] (by decide +kernel) rfl rfl (Nat.le_of_ble_eq_true rfl) rfl (fun M hM => ?_)
  subst hM
  have h0 : ¬ i < 0 := fun q => hin (Or.inl q)
  have h1 : i < nI n := by
    obtain ⟨j, hj, rfl⟩ := vp_in_of hin hn
    exact nI_lt hj hn
  refine V_iload_0 0 dJ3_checkIndex_8e157_0 ?_
  refine V_if_lt 1 9 dJ3_checkIndex_8e157_1 (by decide) (fun q => absurd q (h0)) (fun _ => ?_)
  refine V_iload_0 4 dJ3_checkIndex_8e157_4 ?_
  refine V_iload_1 5 dJ3_checkIndex_8e157_5 ?_
  refine V_icmp_lt 6 16 dJ3_checkIndex_8e157_6 (by decide) (fun _ => ?_) (fun q => absurd (h1) q)
  refine V_iload_0 16 dJ3_checkIndex_8e157_16 ?_
  refine V_iret 17 .int dJ3_checkIndex_8e157_17 rfl rfl (Nat.le_of_ble_eq_true rfl) (Nat.le_of_ble_eq_true rfl) (RI.mk rfl)
theorem c_J3_checkIndex (l : Launch) (Γ : GC) (S : PS) (i : Int32) (n : Nat) (hn : n < 2 ^ 31) (hin : vp_in i n) (r : Option Nat) : CT l Γ yJ3_checkIndex_8e157 cJ3_checkIndex_8e157 3 (some .int) 0 0 0 [.int i, .int (nI n), va_rf r] S (RI (fun _ S' => S' = S)) := by
  cases r with
  | none => exact c_J3_checkN l Γ S i n hn hin
  | some t => exact c_J3_checkR l Γ S i n hn hin t
set_option maxRecDepth 100000 in
set_option maxHeartbeats 8000000 in
theorem c_J0_checkIndex (l : Launch) (Γ : GC) (S : PS) (i : Int32) (n : Nat) (hn : n < 2 ^ 31) (hin : vp_in i n) : CT l Γ yJ0_checkIndex_df160 cJ0_checkIndex_df160 2 none (1) (0) (0) [.int i, .int (nI n)] S (RV (fun S' => S' = S)) := by
  refine CT.of RJ0 "checkIndex" [some (.int i), some (.int (nI n))] (by decide +kernel) rfl rfl (Nat.le_of_ble_eq_true rfl) rfl (fun M hM => ?_)
  subst hM
  refine V_iload_0 0 dJ0_checkIndex_df160_0 ?_
  refine V_iload_1 1 dJ0_checkIndex_df160_1 ?_
  refine V_getsF 2 dJ0_checkIndex_df160_2 fl_RJ0_1053 (fun r => ?_)
  refine V_callS 5 [.int _, .int _, _] [] (c_J3_checkIndex M.2.1 Γ S i n hn hin r) dJ0_checkIndex_df160_5 cb_J3_checkIndex_8e157 ml_RJ0_1059 sm_yJ3_checkIndex_8e157 ⟨Nat.le_of_ble_eq_true rfl, Nat.le_of_ble_eq_true rfl⟩ rfl rfl (Nat.le_of_ble_eq_true rfl) ⟨Nat.le_of_ble_eq_true rfl, Nat.le_of_ble_eq_true rfl⟩ (RI.go (fun r S1 hq => ?_))
  subst hq
  refine V_pop 8 dJ0_checkIndex_df160_8 rfl ?_
  refine V_vret 9 dJ0_checkIndex_df160_9 rfl (Nat.le_of_ble_eq_true rfl) (Nat.le_of_ble_eq_true rfl) (RV.mk rfl)
set_option maxRecDepth 100000 in
set_option maxHeartbeats 8000000 in
theorem c_J1_charAt (l : Launch) (Γ : GC) (S : PS) {n : Nat} (hn : n < 2) (i : Int32) (hin : vp_in i (strLen.getD n 0)) : CT l Γ yJ1_charAt_3b067 cJ1_charAt_3b067 2 (some .char) (2) (0) (0) [.ref (sV0 Γ n), .int i] S (RI (fun r S' => narrow .char (.int r) = .int r ∧ S' = S)) := by
  refine CT.of RJ1 "charAt" [some (.ref (sV0 Γ n)), some (.int i)] (by decide +kernel) rfl rfl (Nat.le_of_ble_eq_true rfl) rfl (fun M hM => ?_)
  subst hM
  refine V_iload_1 0 dJ1_charAt_3b067_0 ?_
  refine V_aload_0 1 dJ1_charAt_3b067_1 ?_
  refine V_kalen 2 hn dJ1_charAt_3b067_2 ?_
  refine V_callS 3 [.int _, .int _] _ (c_J0_checkIndex M.2.1 Γ S i (strLen.getD n 0) (by rcases (show n = 0 ∨ n = 1 by omega) with rfl | rfl <;> decide) hin) dJ1_charAt_3b067_3 cb_J0_checkIndex_df160 ml_RJ1_9 sm_yJ0_checkIndex_df160 ⟨Nat.le_of_ble_eq_true rfl, Nat.le_of_ble_eq_true rfl⟩ rfl rfl (Nat.le_of_ble_eq_true rfl) ⟨Nat.le_of_ble_eq_true rfl, Nat.le_of_ble_eq_true rfl⟩ (RV.go (fun S1 hq => ?_))
  subst hq
  refine V_aload_0 6 dJ1_charAt_3b067_6 ?_
  refine V_iload_1 7 dJ1_charAt_3b067_7 ?_
  refine V_kbald 8 hn hin dJ1_charAt_3b067_8 ?_
  refine V_sipush 9 (255) dJ1_charAt_3b067_9 (by decide) ?_
  refine V_iand 12 dJ1_charAt_3b067_12 ?_
  refine V_i2c 13 dJ1_charAt_3b067_13 ?_
  refine V_iret 14 .char dJ1_charAt_3b067_14 rfl (pk_nc _) (Nat.le_of_ble_eq_true rfl) (Nat.le_of_ble_eq_true rfl) (RI.mk ⟨pk_nc _, rfl⟩)
set_option maxRecDepth 100000 in
set_option maxHeartbeats 8000000 in
theorem c_J0_charAt (l : Launch) (Γ : GC) (S : PS) {n : Nat} (hn : n < 2) (i : Int32) (hin : vp_in i (strLen.getD n 0)) : CT l Γ yJ0_charAt_5068e cJ0_charAt_5068e 2 (some .char) (3) (0) (0) [.ref (sK0 Γ n), .int i] S (RI (fun r S' => S' = S)) := by
  refine CT.of RJ0 "charAt" [some (.ref (sK0 Γ n)), some (.int i)] (by decide +kernel) rfl rfl (Nat.le_of_ble_eq_true rfl) rfl (fun M hM => ?_)
  subst hM
  refine V_aload_0 0 dJ0_charAt_5068e_0 ?_
  refine V_callVK 1 hn [] _ (c_J0_isLatin1 M.2.1 Γ S hn) dJ0_charAt_5068e_1 cb_J0_isLatin1_aae02 ml_RJ0_492 im_yJ0_isLatin1_aae02 se_yJ0_isLatin1_aae02 ⟨Nat.le_of_ble_eq_true rfl, Nat.le_of_ble_eq_true rfl⟩ rfl rfl (Nat.le_of_ble_eq_true rfl) ⟨Nat.le_of_ble_eq_true rfl, Nat.le_of_ble_eq_true rfl⟩ (RI.go (fun r S1 hq => ?_))
  obtain ⟨rfl, rfl⟩ := hq
  refine V_if_eq 4 16 dJ0_charAt_5068e_4 (by decide) (fun q => absurd q (by decide)) (fun _ => ?_)
  refine V_aload_0 7 dJ0_charAt_5068e_7 ?_
  refine V_kvalue 8 hn dJ0_charAt_5068e_8 fl_RJ0_9 ?_
  refine V_iload_1 11 dJ0_charAt_5068e_11 ?_
  refine V_callS 12 [.ref _, .int _] _ (c_J1_charAt M.2.1 Γ S1 hn i hin) dJ0_charAt_5068e_12 cb_J1_charAt_3b067 ml_RJ0_495 sm_yJ1_charAt_3b067 ⟨Nat.le_of_ble_eq_true rfl, Nat.le_of_ble_eq_true rfl⟩ rfl rfl (Nat.le_of_ble_eq_true rfl) ⟨Nat.le_of_ble_eq_true rfl, Nat.le_of_ble_eq_true rfl⟩ (RI.go (fun r S2 hq => ?_))
  obtain ⟨hc, rfl⟩ := hq
  refine V_iret 15 .char dJ0_charAt_5068e_15 rfl hc (Nat.le_of_ble_eq_true rfl) (Nat.le_of_ble_eq_true rfl) (RI.mk rfl)

