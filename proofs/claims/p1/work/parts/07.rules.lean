/-! THE JUDGEMENT: V is the kit's W, with the machine in M, the world in Γ, the method in μ; the pool S, the locals as a list of places -/
abbrev MC : Type := Program × Launch × Env × Room × State × MethodId × Array Value × List Frame × Method × Code
abbrev GC : Type := Nat × va_W × (Nat → ClassId) × va_G × Nat × Nat × (Nat → Nat) × (Nat → Nat)
/-- a method: places of its locals, its class, its name, its answer's type, its room -/
abbrev MI : Type := Nat × String × String × Option FieldType × Room
def tysG (Γ : GC) : List (ClassId × FieldType) := [(Γ.2.2.1 13, .byte), (Γ.2.2.1 14, .int), (Γ.2.2.1 15, .long), (Γ.2.2.1 16, .boolean), (Γ.2.2.1 17, .object "SockTable$State")]
def gA (Γ : GC) : Nat → Prop := fun q => Γ.1 ≤ q
def WDL (Γ : GC) (S : PS) : va_W := Γ.2.1 ++ va_pl (PL Γ.2.2.2.2.1 S) (EN Γ.2.2.1 S)
/-- the String constants: what they hold, and the statics that their methods read -/
def KStr (Γ : GC) (U : State) (H : Heap) : Prop :=
  vk_S 2 strLen strByt Γ.2.2.2.2.2.2.1 Γ.2.2.2.2.2.2.2 (gA Γ) U H ∧ va_Z "java/lang/String" "COMPACT_STRINGS" "Z" (.int 1) (gA Γ) U H ∧ va_Zq "jdk/internal/util/Preconditions" "SIOOBE_FORMATTER" "Ljava/util/function/BiFunction;" (gA Γ) U H ∧ vk_R RX8 28 strT0 (Γ.2.2.2.2.2.2.1 0) U ∧ vk_R RX8 100 strT1 (Γ.2.2.2.2.2.2.1 1) U
theorem KStr.kept {Γ : GC} {U : State} {H H1 : Heap} (h : KStr Γ U H) (hq : ∀ a : Nat, a < H.size → ¬ gA Γ a → H1[a]? = H[a]?) : KStr Γ U H1 := ⟨h.1.kept hq, h.2.1.kept hq, h.2.2.1.kept hq, h.2.2.2.1, h.2.2.2.2⟩
theorem KStr.warm {Γ : GC} {s U : State} {H : Heap} (hW : s.WarmedH U.vm) (h : KStr Γ s H) : KStr Γ U H := ⟨h.1.moved hW.alike, h.2.1.moved hW.alike, h.2.2.1.moved hW.alike, h.2.2.2.1.warm hW, h.2.2.2.2.warm hW⟩
theorem KStr.same {Γ : GC} {s U : State} {H : Heap} (hv : U.vm = s.vm) (h : KStr Γ s H) : KStr Γ U H := by
  have ha : s.vm.Alike U.vm := by rw [hv]; exact Vm.Alike.refl _
  exact ⟨h.1.moved ha, h.2.1.moved ha, h.2.2.1.moved ha, h.2.2.2.1.same hv, h.2.2.2.2.same hv⟩
/-- what the tables say of the classes -/
def KK (Γ : GC) (U : State) : Prop := va_K Γ.2.2.2.1 vwCl (tysG Γ) U ∧ (∀ q ∈ nestW, va_Nw (.methodLinkNest q.1 q.2.1 q.2.2.1 q.2.2.2) U) ∧ va_AO "SockTable$State" U
theorem KK.warm {Γ : GC} {s U : State} (hW : s.WarmedH U.vm) (h : KK Γ s) : KK Γ U := ⟨h.1.moved hW.alike, fun q hq => (h.2.1 q hq).warmM hW, h.2.2.moved hW.alike⟩
theorem KK.same {Γ : GC} {s U : State} (hv : U.vm = s.vm) (h : KK Γ s) : KK Γ U := by
  have ha : s.vm.Alike U.vm := by rw [hv]; exact Vm.Alike.refl _
  exact ⟨h.1.moved ha, fun q hq => va_Nw.same rfl hv.symm (h.2.1 q hq), h.2.2.moved ha⟩
/-- the heap holds the pool and the world beside it -/
def RL (Γ : GC) (S : PS) (H : Heap) : Prop := va_P Γ.2.2.2.1 vwCl (WDL Γ S) H ∧ va_D (gA Γ) (WDL Γ S) ∧ H.size = Γ.2.2.2.2.2.1 + sN S
def RU (Γ : GC) (S : PS) (U : State) : Prop := Γ.1 ≤ U.heap.size ∧ KK Γ U ∧ KStr Γ U U.heap ∧ RL Γ S U.heap
/-- the locals, place by place -/
def lvL : Nat → List (Option Value) → List (Nat × Value)
  | _, [] => []
  | i, none :: t => lvL (i + 1) t
  | i, some v :: t => (i, v) :: lvL (i + 1) t
theorem lvL_get : ∀ (lv : List (Option Value)) (i j : Nat) (v : Value), lv[j]? = some (some v) → (i + j, v) ∈ lvL i lv := by
  intro lv
  induction lv with
  | nil => intro i j v h; simp at h
  | cons a t ih =>
    intro i j v h
    cases j with
    | zero =>
      simp at h; subst h
      exact List.mem_cons_self
    | succ j =>
      have h1 := ih (i + 1) j v (by simpa using h)
      rw [show i + 1 + j = i + (j + 1) by omega] at h1
      cases a with
      | none => exact h1
      | some w => exact List.mem_cons_of_mem _ h1
theorem lvL_mem : ∀ (lv : List (Option Value)) (i : Nat) (q : Nat × Value), q ∈ lvL i lv → i ≤ q.1 ∧ lv[q.1 - i]? = some (some q.2) := by
  intro lv
  induction lv with
  | nil => intro i q h; simp [lvL] at h
  | cons a t ih =>
    intro i q h
    have tail : q ∈ lvL (i + 1) t → i ≤ q.1 ∧ (a :: t)[q.1 - i]? = some (some q.2) := fun h => by
      obtain ⟨h1, h2⟩ := ih (i + 1) q h
      refine ⟨by omega, ?_⟩
      rw [show q.1 - i = (q.1 - (i + 1)) + 1 by omega]
      simpa using h2
    cases a with
    | none => exact tail h
    | some w =>
      rcases List.mem_cons.mp h with rfl | h
      · exact ⟨Nat.le_refl _, by simp⟩
      · exact tail h
def lvH (ls : Array Slot) (nL : Nat) (lv : List (Option Value)) : Prop := lv_has ls nL (lvL 0 lv)
theorem lvH.at {ls : Array Slot} {nL : Nat} {lv : List (Option Value)} (h : lvH ls nL lv) {i : Nat} {v : Value} (hi : lv[i]? = some (some v)) : ls[i]? = some (.val v) := by
  have h1 := h.2.2 _ (lvL_get lv 0 i v hi)
  simpa using h1
def c1 (a : Option Value) : Bool := match a with
  | some (.long _) => false
  | some (.double _) => false
  | _ => true
theorem c1_ok {a : Option Value} (h : c1 a = true) {v : Value} (e : a = some v) : v.category = 1 := by
  subst e
  cases v <;> first | rfl | (simp [c1] at h)
/-- the list after a store at i: what the row of the kit lists is at least what ours does -/
theorem lv_st1 {ls : Array Slot} {nL : Nat} {lv lv2 : List (Option Value)} {i : Nat} {v : Value} {l' : List (Nat × Value)} (hc : ∀ j w, j + 1 = i → lv[j]? = some (some w) → w.category = 1)
    (h2 : ∀ j w, lv2[j]? = some (some w) → (j = i ∧ w = v) ∨ (j ≠ i ∧ lv[j]? = some (some w))) (hl : (i, v) :: (lvL 0 lv).filter (fun q => !(q.1 == i) && !(q.1 + 1 == i && q.2.category == 2)) = l') (h : lv_has ls nL l') : lvH ls nL lv2 := by
  refine ⟨h.1, h.2.1, fun q hq => h.2.2 q ?_⟩
  obtain ⟨-, h4⟩ := lvL_mem _ _ _ hq
  rw [← hl]
  rcases h2 _ _ h4 with ⟨e1, e2⟩ | ⟨e1, e2⟩
  · obtain ⟨a, b⟩ := q
    simp at e1 e2
    subst e1; subst e2
    exact List.mem_cons_self
  · refine List.mem_cons_of_mem _ (List.mem_filter.mpr ⟨?_, ?_⟩)
    · have := lvL_get lv 0 _ _ e2
      simpa using this
    · simp only [Nat.sub_zero] at e1 e2
      by_cases hj : q.1 + 1 = i
      · have := hc _ _ hj e2
        simp [e1, this]
      · simp [e1, hj]
theorem lv_st2 {ls : Array Slot} {nL : Nat} {lv lv2 : List (Option Value)} {i : Nat} {v : Value} {l' : List (Nat × Value)} (hc : ∀ j w, j + 1 = i → lv[j]? = some (some w) → w.category = 1)
    (h2 : ∀ j w, lv2[j]? = some (some w) → (j = i ∧ w = v) ∨ (j ≠ i ∧ j ≠ i + 1 ∧ lv[j]? = some (some w))) (hl : (i, v) :: (lvL 0 lv).filter (fun q => !(q.1 == i) && (!(q.1 == i + 1) && !(q.1 + 1 == i && q.2.category == 2))) = l') (h : lv_has ls nL l') : lvH ls nL lv2 := by
  refine ⟨h.1, h.2.1, fun q hq => h.2.2 q ?_⟩
  obtain ⟨-, h4⟩ := lvL_mem _ _ _ hq
  rw [← hl]
  rcases h2 _ _ h4 with ⟨e1, e2⟩ | ⟨e1, e3, e2⟩
  · obtain ⟨a, b⟩ := q
    simp at e1 e2
    subst e1; subst e2
    exact List.mem_cons_self
  · refine List.mem_cons_of_mem _ (List.mem_filter.mpr ⟨?_, ?_⟩)
    · have := lvL_get lv 0 _ _ e2
      simpa using this
    · simp only [Nat.sub_zero] at e1 e2 e3
      by_cases hj : q.1 + 1 = i
      · have := hc _ _ hj e2
        simp [e1, e3, this]
      · simp [e1, e3, hj]
/-- the machine's part of a method's walk -/
def CX (M : MC) (Γ : GC) (μ : MI) (cc : ByteArray) : Prop :=
  CallFix M.1 M.2.2.2.2.2.1 M.2.2.2.2.2.2.2.2.2 cc μ.1 M.2.2.2.2.1 M.2.2.2.2.2.2.1 lwG μ.2.1 ∧ M.2.2.2.2.2.2.2.2.1.locks = false ∧ KK Γ M.2.2.2.2.1 ∧ KStr Γ M.2.2.2.2.1 M.2.2.2.2.1.heap ∧ Γ.1 ≤ M.2.2.2.2.1.heap.size ∧ M.2.2.2.2.2.2.2.2.1.name = μ.2.2.1 ∧ M.2.2.2.2.2.2.2.2.1.sig.returnType = μ.2.2.2.1 ∧ M.2.2.2.1 = μ.2.2.2.2
def WM (M : MC) (H : Heap) (locs : List Loc) (k sl : Nat) (Q : State → Prop) (g : JFrame) : Prop := W M.1 M.2.1 M.2.2.1 M.2.2.2.1 M.2.2.2.2.1 M.2.2.2.2.2.1 M.2.2.2.2.2.2.1 M.2.2.2.2.2.2.2.1 M.2.2.2.2.2.2.2.2.1 M.2.2.2.2.2.2.2.2.2 H locs k sl Q g
def V (M : MC) (Γ : GC) (μ : MI) (cc : ByteArray) (Q : State → Prop) (k sl : Nat) (S : PS) (pc : Nat) (lv : List (Option Value)) (st : List Value) : Prop :=
  CX M Γ μ cc → ∀ (H : Heap) (locs : List Loc) (ls : Array Slot), RL Γ S H → va_S (gA Γ) M.2.2.2.2.1.heap H locs → lvH ls μ.1 lv → WM M H locs k sl Q (F0 M.2.2.2.2.2.1 pc ls st)
section VR
variable {M : MC} {Γ : GC} {μ : MI} {cc : ByteArray} {Q : State → Prop} {k sl : Nat} {S : PS} {lv : List (Option Value)} {st : List Value}
theorem V.pc {pc pc2 : Nat} (h : V M Γ μ cc Q k sl S pc2 lv st) (e : pc2 = pc) : V M Γ μ cc Q k sl S pc lv st := e ▸ h
theorem V_iconst (pc : Nat) {n : Int} (v : Int32) (d : decode cc pc = .ok (.iconst n, 1)) (hv : Int32.ofInt n = v) (h : V M Γ μ cc Q k sl S (pc + 1) lv (.int v :: st)) : V M Γ μ cc Q k sl S pc lv st := fun C H locs ls hr hs hl => lv_iconst C.1.1 C.1.2.1 d hv (h C H locs ls hr hs hl)
theorem V_bipush (pc : Nat) {n : Int} (v : Int32) (d : decode cc pc = .ok (.bipush n, 2)) (hv : (Int8.ofInt n).toInt32 = v) (h : V M Γ μ cc Q k sl S (pc + 2) lv (.int v :: st)) : V M Γ μ cc Q k sl S pc lv st := fun C H locs ls hr hs hl => lv_bipush C.1.1 C.1.2.1 d hv (h C H locs ls hr hs hl)
theorem V_sipush (pc : Nat) {n : Int} (v : Int32) (d : decode cc pc = .ok (.sipush n, 3)) (hv : (Int16.ofInt n).toInt32 = v) (h : V M Γ μ cc Q k sl S (pc + 3) lv (.int v :: st)) : V M Γ μ cc Q k sl S pc lv st := fun C H locs ls hr hs hl => lv_sipush C.1.1 C.1.2.1 d hv (h C H locs ls hr hs hl)
theorem V_lconst (pc : Nat) {n : Fin 2} (v : Int64) (d : decode cc pc = .ok (.lconst n, 1)) (hv : Int64.ofNat (n : Nat) = v) (h : V M Γ μ cc Q k sl S (pc + 1) lv (.long v :: st)) : V M Γ μ cc Q k sl S pc lv st := fun C H locs ls hr hs hl => lv_lconst C.1.1 C.1.2.1 d hv (h C H locs ls hr hs hl)
theorem V_ldc (pc : Nat) {i : Nat} {v : Int32} (d : decode cc pc = .ok (.ldc i, 2)) (hw : Cond.constant μ.2.1 i v ∈ lwG) (h : V M Γ μ cc Q k sl S (pc + 2) lv (.int v :: st)) : V M Γ μ cc Q k sl S pc lv st := fun C H locs ls hr hs hl => lv_ldc C.1.1 C.1.2.1 C.1.2.2.2.1 (C.1.2.2.2.2 _ hw) d (h C H locs ls hr hs hl)
theorem V_ldc_w (pc : Nat) {i : Nat} {v : Int32} (d : decode cc pc = .ok (.ldc_w i, 3)) (hw : Cond.constant μ.2.1 i v ∈ lwG) (h : V M Γ μ cc Q k sl S (pc + 3) lv (.int v :: st)) : V M Γ μ cc Q k sl S pc lv st := fun C H locs ls hr hs hl => lv_ldcw C.1.1 C.1.2.1 C.1.2.2.2.1 (C.1.2.2.2.2 _ hw) d (h C H locs ls hr hs hl)
theorem V_ldc2_w (pc : Nat) {i : Nat} {v : Int64} (d : decode cc pc = .ok (.ldc2_w i, 3)) (hw : Cond.constantLong μ.2.1 i v ∈ lwG) (h : V M Γ μ cc Q k sl S (pc + 3) lv (.long v :: st)) : V M Γ μ cc Q k sl S pc lv st := fun C H locs ls hr hs hl => lv_ldc2 C.1.1 C.1.2.1 C.1.2.2.2.1 (C.1.2.2.2.2 _ hw) d (h C H locs ls hr hs hl)
theorem V_iadd (pc : Nat) {x y : Int32} (d : decode cc pc = .ok (.iadd, 1)) (h : V M Γ μ cc Q k sl S (pc + 1) lv (.int (x + y) :: st)) : V M Γ μ cc Q k sl S pc lv (.int y :: .int x :: st) := fun C H locs ls hr hs hl => lv_iadd C.1.1 C.1.2.1 d (h C H locs ls hr hs hl)
theorem V_isub (pc : Nat) {x y : Int32} (d : decode cc pc = .ok (.isub, 1)) (h : V M Γ μ cc Q k sl S (pc + 1) lv (.int (x - y) :: st)) : V M Γ μ cc Q k sl S pc lv (.int y :: .int x :: st) := fun C H locs ls hr hs hl => lv_isub C.1.1 C.1.2.1 d (h C H locs ls hr hs hl)
theorem V_imul (pc : Nat) {x y : Int32} (d : decode cc pc = .ok (.imul, 1)) (h : V M Γ μ cc Q k sl S (pc + 1) lv (.int (x * y) :: st)) : V M Γ μ cc Q k sl S pc lv (.int y :: .int x :: st) := fun C H locs ls hr hs hl => lv_imul C.1.1 C.1.2.1 d (h C H locs ls hr hs hl)
theorem V_ishl (pc : Nat) {x y : Int32} (d : decode cc pc = .ok (.ishl, 1)) (h : V M Γ μ cc Q k sl S (pc + 1) lv (.int (x <<< (y &&& 31)) :: st)) : V M Γ μ cc Q k sl S pc lv (.int y :: .int x :: st) := fun C H locs ls hr hs hl => lv_ishl C.1.1 C.1.2.1 d (h C H locs ls hr hs hl)
theorem V_ishr (pc : Nat) {x y : Int32} (d : decode cc pc = .ok (.ishr, 1)) (h : V M Γ μ cc Q k sl S (pc + 1) lv (.int (x >>> (y &&& 31)) :: st)) : V M Γ μ cc Q k sl S pc lv (.int y :: .int x :: st) := fun C H locs ls hr hs hl => lv_ishr C.1.1 C.1.2.1 d (h C H locs ls hr hs hl)
theorem V_iand (pc : Nat) {x y : Int32} (d : decode cc pc = .ok (.iand, 1)) (h : V M Γ μ cc Q k sl S (pc + 1) lv (.int (x &&& y) :: st)) : V M Γ μ cc Q k sl S pc lv (.int y :: .int x :: st) := fun C H locs ls hr hs hl => lv_iand C.1.1 C.1.2.1 d (h C H locs ls hr hs hl)
theorem V_ixor (pc : Nat) {x y : Int32} (d : decode cc pc = .ok (.ixor, 1)) (h : V M Γ μ cc Q k sl S (pc + 1) lv (.int (x ^^^ y) :: st)) : V M Γ μ cc Q k sl S pc lv (.int y :: .int x :: st) := fun C H locs ls hr hs hl => lv_ixor C.1.1 C.1.2.1 d (h C H locs ls hr hs hl)
theorem V_ior (pc : Nat) {x y : Int32} (d : decode cc pc = .ok (.ior, 1)) (h : V M Γ μ cc Q k sl S (pc + 1) lv (.int (x ||| y) :: st)) : V M Γ μ cc Q k sl S pc lv (.int y :: .int x :: st) := fun C H locs ls hr hs hl => lv_ior C.1.1 C.1.2.1 d (h C H locs ls hr hs hl)
theorem V_iushr (pc : Nat) {x y : Int32} (d : decode cc pc = .ok (.iushr, 1)) (h : V M Γ μ cc Q k sl S (pc + 1) lv (.int ((x.toUInt32 >>> (y.toUInt32 &&& Int32.toUInt32 31)).toInt32) :: st)) : V M Γ μ cc Q k sl S pc lv (.int y :: .int x :: st) := fun C H locs ls hr hs hl => lv_iushr C.1.1 C.1.2.1 d rfl (h C H locs ls hr hs hl)
theorem V_idiv (pc : Nat) {x y : Int32} (d : decode cc pc = .ok (.idiv, 1)) (hne : ¬ y = 0) (h : V M Γ μ cc Q k sl S (pc + 1) lv (.int (x / y) :: st)) : V M Γ μ cc Q k sl S pc lv (.int y :: .int x :: st) := fun C H locs ls hr hs hl => lv_idiv C.1.1 C.1.2.1 d hne (h C H locs ls hr hs hl)
theorem V_irem (pc : Nat) {x y : Int32} (d : decode cc pc = .ok (.irem, 1)) (hne : ¬ y = 0) (h : V M Γ μ cc Q k sl S (pc + 1) lv (.int (x - x / y * y) :: st)) : V M Γ μ cc Q k sl S pc lv (.int y :: .int x :: st) := fun C H locs ls hr hs hl => lv_irem C.1.1 C.1.2.1 d hne (h C H locs ls hr hs hl)
theorem V_ineg (pc : Nat) {x : Int32} (d : decode cc pc = .ok (.ineg, 1)) (h : V M Γ μ cc Q k sl S (pc + 1) lv (.int (-x) :: st)) : V M Γ μ cc Q k sl S pc lv (.int x :: st) := fun C H locs ls hr hs hl => lv_ineg C.1.1 C.1.2.1 d (h C H locs ls hr hs hl)
theorem V_ladd (pc : Nat) {x y : Int64} (d : decode cc pc = .ok (.ladd, 1)) (h : V M Γ μ cc Q k sl S (pc + 1) lv (.long (x + y) :: st)) : V M Γ μ cc Q k sl S pc lv (.long y :: .long x :: st) := fun C H locs ls hr hs hl => lv_ladd C.1.1 C.1.2.1 d (h C H locs ls hr hs hl)
theorem V_lsub (pc : Nat) {x y : Int64} (d : decode cc pc = .ok (.lsub, 1)) (h : V M Γ μ cc Q k sl S (pc + 1) lv (.long (x - y) :: st)) : V M Γ μ cc Q k sl S pc lv (.long y :: .long x :: st) := fun C H locs ls hr hs hl => lv_lsub C.1.1 C.1.2.1 d (h C H locs ls hr hs hl)
theorem V_lmul (pc : Nat) {x y : Int64} (d : decode cc pc = .ok (.lmul, 1)) (h : V M Γ μ cc Q k sl S (pc + 1) lv (.long (x * y) :: st)) : V M Γ μ cc Q k sl S pc lv (.long y :: .long x :: st) := fun C H locs ls hr hs hl => lv_lmul C.1.1 C.1.2.1 d (h C H locs ls hr hs hl)
theorem V_ldiv (pc : Nat) {x y : Int64} (d : decode cc pc = .ok (.ldiv, 1)) (hne : ¬ y = 0) (h : V M Γ μ cc Q k sl S (pc + 1) lv (.long (x / y) :: st)) : V M Γ μ cc Q k sl S pc lv (.long y :: .long x :: st) := fun C H locs ls hr hs hl => lv_ldiv C.1.1 C.1.2.1 d hne (h C H locs ls hr hs hl)
theorem V_lcmp (pc : Nat) {x y : Int64} (d : decode cc pc = .ok (.lcmp, 1)) (h : V M Γ μ cc Q k sl S (pc + 1) lv (.int (lg_cmp x y) :: st)) : V M Γ μ cc Q k sl S pc lv (.long y :: .long x :: st) := fun C H locs ls hr hs hl => W.lcmp C.1.1 C.1.2.1 d (h C H locs ls hr hs hl)
theorem V_i2l (pc : Nat) {x : Int32} (d : decode cc pc = .ok (.i2l, 1)) (h : V M Γ μ cc Q k sl S (pc + 1) lv (.long x.toInt64 :: st)) : V M Γ μ cc Q k sl S pc lv (.int x :: st) := fun C H locs ls hr hs hl => lv_i2l C.1.1 C.1.2.1 d rfl (h C H locs ls hr hs hl)
theorem V_l2i (pc : Nat) {x : Int64} (d : decode cc pc = .ok (.l2i, 1)) (h : V M Γ μ cc Q k sl S (pc + 1) lv (.int x.toInt32 :: st)) : V M Γ μ cc Q k sl S pc lv (.long x :: st) := fun C H locs ls hr hs hl => lv_l2i C.1.1 C.1.2.1 d rfl (h C H locs ls hr hs hl)
theorem V_i2b (pc : Nat) {x : Int32} (d : decode cc pc = .ok (.i2b, 1)) (h : V M Γ μ cc Q k sl S (pc + 1) lv (.int x.toInt8.toInt32 :: st)) : V M Γ μ cc Q k sl S pc lv (.int x :: st) := fun C H locs ls hr hs hl => lv_i2b C.1.1 C.1.2.1 d rfl (h C H locs ls hr hs hl)
theorem V_i2c (pc : Nat) {x : Int32} (d : decode cc pc = .ok (.i2c, 1)) (h : V M Γ μ cc Q k sl S (pc + 1) lv (.int (x.toUInt32 % 65536).toInt32 :: st)) : V M Γ μ cc Q k sl S pc lv (.int x :: st) := fun C H locs ls hr hs hl => lv_i2c C.1.1 C.1.2.1 d rfl (h C H locs ls hr hs hl)
theorem V_dup (pc : Nat) {a : Value} (d : decode cc pc = .ok (.dup, 1)) (hc : a.category = 1) (h : V M Γ μ cc Q k sl S (pc + 1) lv (a :: a :: st)) : V M Γ μ cc Q k sl S pc lv (a :: st) := fun C H locs ls hr hs hl => lv_dup C.1.1 C.1.2.1 d hc (h C H locs ls hr hs hl)
theorem V_dup2 (pc : Nat) {a b : Value} (d : decode cc pc = .ok (.dup2, 1)) (hc : a.category = 1) (hc2 : b.category = 1) (h : V M Γ μ cc Q k sl S (pc + 1) lv (a :: b :: a :: b :: st)) : V M Γ μ cc Q k sl S pc lv (a :: b :: st) := fun C H locs ls hr hs hl => lv_dup2_11 C.1.1 C.1.2.1 d hc hc2 (h C H locs ls hr hs hl)
theorem V_dup2L (pc : Nat) {a : Value} (d : decode cc pc = .ok (.dup2, 1)) (hc : a.category = 2) (h : V M Γ μ cc Q k sl S (pc + 1) lv (a :: a :: st)) : V M Γ μ cc Q k sl S pc lv (a :: st) := fun C H locs ls hr hs hl => lv_dup2_2 C.1.1 C.1.2.1 d hc (h C H locs ls hr hs hl)
theorem V_pop (pc : Nat) {a : Value} (d : decode cc pc = .ok (.pop, 1)) (hc : a.category = 1) (h : V M Γ μ cc Q k sl S (pc + 1) lv st) : V M Γ μ cc Q k sl S pc lv (a :: st) := fun C H locs ls hr hs hl => lv_pop C.1.1 C.1.2.1 d hc (h C H locs ls hr hs hl)
theorem V_goto (pc : Nat) (tgt : Nat) {off : Int} (d : decode cc pc = .ok (.goto off, 3)) (ht : (pc : Int) + off = (tgt : Int)) (h : V M Γ μ cc Q k sl S tgt lv st) : V M Γ μ cc Q k sl S pc lv st := fun C H locs ls hr hs hl => lv_goto C.1.1 C.1.2.1 d ht (h C H locs ls hr hs hl)
theorem V_icmp_eq (pc tgt : Nat) {off : Int} {x y : Int32} (d : decode cc pc = .ok (.if_icmp .eq off, 3)) (ht : (pc : Int) + off = (tgt : Int)) (kt : x = y → V M Γ μ cc Q k sl S tgt lv st) (kf : ¬ x = y → V M Γ μ cc Q k sl S (pc + 3) lv st) : V M Γ μ cc Q k sl S pc lv (.int y :: .int x :: st) := fun C H locs ls hr hs hl => lv_icmp_eq C.1.1 C.1.2.1 d ht (fun c => kt c C H locs ls hr hs hl) (fun c => kf c C H locs ls hr hs hl)
theorem V_icmp_ne (pc tgt : Nat) {off : Int} {x y : Int32} (d : decode cc pc = .ok (.if_icmp .ne off, 3)) (ht : (pc : Int) + off = (tgt : Int)) (kt : ¬ x = y → V M Γ μ cc Q k sl S tgt lv st) (kf : x = y → V M Γ μ cc Q k sl S (pc + 3) lv st) : V M Γ μ cc Q k sl S pc lv (.int y :: .int x :: st) := fun C H locs ls hr hs hl => lv_icmp_ne C.1.1 C.1.2.1 d ht (fun c => kt c C H locs ls hr hs hl) (fun c => kf c C H locs ls hr hs hl)
theorem V_icmp_lt (pc tgt : Nat) {off : Int} {x y : Int32} (d : decode cc pc = .ok (.if_icmp .lt off, 3)) (ht : (pc : Int) + off = (tgt : Int)) (kt : x < y → V M Γ μ cc Q k sl S tgt lv st) (kf : ¬ x < y → V M Γ μ cc Q k sl S (pc + 3) lv st) : V M Γ μ cc Q k sl S pc lv (.int y :: .int x :: st) := fun C H locs ls hr hs hl => lv_icmp_lt C.1.1 C.1.2.1 d ht (fun c => kt c C H locs ls hr hs hl) (fun c => kf c C H locs ls hr hs hl)
theorem V_icmp_ge (pc tgt : Nat) {off : Int} {x y : Int32} (d : decode cc pc = .ok (.if_icmp .ge off, 3)) (ht : (pc : Int) + off = (tgt : Int)) (kt : y ≤ x → V M Γ μ cc Q k sl S tgt lv st) (kf : ¬ y ≤ x → V M Γ μ cc Q k sl S (pc + 3) lv st) : V M Γ μ cc Q k sl S pc lv (.int y :: .int x :: st) := fun C H locs ls hr hs hl => lv_icmp_ge C.1.1 C.1.2.1 d ht (fun c => kt c C H locs ls hr hs hl) (fun c => kf c C H locs ls hr hs hl)
theorem V_icmp_gt (pc tgt : Nat) {off : Int} {x y : Int32} (d : decode cc pc = .ok (.if_icmp .gt off, 3)) (ht : (pc : Int) + off = (tgt : Int)) (kt : y < x → V M Γ μ cc Q k sl S tgt lv st) (kf : ¬ y < x → V M Γ μ cc Q k sl S (pc + 3) lv st) : V M Γ μ cc Q k sl S pc lv (.int y :: .int x :: st) := fun C H locs ls hr hs hl => lv_icmp_gt C.1.1 C.1.2.1 d ht (fun c => kt c C H locs ls hr hs hl) (fun c => kf c C H locs ls hr hs hl)
theorem V_icmp_le (pc tgt : Nat) {off : Int} {x y : Int32} (d : decode cc pc = .ok (.if_icmp .le off, 3)) (ht : (pc : Int) + off = (tgt : Int)) (kt : x ≤ y → V M Γ μ cc Q k sl S tgt lv st) (kf : ¬ x ≤ y → V M Γ μ cc Q k sl S (pc + 3) lv st) : V M Γ μ cc Q k sl S pc lv (.int y :: .int x :: st) := fun C H locs ls hr hs hl => lv_icmp_le C.1.1 C.1.2.1 d ht (fun c => kt c C H locs ls hr hs hl) (fun c => kf c C H locs ls hr hs hl)
theorem V_if_eq (pc tgt : Nat) {off : Int} {x : Int32} (d : decode cc pc = .ok (.ifCond .eq off, 3)) (ht : (pc : Int) + off = (tgt : Int)) (kt : x = 0 → V M Γ μ cc Q k sl S tgt lv st) (kf : ¬ x = 0 → V M Γ μ cc Q k sl S (pc + 3) lv st) : V M Γ μ cc Q k sl S pc lv (.int x :: st) := fun C H locs ls hr hs hl => lv_if_eq C.1.1 C.1.2.1 d ht (fun c => kt c C H locs ls hr hs hl) (fun c => kf c C H locs ls hr hs hl)
theorem V_if_ne (pc tgt : Nat) {off : Int} {x : Int32} (d : decode cc pc = .ok (.ifCond .ne off, 3)) (ht : (pc : Int) + off = (tgt : Int)) (kt : ¬ x = 0 → V M Γ μ cc Q k sl S tgt lv st) (kf : x = 0 → V M Γ μ cc Q k sl S (pc + 3) lv st) : V M Γ μ cc Q k sl S pc lv (.int x :: st) := fun C H locs ls hr hs hl => lv_if_ne C.1.1 C.1.2.1 d ht (fun c => kt c C H locs ls hr hs hl) (fun c => kf c C H locs ls hr hs hl)
theorem V_if_lt (pc tgt : Nat) {off : Int} {x : Int32} (d : decode cc pc = .ok (.ifCond .lt off, 3)) (ht : (pc : Int) + off = (tgt : Int)) (kt : x < 0 → V M Γ μ cc Q k sl S tgt lv st) (kf : ¬ x < 0 → V M Γ μ cc Q k sl S (pc + 3) lv st) : V M Γ μ cc Q k sl S pc lv (.int x :: st) := fun C H locs ls hr hs hl => lv_if_lt C.1.1 C.1.2.1 d ht (fun c => kt c C H locs ls hr hs hl) (fun c => kf c C H locs ls hr hs hl)
theorem V_if_ge (pc tgt : Nat) {off : Int} {x : Int32} (d : decode cc pc = .ok (.ifCond .ge off, 3)) (ht : (pc : Int) + off = (tgt : Int)) (kt : 0 ≤ x → V M Γ μ cc Q k sl S tgt lv st) (kf : ¬ 0 ≤ x → V M Γ μ cc Q k sl S (pc + 3) lv st) : V M Γ μ cc Q k sl S pc lv (.int x :: st) := fun C H locs ls hr hs hl => lv_if_ge C.1.1 C.1.2.1 d ht (fun c => kt c C H locs ls hr hs hl) (fun c => kf c C H locs ls hr hs hl)
theorem V_if_gt (pc tgt : Nat) {off : Int} {x : Int32} (d : decode cc pc = .ok (.ifCond .gt off, 3)) (ht : (pc : Int) + off = (tgt : Int)) (kt : 0 < x → V M Γ μ cc Q k sl S tgt lv st) (kf : ¬ 0 < x → V M Γ μ cc Q k sl S (pc + 3) lv st) : V M Γ μ cc Q k sl S pc lv (.int x :: st) := fun C H locs ls hr hs hl => lv_if_gt C.1.1 C.1.2.1 d ht (fun c => kt c C H locs ls hr hs hl) (fun c => kf c C H locs ls hr hs hl)
theorem V_if_le (pc tgt : Nat) {off : Int} {x : Int32} (d : decode cc pc = .ok (.ifCond .le off, 3)) (ht : (pc : Int) + off = (tgt : Int)) (kt : x ≤ 0 → V M Γ μ cc Q k sl S tgt lv st) (kf : ¬ x ≤ 0 → V M Γ μ cc Q k sl S (pc + 3) lv st) : V M Γ μ cc Q k sl S pc lv (.int x :: st) := fun C H locs ls hr hs hl => lv_if_le C.1.1 C.1.2.1 d ht (fun c => kt c C H locs ls hr hs hl) (fun c => kf c C H locs ls hr hs hl)
theorem V_tableIn (pc : Nat) (tgt : Nat) {dflt lo hi : Int} {offs : Array Int} {len : Nat} {x : Int32} {off : Int} (d : decode cc pc = .ok (.tableswitch dflt lo hi offs, len)) (h1 : ¬ x.toInt < lo) (h2 : ¬ hi < x.toInt) (ho : offs[(x.toInt - lo).toNat]? = some off) (ht : (pc : Int) + off = (tgt : Int)) (h : V M Γ μ cc Q k sl S tgt lv st) : V M Γ μ cc Q k sl S pc lv (.int x :: st) := fun C H locs ls hr hs hl => lv_tableIn C.1.1 C.1.2.1 d h1 h2 ho ht (h C H locs ls hr hs hl)
theorem V_tableOut (pc : Nat) (tgt : Nat) {dflt lo hi : Int} {offs : Array Int} {len : Nat} {x : Int32} (d : decode cc pc = .ok (.tableswitch dflt lo hi offs, len)) (h1 : x.toInt < lo ∨ hi < x.toInt) (ht : (pc : Int) + dflt = (tgt : Int)) (h : V M Γ μ cc Q k sl S tgt lv st) : V M Γ μ cc Q k sl S pc lv (.int x :: st) := fun C H locs ls hr hs hl => lv_tableOut C.1.1 C.1.2.1 d h1 ht (h C H locs ls hr hs hl)
theorem V_lookup (pc : Nat) (tgt : Nat) {dflt : Int} {ps : Array (Int × Int)} {len : Nat} {x : Int32} {off : Int} (d : decode cc pc = .ok (.lookupswitch dflt ps, len)) (hp : (ps.toList.zip (ps.toList.drop 1)).all (fun (a, next) => a.1 < next.1) = true) (ho : Op.lookupswitch.offset ps.toList dflt x.toInt = off) (ht : (pc : Int) + off = (tgt : Int)) (h : V M Γ μ cc Q k sl S tgt lv st) : V M Γ μ cc Q k sl S pc lv (.int x :: st) := fun C H locs ls hr hs hl => lv_lookup C.1.1 C.1.2.1 d hp ho ht (h C H locs ls hr hs hl)
theorem V_setD {q : Nat × Option Value} {lv2 : List (Option Value)} (hn : lv2 = lv) (h : V M Γ μ cc Q k sl S q.1 lv2 st) : V M Γ μ cc Q k sl S q.1 lv st := hn ▸ h
theorem V_iload_0 (pc : Nat) {r : List (Option Value)} {x : Int32} (d : decode cc pc = .ok (.iload_n 0, 1)) (h : V M Γ μ cc Q k sl S (pc + 1) (some (.int x) :: r) (.int x :: st)) : V M Γ μ cc Q k sl S pc (some (.int x) :: r) st := fun C H locs ls hr hs hl => lv_iload_n C.1.1 C.1.2.1 d rfl (hl.at (i := 0) rfl) (h C H locs ls hr hs hl)
theorem V_istore_0 (pc : Nat) {b : Option Value} {r : List (Option Value)} {x : Int32} (d : decode cc pc = .ok (.istore_n 0, 1)) (hn : 0 < μ.1) (h : V M Γ μ cc Q k sl S (pc + 1) (some (.int x) :: r) st) : V M Γ μ cc Q k sl S pc (b :: r) (.int x :: st) := fun C H locs ls hr hs hl => lv_istore_n C.1.1 C.1.2.1 d rfl hl hn rfl (fun ls2 hl2 => h C H locs ls2 hr hs (lv_st1 (fun j w e q => absurd e (Nat.succ_ne_zero j)) (fun j w q => by rcases Nat.lt_trichotomy j 0 with g | g | g
  · exact Or.inr ⟨Nat.ne_of_lt g, by revert q; omega⟩
  · subst g; exact Or.inl ⟨rfl, (Option.some.inj (Option.some.inj q)).symm⟩
  · obtain ⟨j2, rfl⟩ : ∃ j2, j = j2 + 1 := ⟨j - 1, by omega⟩
    exact Or.inr ⟨by omega, q⟩) rfl hl2))
theorem V_lload_0 (pc : Nat) {r : List (Option Value)} {x : Int64} (d : decode cc pc = .ok (.lload_n 0, 1)) (h : V M Γ μ cc Q k sl S (pc + 1) (some (.long x) :: r) (.long x :: st)) : V M Γ μ cc Q k sl S pc (some (.long x) :: r) st := fun C H locs ls hr hs hl => lv_lload_n C.1.1 C.1.2.1 d rfl (hl.at (i := 0) rfl) (h C H locs ls hr hs hl)
theorem V_lstore_0 (pc : Nat) {b b2 : Option Value} {r : List (Option Value)} {x : Int64} (d : decode cc pc = .ok (.lstore_n 0, 1)) (hn : 1 < μ.1) (h : V M Γ μ cc Q k sl S (pc + 1) (some (.long x) :: none :: r) st) : V M Γ μ cc Q k sl S pc (b :: b2 :: r) (.long x :: st) := fun C H locs ls hr hs hl => lv_lstore_n C.1.1 C.1.2.1 d rfl hl hn rfl (fun ls2 hl2 => h C H locs ls2 hr hs (lv_st2 (fun j w e q => absurd e (Nat.succ_ne_zero j)) (fun j w q => by rcases Nat.lt_trichotomy j 0 with g | g | g
  · exact Or.inr ⟨Nat.ne_of_lt g, by omega, by revert q; omega⟩
  · subst g; exact Or.inl ⟨rfl, (Option.some.inj (Option.some.inj q)).symm⟩
  · rcases Nat.lt_or_ge 1 j with g2 | g2
    · obtain ⟨j2, rfl⟩ : ∃ j2, j = j2 + 2 := ⟨j - 2, by omega⟩
      exact Or.inr ⟨by omega, by omega, q⟩
    · cases (show j = 1 by omega); cases (Option.some.inj q)) rfl hl2))
theorem V_aload_0 (pc : Nat) {r : List (Option Value)} {x : Nat} (d : decode cc pc = .ok (.aload_n 0, 1)) (h : V M Γ μ cc Q k sl S (pc + 1) (some (.ref x) :: r) (.ref x :: st)) : V M Γ μ cc Q k sl S pc (some (.ref x) :: r) st := fun C H locs ls hr hs hl => lv_aload_n C.1.1 C.1.2.1 d rfl (hl.at (i := 0) rfl) (h C H locs ls hr hs hl)
theorem V_astore_0 (pc : Nat) {b : Option Value} {r : List (Option Value)} {x : Nat} (d : decode cc pc = .ok (.astore_n 0, 1)) (hn : 0 < μ.1) (h : V M Γ μ cc Q k sl S (pc + 1) (some (.ref x) :: r) st) : V M Γ μ cc Q k sl S pc (b :: r) (.ref x :: st) := fun C H locs ls hr hs hl => lv_astore_n C.1.1 C.1.2.1 d rfl hl hn rfl (fun ls2 hl2 => h C H locs ls2 hr hs (lv_st1 (fun j w e q => absurd e (Nat.succ_ne_zero j)) (fun j w q => by rcases Nat.lt_trichotomy j 0 with g | g | g
  · exact Or.inr ⟨Nat.ne_of_lt g, by revert q; omega⟩
  · subst g; exact Or.inl ⟨rfl, (Option.some.inj (Option.some.inj q)).symm⟩
  · obtain ⟨j2, rfl⟩ : ∃ j2, j = j2 + 1 := ⟨j - 1, by omega⟩
    exact Or.inr ⟨by omega, q⟩) rfl hl2))
theorem V_iinc_0 (pc : Nat) {r : List (Option Value)} {n : Int} (v : Int32) {x : Int32} (d : decode cc pc = .ok (.iinc 0 n, 3)) (hv : Int32.ofInt n = v) (hn : 0 < μ.1) (h : V M Γ μ cc Q k sl S (pc + 3) (some (.int (x + v)) :: r) st) : V M Γ μ cc Q k sl S pc (some (.int x) :: r) st := fun C H locs ls hr hs hl => by
  obtain ⟨k0, hk0⟩ := List.getElem?_of_mem (show (0, Value.int x) ∈ lvL 0 (some (.int x) :: r) by simpa using lvL_get (some (.int x) :: r) 0 0 (.int x) rfl)
  exact lv_iinc C.1.1 C.1.2.1 d hl hk0 (by rw [hv]) hn rfl (fun ls2 hl2 => h C H locs ls2 hr hs (lv_st1 (fun j w e q => absurd e (Nat.succ_ne_zero j)) (fun j w q => by rcases Nat.lt_trichotomy j 0 with g | g | g
  · exact Or.inr ⟨Nat.ne_of_lt g, by revert q; omega⟩
  · subst g; exact Or.inl ⟨rfl, (Option.some.inj (Option.some.inj q)).symm⟩
  · obtain ⟨j2, rfl⟩ : ∃ j2, j = j2 + 1 := ⟨j - 1, by omega⟩
    exact Or.inr ⟨by omega, q⟩) rfl hl2))
theorem V_iload_1 (pc : Nat) {a0 : Option Value} {r : List (Option Value)} {x : Int32} (d : decode cc pc = .ok (.iload_n 1, 1)) (h : V M Γ μ cc Q k sl S (pc + 1) (a0 :: some (.int x) :: r) (.int x :: st)) : V M Γ μ cc Q k sl S pc (a0 :: some (.int x) :: r) st := fun C H locs ls hr hs hl => lv_iload_n C.1.1 C.1.2.1 d rfl (hl.at (i := 1) rfl) (h C H locs ls hr hs hl)
theorem V_istore_1 (pc : Nat) {a0 : Option Value} {b : Option Value} {r : List (Option Value)} {x : Int32} (d : decode cc pc = .ok (.istore_n 1, 1)) (hc : c1 a0 = true) (hn : 1 < μ.1) (h : V M Γ μ cc Q k sl S (pc + 1) (a0 :: some (.int x) :: r) st) : V M Γ μ cc Q k sl S pc (a0 :: b :: r) (.int x :: st) := fun C H locs ls hr hs hl => lv_istore_n C.1.1 C.1.2.1 d rfl hl hn rfl (fun ls2 hl2 => h C H locs ls2 hr hs (lv_st1 (fun j w e q => by cases (Nat.succ.inj e : j = 0); exact c1_ok hc (Option.some.inj q)) (fun j w q => by rcases Nat.lt_trichotomy j 1 with g | g | g
  · exact Or.inr ⟨Nat.ne_of_lt g, by revert q; rcases (show j = 0 by omega) with rfl <;> exact id⟩
  · subst g; exact Or.inl ⟨rfl, (Option.some.inj (Option.some.inj q)).symm⟩
  · obtain ⟨j2, rfl⟩ : ∃ j2, j = j2 + 2 := ⟨j - 2, by omega⟩
    exact Or.inr ⟨by omega, q⟩) rfl hl2))
theorem V_lload_1 (pc : Nat) {a0 : Option Value} {r : List (Option Value)} {x : Int64} (d : decode cc pc = .ok (.lload_n 1, 1)) (h : V M Γ μ cc Q k sl S (pc + 1) (a0 :: some (.long x) :: r) (.long x :: st)) : V M Γ μ cc Q k sl S pc (a0 :: some (.long x) :: r) st := fun C H locs ls hr hs hl => lv_lload_n C.1.1 C.1.2.1 d rfl (hl.at (i := 1) rfl) (h C H locs ls hr hs hl)
theorem V_lstore_1 (pc : Nat) {a0 : Option Value} {b b2 : Option Value} {r : List (Option Value)} {x : Int64} (d : decode cc pc = .ok (.lstore_n 1, 1)) (hc : c1 a0 = true) (hn : 2 < μ.1) (h : V M Γ μ cc Q k sl S (pc + 1) (a0 :: some (.long x) :: none :: r) st) : V M Γ μ cc Q k sl S pc (a0 :: b :: b2 :: r) (.long x :: st) := fun C H locs ls hr hs hl => lv_lstore_n C.1.1 C.1.2.1 d rfl hl hn rfl (fun ls2 hl2 => h C H locs ls2 hr hs (lv_st2 (fun j w e q => by cases (Nat.succ.inj e : j = 0); exact c1_ok hc (Option.some.inj q)) (fun j w q => by rcases Nat.lt_trichotomy j 1 with g | g | g
  · exact Or.inr ⟨Nat.ne_of_lt g, by omega, by revert q; rcases (show j = 0 by omega) with rfl <;> exact id⟩
  · subst g; exact Or.inl ⟨rfl, (Option.some.inj (Option.some.inj q)).symm⟩
  · rcases Nat.lt_or_ge 2 j with g2 | g2
    · obtain ⟨j2, rfl⟩ : ∃ j2, j = j2 + 3 := ⟨j - 3, by omega⟩
      exact Or.inr ⟨by omega, by omega, q⟩
    · cases (show j = 2 by omega); cases (Option.some.inj q)) rfl hl2))
theorem V_aload_1 (pc : Nat) {a0 : Option Value} {r : List (Option Value)} {x : Nat} (d : decode cc pc = .ok (.aload_n 1, 1)) (h : V M Γ μ cc Q k sl S (pc + 1) (a0 :: some (.ref x) :: r) (.ref x :: st)) : V M Γ μ cc Q k sl S pc (a0 :: some (.ref x) :: r) st := fun C H locs ls hr hs hl => lv_aload_n C.1.1 C.1.2.1 d rfl (hl.at (i := 1) rfl) (h C H locs ls hr hs hl)
theorem V_astore_1 (pc : Nat) {a0 : Option Value} {b : Option Value} {r : List (Option Value)} {x : Nat} (d : decode cc pc = .ok (.astore_n 1, 1)) (hc : c1 a0 = true) (hn : 1 < μ.1) (h : V M Γ μ cc Q k sl S (pc + 1) (a0 :: some (.ref x) :: r) st) : V M Γ μ cc Q k sl S pc (a0 :: b :: r) (.ref x :: st) := fun C H locs ls hr hs hl => lv_astore_n C.1.1 C.1.2.1 d rfl hl hn rfl (fun ls2 hl2 => h C H locs ls2 hr hs (lv_st1 (fun j w e q => by cases (Nat.succ.inj e : j = 0); exact c1_ok hc (Option.some.inj q)) (fun j w q => by rcases Nat.lt_trichotomy j 1 with g | g | g
  · exact Or.inr ⟨Nat.ne_of_lt g, by revert q; rcases (show j = 0 by omega) with rfl <;> exact id⟩
  · subst g; exact Or.inl ⟨rfl, (Option.some.inj (Option.some.inj q)).symm⟩
  · obtain ⟨j2, rfl⟩ : ∃ j2, j = j2 + 2 := ⟨j - 2, by omega⟩
    exact Or.inr ⟨by omega, q⟩) rfl hl2))
theorem V_iinc_1 (pc : Nat) {a0 : Option Value} {r : List (Option Value)} {n : Int} (v : Int32) {x : Int32} (d : decode cc pc = .ok (.iinc 1 n, 3)) (hv : Int32.ofInt n = v) (hc : c1 a0 = true) (hn : 1 < μ.1) (h : V M Γ μ cc Q k sl S (pc + 3) (a0 :: some (.int (x + v)) :: r) st) : V M Γ μ cc Q k sl S pc (a0 :: some (.int x) :: r) st := fun C H locs ls hr hs hl => by
  obtain ⟨k0, hk0⟩ := List.getElem?_of_mem (show (1, Value.int x) ∈ lvL 0 (a0 :: some (.int x) :: r) by simpa using lvL_get (a0 :: some (.int x) :: r) 0 1 (.int x) rfl)
  exact lv_iinc C.1.1 C.1.2.1 d hl hk0 (by rw [hv]) hn rfl (fun ls2 hl2 => h C H locs ls2 hr hs (lv_st1 (fun j w e q => by cases (Nat.succ.inj e : j = 0); exact c1_ok hc (Option.some.inj q)) (fun j w q => by rcases Nat.lt_trichotomy j 1 with g | g | g
  · exact Or.inr ⟨Nat.ne_of_lt g, by revert q; rcases (show j = 0 by omega) with rfl <;> exact id⟩
  · subst g; exact Or.inl ⟨rfl, (Option.some.inj (Option.some.inj q)).symm⟩
  · obtain ⟨j2, rfl⟩ : ∃ j2, j = j2 + 2 := ⟨j - 2, by omega⟩
    exact Or.inr ⟨by omega, q⟩) rfl hl2))
theorem V_iload_2 (pc : Nat) {a0 a1 : Option Value} {r : List (Option Value)} {x : Int32} (d : decode cc pc = .ok (.iload_n 2, 1)) (h : V M Γ μ cc Q k sl S (pc + 1) (a0 :: a1 :: some (.int x) :: r) (.int x :: st)) : V M Γ μ cc Q k sl S pc (a0 :: a1 :: some (.int x) :: r) st := fun C H locs ls hr hs hl => lv_iload_n C.1.1 C.1.2.1 d rfl (hl.at (i := 2) rfl) (h C H locs ls hr hs hl)
theorem V_istore_2 (pc : Nat) {a0 a1 : Option Value} {b : Option Value} {r : List (Option Value)} {x : Int32} (d : decode cc pc = .ok (.istore_n 2, 1)) (hc : c1 a1 = true) (hn : 2 < μ.1) (h : V M Γ μ cc Q k sl S (pc + 1) (a0 :: a1 :: some (.int x) :: r) st) : V M Γ μ cc Q k sl S pc (a0 :: a1 :: b :: r) (.int x :: st) := fun C H locs ls hr hs hl => lv_istore_n C.1.1 C.1.2.1 d rfl hl hn rfl (fun ls2 hl2 => h C H locs ls2 hr hs (lv_st1 (fun j w e q => by cases (Nat.succ.inj e : j = 1); exact c1_ok hc (Option.some.inj q)) (fun j w q => by rcases Nat.lt_trichotomy j 2 with g | g | g
  · exact Or.inr ⟨Nat.ne_of_lt g, by revert q; rcases (show j = 0 ∨ j = 1 by omega) with rfl | rfl <;> exact id⟩
  · subst g; exact Or.inl ⟨rfl, (Option.some.inj (Option.some.inj q)).symm⟩
  · obtain ⟨j2, rfl⟩ : ∃ j2, j = j2 + 3 := ⟨j - 3, by omega⟩
    exact Or.inr ⟨by omega, q⟩) rfl hl2))
theorem V_lload_2 (pc : Nat) {a0 a1 : Option Value} {r : List (Option Value)} {x : Int64} (d : decode cc pc = .ok (.lload_n 2, 1)) (h : V M Γ μ cc Q k sl S (pc + 1) (a0 :: a1 :: some (.long x) :: r) (.long x :: st)) : V M Γ μ cc Q k sl S pc (a0 :: a1 :: some (.long x) :: r) st := fun C H locs ls hr hs hl => lv_lload_n C.1.1 C.1.2.1 d rfl (hl.at (i := 2) rfl) (h C H locs ls hr hs hl)
theorem V_lstore_2 (pc : Nat) {a0 a1 : Option Value} {b b2 : Option Value} {r : List (Option Value)} {x : Int64} (d : decode cc pc = .ok (.lstore_n 2, 1)) (hc : c1 a1 = true) (hn : 3 < μ.1) (h : V M Γ μ cc Q k sl S (pc + 1) (a0 :: a1 :: some (.long x) :: none :: r) st) : V M Γ μ cc Q k sl S pc (a0 :: a1 :: b :: b2 :: r) (.long x :: st) := fun C H locs ls hr hs hl => lv_lstore_n C.1.1 C.1.2.1 d rfl hl hn rfl (fun ls2 hl2 => h C H locs ls2 hr hs (lv_st2 (fun j w e q => by cases (Nat.succ.inj e : j = 1); exact c1_ok hc (Option.some.inj q)) (fun j w q => by rcases Nat.lt_trichotomy j 2 with g | g | g
  · exact Or.inr ⟨Nat.ne_of_lt g, by omega, by revert q; rcases (show j = 0 ∨ j = 1 by omega) with rfl | rfl <;> exact id⟩
  · subst g; exact Or.inl ⟨rfl, (Option.some.inj (Option.some.inj q)).symm⟩
  · rcases Nat.lt_or_ge 3 j with g2 | g2
    · obtain ⟨j2, rfl⟩ : ∃ j2, j = j2 + 4 := ⟨j - 4, by omega⟩
      exact Or.inr ⟨by omega, by omega, q⟩
    · cases (show j = 3 by omega); cases (Option.some.inj q)) rfl hl2))
theorem V_aload_2 (pc : Nat) {a0 a1 : Option Value} {r : List (Option Value)} {x : Nat} (d : decode cc pc = .ok (.aload_n 2, 1)) (h : V M Γ μ cc Q k sl S (pc + 1) (a0 :: a1 :: some (.ref x) :: r) (.ref x :: st)) : V M Γ μ cc Q k sl S pc (a0 :: a1 :: some (.ref x) :: r) st := fun C H locs ls hr hs hl => lv_aload_n C.1.1 C.1.2.1 d rfl (hl.at (i := 2) rfl) (h C H locs ls hr hs hl)
theorem V_astore_2 (pc : Nat) {a0 a1 : Option Value} {b : Option Value} {r : List (Option Value)} {x : Nat} (d : decode cc pc = .ok (.astore_n 2, 1)) (hc : c1 a1 = true) (hn : 2 < μ.1) (h : V M Γ μ cc Q k sl S (pc + 1) (a0 :: a1 :: some (.ref x) :: r) st) : V M Γ μ cc Q k sl S pc (a0 :: a1 :: b :: r) (.ref x :: st) := fun C H locs ls hr hs hl => lv_astore_n C.1.1 C.1.2.1 d rfl hl hn rfl (fun ls2 hl2 => h C H locs ls2 hr hs (lv_st1 (fun j w e q => by cases (Nat.succ.inj e : j = 1); exact c1_ok hc (Option.some.inj q)) (fun j w q => by rcases Nat.lt_trichotomy j 2 with g | g | g
  · exact Or.inr ⟨Nat.ne_of_lt g, by revert q; rcases (show j = 0 ∨ j = 1 by omega) with rfl | rfl <;> exact id⟩
  · subst g; exact Or.inl ⟨rfl, (Option.some.inj (Option.some.inj q)).symm⟩
  · obtain ⟨j2, rfl⟩ : ∃ j2, j = j2 + 3 := ⟨j - 3, by omega⟩
    exact Or.inr ⟨by omega, q⟩) rfl hl2))
theorem V_iinc_2 (pc : Nat) {a0 a1 : Option Value} {r : List (Option Value)} {n : Int} (v : Int32) {x : Int32} (d : decode cc pc = .ok (.iinc 2 n, 3)) (hv : Int32.ofInt n = v) (hc : c1 a1 = true) (hn : 2 < μ.1) (h : V M Γ μ cc Q k sl S (pc + 3) (a0 :: a1 :: some (.int (x + v)) :: r) st) : V M Γ μ cc Q k sl S pc (a0 :: a1 :: some (.int x) :: r) st := fun C H locs ls hr hs hl => by
  obtain ⟨k0, hk0⟩ := List.getElem?_of_mem (show (2, Value.int x) ∈ lvL 0 (a0 :: a1 :: some (.int x) :: r) by simpa using lvL_get (a0 :: a1 :: some (.int x) :: r) 0 2 (.int x) rfl)
  exact lv_iinc C.1.1 C.1.2.1 d hl hk0 (by rw [hv]) hn rfl (fun ls2 hl2 => h C H locs ls2 hr hs (lv_st1 (fun j w e q => by cases (Nat.succ.inj e : j = 1); exact c1_ok hc (Option.some.inj q)) (fun j w q => by rcases Nat.lt_trichotomy j 2 with g | g | g
  · exact Or.inr ⟨Nat.ne_of_lt g, by revert q; rcases (show j = 0 ∨ j = 1 by omega) with rfl | rfl <;> exact id⟩
  · subst g; exact Or.inl ⟨rfl, (Option.some.inj (Option.some.inj q)).symm⟩
  · obtain ⟨j2, rfl⟩ : ∃ j2, j = j2 + 3 := ⟨j - 3, by omega⟩
    exact Or.inr ⟨by omega, q⟩) rfl hl2))
theorem V_iload_3 (pc : Nat) {a0 a1 a2 : Option Value} {r : List (Option Value)} {x : Int32} (d : decode cc pc = .ok (.iload_n 3, 1)) (h : V M Γ μ cc Q k sl S (pc + 1) (a0 :: a1 :: a2 :: some (.int x) :: r) (.int x :: st)) : V M Γ μ cc Q k sl S pc (a0 :: a1 :: a2 :: some (.int x) :: r) st := fun C H locs ls hr hs hl => lv_iload_n C.1.1 C.1.2.1 d rfl (hl.at (i := 3) rfl) (h C H locs ls hr hs hl)
theorem V_istore_3 (pc : Nat) {a0 a1 a2 : Option Value} {b : Option Value} {r : List (Option Value)} {x : Int32} (d : decode cc pc = .ok (.istore_n 3, 1)) (hc : c1 a2 = true) (hn : 3 < μ.1) (h : V M Γ μ cc Q k sl S (pc + 1) (a0 :: a1 :: a2 :: some (.int x) :: r) st) : V M Γ μ cc Q k sl S pc (a0 :: a1 :: a2 :: b :: r) (.int x :: st) := fun C H locs ls hr hs hl => lv_istore_n C.1.1 C.1.2.1 d rfl hl hn rfl (fun ls2 hl2 => h C H locs ls2 hr hs (lv_st1 (fun j w e q => by cases (Nat.succ.inj e : j = 2); exact c1_ok hc (Option.some.inj q)) (fun j w q => by rcases Nat.lt_trichotomy j 3 with g | g | g
  · exact Or.inr ⟨Nat.ne_of_lt g, by revert q; rcases (show j = 0 ∨ j = 1 ∨ j = 2 by omega) with rfl | rfl | rfl <;> exact id⟩
  · subst g; exact Or.inl ⟨rfl, (Option.some.inj (Option.some.inj q)).symm⟩
  · obtain ⟨j2, rfl⟩ : ∃ j2, j = j2 + 4 := ⟨j - 4, by omega⟩
    exact Or.inr ⟨by omega, q⟩) rfl hl2))
theorem V_lload_3 (pc : Nat) {a0 a1 a2 : Option Value} {r : List (Option Value)} {x : Int64} (d : decode cc pc = .ok (.lload_n 3, 1)) (h : V M Γ μ cc Q k sl S (pc + 1) (a0 :: a1 :: a2 :: some (.long x) :: r) (.long x :: st)) : V M Γ μ cc Q k sl S pc (a0 :: a1 :: a2 :: some (.long x) :: r) st := fun C H locs ls hr hs hl => lv_lload_n C.1.1 C.1.2.1 d rfl (hl.at (i := 3) rfl) (h C H locs ls hr hs hl)
theorem V_lstore_3 (pc : Nat) {a0 a1 a2 : Option Value} {b b2 : Option Value} {r : List (Option Value)} {x : Int64} (d : decode cc pc = .ok (.lstore_n 3, 1)) (hc : c1 a2 = true) (hn : 4 < μ.1) (h : V M Γ μ cc Q k sl S (pc + 1) (a0 :: a1 :: a2 :: some (.long x) :: none :: r) st) : V M Γ μ cc Q k sl S pc (a0 :: a1 :: a2 :: b :: b2 :: r) (.long x :: st) := fun C H locs ls hr hs hl => lv_lstore_n C.1.1 C.1.2.1 d rfl hl hn rfl (fun ls2 hl2 => h C H locs ls2 hr hs (lv_st2 (fun j w e q => by cases (Nat.succ.inj e : j = 2); exact c1_ok hc (Option.some.inj q)) (fun j w q => by rcases Nat.lt_trichotomy j 3 with g | g | g
  · exact Or.inr ⟨Nat.ne_of_lt g, by omega, by revert q; rcases (show j = 0 ∨ j = 1 ∨ j = 2 by omega) with rfl | rfl | rfl <;> exact id⟩
  · subst g; exact Or.inl ⟨rfl, (Option.some.inj (Option.some.inj q)).symm⟩
  · rcases Nat.lt_or_ge 4 j with g2 | g2
    · obtain ⟨j2, rfl⟩ : ∃ j2, j = j2 + 5 := ⟨j - 5, by omega⟩
      exact Or.inr ⟨by omega, by omega, q⟩
    · cases (show j = 4 by omega); cases (Option.some.inj q)) rfl hl2))
theorem V_aload_3 (pc : Nat) {a0 a1 a2 : Option Value} {r : List (Option Value)} {x : Nat} (d : decode cc pc = .ok (.aload_n 3, 1)) (h : V M Γ μ cc Q k sl S (pc + 1) (a0 :: a1 :: a2 :: some (.ref x) :: r) (.ref x :: st)) : V M Γ μ cc Q k sl S pc (a0 :: a1 :: a2 :: some (.ref x) :: r) st := fun C H locs ls hr hs hl => lv_aload_n C.1.1 C.1.2.1 d rfl (hl.at (i := 3) rfl) (h C H locs ls hr hs hl)
theorem V_astore_3 (pc : Nat) {a0 a1 a2 : Option Value} {b : Option Value} {r : List (Option Value)} {x : Nat} (d : decode cc pc = .ok (.astore_n 3, 1)) (hc : c1 a2 = true) (hn : 3 < μ.1) (h : V M Γ μ cc Q k sl S (pc + 1) (a0 :: a1 :: a2 :: some (.ref x) :: r) st) : V M Γ μ cc Q k sl S pc (a0 :: a1 :: a2 :: b :: r) (.ref x :: st) := fun C H locs ls hr hs hl => lv_astore_n C.1.1 C.1.2.1 d rfl hl hn rfl (fun ls2 hl2 => h C H locs ls2 hr hs (lv_st1 (fun j w e q => by cases (Nat.succ.inj e : j = 2); exact c1_ok hc (Option.some.inj q)) (fun j w q => by rcases Nat.lt_trichotomy j 3 with g | g | g
  · exact Or.inr ⟨Nat.ne_of_lt g, by revert q; rcases (show j = 0 ∨ j = 1 ∨ j = 2 by omega) with rfl | rfl | rfl <;> exact id⟩
  · subst g; exact Or.inl ⟨rfl, (Option.some.inj (Option.some.inj q)).symm⟩
  · obtain ⟨j2, rfl⟩ : ∃ j2, j = j2 + 4 := ⟨j - 4, by omega⟩
    exact Or.inr ⟨by omega, q⟩) rfl hl2))
theorem V_iinc_3 (pc : Nat) {a0 a1 a2 : Option Value} {r : List (Option Value)} {n : Int} (v : Int32) {x : Int32} (d : decode cc pc = .ok (.iinc 3 n, 3)) (hv : Int32.ofInt n = v) (hc : c1 a2 = true) (hn : 3 < μ.1) (h : V M Γ μ cc Q k sl S (pc + 3) (a0 :: a1 :: a2 :: some (.int (x + v)) :: r) st) : V M Γ μ cc Q k sl S pc (a0 :: a1 :: a2 :: some (.int x) :: r) st := fun C H locs ls hr hs hl => by
  obtain ⟨k0, hk0⟩ := List.getElem?_of_mem (show (3, Value.int x) ∈ lvL 0 (a0 :: a1 :: a2 :: some (.int x) :: r) by simpa using lvL_get (a0 :: a1 :: a2 :: some (.int x) :: r) 0 3 (.int x) rfl)
  exact lv_iinc C.1.1 C.1.2.1 d hl hk0 (by rw [hv]) hn rfl (fun ls2 hl2 => h C H locs ls2 hr hs (lv_st1 (fun j w e q => by cases (Nat.succ.inj e : j = 2); exact c1_ok hc (Option.some.inj q)) (fun j w q => by rcases Nat.lt_trichotomy j 3 with g | g | g
  · exact Or.inr ⟨Nat.ne_of_lt g, by revert q; rcases (show j = 0 ∨ j = 1 ∨ j = 2 by omega) with rfl | rfl | rfl <;> exact id⟩
  · subst g; exact Or.inl ⟨rfl, (Option.some.inj (Option.some.inj q)).symm⟩
  · obtain ⟨j2, rfl⟩ : ∃ j2, j = j2 + 4 := ⟨j - 4, by omega⟩
    exact Or.inr ⟨by omega, q⟩) rfl hl2))
theorem V_iload_4 (pc : Nat) {a0 a1 a2 a3 : Option Value} {r : List (Option Value)} {x : Int32} (d : decode cc pc = .ok (.iload 4, 2)) (h : V M Γ μ cc Q k sl S (pc + 2) (a0 :: a1 :: a2 :: a3 :: some (.int x) :: r) (.int x :: st)) : V M Γ μ cc Q k sl S pc (a0 :: a1 :: a2 :: a3 :: some (.int x) :: r) st := fun C H locs ls hr hs hl => lv_iload C.1.1 C.1.2.1 d (hl.at (i := 4) rfl) (h C H locs ls hr hs hl)
theorem V_istore_4 (pc : Nat) {a0 a1 a2 a3 : Option Value} {b : Option Value} {r : List (Option Value)} {x : Int32} (d : decode cc pc = .ok (.istore 4, 2)) (hc : c1 a3 = true) (hn : 4 < μ.1) (h : V M Γ μ cc Q k sl S (pc + 2) (a0 :: a1 :: a2 :: a3 :: some (.int x) :: r) st) : V M Γ μ cc Q k sl S pc (a0 :: a1 :: a2 :: a3 :: b :: r) (.int x :: st) := fun C H locs ls hr hs hl => lv_istore C.1.1 C.1.2.1 d hl hn rfl (fun ls2 hl2 => h C H locs ls2 hr hs (lv_st1 (fun j w e q => by cases (Nat.succ.inj e : j = 3); exact c1_ok hc (Option.some.inj q)) (fun j w q => by rcases Nat.lt_trichotomy j 4 with g | g | g
  · exact Or.inr ⟨Nat.ne_of_lt g, by revert q; rcases (show j = 0 ∨ j = 1 ∨ j = 2 ∨ j = 3 by omega) with rfl | rfl | rfl | rfl <;> exact id⟩
  · subst g; exact Or.inl ⟨rfl, (Option.some.inj (Option.some.inj q)).symm⟩
  · obtain ⟨j2, rfl⟩ : ∃ j2, j = j2 + 5 := ⟨j - 5, by omega⟩
    exact Or.inr ⟨by omega, q⟩) rfl hl2))
theorem V_lload_4 (pc : Nat) {a0 a1 a2 a3 : Option Value} {r : List (Option Value)} {x : Int64} (d : decode cc pc = .ok (.lload 4, 2)) (h : V M Γ μ cc Q k sl S (pc + 2) (a0 :: a1 :: a2 :: a3 :: some (.long x) :: r) (.long x :: st)) : V M Γ μ cc Q k sl S pc (a0 :: a1 :: a2 :: a3 :: some (.long x) :: r) st := fun C H locs ls hr hs hl => lv_lload C.1.1 C.1.2.1 d (hl.at (i := 4) rfl) (h C H locs ls hr hs hl)
theorem V_lstore_4 (pc : Nat) {a0 a1 a2 a3 : Option Value} {b b2 : Option Value} {r : List (Option Value)} {x : Int64} (d : decode cc pc = .ok (.lstore 4, 2)) (hc : c1 a3 = true) (hn : 5 < μ.1) (h : V M Γ μ cc Q k sl S (pc + 2) (a0 :: a1 :: a2 :: a3 :: some (.long x) :: none :: r) st) : V M Γ μ cc Q k sl S pc (a0 :: a1 :: a2 :: a3 :: b :: b2 :: r) (.long x :: st) := fun C H locs ls hr hs hl => lv_lstore C.1.1 C.1.2.1 d hl hn rfl (fun ls2 hl2 => h C H locs ls2 hr hs (lv_st2 (fun j w e q => by cases (Nat.succ.inj e : j = 3); exact c1_ok hc (Option.some.inj q)) (fun j w q => by rcases Nat.lt_trichotomy j 4 with g | g | g
  · exact Or.inr ⟨Nat.ne_of_lt g, by omega, by revert q; rcases (show j = 0 ∨ j = 1 ∨ j = 2 ∨ j = 3 by omega) with rfl | rfl | rfl | rfl <;> exact id⟩
  · subst g; exact Or.inl ⟨rfl, (Option.some.inj (Option.some.inj q)).symm⟩
  · rcases Nat.lt_or_ge 5 j with g2 | g2
    · obtain ⟨j2, rfl⟩ : ∃ j2, j = j2 + 6 := ⟨j - 6, by omega⟩
      exact Or.inr ⟨by omega, by omega, q⟩
    · cases (show j = 5 by omega); cases (Option.some.inj q)) rfl hl2))
theorem V_aload_4 (pc : Nat) {a0 a1 a2 a3 : Option Value} {r : List (Option Value)} {x : Nat} (d : decode cc pc = .ok (.aload 4, 2)) (h : V M Γ μ cc Q k sl S (pc + 2) (a0 :: a1 :: a2 :: a3 :: some (.ref x) :: r) (.ref x :: st)) : V M Γ μ cc Q k sl S pc (a0 :: a1 :: a2 :: a3 :: some (.ref x) :: r) st := fun C H locs ls hr hs hl => lv_aload C.1.1 C.1.2.1 d (hl.at (i := 4) rfl) (h C H locs ls hr hs hl)
theorem V_astore_4 (pc : Nat) {a0 a1 a2 a3 : Option Value} {b : Option Value} {r : List (Option Value)} {x : Nat} (d : decode cc pc = .ok (.astore 4, 2)) (hc : c1 a3 = true) (hn : 4 < μ.1) (h : V M Γ μ cc Q k sl S (pc + 2) (a0 :: a1 :: a2 :: a3 :: some (.ref x) :: r) st) : V M Γ μ cc Q k sl S pc (a0 :: a1 :: a2 :: a3 :: b :: r) (.ref x :: st) := fun C H locs ls hr hs hl => lv_astore C.1.1 C.1.2.1 d hl hn rfl (fun ls2 hl2 => h C H locs ls2 hr hs (lv_st1 (fun j w e q => by cases (Nat.succ.inj e : j = 3); exact c1_ok hc (Option.some.inj q)) (fun j w q => by rcases Nat.lt_trichotomy j 4 with g | g | g
  · exact Or.inr ⟨Nat.ne_of_lt g, by revert q; rcases (show j = 0 ∨ j = 1 ∨ j = 2 ∨ j = 3 by omega) with rfl | rfl | rfl | rfl <;> exact id⟩
  · subst g; exact Or.inl ⟨rfl, (Option.some.inj (Option.some.inj q)).symm⟩
  · obtain ⟨j2, rfl⟩ : ∃ j2, j = j2 + 5 := ⟨j - 5, by omega⟩
    exact Or.inr ⟨by omega, q⟩) rfl hl2))
theorem V_iinc_4 (pc : Nat) {a0 a1 a2 a3 : Option Value} {r : List (Option Value)} {n : Int} (v : Int32) {x : Int32} (d : decode cc pc = .ok (.iinc 4 n, 3)) (hv : Int32.ofInt n = v) (hc : c1 a3 = true) (hn : 4 < μ.1) (h : V M Γ μ cc Q k sl S (pc + 3) (a0 :: a1 :: a2 :: a3 :: some (.int (x + v)) :: r) st) : V M Γ μ cc Q k sl S pc (a0 :: a1 :: a2 :: a3 :: some (.int x) :: r) st := fun C H locs ls hr hs hl => by
  obtain ⟨k0, hk0⟩ := List.getElem?_of_mem (show (4, Value.int x) ∈ lvL 0 (a0 :: a1 :: a2 :: a3 :: some (.int x) :: r) by simpa using lvL_get (a0 :: a1 :: a2 :: a3 :: some (.int x) :: r) 0 4 (.int x) rfl)
  exact lv_iinc C.1.1 C.1.2.1 d hl hk0 (by rw [hv]) hn rfl (fun ls2 hl2 => h C H locs ls2 hr hs (lv_st1 (fun j w e q => by cases (Nat.succ.inj e : j = 3); exact c1_ok hc (Option.some.inj q)) (fun j w q => by rcases Nat.lt_trichotomy j 4 with g | g | g
  · exact Or.inr ⟨Nat.ne_of_lt g, by revert q; rcases (show j = 0 ∨ j = 1 ∨ j = 2 ∨ j = 3 by omega) with rfl | rfl | rfl | rfl <;> exact id⟩
  · subst g; exact Or.inl ⟨rfl, (Option.some.inj (Option.some.inj q)).symm⟩
  · obtain ⟨j2, rfl⟩ : ∃ j2, j = j2 + 5 := ⟨j - 5, by omega⟩
    exact Or.inr ⟨by omega, q⟩) rfl hl2))
theorem V_iload_5 (pc : Nat) {a0 a1 a2 a3 a4 : Option Value} {r : List (Option Value)} {x : Int32} (d : decode cc pc = .ok (.iload 5, 2)) (h : V M Γ μ cc Q k sl S (pc + 2) (a0 :: a1 :: a2 :: a3 :: a4 :: some (.int x) :: r) (.int x :: st)) : V M Γ μ cc Q k sl S pc (a0 :: a1 :: a2 :: a3 :: a4 :: some (.int x) :: r) st := fun C H locs ls hr hs hl => lv_iload C.1.1 C.1.2.1 d (hl.at (i := 5) rfl) (h C H locs ls hr hs hl)
theorem V_istore_5 (pc : Nat) {a0 a1 a2 a3 a4 : Option Value} {b : Option Value} {r : List (Option Value)} {x : Int32} (d : decode cc pc = .ok (.istore 5, 2)) (hc : c1 a4 = true) (hn : 5 < μ.1) (h : V M Γ μ cc Q k sl S (pc + 2) (a0 :: a1 :: a2 :: a3 :: a4 :: some (.int x) :: r) st) : V M Γ μ cc Q k sl S pc (a0 :: a1 :: a2 :: a3 :: a4 :: b :: r) (.int x :: st) := fun C H locs ls hr hs hl => lv_istore C.1.1 C.1.2.1 d hl hn rfl (fun ls2 hl2 => h C H locs ls2 hr hs (lv_st1 (fun j w e q => by cases (Nat.succ.inj e : j = 4); exact c1_ok hc (Option.some.inj q)) (fun j w q => by rcases Nat.lt_trichotomy j 5 with g | g | g
  · exact Or.inr ⟨Nat.ne_of_lt g, by revert q; rcases (show j = 0 ∨ j = 1 ∨ j = 2 ∨ j = 3 ∨ j = 4 by omega) with rfl | rfl | rfl | rfl | rfl <;> exact id⟩
  · subst g; exact Or.inl ⟨rfl, (Option.some.inj (Option.some.inj q)).symm⟩
  · obtain ⟨j2, rfl⟩ : ∃ j2, j = j2 + 6 := ⟨j - 6, by omega⟩
    exact Or.inr ⟨by omega, q⟩) rfl hl2))
theorem V_lload_5 (pc : Nat) {a0 a1 a2 a3 a4 : Option Value} {r : List (Option Value)} {x : Int64} (d : decode cc pc = .ok (.lload 5, 2)) (h : V M Γ μ cc Q k sl S (pc + 2) (a0 :: a1 :: a2 :: a3 :: a4 :: some (.long x) :: r) (.long x :: st)) : V M Γ μ cc Q k sl S pc (a0 :: a1 :: a2 :: a3 :: a4 :: some (.long x) :: r) st := fun C H locs ls hr hs hl => lv_lload C.1.1 C.1.2.1 d (hl.at (i := 5) rfl) (h C H locs ls hr hs hl)
theorem V_lstore_5 (pc : Nat) {a0 a1 a2 a3 a4 : Option Value} {b b2 : Option Value} {r : List (Option Value)} {x : Int64} (d : decode cc pc = .ok (.lstore 5, 2)) (hc : c1 a4 = true) (hn : 6 < μ.1) (h : V M Γ μ cc Q k sl S (pc + 2) (a0 :: a1 :: a2 :: a3 :: a4 :: some (.long x) :: none :: r) st) : V M Γ μ cc Q k sl S pc (a0 :: a1 :: a2 :: a3 :: a4 :: b :: b2 :: r) (.long x :: st) := fun C H locs ls hr hs hl => lv_lstore C.1.1 C.1.2.1 d hl hn rfl (fun ls2 hl2 => h C H locs ls2 hr hs (lv_st2 (fun j w e q => by cases (Nat.succ.inj e : j = 4); exact c1_ok hc (Option.some.inj q)) (fun j w q => by rcases Nat.lt_trichotomy j 5 with g | g | g
  · exact Or.inr ⟨Nat.ne_of_lt g, by omega, by revert q; rcases (show j = 0 ∨ j = 1 ∨ j = 2 ∨ j = 3 ∨ j = 4 by omega) with rfl | rfl | rfl | rfl | rfl <;> exact id⟩
  · subst g; exact Or.inl ⟨rfl, (Option.some.inj (Option.some.inj q)).symm⟩
  · rcases Nat.lt_or_ge 6 j with g2 | g2
    · obtain ⟨j2, rfl⟩ : ∃ j2, j = j2 + 7 := ⟨j - 7, by omega⟩
      exact Or.inr ⟨by omega, by omega, q⟩
    · cases (show j = 6 by omega); cases (Option.some.inj q)) rfl hl2))
theorem V_aload_5 (pc : Nat) {a0 a1 a2 a3 a4 : Option Value} {r : List (Option Value)} {x : Nat} (d : decode cc pc = .ok (.aload 5, 2)) (h : V M Γ μ cc Q k sl S (pc + 2) (a0 :: a1 :: a2 :: a3 :: a4 :: some (.ref x) :: r) (.ref x :: st)) : V M Γ μ cc Q k sl S pc (a0 :: a1 :: a2 :: a3 :: a4 :: some (.ref x) :: r) st := fun C H locs ls hr hs hl => lv_aload C.1.1 C.1.2.1 d (hl.at (i := 5) rfl) (h C H locs ls hr hs hl)
theorem V_astore_5 (pc : Nat) {a0 a1 a2 a3 a4 : Option Value} {b : Option Value} {r : List (Option Value)} {x : Nat} (d : decode cc pc = .ok (.astore 5, 2)) (hc : c1 a4 = true) (hn : 5 < μ.1) (h : V M Γ μ cc Q k sl S (pc + 2) (a0 :: a1 :: a2 :: a3 :: a4 :: some (.ref x) :: r) st) : V M Γ μ cc Q k sl S pc (a0 :: a1 :: a2 :: a3 :: a4 :: b :: r) (.ref x :: st) := fun C H locs ls hr hs hl => lv_astore C.1.1 C.1.2.1 d hl hn rfl (fun ls2 hl2 => h C H locs ls2 hr hs (lv_st1 (fun j w e q => by cases (Nat.succ.inj e : j = 4); exact c1_ok hc (Option.some.inj q)) (fun j w q => by rcases Nat.lt_trichotomy j 5 with g | g | g
  · exact Or.inr ⟨Nat.ne_of_lt g, by revert q; rcases (show j = 0 ∨ j = 1 ∨ j = 2 ∨ j = 3 ∨ j = 4 by omega) with rfl | rfl | rfl | rfl | rfl <;> exact id⟩
  · subst g; exact Or.inl ⟨rfl, (Option.some.inj (Option.some.inj q)).symm⟩
  · obtain ⟨j2, rfl⟩ : ∃ j2, j = j2 + 6 := ⟨j - 6, by omega⟩
    exact Or.inr ⟨by omega, q⟩) rfl hl2))
theorem V_iinc_5 (pc : Nat) {a0 a1 a2 a3 a4 : Option Value} {r : List (Option Value)} {n : Int} (v : Int32) {x : Int32} (d : decode cc pc = .ok (.iinc 5 n, 3)) (hv : Int32.ofInt n = v) (hc : c1 a4 = true) (hn : 5 < μ.1) (h : V M Γ μ cc Q k sl S (pc + 3) (a0 :: a1 :: a2 :: a3 :: a4 :: some (.int (x + v)) :: r) st) : V M Γ μ cc Q k sl S pc (a0 :: a1 :: a2 :: a3 :: a4 :: some (.int x) :: r) st := fun C H locs ls hr hs hl => by
  obtain ⟨k0, hk0⟩ := List.getElem?_of_mem (show (5, Value.int x) ∈ lvL 0 (a0 :: a1 :: a2 :: a3 :: a4 :: some (.int x) :: r) by simpa using lvL_get (a0 :: a1 :: a2 :: a3 :: a4 :: some (.int x) :: r) 0 5 (.int x) rfl)
  exact lv_iinc C.1.1 C.1.2.1 d hl hk0 (by rw [hv]) hn rfl (fun ls2 hl2 => h C H locs ls2 hr hs (lv_st1 (fun j w e q => by cases (Nat.succ.inj e : j = 4); exact c1_ok hc (Option.some.inj q)) (fun j w q => by rcases Nat.lt_trichotomy j 5 with g | g | g
  · exact Or.inr ⟨Nat.ne_of_lt g, by revert q; rcases (show j = 0 ∨ j = 1 ∨ j = 2 ∨ j = 3 ∨ j = 4 by omega) with rfl | rfl | rfl | rfl | rfl <;> exact id⟩
  · subst g; exact Or.inl ⟨rfl, (Option.some.inj (Option.some.inj q)).symm⟩
  · obtain ⟨j2, rfl⟩ : ∃ j2, j = j2 + 6 := ⟨j - 6, by omega⟩
    exact Or.inr ⟨by omega, q⟩) rfl hl2))
theorem V_iload_6 (pc : Nat) {a0 a1 a2 a3 a4 a5 : Option Value} {r : List (Option Value)} {x : Int32} (d : decode cc pc = .ok (.iload 6, 2)) (h : V M Γ μ cc Q k sl S (pc + 2) (a0 :: a1 :: a2 :: a3 :: a4 :: a5 :: some (.int x) :: r) (.int x :: st)) : V M Γ μ cc Q k sl S pc (a0 :: a1 :: a2 :: a3 :: a4 :: a5 :: some (.int x) :: r) st := fun C H locs ls hr hs hl => lv_iload C.1.1 C.1.2.1 d (hl.at (i := 6) rfl) (h C H locs ls hr hs hl)
theorem V_istore_6 (pc : Nat) {a0 a1 a2 a3 a4 a5 : Option Value} {b : Option Value} {r : List (Option Value)} {x : Int32} (d : decode cc pc = .ok (.istore 6, 2)) (hc : c1 a5 = true) (hn : 6 < μ.1) (h : V M Γ μ cc Q k sl S (pc + 2) (a0 :: a1 :: a2 :: a3 :: a4 :: a5 :: some (.int x) :: r) st) : V M Γ μ cc Q k sl S pc (a0 :: a1 :: a2 :: a3 :: a4 :: a5 :: b :: r) (.int x :: st) := fun C H locs ls hr hs hl => lv_istore C.1.1 C.1.2.1 d hl hn rfl (fun ls2 hl2 => h C H locs ls2 hr hs (lv_st1 (fun j w e q => by cases (Nat.succ.inj e : j = 5); exact c1_ok hc (Option.some.inj q)) (fun j w q => by rcases Nat.lt_trichotomy j 6 with g | g | g
  · exact Or.inr ⟨Nat.ne_of_lt g, by revert q; rcases (show j = 0 ∨ j = 1 ∨ j = 2 ∨ j = 3 ∨ j = 4 ∨ j = 5 by omega) with rfl | rfl | rfl | rfl | rfl | rfl <;> exact id⟩
  · subst g; exact Or.inl ⟨rfl, (Option.some.inj (Option.some.inj q)).symm⟩
  · obtain ⟨j2, rfl⟩ : ∃ j2, j = j2 + 7 := ⟨j - 7, by omega⟩
    exact Or.inr ⟨by omega, q⟩) rfl hl2))
theorem V_lload_6 (pc : Nat) {a0 a1 a2 a3 a4 a5 : Option Value} {r : List (Option Value)} {x : Int64} (d : decode cc pc = .ok (.lload 6, 2)) (h : V M Γ μ cc Q k sl S (pc + 2) (a0 :: a1 :: a2 :: a3 :: a4 :: a5 :: some (.long x) :: r) (.long x :: st)) : V M Γ μ cc Q k sl S pc (a0 :: a1 :: a2 :: a3 :: a4 :: a5 :: some (.long x) :: r) st := fun C H locs ls hr hs hl => lv_lload C.1.1 C.1.2.1 d (hl.at (i := 6) rfl) (h C H locs ls hr hs hl)
theorem V_lstore_6 (pc : Nat) {a0 a1 a2 a3 a4 a5 : Option Value} {b b2 : Option Value} {r : List (Option Value)} {x : Int64} (d : decode cc pc = .ok (.lstore 6, 2)) (hc : c1 a5 = true) (hn : 7 < μ.1) (h : V M Γ μ cc Q k sl S (pc + 2) (a0 :: a1 :: a2 :: a3 :: a4 :: a5 :: some (.long x) :: none :: r) st) : V M Γ μ cc Q k sl S pc (a0 :: a1 :: a2 :: a3 :: a4 :: a5 :: b :: b2 :: r) (.long x :: st) := fun C H locs ls hr hs hl => lv_lstore C.1.1 C.1.2.1 d hl hn rfl (fun ls2 hl2 => h C H locs ls2 hr hs (lv_st2 (fun j w e q => by cases (Nat.succ.inj e : j = 5); exact c1_ok hc (Option.some.inj q)) (fun j w q => by rcases Nat.lt_trichotomy j 6 with g | g | g
  · exact Or.inr ⟨Nat.ne_of_lt g, by omega, by revert q; rcases (show j = 0 ∨ j = 1 ∨ j = 2 ∨ j = 3 ∨ j = 4 ∨ j = 5 by omega) with rfl | rfl | rfl | rfl | rfl | rfl <;> exact id⟩
  · subst g; exact Or.inl ⟨rfl, (Option.some.inj (Option.some.inj q)).symm⟩
  · rcases Nat.lt_or_ge 7 j with g2 | g2
    · obtain ⟨j2, rfl⟩ : ∃ j2, j = j2 + 8 := ⟨j - 8, by omega⟩
      exact Or.inr ⟨by omega, by omega, q⟩
    · cases (show j = 7 by omega); cases (Option.some.inj q)) rfl hl2))
theorem V_aload_6 (pc : Nat) {a0 a1 a2 a3 a4 a5 : Option Value} {r : List (Option Value)} {x : Nat} (d : decode cc pc = .ok (.aload 6, 2)) (h : V M Γ μ cc Q k sl S (pc + 2) (a0 :: a1 :: a2 :: a3 :: a4 :: a5 :: some (.ref x) :: r) (.ref x :: st)) : V M Γ μ cc Q k sl S pc (a0 :: a1 :: a2 :: a3 :: a4 :: a5 :: some (.ref x) :: r) st := fun C H locs ls hr hs hl => lv_aload C.1.1 C.1.2.1 d (hl.at (i := 6) rfl) (h C H locs ls hr hs hl)
theorem V_astore_6 (pc : Nat) {a0 a1 a2 a3 a4 a5 : Option Value} {b : Option Value} {r : List (Option Value)} {x : Nat} (d : decode cc pc = .ok (.astore 6, 2)) (hc : c1 a5 = true) (hn : 6 < μ.1) (h : V M Γ μ cc Q k sl S (pc + 2) (a0 :: a1 :: a2 :: a3 :: a4 :: a5 :: some (.ref x) :: r) st) : V M Γ μ cc Q k sl S pc (a0 :: a1 :: a2 :: a3 :: a4 :: a5 :: b :: r) (.ref x :: st) := fun C H locs ls hr hs hl => lv_astore C.1.1 C.1.2.1 d hl hn rfl (fun ls2 hl2 => h C H locs ls2 hr hs (lv_st1 (fun j w e q => by cases (Nat.succ.inj e : j = 5); exact c1_ok hc (Option.some.inj q)) (fun j w q => by rcases Nat.lt_trichotomy j 6 with g | g | g
  · exact Or.inr ⟨Nat.ne_of_lt g, by revert q; rcases (show j = 0 ∨ j = 1 ∨ j = 2 ∨ j = 3 ∨ j = 4 ∨ j = 5 by omega) with rfl | rfl | rfl | rfl | rfl | rfl <;> exact id⟩
  · subst g; exact Or.inl ⟨rfl, (Option.some.inj (Option.some.inj q)).symm⟩
  · obtain ⟨j2, rfl⟩ : ∃ j2, j = j2 + 7 := ⟨j - 7, by omega⟩
    exact Or.inr ⟨by omega, q⟩) rfl hl2))
theorem V_iinc_6 (pc : Nat) {a0 a1 a2 a3 a4 a5 : Option Value} {r : List (Option Value)} {n : Int} (v : Int32) {x : Int32} (d : decode cc pc = .ok (.iinc 6 n, 3)) (hv : Int32.ofInt n = v) (hc : c1 a5 = true) (hn : 6 < μ.1) (h : V M Γ μ cc Q k sl S (pc + 3) (a0 :: a1 :: a2 :: a3 :: a4 :: a5 :: some (.int (x + v)) :: r) st) : V M Γ μ cc Q k sl S pc (a0 :: a1 :: a2 :: a3 :: a4 :: a5 :: some (.int x) :: r) st := fun C H locs ls hr hs hl => by
  obtain ⟨k0, hk0⟩ := List.getElem?_of_mem (show (6, Value.int x) ∈ lvL 0 (a0 :: a1 :: a2 :: a3 :: a4 :: a5 :: some (.int x) :: r) by simpa using lvL_get (a0 :: a1 :: a2 :: a3 :: a4 :: a5 :: some (.int x) :: r) 0 6 (.int x) rfl)
  exact lv_iinc C.1.1 C.1.2.1 d hl hk0 (by rw [hv]) hn rfl (fun ls2 hl2 => h C H locs ls2 hr hs (lv_st1 (fun j w e q => by cases (Nat.succ.inj e : j = 5); exact c1_ok hc (Option.some.inj q)) (fun j w q => by rcases Nat.lt_trichotomy j 6 with g | g | g
  · exact Or.inr ⟨Nat.ne_of_lt g, by revert q; rcases (show j = 0 ∨ j = 1 ∨ j = 2 ∨ j = 3 ∨ j = 4 ∨ j = 5 by omega) with rfl | rfl | rfl | rfl | rfl | rfl <;> exact id⟩
  · subst g; exact Or.inl ⟨rfl, (Option.some.inj (Option.some.inj q)).symm⟩
  · obtain ⟨j2, rfl⟩ : ∃ j2, j = j2 + 7 := ⟨j - 7, by omega⟩
    exact Or.inr ⟨by omega, q⟩) rfl hl2))
theorem V_iload_7 (pc : Nat) {a0 a1 a2 a3 a4 a5 a6 : Option Value} {r : List (Option Value)} {x : Int32} (d : decode cc pc = .ok (.iload 7, 2)) (h : V M Γ μ cc Q k sl S (pc + 2) (a0 :: a1 :: a2 :: a3 :: a4 :: a5 :: a6 :: some (.int x) :: r) (.int x :: st)) : V M Γ μ cc Q k sl S pc (a0 :: a1 :: a2 :: a3 :: a4 :: a5 :: a6 :: some (.int x) :: r) st := fun C H locs ls hr hs hl => lv_iload C.1.1 C.1.2.1 d (hl.at (i := 7) rfl) (h C H locs ls hr hs hl)
theorem V_istore_7 (pc : Nat) {a0 a1 a2 a3 a4 a5 a6 : Option Value} {b : Option Value} {r : List (Option Value)} {x : Int32} (d : decode cc pc = .ok (.istore 7, 2)) (hc : c1 a6 = true) (hn : 7 < μ.1) (h : V M Γ μ cc Q k sl S (pc + 2) (a0 :: a1 :: a2 :: a3 :: a4 :: a5 :: a6 :: some (.int x) :: r) st) : V M Γ μ cc Q k sl S pc (a0 :: a1 :: a2 :: a3 :: a4 :: a5 :: a6 :: b :: r) (.int x :: st) := fun C H locs ls hr hs hl => lv_istore C.1.1 C.1.2.1 d hl hn rfl (fun ls2 hl2 => h C H locs ls2 hr hs (lv_st1 (fun j w e q => by cases (Nat.succ.inj e : j = 6); exact c1_ok hc (Option.some.inj q)) (fun j w q => by rcases Nat.lt_trichotomy j 7 with g | g | g
  · exact Or.inr ⟨Nat.ne_of_lt g, by revert q; rcases (show j = 0 ∨ j = 1 ∨ j = 2 ∨ j = 3 ∨ j = 4 ∨ j = 5 ∨ j = 6 by omega) with rfl | rfl | rfl | rfl | rfl | rfl | rfl <;> exact id⟩
  · subst g; exact Or.inl ⟨rfl, (Option.some.inj (Option.some.inj q)).symm⟩
  · obtain ⟨j2, rfl⟩ : ∃ j2, j = j2 + 8 := ⟨j - 8, by omega⟩
    exact Or.inr ⟨by omega, q⟩) rfl hl2))
theorem V_lload_7 (pc : Nat) {a0 a1 a2 a3 a4 a5 a6 : Option Value} {r : List (Option Value)} {x : Int64} (d : decode cc pc = .ok (.lload 7, 2)) (h : V M Γ μ cc Q k sl S (pc + 2) (a0 :: a1 :: a2 :: a3 :: a4 :: a5 :: a6 :: some (.long x) :: r) (.long x :: st)) : V M Γ μ cc Q k sl S pc (a0 :: a1 :: a2 :: a3 :: a4 :: a5 :: a6 :: some (.long x) :: r) st := fun C H locs ls hr hs hl => lv_lload C.1.1 C.1.2.1 d (hl.at (i := 7) rfl) (h C H locs ls hr hs hl)
theorem V_lstore_7 (pc : Nat) {a0 a1 a2 a3 a4 a5 a6 : Option Value} {b b2 : Option Value} {r : List (Option Value)} {x : Int64} (d : decode cc pc = .ok (.lstore 7, 2)) (hc : c1 a6 = true) (hn : 8 < μ.1) (h : V M Γ μ cc Q k sl S (pc + 2) (a0 :: a1 :: a2 :: a3 :: a4 :: a5 :: a6 :: some (.long x) :: none :: r) st) : V M Γ μ cc Q k sl S pc (a0 :: a1 :: a2 :: a3 :: a4 :: a5 :: a6 :: b :: b2 :: r) (.long x :: st) := fun C H locs ls hr hs hl => lv_lstore C.1.1 C.1.2.1 d hl hn rfl (fun ls2 hl2 => h C H locs ls2 hr hs (lv_st2 (fun j w e q => by cases (Nat.succ.inj e : j = 6); exact c1_ok hc (Option.some.inj q)) (fun j w q => by rcases Nat.lt_trichotomy j 7 with g | g | g
  · exact Or.inr ⟨Nat.ne_of_lt g, by omega, by revert q; rcases (show j = 0 ∨ j = 1 ∨ j = 2 ∨ j = 3 ∨ j = 4 ∨ j = 5 ∨ j = 6 by omega) with rfl | rfl | rfl | rfl | rfl | rfl | rfl <;> exact id⟩
  · subst g; exact Or.inl ⟨rfl, (Option.some.inj (Option.some.inj q)).symm⟩
  · rcases Nat.lt_or_ge 8 j with g2 | g2
    · obtain ⟨j2, rfl⟩ : ∃ j2, j = j2 + 9 := ⟨j - 9, by omega⟩
      exact Or.inr ⟨by omega, by omega, q⟩
    · cases (show j = 8 by omega); cases (Option.some.inj q)) rfl hl2))
theorem V_aload_7 (pc : Nat) {a0 a1 a2 a3 a4 a5 a6 : Option Value} {r : List (Option Value)} {x : Nat} (d : decode cc pc = .ok (.aload 7, 2)) (h : V M Γ μ cc Q k sl S (pc + 2) (a0 :: a1 :: a2 :: a3 :: a4 :: a5 :: a6 :: some (.ref x) :: r) (.ref x :: st)) : V M Γ μ cc Q k sl S pc (a0 :: a1 :: a2 :: a3 :: a4 :: a5 :: a6 :: some (.ref x) :: r) st := fun C H locs ls hr hs hl => lv_aload C.1.1 C.1.2.1 d (hl.at (i := 7) rfl) (h C H locs ls hr hs hl)
theorem V_astore_7 (pc : Nat) {a0 a1 a2 a3 a4 a5 a6 : Option Value} {b : Option Value} {r : List (Option Value)} {x : Nat} (d : decode cc pc = .ok (.astore 7, 2)) (hc : c1 a6 = true) (hn : 7 < μ.1) (h : V M Γ μ cc Q k sl S (pc + 2) (a0 :: a1 :: a2 :: a3 :: a4 :: a5 :: a6 :: some (.ref x) :: r) st) : V M Γ μ cc Q k sl S pc (a0 :: a1 :: a2 :: a3 :: a4 :: a5 :: a6 :: b :: r) (.ref x :: st) := fun C H locs ls hr hs hl => lv_astore C.1.1 C.1.2.1 d hl hn rfl (fun ls2 hl2 => h C H locs ls2 hr hs (lv_st1 (fun j w e q => by cases (Nat.succ.inj e : j = 6); exact c1_ok hc (Option.some.inj q)) (fun j w q => by rcases Nat.lt_trichotomy j 7 with g | g | g
  · exact Or.inr ⟨Nat.ne_of_lt g, by revert q; rcases (show j = 0 ∨ j = 1 ∨ j = 2 ∨ j = 3 ∨ j = 4 ∨ j = 5 ∨ j = 6 by omega) with rfl | rfl | rfl | rfl | rfl | rfl | rfl <;> exact id⟩
  · subst g; exact Or.inl ⟨rfl, (Option.some.inj (Option.some.inj q)).symm⟩
  · obtain ⟨j2, rfl⟩ : ∃ j2, j = j2 + 8 := ⟨j - 8, by omega⟩
    exact Or.inr ⟨by omega, q⟩) rfl hl2))
theorem V_iinc_7 (pc : Nat) {a0 a1 a2 a3 a4 a5 a6 : Option Value} {r : List (Option Value)} {n : Int} (v : Int32) {x : Int32} (d : decode cc pc = .ok (.iinc 7 n, 3)) (hv : Int32.ofInt n = v) (hc : c1 a6 = true) (hn : 7 < μ.1) (h : V M Γ μ cc Q k sl S (pc + 3) (a0 :: a1 :: a2 :: a3 :: a4 :: a5 :: a6 :: some (.int (x + v)) :: r) st) : V M Γ μ cc Q k sl S pc (a0 :: a1 :: a2 :: a3 :: a4 :: a5 :: a6 :: some (.int x) :: r) st := fun C H locs ls hr hs hl => by
  obtain ⟨k0, hk0⟩ := List.getElem?_of_mem (show (7, Value.int x) ∈ lvL 0 (a0 :: a1 :: a2 :: a3 :: a4 :: a5 :: a6 :: some (.int x) :: r) by simpa using lvL_get (a0 :: a1 :: a2 :: a3 :: a4 :: a5 :: a6 :: some (.int x) :: r) 0 7 (.int x) rfl)
  exact lv_iinc C.1.1 C.1.2.1 d hl hk0 (by rw [hv]) hn rfl (fun ls2 hl2 => h C H locs ls2 hr hs (lv_st1 (fun j w e q => by cases (Nat.succ.inj e : j = 6); exact c1_ok hc (Option.some.inj q)) (fun j w q => by rcases Nat.lt_trichotomy j 7 with g | g | g
  · exact Or.inr ⟨Nat.ne_of_lt g, by revert q; rcases (show j = 0 ∨ j = 1 ∨ j = 2 ∨ j = 3 ∨ j = 4 ∨ j = 5 ∨ j = 6 by omega) with rfl | rfl | rfl | rfl | rfl | rfl | rfl <;> exact id⟩
  · subst g; exact Or.inl ⟨rfl, (Option.some.inj (Option.some.inj q)).symm⟩
  · obtain ⟨j2, rfl⟩ : ∃ j2, j = j2 + 8 := ⟨j - 8, by omega⟩
    exact Or.inr ⟨by omega, q⟩) rfl hl2))
theorem V_iload_8 (pc : Nat) {a0 a1 a2 a3 a4 a5 a6 a7 : Option Value} {r : List (Option Value)} {x : Int32} (d : decode cc pc = .ok (.iload 8, 2)) (h : V M Γ μ cc Q k sl S (pc + 2) (a0 :: a1 :: a2 :: a3 :: a4 :: a5 :: a6 :: a7 :: some (.int x) :: r) (.int x :: st)) : V M Γ μ cc Q k sl S pc (a0 :: a1 :: a2 :: a3 :: a4 :: a5 :: a6 :: a7 :: some (.int x) :: r) st := fun C H locs ls hr hs hl => lv_iload C.1.1 C.1.2.1 d (hl.at (i := 8) rfl) (h C H locs ls hr hs hl)
theorem V_istore_8 (pc : Nat) {a0 a1 a2 a3 a4 a5 a6 a7 : Option Value} {b : Option Value} {r : List (Option Value)} {x : Int32} (d : decode cc pc = .ok (.istore 8, 2)) (hc : c1 a7 = true) (hn : 8 < μ.1) (h : V M Γ μ cc Q k sl S (pc + 2) (a0 :: a1 :: a2 :: a3 :: a4 :: a5 :: a6 :: a7 :: some (.int x) :: r) st) : V M Γ μ cc Q k sl S pc (a0 :: a1 :: a2 :: a3 :: a4 :: a5 :: a6 :: a7 :: b :: r) (.int x :: st) := fun C H locs ls hr hs hl => lv_istore C.1.1 C.1.2.1 d hl hn rfl (fun ls2 hl2 => h C H locs ls2 hr hs (lv_st1 (fun j w e q => by cases (Nat.succ.inj e : j = 7); exact c1_ok hc (Option.some.inj q)) (fun j w q => by rcases Nat.lt_trichotomy j 8 with g | g | g
  · exact Or.inr ⟨Nat.ne_of_lt g, by revert q; rcases (show j = 0 ∨ j = 1 ∨ j = 2 ∨ j = 3 ∨ j = 4 ∨ j = 5 ∨ j = 6 ∨ j = 7 by omega) with rfl | rfl | rfl | rfl | rfl | rfl | rfl | rfl <;> exact id⟩
  · subst g; exact Or.inl ⟨rfl, (Option.some.inj (Option.some.inj q)).symm⟩
  · obtain ⟨j2, rfl⟩ : ∃ j2, j = j2 + 9 := ⟨j - 9, by omega⟩
    exact Or.inr ⟨by omega, q⟩) rfl hl2))
theorem V_lload_8 (pc : Nat) {a0 a1 a2 a3 a4 a5 a6 a7 : Option Value} {r : List (Option Value)} {x : Int64} (d : decode cc pc = .ok (.lload 8, 2)) (h : V M Γ μ cc Q k sl S (pc + 2) (a0 :: a1 :: a2 :: a3 :: a4 :: a5 :: a6 :: a7 :: some (.long x) :: r) (.long x :: st)) : V M Γ μ cc Q k sl S pc (a0 :: a1 :: a2 :: a3 :: a4 :: a5 :: a6 :: a7 :: some (.long x) :: r) st := fun C H locs ls hr hs hl => lv_lload C.1.1 C.1.2.1 d (hl.at (i := 8) rfl) (h C H locs ls hr hs hl)
theorem V_lstore_8 (pc : Nat) {a0 a1 a2 a3 a4 a5 a6 a7 : Option Value} {b b2 : Option Value} {r : List (Option Value)} {x : Int64} (d : decode cc pc = .ok (.lstore 8, 2)) (hc : c1 a7 = true) (hn : 9 < μ.1) (h : V M Γ μ cc Q k sl S (pc + 2) (a0 :: a1 :: a2 :: a3 :: a4 :: a5 :: a6 :: a7 :: some (.long x) :: none :: r) st) : V M Γ μ cc Q k sl S pc (a0 :: a1 :: a2 :: a3 :: a4 :: a5 :: a6 :: a7 :: b :: b2 :: r) (.long x :: st) := fun C H locs ls hr hs hl => lv_lstore C.1.1 C.1.2.1 d hl hn rfl (fun ls2 hl2 => h C H locs ls2 hr hs (lv_st2 (fun j w e q => by cases (Nat.succ.inj e : j = 7); exact c1_ok hc (Option.some.inj q)) (fun j w q => by rcases Nat.lt_trichotomy j 8 with g | g | g
  · exact Or.inr ⟨Nat.ne_of_lt g, by omega, by revert q; rcases (show j = 0 ∨ j = 1 ∨ j = 2 ∨ j = 3 ∨ j = 4 ∨ j = 5 ∨ j = 6 ∨ j = 7 by omega) with rfl | rfl | rfl | rfl | rfl | rfl | rfl | rfl <;> exact id⟩
  · subst g; exact Or.inl ⟨rfl, (Option.some.inj (Option.some.inj q)).symm⟩
  · rcases Nat.lt_or_ge 9 j with g2 | g2
    · obtain ⟨j2, rfl⟩ : ∃ j2, j = j2 + 10 := ⟨j - 10, by omega⟩
      exact Or.inr ⟨by omega, by omega, q⟩
    · cases (show j = 9 by omega); cases (Option.some.inj q)) rfl hl2))
theorem V_aload_8 (pc : Nat) {a0 a1 a2 a3 a4 a5 a6 a7 : Option Value} {r : List (Option Value)} {x : Nat} (d : decode cc pc = .ok (.aload 8, 2)) (h : V M Γ μ cc Q k sl S (pc + 2) (a0 :: a1 :: a2 :: a3 :: a4 :: a5 :: a6 :: a7 :: some (.ref x) :: r) (.ref x :: st)) : V M Γ μ cc Q k sl S pc (a0 :: a1 :: a2 :: a3 :: a4 :: a5 :: a6 :: a7 :: some (.ref x) :: r) st := fun C H locs ls hr hs hl => lv_aload C.1.1 C.1.2.1 d (hl.at (i := 8) rfl) (h C H locs ls hr hs hl)
theorem V_astore_8 (pc : Nat) {a0 a1 a2 a3 a4 a5 a6 a7 : Option Value} {b : Option Value} {r : List (Option Value)} {x : Nat} (d : decode cc pc = .ok (.astore 8, 2)) (hc : c1 a7 = true) (hn : 8 < μ.1) (h : V M Γ μ cc Q k sl S (pc + 2) (a0 :: a1 :: a2 :: a3 :: a4 :: a5 :: a6 :: a7 :: some (.ref x) :: r) st) : V M Γ μ cc Q k sl S pc (a0 :: a1 :: a2 :: a3 :: a4 :: a5 :: a6 :: a7 :: b :: r) (.ref x :: st) := fun C H locs ls hr hs hl => lv_astore C.1.1 C.1.2.1 d hl hn rfl (fun ls2 hl2 => h C H locs ls2 hr hs (lv_st1 (fun j w e q => by cases (Nat.succ.inj e : j = 7); exact c1_ok hc (Option.some.inj q)) (fun j w q => by rcases Nat.lt_trichotomy j 8 with g | g | g
  · exact Or.inr ⟨Nat.ne_of_lt g, by revert q; rcases (show j = 0 ∨ j = 1 ∨ j = 2 ∨ j = 3 ∨ j = 4 ∨ j = 5 ∨ j = 6 ∨ j = 7 by omega) with rfl | rfl | rfl | rfl | rfl | rfl | rfl | rfl <;> exact id⟩
  · subst g; exact Or.inl ⟨rfl, (Option.some.inj (Option.some.inj q)).symm⟩
  · obtain ⟨j2, rfl⟩ : ∃ j2, j = j2 + 9 := ⟨j - 9, by omega⟩
    exact Or.inr ⟨by omega, q⟩) rfl hl2))
theorem V_iinc_8 (pc : Nat) {a0 a1 a2 a3 a4 a5 a6 a7 : Option Value} {r : List (Option Value)} {n : Int} (v : Int32) {x : Int32} (d : decode cc pc = .ok (.iinc 8 n, 3)) (hv : Int32.ofInt n = v) (hc : c1 a7 = true) (hn : 8 < μ.1) (h : V M Γ μ cc Q k sl S (pc + 3) (a0 :: a1 :: a2 :: a3 :: a4 :: a5 :: a6 :: a7 :: some (.int (x + v)) :: r) st) : V M Γ μ cc Q k sl S pc (a0 :: a1 :: a2 :: a3 :: a4 :: a5 :: a6 :: a7 :: some (.int x) :: r) st := fun C H locs ls hr hs hl => by
  obtain ⟨k0, hk0⟩ := List.getElem?_of_mem (show (8, Value.int x) ∈ lvL 0 (a0 :: a1 :: a2 :: a3 :: a4 :: a5 :: a6 :: a7 :: some (.int x) :: r) by simpa using lvL_get (a0 :: a1 :: a2 :: a3 :: a4 :: a5 :: a6 :: a7 :: some (.int x) :: r) 0 8 (.int x) rfl)
  exact lv_iinc C.1.1 C.1.2.1 d hl hk0 (by rw [hv]) hn rfl (fun ls2 hl2 => h C H locs ls2 hr hs (lv_st1 (fun j w e q => by cases (Nat.succ.inj e : j = 7); exact c1_ok hc (Option.some.inj q)) (fun j w q => by rcases Nat.lt_trichotomy j 8 with g | g | g
  · exact Or.inr ⟨Nat.ne_of_lt g, by revert q; rcases (show j = 0 ∨ j = 1 ∨ j = 2 ∨ j = 3 ∨ j = 4 ∨ j = 5 ∨ j = 6 ∨ j = 7 by omega) with rfl | rfl | rfl | rfl | rfl | rfl | rfl | rfl <;> exact id⟩
  · subst g; exact Or.inl ⟨rfl, (Option.some.inj (Option.some.inj q)).symm⟩
  · obtain ⟨j2, rfl⟩ : ∃ j2, j = j2 + 9 := ⟨j - 9, by omega⟩
    exact Or.inr ⟨by omega, q⟩) rfl hl2))
theorem V_iload_9 (pc : Nat) {a0 a1 a2 a3 a4 a5 a6 a7 a8 : Option Value} {r : List (Option Value)} {x : Int32} (d : decode cc pc = .ok (.iload 9, 2)) (h : V M Γ μ cc Q k sl S (pc + 2) (a0 :: a1 :: a2 :: a3 :: a4 :: a5 :: a6 :: a7 :: a8 :: some (.int x) :: r) (.int x :: st)) : V M Γ μ cc Q k sl S pc (a0 :: a1 :: a2 :: a3 :: a4 :: a5 :: a6 :: a7 :: a8 :: some (.int x) :: r) st := fun C H locs ls hr hs hl => lv_iload C.1.1 C.1.2.1 d (hl.at (i := 9) rfl) (h C H locs ls hr hs hl)
theorem V_istore_9 (pc : Nat) {a0 a1 a2 a3 a4 a5 a6 a7 a8 : Option Value} {b : Option Value} {r : List (Option Value)} {x : Int32} (d : decode cc pc = .ok (.istore 9, 2)) (hc : c1 a8 = true) (hn : 9 < μ.1) (h : V M Γ μ cc Q k sl S (pc + 2) (a0 :: a1 :: a2 :: a3 :: a4 :: a5 :: a6 :: a7 :: a8 :: some (.int x) :: r) st) : V M Γ μ cc Q k sl S pc (a0 :: a1 :: a2 :: a3 :: a4 :: a5 :: a6 :: a7 :: a8 :: b :: r) (.int x :: st) := fun C H locs ls hr hs hl => lv_istore C.1.1 C.1.2.1 d hl hn rfl (fun ls2 hl2 => h C H locs ls2 hr hs (lv_st1 (fun j w e q => by cases (Nat.succ.inj e : j = 8); exact c1_ok hc (Option.some.inj q)) (fun j w q => by rcases Nat.lt_trichotomy j 9 with g | g | g
  · exact Or.inr ⟨Nat.ne_of_lt g, by revert q; rcases (show j = 0 ∨ j = 1 ∨ j = 2 ∨ j = 3 ∨ j = 4 ∨ j = 5 ∨ j = 6 ∨ j = 7 ∨ j = 8 by omega) with rfl | rfl | rfl | rfl | rfl | rfl | rfl | rfl | rfl <;> exact id⟩
  · subst g; exact Or.inl ⟨rfl, (Option.some.inj (Option.some.inj q)).symm⟩
  · obtain ⟨j2, rfl⟩ : ∃ j2, j = j2 + 10 := ⟨j - 10, by omega⟩
    exact Or.inr ⟨by omega, q⟩) rfl hl2))
theorem V_lload_9 (pc : Nat) {a0 a1 a2 a3 a4 a5 a6 a7 a8 : Option Value} {r : List (Option Value)} {x : Int64} (d : decode cc pc = .ok (.lload 9, 2)) (h : V M Γ μ cc Q k sl S (pc + 2) (a0 :: a1 :: a2 :: a3 :: a4 :: a5 :: a6 :: a7 :: a8 :: some (.long x) :: r) (.long x :: st)) : V M Γ μ cc Q k sl S pc (a0 :: a1 :: a2 :: a3 :: a4 :: a5 :: a6 :: a7 :: a8 :: some (.long x) :: r) st := fun C H locs ls hr hs hl => lv_lload C.1.1 C.1.2.1 d (hl.at (i := 9) rfl) (h C H locs ls hr hs hl)
theorem V_lstore_9 (pc : Nat) {a0 a1 a2 a3 a4 a5 a6 a7 a8 : Option Value} {b b2 : Option Value} {r : List (Option Value)} {x : Int64} (d : decode cc pc = .ok (.lstore 9, 2)) (hc : c1 a8 = true) (hn : 10 < μ.1) (h : V M Γ μ cc Q k sl S (pc + 2) (a0 :: a1 :: a2 :: a3 :: a4 :: a5 :: a6 :: a7 :: a8 :: some (.long x) :: none :: r) st) : V M Γ μ cc Q k sl S pc (a0 :: a1 :: a2 :: a3 :: a4 :: a5 :: a6 :: a7 :: a8 :: b :: b2 :: r) (.long x :: st) := fun C H locs ls hr hs hl => lv_lstore C.1.1 C.1.2.1 d hl hn rfl (fun ls2 hl2 => h C H locs ls2 hr hs (lv_st2 (fun j w e q => by cases (Nat.succ.inj e : j = 8); exact c1_ok hc (Option.some.inj q)) (fun j w q => by rcases Nat.lt_trichotomy j 9 with g | g | g
  · exact Or.inr ⟨Nat.ne_of_lt g, by omega, by revert q; rcases (show j = 0 ∨ j = 1 ∨ j = 2 ∨ j = 3 ∨ j = 4 ∨ j = 5 ∨ j = 6 ∨ j = 7 ∨ j = 8 by omega) with rfl | rfl | rfl | rfl | rfl | rfl | rfl | rfl | rfl <;> exact id⟩
  · subst g; exact Or.inl ⟨rfl, (Option.some.inj (Option.some.inj q)).symm⟩
  · rcases Nat.lt_or_ge 10 j with g2 | g2
    · obtain ⟨j2, rfl⟩ : ∃ j2, j = j2 + 11 := ⟨j - 11, by omega⟩
      exact Or.inr ⟨by omega, by omega, q⟩
    · cases (show j = 10 by omega); cases (Option.some.inj q)) rfl hl2))
theorem V_aload_9 (pc : Nat) {a0 a1 a2 a3 a4 a5 a6 a7 a8 : Option Value} {r : List (Option Value)} {x : Nat} (d : decode cc pc = .ok (.aload 9, 2)) (h : V M Γ μ cc Q k sl S (pc + 2) (a0 :: a1 :: a2 :: a3 :: a4 :: a5 :: a6 :: a7 :: a8 :: some (.ref x) :: r) (.ref x :: st)) : V M Γ μ cc Q k sl S pc (a0 :: a1 :: a2 :: a3 :: a4 :: a5 :: a6 :: a7 :: a8 :: some (.ref x) :: r) st := fun C H locs ls hr hs hl => lv_aload C.1.1 C.1.2.1 d (hl.at (i := 9) rfl) (h C H locs ls hr hs hl)
theorem V_astore_9 (pc : Nat) {a0 a1 a2 a3 a4 a5 a6 a7 a8 : Option Value} {b : Option Value} {r : List (Option Value)} {x : Nat} (d : decode cc pc = .ok (.astore 9, 2)) (hc : c1 a8 = true) (hn : 9 < μ.1) (h : V M Γ μ cc Q k sl S (pc + 2) (a0 :: a1 :: a2 :: a3 :: a4 :: a5 :: a6 :: a7 :: a8 :: some (.ref x) :: r) st) : V M Γ μ cc Q k sl S pc (a0 :: a1 :: a2 :: a3 :: a4 :: a5 :: a6 :: a7 :: a8 :: b :: r) (.ref x :: st) := fun C H locs ls hr hs hl => lv_astore C.1.1 C.1.2.1 d hl hn rfl (fun ls2 hl2 => h C H locs ls2 hr hs (lv_st1 (fun j w e q => by cases (Nat.succ.inj e : j = 8); exact c1_ok hc (Option.some.inj q)) (fun j w q => by rcases Nat.lt_trichotomy j 9 with g | g | g
  · exact Or.inr ⟨Nat.ne_of_lt g, by revert q; rcases (show j = 0 ∨ j = 1 ∨ j = 2 ∨ j = 3 ∨ j = 4 ∨ j = 5 ∨ j = 6 ∨ j = 7 ∨ j = 8 by omega) with rfl | rfl | rfl | rfl | rfl | rfl | rfl | rfl | rfl <;> exact id⟩
  · subst g; exact Or.inl ⟨rfl, (Option.some.inj (Option.some.inj q)).symm⟩
  · obtain ⟨j2, rfl⟩ : ∃ j2, j = j2 + 10 := ⟨j - 10, by omega⟩
    exact Or.inr ⟨by omega, q⟩) rfl hl2))
theorem V_iinc_9 (pc : Nat) {a0 a1 a2 a3 a4 a5 a6 a7 a8 : Option Value} {r : List (Option Value)} {n : Int} (v : Int32) {x : Int32} (d : decode cc pc = .ok (.iinc 9 n, 3)) (hv : Int32.ofInt n = v) (hc : c1 a8 = true) (hn : 9 < μ.1) (h : V M Γ μ cc Q k sl S (pc + 3) (a0 :: a1 :: a2 :: a3 :: a4 :: a5 :: a6 :: a7 :: a8 :: some (.int (x + v)) :: r) st) : V M Γ μ cc Q k sl S pc (a0 :: a1 :: a2 :: a3 :: a4 :: a5 :: a6 :: a7 :: a8 :: some (.int x) :: r) st := fun C H locs ls hr hs hl => by
  obtain ⟨k0, hk0⟩ := List.getElem?_of_mem (show (9, Value.int x) ∈ lvL 0 (a0 :: a1 :: a2 :: a3 :: a4 :: a5 :: a6 :: a7 :: a8 :: some (.int x) :: r) by simpa using lvL_get (a0 :: a1 :: a2 :: a3 :: a4 :: a5 :: a6 :: a7 :: a8 :: some (.int x) :: r) 0 9 (.int x) rfl)
  exact lv_iinc C.1.1 C.1.2.1 d hl hk0 (by rw [hv]) hn rfl (fun ls2 hl2 => h C H locs ls2 hr hs (lv_st1 (fun j w e q => by cases (Nat.succ.inj e : j = 8); exact c1_ok hc (Option.some.inj q)) (fun j w q => by rcases Nat.lt_trichotomy j 9 with g | g | g
  · exact Or.inr ⟨Nat.ne_of_lt g, by revert q; rcases (show j = 0 ∨ j = 1 ∨ j = 2 ∨ j = 3 ∨ j = 4 ∨ j = 5 ∨ j = 6 ∨ j = 7 ∨ j = 8 by omega) with rfl | rfl | rfl | rfl | rfl | rfl | rfl | rfl | rfl <;> exact id⟩
  · subst g; exact Or.inl ⟨rfl, (Option.some.inj (Option.some.inj q)).symm⟩
  · obtain ⟨j2, rfl⟩ : ∃ j2, j = j2 + 10 := ⟨j - 10, by omega⟩
    exact Or.inr ⟨by omega, q⟩) rfl hl2))
theorem V_iload_10 (pc : Nat) {a0 a1 a2 a3 a4 a5 a6 a7 a8 a9 : Option Value} {r : List (Option Value)} {x : Int32} (d : decode cc pc = .ok (.iload 10, 2)) (h : V M Γ μ cc Q k sl S (pc + 2) (a0 :: a1 :: a2 :: a3 :: a4 :: a5 :: a6 :: a7 :: a8 :: a9 :: some (.int x) :: r) (.int x :: st)) : V M Γ μ cc Q k sl S pc (a0 :: a1 :: a2 :: a3 :: a4 :: a5 :: a6 :: a7 :: a8 :: a9 :: some (.int x) :: r) st := fun C H locs ls hr hs hl => lv_iload C.1.1 C.1.2.1 d (hl.at (i := 10) rfl) (h C H locs ls hr hs hl)
theorem V_istore_10 (pc : Nat) {a0 a1 a2 a3 a4 a5 a6 a7 a8 a9 : Option Value} {b : Option Value} {r : List (Option Value)} {x : Int32} (d : decode cc pc = .ok (.istore 10, 2)) (hc : c1 a9 = true) (hn : 10 < μ.1) (h : V M Γ μ cc Q k sl S (pc + 2) (a0 :: a1 :: a2 :: a3 :: a4 :: a5 :: a6 :: a7 :: a8 :: a9 :: some (.int x) :: r) st) : V M Γ μ cc Q k sl S pc (a0 :: a1 :: a2 :: a3 :: a4 :: a5 :: a6 :: a7 :: a8 :: a9 :: b :: r) (.int x :: st) := fun C H locs ls hr hs hl => lv_istore C.1.1 C.1.2.1 d hl hn rfl (fun ls2 hl2 => h C H locs ls2 hr hs (lv_st1 (fun j w e q => by cases (Nat.succ.inj e : j = 9); exact c1_ok hc (Option.some.inj q)) (fun j w q => by rcases Nat.lt_trichotomy j 10 with g | g | g
  · exact Or.inr ⟨Nat.ne_of_lt g, by revert q; rcases (show j = 0 ∨ j = 1 ∨ j = 2 ∨ j = 3 ∨ j = 4 ∨ j = 5 ∨ j = 6 ∨ j = 7 ∨ j = 8 ∨ j = 9 by omega) with rfl | rfl | rfl | rfl | rfl | rfl | rfl | rfl | rfl | rfl <;> exact id⟩
  · subst g; exact Or.inl ⟨rfl, (Option.some.inj (Option.some.inj q)).symm⟩
  · obtain ⟨j2, rfl⟩ : ∃ j2, j = j2 + 11 := ⟨j - 11, by omega⟩
    exact Or.inr ⟨by omega, q⟩) rfl hl2))
theorem V_lload_10 (pc : Nat) {a0 a1 a2 a3 a4 a5 a6 a7 a8 a9 : Option Value} {r : List (Option Value)} {x : Int64} (d : decode cc pc = .ok (.lload 10, 2)) (h : V M Γ μ cc Q k sl S (pc + 2) (a0 :: a1 :: a2 :: a3 :: a4 :: a5 :: a6 :: a7 :: a8 :: a9 :: some (.long x) :: r) (.long x :: st)) : V M Γ μ cc Q k sl S pc (a0 :: a1 :: a2 :: a3 :: a4 :: a5 :: a6 :: a7 :: a8 :: a9 :: some (.long x) :: r) st := fun C H locs ls hr hs hl => lv_lload C.1.1 C.1.2.1 d (hl.at (i := 10) rfl) (h C H locs ls hr hs hl)
theorem V_lstore_10 (pc : Nat) {a0 a1 a2 a3 a4 a5 a6 a7 a8 a9 : Option Value} {b b2 : Option Value} {r : List (Option Value)} {x : Int64} (d : decode cc pc = .ok (.lstore 10, 2)) (hc : c1 a9 = true) (hn : 11 < μ.1) (h : V M Γ μ cc Q k sl S (pc + 2) (a0 :: a1 :: a2 :: a3 :: a4 :: a5 :: a6 :: a7 :: a8 :: a9 :: some (.long x) :: none :: r) st) : V M Γ μ cc Q k sl S pc (a0 :: a1 :: a2 :: a3 :: a4 :: a5 :: a6 :: a7 :: a8 :: a9 :: b :: b2 :: r) (.long x :: st) := fun C H locs ls hr hs hl => lv_lstore C.1.1 C.1.2.1 d hl hn rfl (fun ls2 hl2 => h C H locs ls2 hr hs (lv_st2 (fun j w e q => by cases (Nat.succ.inj e : j = 9); exact c1_ok hc (Option.some.inj q)) (fun j w q => by rcases Nat.lt_trichotomy j 10 with g | g | g
  · exact Or.inr ⟨Nat.ne_of_lt g, by omega, by revert q; rcases (show j = 0 ∨ j = 1 ∨ j = 2 ∨ j = 3 ∨ j = 4 ∨ j = 5 ∨ j = 6 ∨ j = 7 ∨ j = 8 ∨ j = 9 by omega) with rfl | rfl | rfl | rfl | rfl | rfl | rfl | rfl | rfl | rfl <;> exact id⟩
  · subst g; exact Or.inl ⟨rfl, (Option.some.inj (Option.some.inj q)).symm⟩
  · rcases Nat.lt_or_ge 11 j with g2 | g2
    · obtain ⟨j2, rfl⟩ : ∃ j2, j = j2 + 12 := ⟨j - 12, by omega⟩
      exact Or.inr ⟨by omega, by omega, q⟩
    · cases (show j = 11 by omega); cases (Option.some.inj q)) rfl hl2))
theorem V_aload_10 (pc : Nat) {a0 a1 a2 a3 a4 a5 a6 a7 a8 a9 : Option Value} {r : List (Option Value)} {x : Nat} (d : decode cc pc = .ok (.aload 10, 2)) (h : V M Γ μ cc Q k sl S (pc + 2) (a0 :: a1 :: a2 :: a3 :: a4 :: a5 :: a6 :: a7 :: a8 :: a9 :: some (.ref x) :: r) (.ref x :: st)) : V M Γ μ cc Q k sl S pc (a0 :: a1 :: a2 :: a3 :: a4 :: a5 :: a6 :: a7 :: a8 :: a9 :: some (.ref x) :: r) st := fun C H locs ls hr hs hl => lv_aload C.1.1 C.1.2.1 d (hl.at (i := 10) rfl) (h C H locs ls hr hs hl)
theorem V_astore_10 (pc : Nat) {a0 a1 a2 a3 a4 a5 a6 a7 a8 a9 : Option Value} {b : Option Value} {r : List (Option Value)} {x : Nat} (d : decode cc pc = .ok (.astore 10, 2)) (hc : c1 a9 = true) (hn : 10 < μ.1) (h : V M Γ μ cc Q k sl S (pc + 2) (a0 :: a1 :: a2 :: a3 :: a4 :: a5 :: a6 :: a7 :: a8 :: a9 :: some (.ref x) :: r) st) : V M Γ μ cc Q k sl S pc (a0 :: a1 :: a2 :: a3 :: a4 :: a5 :: a6 :: a7 :: a8 :: a9 :: b :: r) (.ref x :: st) := fun C H locs ls hr hs hl => lv_astore C.1.1 C.1.2.1 d hl hn rfl (fun ls2 hl2 => h C H locs ls2 hr hs (lv_st1 (fun j w e q => by cases (Nat.succ.inj e : j = 9); exact c1_ok hc (Option.some.inj q)) (fun j w q => by rcases Nat.lt_trichotomy j 10 with g | g | g
  · exact Or.inr ⟨Nat.ne_of_lt g, by revert q; rcases (show j = 0 ∨ j = 1 ∨ j = 2 ∨ j = 3 ∨ j = 4 ∨ j = 5 ∨ j = 6 ∨ j = 7 ∨ j = 8 ∨ j = 9 by omega) with rfl | rfl | rfl | rfl | rfl | rfl | rfl | rfl | rfl | rfl <;> exact id⟩
  · subst g; exact Or.inl ⟨rfl, (Option.some.inj (Option.some.inj q)).symm⟩
  · obtain ⟨j2, rfl⟩ : ∃ j2, j = j2 + 11 := ⟨j - 11, by omega⟩
    exact Or.inr ⟨by omega, q⟩) rfl hl2))
theorem V_iinc_10 (pc : Nat) {a0 a1 a2 a3 a4 a5 a6 a7 a8 a9 : Option Value} {r : List (Option Value)} {n : Int} (v : Int32) {x : Int32} (d : decode cc pc = .ok (.iinc 10 n, 3)) (hv : Int32.ofInt n = v) (hc : c1 a9 = true) (hn : 10 < μ.1) (h : V M Γ μ cc Q k sl S (pc + 3) (a0 :: a1 :: a2 :: a3 :: a4 :: a5 :: a6 :: a7 :: a8 :: a9 :: some (.int (x + v)) :: r) st) : V M Γ μ cc Q k sl S pc (a0 :: a1 :: a2 :: a3 :: a4 :: a5 :: a6 :: a7 :: a8 :: a9 :: some (.int x) :: r) st := fun C H locs ls hr hs hl => by
  obtain ⟨k0, hk0⟩ := List.getElem?_of_mem (show (10, Value.int x) ∈ lvL 0 (a0 :: a1 :: a2 :: a3 :: a4 :: a5 :: a6 :: a7 :: a8 :: a9 :: some (.int x) :: r) by simpa using lvL_get (a0 :: a1 :: a2 :: a3 :: a4 :: a5 :: a6 :: a7 :: a8 :: a9 :: some (.int x) :: r) 0 10 (.int x) rfl)
  exact lv_iinc C.1.1 C.1.2.1 d hl hk0 (by rw [hv]) hn rfl (fun ls2 hl2 => h C H locs ls2 hr hs (lv_st1 (fun j w e q => by cases (Nat.succ.inj e : j = 9); exact c1_ok hc (Option.some.inj q)) (fun j w q => by rcases Nat.lt_trichotomy j 10 with g | g | g
  · exact Or.inr ⟨Nat.ne_of_lt g, by revert q; rcases (show j = 0 ∨ j = 1 ∨ j = 2 ∨ j = 3 ∨ j = 4 ∨ j = 5 ∨ j = 6 ∨ j = 7 ∨ j = 8 ∨ j = 9 by omega) with rfl | rfl | rfl | rfl | rfl | rfl | rfl | rfl | rfl | rfl <;> exact id⟩
  · subst g; exact Or.inl ⟨rfl, (Option.some.inj (Option.some.inj q)).symm⟩
  · obtain ⟨j2, rfl⟩ : ∃ j2, j = j2 + 11 := ⟨j - 11, by omega⟩
    exact Or.inr ⟨by omega, q⟩) rfl hl2))
theorem V_iload_11 (pc : Nat) {a0 a1 a2 a3 a4 a5 a6 a7 a8 a9 a10 : Option Value} {r : List (Option Value)} {x : Int32} (d : decode cc pc = .ok (.iload 11, 2)) (h : V M Γ μ cc Q k sl S (pc + 2) (a0 :: a1 :: a2 :: a3 :: a4 :: a5 :: a6 :: a7 :: a8 :: a9 :: a10 :: some (.int x) :: r) (.int x :: st)) : V M Γ μ cc Q k sl S pc (a0 :: a1 :: a2 :: a3 :: a4 :: a5 :: a6 :: a7 :: a8 :: a9 :: a10 :: some (.int x) :: r) st := fun C H locs ls hr hs hl => lv_iload C.1.1 C.1.2.1 d (hl.at (i := 11) rfl) (h C H locs ls hr hs hl)
theorem V_istore_11 (pc : Nat) {a0 a1 a2 a3 a4 a5 a6 a7 a8 a9 a10 : Option Value} {b : Option Value} {r : List (Option Value)} {x : Int32} (d : decode cc pc = .ok (.istore 11, 2)) (hc : c1 a10 = true) (hn : 11 < μ.1) (h : V M Γ μ cc Q k sl S (pc + 2) (a0 :: a1 :: a2 :: a3 :: a4 :: a5 :: a6 :: a7 :: a8 :: a9 :: a10 :: some (.int x) :: r) st) : V M Γ μ cc Q k sl S pc (a0 :: a1 :: a2 :: a3 :: a4 :: a5 :: a6 :: a7 :: a8 :: a9 :: a10 :: b :: r) (.int x :: st) := fun C H locs ls hr hs hl => lv_istore C.1.1 C.1.2.1 d hl hn rfl (fun ls2 hl2 => h C H locs ls2 hr hs (lv_st1 (fun j w e q => by cases (Nat.succ.inj e : j = 10); exact c1_ok hc (Option.some.inj q)) (fun j w q => by rcases Nat.lt_trichotomy j 11 with g | g | g
  · exact Or.inr ⟨Nat.ne_of_lt g, by revert q; rcases (show j = 0 ∨ j = 1 ∨ j = 2 ∨ j = 3 ∨ j = 4 ∨ j = 5 ∨ j = 6 ∨ j = 7 ∨ j = 8 ∨ j = 9 ∨ j = 10 by omega) with rfl | rfl | rfl | rfl | rfl | rfl | rfl | rfl | rfl | rfl | rfl <;> exact id⟩
  · subst g; exact Or.inl ⟨rfl, (Option.some.inj (Option.some.inj q)).symm⟩
  · obtain ⟨j2, rfl⟩ : ∃ j2, j = j2 + 12 := ⟨j - 12, by omega⟩
    exact Or.inr ⟨by omega, q⟩) rfl hl2))
theorem V_lload_11 (pc : Nat) {a0 a1 a2 a3 a4 a5 a6 a7 a8 a9 a10 : Option Value} {r : List (Option Value)} {x : Int64} (d : decode cc pc = .ok (.lload 11, 2)) (h : V M Γ μ cc Q k sl S (pc + 2) (a0 :: a1 :: a2 :: a3 :: a4 :: a5 :: a6 :: a7 :: a8 :: a9 :: a10 :: some (.long x) :: r) (.long x :: st)) : V M Γ μ cc Q k sl S pc (a0 :: a1 :: a2 :: a3 :: a4 :: a5 :: a6 :: a7 :: a8 :: a9 :: a10 :: some (.long x) :: r) st := fun C H locs ls hr hs hl => lv_lload C.1.1 C.1.2.1 d (hl.at (i := 11) rfl) (h C H locs ls hr hs hl)
theorem V_lstore_11 (pc : Nat) {a0 a1 a2 a3 a4 a5 a6 a7 a8 a9 a10 : Option Value} {b b2 : Option Value} {r : List (Option Value)} {x : Int64} (d : decode cc pc = .ok (.lstore 11, 2)) (hc : c1 a10 = true) (hn : 12 < μ.1) (h : V M Γ μ cc Q k sl S (pc + 2) (a0 :: a1 :: a2 :: a3 :: a4 :: a5 :: a6 :: a7 :: a8 :: a9 :: a10 :: some (.long x) :: none :: r) st) : V M Γ μ cc Q k sl S pc (a0 :: a1 :: a2 :: a3 :: a4 :: a5 :: a6 :: a7 :: a8 :: a9 :: a10 :: b :: b2 :: r) (.long x :: st) := fun C H locs ls hr hs hl => lv_lstore C.1.1 C.1.2.1 d hl hn rfl (fun ls2 hl2 => h C H locs ls2 hr hs (lv_st2 (fun j w e q => by cases (Nat.succ.inj e : j = 10); exact c1_ok hc (Option.some.inj q)) (fun j w q => by rcases Nat.lt_trichotomy j 11 with g | g | g
  · exact Or.inr ⟨Nat.ne_of_lt g, by omega, by revert q; rcases (show j = 0 ∨ j = 1 ∨ j = 2 ∨ j = 3 ∨ j = 4 ∨ j = 5 ∨ j = 6 ∨ j = 7 ∨ j = 8 ∨ j = 9 ∨ j = 10 by omega) with rfl | rfl | rfl | rfl | rfl | rfl | rfl | rfl | rfl | rfl | rfl <;> exact id⟩
  · subst g; exact Or.inl ⟨rfl, (Option.some.inj (Option.some.inj q)).symm⟩
  · rcases Nat.lt_or_ge 12 j with g2 | g2
    · obtain ⟨j2, rfl⟩ : ∃ j2, j = j2 + 13 := ⟨j - 13, by omega⟩
      exact Or.inr ⟨by omega, by omega, q⟩
    · cases (show j = 12 by omega); cases (Option.some.inj q)) rfl hl2))
theorem V_aload_11 (pc : Nat) {a0 a1 a2 a3 a4 a5 a6 a7 a8 a9 a10 : Option Value} {r : List (Option Value)} {x : Nat} (d : decode cc pc = .ok (.aload 11, 2)) (h : V M Γ μ cc Q k sl S (pc + 2) (a0 :: a1 :: a2 :: a3 :: a4 :: a5 :: a6 :: a7 :: a8 :: a9 :: a10 :: some (.ref x) :: r) (.ref x :: st)) : V M Γ μ cc Q k sl S pc (a0 :: a1 :: a2 :: a3 :: a4 :: a5 :: a6 :: a7 :: a8 :: a9 :: a10 :: some (.ref x) :: r) st := fun C H locs ls hr hs hl => lv_aload C.1.1 C.1.2.1 d (hl.at (i := 11) rfl) (h C H locs ls hr hs hl)
theorem V_astore_11 (pc : Nat) {a0 a1 a2 a3 a4 a5 a6 a7 a8 a9 a10 : Option Value} {b : Option Value} {r : List (Option Value)} {x : Nat} (d : decode cc pc = .ok (.astore 11, 2)) (hc : c1 a10 = true) (hn : 11 < μ.1) (h : V M Γ μ cc Q k sl S (pc + 2) (a0 :: a1 :: a2 :: a3 :: a4 :: a5 :: a6 :: a7 :: a8 :: a9 :: a10 :: some (.ref x) :: r) st) : V M Γ μ cc Q k sl S pc (a0 :: a1 :: a2 :: a3 :: a4 :: a5 :: a6 :: a7 :: a8 :: a9 :: a10 :: b :: r) (.ref x :: st) := fun C H locs ls hr hs hl => lv_astore C.1.1 C.1.2.1 d hl hn rfl (fun ls2 hl2 => h C H locs ls2 hr hs (lv_st1 (fun j w e q => by cases (Nat.succ.inj e : j = 10); exact c1_ok hc (Option.some.inj q)) (fun j w q => by rcases Nat.lt_trichotomy j 11 with g | g | g
  · exact Or.inr ⟨Nat.ne_of_lt g, by revert q; rcases (show j = 0 ∨ j = 1 ∨ j = 2 ∨ j = 3 ∨ j = 4 ∨ j = 5 ∨ j = 6 ∨ j = 7 ∨ j = 8 ∨ j = 9 ∨ j = 10 by omega) with rfl | rfl | rfl | rfl | rfl | rfl | rfl | rfl | rfl | rfl | rfl <;> exact id⟩
  · subst g; exact Or.inl ⟨rfl, (Option.some.inj (Option.some.inj q)).symm⟩
  · obtain ⟨j2, rfl⟩ : ∃ j2, j = j2 + 12 := ⟨j - 12, by omega⟩
    exact Or.inr ⟨by omega, q⟩) rfl hl2))
theorem V_iinc_11 (pc : Nat) {a0 a1 a2 a3 a4 a5 a6 a7 a8 a9 a10 : Option Value} {r : List (Option Value)} {n : Int} (v : Int32) {x : Int32} (d : decode cc pc = .ok (.iinc 11 n, 3)) (hv : Int32.ofInt n = v) (hc : c1 a10 = true) (hn : 11 < μ.1) (h : V M Γ μ cc Q k sl S (pc + 3) (a0 :: a1 :: a2 :: a3 :: a4 :: a5 :: a6 :: a7 :: a8 :: a9 :: a10 :: some (.int (x + v)) :: r) st) : V M Γ μ cc Q k sl S pc (a0 :: a1 :: a2 :: a3 :: a4 :: a5 :: a6 :: a7 :: a8 :: a9 :: a10 :: some (.int x) :: r) st := fun C H locs ls hr hs hl => by
  obtain ⟨k0, hk0⟩ := List.getElem?_of_mem (show (11, Value.int x) ∈ lvL 0 (a0 :: a1 :: a2 :: a3 :: a4 :: a5 :: a6 :: a7 :: a8 :: a9 :: a10 :: some (.int x) :: r) by simpa using lvL_get (a0 :: a1 :: a2 :: a3 :: a4 :: a5 :: a6 :: a7 :: a8 :: a9 :: a10 :: some (.int x) :: r) 0 11 (.int x) rfl)
  exact lv_iinc C.1.1 C.1.2.1 d hl hk0 (by rw [hv]) hn rfl (fun ls2 hl2 => h C H locs ls2 hr hs (lv_st1 (fun j w e q => by cases (Nat.succ.inj e : j = 10); exact c1_ok hc (Option.some.inj q)) (fun j w q => by rcases Nat.lt_trichotomy j 11 with g | g | g
  · exact Or.inr ⟨Nat.ne_of_lt g, by revert q; rcases (show j = 0 ∨ j = 1 ∨ j = 2 ∨ j = 3 ∨ j = 4 ∨ j = 5 ∨ j = 6 ∨ j = 7 ∨ j = 8 ∨ j = 9 ∨ j = 10 by omega) with rfl | rfl | rfl | rfl | rfl | rfl | rfl | rfl | rfl | rfl | rfl <;> exact id⟩
  · subst g; exact Or.inl ⟨rfl, (Option.some.inj (Option.some.inj q)).symm⟩
  · obtain ⟨j2, rfl⟩ : ∃ j2, j = j2 + 12 := ⟨j - 12, by omega⟩
    exact Or.inr ⟨by omega, q⟩) rfl hl2))
theorem V_iload_12 (pc : Nat) {a0 a1 a2 a3 a4 a5 a6 a7 a8 a9 a10 a11 : Option Value} {r : List (Option Value)} {x : Int32} (d : decode cc pc = .ok (.iload 12, 2)) (h : V M Γ μ cc Q k sl S (pc + 2) (a0 :: a1 :: a2 :: a3 :: a4 :: a5 :: a6 :: a7 :: a8 :: a9 :: a10 :: a11 :: some (.int x) :: r) (.int x :: st)) : V M Γ μ cc Q k sl S pc (a0 :: a1 :: a2 :: a3 :: a4 :: a5 :: a6 :: a7 :: a8 :: a9 :: a10 :: a11 :: some (.int x) :: r) st := fun C H locs ls hr hs hl => lv_iload C.1.1 C.1.2.1 d (hl.at (i := 12) rfl) (h C H locs ls hr hs hl)
theorem V_istore_12 (pc : Nat) {a0 a1 a2 a3 a4 a5 a6 a7 a8 a9 a10 a11 : Option Value} {b : Option Value} {r : List (Option Value)} {x : Int32} (d : decode cc pc = .ok (.istore 12, 2)) (hc : c1 a11 = true) (hn : 12 < μ.1) (h : V M Γ μ cc Q k sl S (pc + 2) (a0 :: a1 :: a2 :: a3 :: a4 :: a5 :: a6 :: a7 :: a8 :: a9 :: a10 :: a11 :: some (.int x) :: r) st) : V M Γ μ cc Q k sl S pc (a0 :: a1 :: a2 :: a3 :: a4 :: a5 :: a6 :: a7 :: a8 :: a9 :: a10 :: a11 :: b :: r) (.int x :: st) := fun C H locs ls hr hs hl => lv_istore C.1.1 C.1.2.1 d hl hn rfl (fun ls2 hl2 => h C H locs ls2 hr hs (lv_st1 (fun j w e q => by cases (Nat.succ.inj e : j = 11); exact c1_ok hc (Option.some.inj q)) (fun j w q => by rcases Nat.lt_trichotomy j 12 with g | g | g
  · exact Or.inr ⟨Nat.ne_of_lt g, by revert q; rcases (show j = 0 ∨ j = 1 ∨ j = 2 ∨ j = 3 ∨ j = 4 ∨ j = 5 ∨ j = 6 ∨ j = 7 ∨ j = 8 ∨ j = 9 ∨ j = 10 ∨ j = 11 by omega) with rfl | rfl | rfl | rfl | rfl | rfl | rfl | rfl | rfl | rfl | rfl | rfl <;> exact id⟩
  · subst g; exact Or.inl ⟨rfl, (Option.some.inj (Option.some.inj q)).symm⟩
  · obtain ⟨j2, rfl⟩ : ∃ j2, j = j2 + 13 := ⟨j - 13, by omega⟩
    exact Or.inr ⟨by omega, q⟩) rfl hl2))
theorem V_lload_12 (pc : Nat) {a0 a1 a2 a3 a4 a5 a6 a7 a8 a9 a10 a11 : Option Value} {r : List (Option Value)} {x : Int64} (d : decode cc pc = .ok (.lload 12, 2)) (h : V M Γ μ cc Q k sl S (pc + 2) (a0 :: a1 :: a2 :: a3 :: a4 :: a5 :: a6 :: a7 :: a8 :: a9 :: a10 :: a11 :: some (.long x) :: r) (.long x :: st)) : V M Γ μ cc Q k sl S pc (a0 :: a1 :: a2 :: a3 :: a4 :: a5 :: a6 :: a7 :: a8 :: a9 :: a10 :: a11 :: some (.long x) :: r) st := fun C H locs ls hr hs hl => lv_lload C.1.1 C.1.2.1 d (hl.at (i := 12) rfl) (h C H locs ls hr hs hl)
theorem V_lstore_12 (pc : Nat) {a0 a1 a2 a3 a4 a5 a6 a7 a8 a9 a10 a11 : Option Value} {b b2 : Option Value} {r : List (Option Value)} {x : Int64} (d : decode cc pc = .ok (.lstore 12, 2)) (hc : c1 a11 = true) (hn : 13 < μ.1) (h : V M Γ μ cc Q k sl S (pc + 2) (a0 :: a1 :: a2 :: a3 :: a4 :: a5 :: a6 :: a7 :: a8 :: a9 :: a10 :: a11 :: some (.long x) :: none :: r) st) : V M Γ μ cc Q k sl S pc (a0 :: a1 :: a2 :: a3 :: a4 :: a5 :: a6 :: a7 :: a8 :: a9 :: a10 :: a11 :: b :: b2 :: r) (.long x :: st) := fun C H locs ls hr hs hl => lv_lstore C.1.1 C.1.2.1 d hl hn rfl (fun ls2 hl2 => h C H locs ls2 hr hs (lv_st2 (fun j w e q => by cases (Nat.succ.inj e : j = 11); exact c1_ok hc (Option.some.inj q)) (fun j w q => by rcases Nat.lt_trichotomy j 12 with g | g | g
  · exact Or.inr ⟨Nat.ne_of_lt g, by omega, by revert q; rcases (show j = 0 ∨ j = 1 ∨ j = 2 ∨ j = 3 ∨ j = 4 ∨ j = 5 ∨ j = 6 ∨ j = 7 ∨ j = 8 ∨ j = 9 ∨ j = 10 ∨ j = 11 by omega) with rfl | rfl | rfl | rfl | rfl | rfl | rfl | rfl | rfl | rfl | rfl | rfl <;> exact id⟩
  · subst g; exact Or.inl ⟨rfl, (Option.some.inj (Option.some.inj q)).symm⟩
  · rcases Nat.lt_or_ge 13 j with g2 | g2
    · obtain ⟨j2, rfl⟩ : ∃ j2, j = j2 + 14 := ⟨j - 14, by omega⟩
      exact Or.inr ⟨by omega, by omega, q⟩
    · cases (show j = 13 by omega); cases (Option.some.inj q)) rfl hl2))
theorem V_aload_12 (pc : Nat) {a0 a1 a2 a3 a4 a5 a6 a7 a8 a9 a10 a11 : Option Value} {r : List (Option Value)} {x : Nat} (d : decode cc pc = .ok (.aload 12, 2)) (h : V M Γ μ cc Q k sl S (pc + 2) (a0 :: a1 :: a2 :: a3 :: a4 :: a5 :: a6 :: a7 :: a8 :: a9 :: a10 :: a11 :: some (.ref x) :: r) (.ref x :: st)) : V M Γ μ cc Q k sl S pc (a0 :: a1 :: a2 :: a3 :: a4 :: a5 :: a6 :: a7 :: a8 :: a9 :: a10 :: a11 :: some (.ref x) :: r) st := fun C H locs ls hr hs hl => lv_aload C.1.1 C.1.2.1 d (hl.at (i := 12) rfl) (h C H locs ls hr hs hl)
theorem V_astore_12 (pc : Nat) {a0 a1 a2 a3 a4 a5 a6 a7 a8 a9 a10 a11 : Option Value} {b : Option Value} {r : List (Option Value)} {x : Nat} (d : decode cc pc = .ok (.astore 12, 2)) (hc : c1 a11 = true) (hn : 12 < μ.1) (h : V M Γ μ cc Q k sl S (pc + 2) (a0 :: a1 :: a2 :: a3 :: a4 :: a5 :: a6 :: a7 :: a8 :: a9 :: a10 :: a11 :: some (.ref x) :: r) st) : V M Γ μ cc Q k sl S pc (a0 :: a1 :: a2 :: a3 :: a4 :: a5 :: a6 :: a7 :: a8 :: a9 :: a10 :: a11 :: b :: r) (.ref x :: st) := fun C H locs ls hr hs hl => lv_astore C.1.1 C.1.2.1 d hl hn rfl (fun ls2 hl2 => h C H locs ls2 hr hs (lv_st1 (fun j w e q => by cases (Nat.succ.inj e : j = 11); exact c1_ok hc (Option.some.inj q)) (fun j w q => by rcases Nat.lt_trichotomy j 12 with g | g | g
  · exact Or.inr ⟨Nat.ne_of_lt g, by revert q; rcases (show j = 0 ∨ j = 1 ∨ j = 2 ∨ j = 3 ∨ j = 4 ∨ j = 5 ∨ j = 6 ∨ j = 7 ∨ j = 8 ∨ j = 9 ∨ j = 10 ∨ j = 11 by omega) with rfl | rfl | rfl | rfl | rfl | rfl | rfl | rfl | rfl | rfl | rfl | rfl <;> exact id⟩
  · subst g; exact Or.inl ⟨rfl, (Option.some.inj (Option.some.inj q)).symm⟩
  · obtain ⟨j2, rfl⟩ : ∃ j2, j = j2 + 13 := ⟨j - 13, by omega⟩
    exact Or.inr ⟨by omega, q⟩) rfl hl2))
theorem V_iinc_12 (pc : Nat) {a0 a1 a2 a3 a4 a5 a6 a7 a8 a9 a10 a11 : Option Value} {r : List (Option Value)} {n : Int} (v : Int32) {x : Int32} (d : decode cc pc = .ok (.iinc 12 n, 3)) (hv : Int32.ofInt n = v) (hc : c1 a11 = true) (hn : 12 < μ.1) (h : V M Γ μ cc Q k sl S (pc + 3) (a0 :: a1 :: a2 :: a3 :: a4 :: a5 :: a6 :: a7 :: a8 :: a9 :: a10 :: a11 :: some (.int (x + v)) :: r) st) : V M Γ μ cc Q k sl S pc (a0 :: a1 :: a2 :: a3 :: a4 :: a5 :: a6 :: a7 :: a8 :: a9 :: a10 :: a11 :: some (.int x) :: r) st := fun C H locs ls hr hs hl => by
  obtain ⟨k0, hk0⟩ := List.getElem?_of_mem (show (12, Value.int x) ∈ lvL 0 (a0 :: a1 :: a2 :: a3 :: a4 :: a5 :: a6 :: a7 :: a8 :: a9 :: a10 :: a11 :: some (.int x) :: r) by simpa using lvL_get (a0 :: a1 :: a2 :: a3 :: a4 :: a5 :: a6 :: a7 :: a8 :: a9 :: a10 :: a11 :: some (.int x) :: r) 0 12 (.int x) rfl)
  exact lv_iinc C.1.1 C.1.2.1 d hl hk0 (by rw [hv]) hn rfl (fun ls2 hl2 => h C H locs ls2 hr hs (lv_st1 (fun j w e q => by cases (Nat.succ.inj e : j = 11); exact c1_ok hc (Option.some.inj q)) (fun j w q => by rcases Nat.lt_trichotomy j 12 with g | g | g
  · exact Or.inr ⟨Nat.ne_of_lt g, by revert q; rcases (show j = 0 ∨ j = 1 ∨ j = 2 ∨ j = 3 ∨ j = 4 ∨ j = 5 ∨ j = 6 ∨ j = 7 ∨ j = 8 ∨ j = 9 ∨ j = 10 ∨ j = 11 by omega) with rfl | rfl | rfl | rfl | rfl | rfl | rfl | rfl | rfl | rfl | rfl | rfl <;> exact id⟩
  · subst g; exact Or.inl ⟨rfl, (Option.some.inj (Option.some.inj q)).symm⟩
  · obtain ⟨j2, rfl⟩ : ∃ j2, j = j2 + 13 := ⟨j - 13, by omega⟩
    exact Or.inr ⟨by omega, q⟩) rfl hl2))
end VR
