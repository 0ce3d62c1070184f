/-! THE CLAIM OUT OF ONE WALK OF THE LAW'S BODY. Your part is whole_start (and what it stands on); all else here is the same for every law, but numbers. -/
def R_law : String := "SockTableLaw"
def lw_P (b : Addr) (xs : List Int32) (args : Array Value) (s : State) : Prop := args = #[.ref b] ∧ s.IntsAt b xs ∧ xs.length ≤ 3072 ∧ (Jvm.Cond.and given_1 narrow_1).before args s = true
def lw_Q (_ : Array Value) (s : State) (o : Outcome) (t : State) : Prop := o = .returned (some (.int 1)) ∧ Framed s o t [] 600000 7302250
def lw_Z (below : List Frame) (a : Array Value) (s : State) : State → Prop := fun t => ∃ o, t.status = .running ∧ Ended t below o ∧ lw_Q a s o t
/-- the law's own end, with 1 on the stack, nothing written that was there before, its room as the claim has it -/
theorem lw_ret {p : Program} {l : Launch} {e : Env} {s : State} {m : MethodId} {below : List Frame} {meth : Method} {c : Code} {b : Nat} (hx : p.tables.exec = Jvm.exec) (hb : c.code = code) (hr : meth.sig.returnType = ret) (hlocks : meth.locks = false) {pc : Nat} {H : Heap} {ls : Array Slot} (hdg : decode code pc = .ok (.ireturn, 1)) : W p l e room_1 s m #[Value.ref b] below meth c H [] 600000 7302250 (lw_Z below #[Value.ref b] s) (F0 m pc ls [.int 1]) := by
  intro T hT X
  obtain ⟨fs, hret, hrun, hended, hW, hframe⟩ := X.leave (v := some (.int 1)) (hlocks := hlocks) (fun h => by rw [hr] at h; cases h)
  have hmeth' : T.vm.method? m = some meth := X.method'
  refine ⟨T.setFrames fs, ?_, .returned (some (.int 1)), hrun, hended, rfl, ⟨_, rfl⟩, hW, hframe⟩
  jvm_step X.here [X.here.top, hx, hb, hdg, hmeth', hr, ret, narrow_b1]
  (try refine ⟨rfl, ?_⟩); (try refine ⟨rfl, ?_⟩)
  first | (intro acts; rw [hret _ acts rfl rfl rfl]) | rw [hret _ _ rfl rfl rfl]
  exact Steps.refl _
/-- what holds at the law's entry: the machine, the code, the tables' words (any of lw_tbl by 'hts w (by decide +kernel)'), the script of L ints xs at the cell b, what the Statement gives of the start (any of its parts by flat_of_before) -/
def lw_At (p : Program) (s : State) (m : MethodId) (meth : Method) (c : Code) (b L : Nat) (xs : Nat → Int32) : Prop :=
  p.tables.exec = Jvm.exec ∧ c.code = code ∧ meth.sig.returnType = ret ∧ c.maxLocals = 4 ∧ s.vm.findClass R_law = some m.cls ∧ (∀ w ∈ lw_tbl, w.before #[Value.ref b] s = true) ∧ va_X b L xs s s.heap ∧ b < s.heap.size ∧ meth.locks = false ∧ (Jvm.Cond.and given_1 narrow_1).before #[Value.ref b] s = true
/-! THE LAW: its frame in the judgement V -/
abbrev LV (p : Program) (l : Launch) (e : Env) (s : State) (m : MethodId) (below : List Frame) (meth : Method) (c : Code) (b : Nat) (Γ : GC) (k sl : Nat) (S : PS) (pc : Nat) (lv : List (Option Value)) (st : List Value) : Prop := V (p, l, e, room_1, s, m, #[Value.ref b], below, meth, c) Γ (4, RL, meth.name, meth.sig.returnType, room_1) code (lw_Z below #[Value.ref b] s) k sl S pc lv st
abbrev GG (n : Nat) (W : va_W) (cy : Nat → ClassId) (G : va_G) (lo base : Nat) (kS vS : Nat → Nat) : GC := (n, W, cy, G, lo, base, kS, vS)
section VSC
variable {M : MC} {Γ : GC} {μ : MI} {cc : ByteArray} {Q : State → Prop} {k sl : Nat} {S : PS} {lv : List (Option Value)} {st : List Value} {b L : Nat} {xs : Nat → Int32}
theorem V_slen (pc : Nat) (hX : va_X b L xs M.2.2.2.2.1 M.2.2.2.2.1.heap) (hbl : b < M.2.2.2.2.1.heap.size) (hbA : ¬ gA Γ b) (d : decode cc pc = .ok (.arraylength, 1)) (h : V M Γ μ cc Q k sl S (pc + 1) lv (.int (nI L) :: st)) : V M Γ μ cc Q k sl S pc lv (.ref b :: st) := fun C H locs ls hr hs hl => va_slen C.1.1 C.1.2.1 hX hbl hbA hs d (h C H locs ls hr hs hl)
theorem V_sld (pc : Nat) {i : Int32} (hX : va_X b L xs M.2.2.2.2.1 M.2.2.2.2.1.heap) (hbl : b < M.2.2.2.2.1.heap.size) (hbA : ¬ gA Γ b) (hin : vp_in i L) (d : decode cc pc = .ok (.iaload, 1)) (h : V M Γ μ cc Q k sl S (pc + 1) lv (.int (xs i.toNatClampNeg) :: st)) : V M Γ μ cc Q k sl S pc lv (.int i :: .ref b :: st) := fun C H locs ls hr hs hl => va_sld C.1.1 C.1.2.1 hX hbl hbA hs hin d (h C H locs ls hr hs hl)
theorem V_widen {k2 sl2 pc : Nat} (h1 : k ≤ k2) (h2 : sl ≤ sl2) (h : V M Γ μ cc Q k2 sl2 S pc lv st) : V M Γ μ cc Q k sl S pc lv st := fun C H locs ls hr hs hl => W.widen h1 h2 (h C H locs ls hr hs hl)
end VSC
theorem lg_cmp_self (x : Int64) : lg_cmp x x = 0 := (lg_cmp_eq x x).mpr rfl
theorem va_P_swap {G : va_G} {cl : List vw_C} {a b : va_W} {H : Heap} (h : va_P G cl (a ++ b) H) : va_P G cl (b ++ a) H := by
  intro k q hq
  have hm : q ∈ a ++ b := by
    rcases List.mem_append.mp (List.mem_of_getElem? hq) with x | x
    · exact List.mem_append.mpr (Or.inr x)
    · exact List.mem_append.mpr (Or.inl x)
  obtain ⟨i, hi⟩ := List.getElem?_of_mem hm
  exact h i q hi
theorem va_D_swap {A : Nat → Prop} {a b : va_W} (h : va_D A (a ++ b)) : va_D A (b ++ a) := by
  have key : ∀ i, i < b.length + a.length → (b ++ a)[i]? = (a ++ b)[if i < b.length then a.length + i else i - b.length]? := by
    intro i hi
    by_cases hb : i < b.length
    · rw [if_pos hb, List.getElem?_append_left hb, List.getElem?_append_right (by omega)]
      congr 1; omega
    · rw [if_neg hb, List.getElem?_append_right (by omega), List.getElem?_append_left (by omega)]
  refine ⟨fun i j p q hi hj e => ?_, fun k q hq => ?_⟩
  · have li : i < b.length + a.length := by have := (List.getElem?_eq_some_iff.mp hi).1; simpa using this
    have lj : j < b.length + a.length := by have := (List.getElem?_eq_some_iff.mp hj).1; simpa using this
    rw [key i li] at hi
    rw [key j lj] at hj
    have := h.1 _ _ p q hi hj e
    split at this <;> split at this <;> omega
  · have lk : k < b.length + a.length := by have := (List.getElem?_eq_some_iff.mp hq).1; simpa using this
    rw [key k lk] at hq
    exact h.2 _ q hq
section LAW
variable {p : Program} {l : Launch} {e : Env} {s : State} {m : MethodId} {below : List Frame} {meth : Method} {c : Code} {b : Nat} {cy : Nat → ClassId} {G : va_G} {kS vS : Nat → Nat} {xs : Nat → Int32}
/-- the pool and what lies beside it change places -/
theorem lv_swap {lo1 lo2 b1 b2 k sl pc : Nat} {S1 S2 : PS} {lv : List (Option Value)} {st : List Value} (hz : b1 + sN S1 = b2 + sN S2) (h : LV p l e s m below meth c b (GG s.heap.size (va_pl (PL lo1 S1) (EN cy S1)) cy G lo2 b2 kS vS) k sl S2 pc lv st) :
    LV p l e s m below meth c b (GG s.heap.size (va_pl (PL lo2 S2) (EN cy S2)) cy G lo1 b1 kS vS) k sl S1 pc lv st := fun C H locs ls hr hs hl =>
  h C H locs ls ⟨va_P_swap hr.1, va_D_swap hr.2.1, hr.2.2.trans hz⟩ hs hl
/-- from the first pool to an empty one behind it -/
theorem lv_next {lo1 k sl pc : Nat} {S1 S2 : PS} {lv : List (Option Value)} {st : List Value} (hz : sN S2 = 0) (h : LV p l e s m below meth c b (GG s.heap.size (va_pl (PL lo1 S1) (EN cy S1)) cy G (lo1 + sN S1) (lo1 + sN S1) kS vS) k sl S2 pc lv st) :
    LV p l e s m below meth c b (GG s.heap.size [] cy G lo1 lo1 kS vS) k sl S1 pc lv st := fun C H locs ls hr hs hl => by
  have e0 : WDL (GG s.heap.size (va_pl (PL lo1 S1) (EN cy S1)) cy G (lo1 + sN S1) (lo1 + sN S1) kS vS) S2 = WDL (GG s.heap.size [] cy G lo1 lo1 kS vS) S1 := by
    unfold WDL PL
    show va_pl (List.range' lo1 (sN S1)) (EN cy S1) ++ va_pl (List.range' (lo1 + sN S1) (sN S2)) (EN cy S2) = [] ++ va_pl (List.range' lo1 (sN S1)) (EN cy S1)
    rw [hz]
    simp [va_pl]
  refine h C H locs ls ⟨?_, ?_, ?_⟩ hs hl
  · rw [e0]; exact hr.1
  · rw [e0]; exact hr.2.1
  · have := hr.2.2
    show H.size = lo1 + sN S1 + sN S2
    rw [hz]; exact this
theorem V_lawret {Γ : GC} {k sl : Nat} {S : PS} {lv : List (Option Value)} (pc : Nat) (hk : k ≤ 600000) (hsl : sl ≤ 7302250) (hret : meth.sig.returnType = ret) (hg : Γ.1 = s.heap.size) (d : decode code pc = .ok (.ireturn, 1)) : LV p l e s m below meth c b Γ k sl S pc lv [.int 1] := fun C H locs ls hr hs hl =>
  W.widen hk hsl (va_forget (fun q hq => by
    have h1 := hs.2.2 q hq
    unfold gA at h1
    rw [hg] at h1
    exact h1) (lw_ret C.1.1 C.1.2.1 hret C.2.1 d))
end LAW

