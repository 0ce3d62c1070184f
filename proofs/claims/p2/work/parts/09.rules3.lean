section VC
variable {M : MC} {Γ : GC} {μ : MI} {cc : ByteArray} {Q : State → Prop} {k sl : Nat} {S : PS} {lv : List (Option Value)} {st : List Value}
theorem dflt_ok : ∀ c, c < 13 → ∀ j, j < nfOf c → defaultValue (tyOf c j) = fv (tyOf c j) 0 none := by
  intro c hc
  rcases (show c = 0 ∨ c = 1 ∨ c = 2 ∨ c = 3 ∨ c = 4 ∨ c = 5 ∨ c = 6 ∨ c = 7 ∨ c = 8 ∨ c = 9 ∨ c = 10 ∨ c = 11 ∨ c = 12 by omega) with h | h | h | h | h | h | h | h | h | h | h | h | h <;> subst h <;> decide +kernel
/-- one cell more -/
theorem WDL_push {Γ : GC} {S S' : PS} (hN : sN S' = sN S + 1) (ho : ∀ b, b ≠ Γ.2.2.2.2.1 + sN S → EN Γ.2.2.1 S' b = EN Γ.2.2.1 S b) : WDL Γ S' = WDL Γ S ++ [(Γ.2.2.2.2.1 + sN S, EN Γ.2.2.1 S' (Γ.2.2.2.2.1 + sN S))] := by
  have hL : PL Γ.2.2.2.2.1 S' = PL Γ.2.2.2.2.1 S ++ [Γ.2.2.2.2.1 + sN S] := by unfold PL; rw [hN]; exact PL_push _ S
  have hnot : Γ.2.2.2.2.1 + sN S ∉ PL Γ.2.2.2.2.1 S := fun h => by have := (PL_mem.mp h).2; omega
  unfold WDL
  rw [List.append_assoc, va_pl_push hnot, hL]
  refine congrArg (fun l => Γ.2.1 ++ l) (va_pl_congr (fun b => ?_))
  by_cases hb : b = Γ.2.2.2.2.1 + sN S
  · subst hb; rw [va_up_self]
  · rw [va_up_ne _ _ hb, ho b hb]
theorem RLs_push {Γ : GC} {S S' : PS} {s : State} {H H1 : Heap} {locs : List Loc} (hr : RLs Γ S H) (hlo : Γ.2.2.2.2.2.1 = Γ.2.2.2.2.1) (hs : va_S (gA Γ) s.heap H locs) (hB : Γ.1 ≤ s.heap.size) (hN : sN S' = sN S + 1) (ho : ∀ b, b ≠ Γ.2.2.2.2.1 + sN S → EN Γ.2.2.1 S' b = EN Γ.2.2.1 S b)
    (hat : va_at Γ.2.2.2.1 vwCl (Γ.2.2.2.2.1 + sN S, EN Γ.2.2.1 S' (Γ.2.2.2.2.1 + sN S)) H1) (oq : ∀ q : Nat, q < Γ.2.2.2.2.1 + sN S → H1[q]? = H[q]?) (z : H1.size = Γ.2.2.2.2.1 + sN S + 1) : RLs Γ S' H1 ∧ va_S (gA Γ) s.heap H1 locs := by
  have hz : H.size = Γ.2.2.2.2.1 + sN S := by rw [hr.2.2, hlo]
  have e2 := WDL_push (Γ := Γ) hN ho
  have hk : ∀ (i : Nat) (x : Nat × va_E), (WDL Γ S)[i]? = some x → H1[x.1]? = H[x.1]? := fun i x hx => oq x.1 (by rw [← hz]; exact (hr.1 i x hx).lt)
  refine ⟨⟨?_, ?_, by rw [z, hN, hlo]; omega⟩, ⟨Nat.le_trans hs.1 (by omega), fun q h1 h2 => (oq q (by have := hs.1; omega)).trans (hs.2.1 q h1 h2), hs.2.2⟩⟩
  · rw [e2]
    refine (hr.1.kept hk).app (fun i x hx => ?_)
    have hi : i < 1 := (List.getElem?_eq_some_iff.mp hx).1
    rw [show i = 0 by omega] at hx
    cases hx
    exact hat
  · rw [e2]
    exact hr.2.1.push hr.1 hz.symm (show Γ.1 ≤ _ by have := hs.1; omega)
theorem V_new (pc : Nat) {i : Nat} (c : Nat) (d : decode cc pc = .ok (.new i, 3)) (hkl : Cond.classLink μ.2.1 i (RXOf c) ∈ lwG) (hib : Cond.instantiable (RXOf c) (nfOf c) ∈ lwG) (hini : Cond.initialized (RXOf c) ∈ lwG) (hc : c < 13) (hlo : Γ.2.2.2.2.2.1 = Γ.2.2.2.2.1) (hcells : k + 1 ≤ μ.2.2.2.2.cells) (hslots : sl + nfOf c ≤ μ.2.2.2.2.slots)
    (h : V M Γ μ cc Q (k + 1) (sl + nfOf c) (nO S (Γ.2.2.2.2.1 + sN S) c) (pc + 3) lv (.ref (Γ.2.2.2.2.1 + sN S) :: st)) : V M Γ μ cc Q k sl S pc lv st := fun C H locs ls hr hs hl => by
  have hts := C.1.2.2.2.2
  have hKn := C.2.2.1.1.1 c _ (vwCl_at c hc)
  have hR := C.2.2.2.2.2.2.2
  refine W.newcK C.1.1 C.1.2.1 C.1.2.2.2.1 (hts _ hkl) (hts _ hib) (hts _ hini) rfl d (by rw [hR]; exact hcells) (by rw [hR]; exact hslots) hKn.2.1 (show H.size = Γ.2.2.2.2.1 + sN S by rw [hr.2.2, hlo]) fun H1 kC hkC e1 z1 o1 => ?_
  have ho : ∀ b, b ≠ Γ.2.2.2.2.1 + sN S → EN Γ.2.2.1 (nO S (Γ.2.2.2.2.1 + sN S) c) b = EN Γ.2.2.1 S b := fun b hb => EN_eq (va_up_ne _ _ hb) (fun j => congrFun (va_up_ne (sI S) _ hb) j) (fun j => congrFun (va_up_ne (sR S) _ hb) j) rfl (fun _ => rfl) (fun _ => rfl) (fun _ => rfl)
  have hk : sK (nO S (Γ.2.2.2.2.1 + sN S) c) (Γ.2.2.2.2.1 + sN S) = c := va_up_self _ _ _
  obtain ⟨g1, g2⟩ := RLs_push (S' := nO S (Γ.2.2.2.2.1 + sN S) c) hr hlo hs C.2.2.2.2.1 rfl ho (by
    rw [EN_o hk hc]
    refine ⟨_, vwCl_at c hc, (u_born (tyOf c) hts (inG_ok c hc) hKn hkC e1 (ty_ok c hc)).to (fun j hj => ?_)⟩
    unfold vp_V
    rw [List.getD_eq_getElem?_getD, flds_at hk hj]
    show defaultValue (tyOf c j) = fv _ (va_up (sI S) _ (fun _ => 0) _ j) (va_up (sR S) _ (fun _ => none) _ j)
    rw [va_up_self, va_up_self]
    exact dflt_ok c hc j hj) o1 z1
  exact h C H1 locs ls g1 g2 hl
theorem EN_nA {cy : Nat → ClassId} {S : PS} {q kd n b : Nat} (hb : b ≠ q) : EN cy (nA S q kd n) b = EN cy S b := EN_eq (va_up_ne _ _ hb) (fun _ => rfl) (fun _ => rfl) (va_up_ne _ _ hb) (fun j => congrFun (va_up_ne (sA S) _ hb) j) (fun j => congrFun (va_up_ne (sJ S) _ hb) j) (fun j => congrFun (va_up_ne (sP S) _ hb) j)
theorem V_newarray (pc : Nat) {aty : ArrayType} {n : Int32} (kd N : Nat) (hkd : (kd = 13 ∧ newarray.typeOf aty = .byte) ∨ (kd = 14 ∧ newarray.typeOf aty = .int) ∨ (kd = 15 ∧ newarray.typeOf aty = .long) ∨ (kd = 16 ∧ newarray.typeOf aty = .boolean)) (d : decode cc pc = .ok (.newarray aty, 2)) (hac : Cond.arrayClass (newarray.typeOf aty) ∈ lwG) (hn : ¬ n < 0) (hN : n.toNatClampNeg = N) (hby : N * componentBytes (newarray.typeOf aty) ≤ 536870912) (hlo : Γ.2.2.2.2.2.1 = Γ.2.2.2.2.1) (hcells : k + 1 ≤ μ.2.2.2.2.cells) (hslots : sl + N ≤ μ.2.2.2.2.slots)
    (h : V M Γ μ cc Q (k + 1) (sl + N) (nA S (Γ.2.2.2.2.1 + sN S) kd N) (pc + 2) lv (.ref (Γ.2.2.2.2.1 + sN S) :: st)) : V M Γ μ cc Q k sl S pc lv (.int n :: st) := fun C H locs ls hr hs hl => by
  have hts := C.1.2.2.2.2
  have hR := C.2.2.2.2.2.2.2
  refine va_newaK C.1.1 C.1.2.1 (hts _ hac) rfl d rfl hn hN hby (by rw [hR]; exact hcells) (by rw [hR]; exact hslots) (show H.size = Γ.2.2.2.2.1 + sN S by rw [hr.2.2, hlo]) fun H1 cA e1 z1 o1 _ hfc => ?_
  have hat : va_at Γ.2.2.2.1 vwCl (Γ.2.2.2.2.1 + sN S, EN Γ.2.2.1 (nA S (Γ.2.2.2.2.1 + sN S) kd N) (Γ.2.2.2.2.1 + sN S)) H1 := by
    have hk : sK (nA S (Γ.2.2.2.2.1 + sN S) kd N) (Γ.2.2.2.2.1 + sN S) = kd := va_up_self _ _ _
    have hl : sL (nA S (Γ.2.2.2.2.1 + sN S) kd N) (Γ.2.2.2.2.1 + sN S) = N := va_up_self _ _ _
    have hA : sA (nA S (Γ.2.2.2.2.1 + sN S) kd N) (Γ.2.2.2.2.1 + sN S) = fun _ => 0 := va_up_self _ _ _
    have hJ : sJ (nA S (Γ.2.2.2.2.1 + sN S) kd N) (Γ.2.2.2.2.1 + sN S) = fun _ => 0 := va_up_self _ _ _
    rcases hkd with ⟨rfl, q⟩ | ⟨rfl, q⟩ | ⟨rfl, q⟩ | ⟨rfl, q⟩ <;> rw [q] at e1 hfc
    · rw [EN_b hk, hl, hA, show Γ.2.2.1 13 = cA from Option.some.inj ((C.2.2.1.1.2 0 _ rfl).2.symm.trans hfc)]; exact e1
    · rw [EN_i hk, hl, hA, show Γ.2.2.1 14 = cA from Option.some.inj ((C.2.2.1.1.2 1 _ rfl).2.symm.trans hfc)]; exact e1
    · rw [EN_l hk, hl, hJ, show Γ.2.2.1 15 = cA from Option.some.inj ((C.2.2.1.1.2 2 _ rfl).2.symm.trans hfc)]; exact e1
    · rw [EN_z hk, hl, hA, show Γ.2.2.1 16 = cA from Option.some.inj ((C.2.2.1.1.2 3 _ rfl).2.symm.trans hfc)]; exact e1
  obtain ⟨g1, g2⟩ := RLs_push (S' := nA S (Γ.2.2.2.2.1 + sN S) kd N) hr hlo hs C.2.2.2.2.1 rfl (fun b hb => EN_nA hb) hat o1 z1
  exact h C H1 locs ls g1 g2 hl
/-- a new row of States -/
theorem V_anewarray (pc : Nat) {i : Nat} {n : Int32} (N : Nat) (d : decode cc pc = .ok (.anewarray i, 3)) (hkl : Cond.classLink μ.2.1 i "SockTable$State" ∈ lwG) (hn : ¬ n < 0) (hN : n.toNatClampNeg = N) (hby : N * 4 ≤ 536870912) (hlo : Γ.2.2.2.2.2.1 = Γ.2.2.2.2.1) (hcells : k + 1 ≤ μ.2.2.2.2.cells) (hslots : sl + N ≤ μ.2.2.2.2.slots)
    (h : V M Γ μ cc Q (k + 1) (sl + N) (nA S (Γ.2.2.2.2.1 + sN S) 17 N) (pc + 3) lv (.ref (Γ.2.2.2.2.1 + sN S) :: st)) : V M Γ μ cc Q k sl S pc lv (.int n :: st) := fun C H locs ls hr hs hl => by
  have hts := C.1.2.2.2.2
  have hR := C.2.2.2.2.2.2.2
  subst hN
  have hz : H.size = Γ.2.2.2.2.1 + sN S := by rw [hr.2.2, hlo]
  refine W.anew C.1.1 C.1.2.1 C.1.2.2.2.1 (hts _ hkl) (va_AO.use C.2.2.1.2.2) rfl d rfl hn hby (by rw [hR]; exact hcells) (by rw [hR]; exact hslots) fun cA kA comp f1 f2 f3 f4 => ?_
  have hcA : Γ.2.2.1 17 = cA := by
    obtain ⟨_, _, _, _, _, k4⟩ := (C.2.2.1.1.2 4 _ rfl).2
    exact Option.some.inj (k4.symm.trans f1)
  rw [hz]
  generalize hH1 : H.push ({ cls := cA, slots := Array.replicate n.toNatClampNeg .null, vm := .none } : Cell) = H1
  have z1 : H1.size = Γ.2.2.2.2.1 + sN S + 1 := by rw [← hH1, Array.size_push, hz]
  have e1 : H1[Γ.2.2.2.2.1 + sN S]? = some (arrV cA n.toNatClampNeg (fun _ => .null)) := by rw [← hH1, ← hz, Array.getElem?_push_size, ← arrV_new]
  have o1 : ∀ q : Nat, q < Γ.2.2.2.2.1 + sN S → H1[q]? = H[q]? := fun q hq => by rw [← hH1, Array.getElem?_push, if_neg (by omega)]
  have hat : va_at Γ.2.2.2.1 vwCl (Γ.2.2.2.2.1 + sN S, EN Γ.2.2.1 (nA S (Γ.2.2.2.2.1 + sN S) 17 n.toNatClampNeg) (Γ.2.2.2.2.1 + sN S)) H1 := by
    have hk : sK (nA S (Γ.2.2.2.2.1 + sN S) 17 n.toNatClampNeg) (Γ.2.2.2.2.1 + sN S) = 17 := va_up_self _ _ _
    have hl : sL (nA S (Γ.2.2.2.2.1 + sN S) 17 n.toNatClampNeg) (Γ.2.2.2.2.1 + sN S) = n.toNatClampNeg := va_up_self _ _ _
    have hP : sP (nA S (Γ.2.2.2.2.1 + sN S) 17 n.toNatClampNeg) (Γ.2.2.2.2.1 + sN S) = fun _ => none := va_up_self _ _ _
    rw [EN_q hk, hl, hP, hcA]
    exact e1
  obtain ⟨g1, g2⟩ := RLs_push (S' := nA S (Γ.2.2.2.2.1 + sN S) 17 n.toNatClampNeg) hr hlo hs C.2.2.2.2.1 rfl (fun b hb => EN_nA hb) hat o1 z1
  exact h C H1 locs ls g1 g2 hl
-- ends
/-- what a method leaves: an answer, a pool; nothing else has changed -/
def QC (Γ : GC) (Qr : Option Value → PS → Prop) : Array Value → State → Outcome → State → Prop := fun _ st oc t => (∃ (v : Option Value) (S' : PS), oc = .returned v ∧ Qr v S' ∧ RLs Γ S' t.heap) ∧ va_F (gA Γ) st t
def RQ (M : MC) (Γ : GC) (Qr : Option Value → PS → Prop) (K SL : Nat) : State → Prop := MQ M.2.2.2.2.2.2.2.1 (QC Γ Qr) M.2.2.2.2.2.2.1 M.2.2.2.2.1 K SL (gA Γ)
theorem V_iret (pc : Nat) {x : Int32} {K SL : Nat} {Qr : Option Value → PS → Prop} (ty : FieldType) (d : decode cc pc = .ok (.ireturn, 1)) (hret : μ.2.2.2.1 = some ty) (hn : narrow ty (.int x) = .int x) (hk : k ≤ K) (hsl : sl ≤ SL) (hQ : Qr (some (.int x)) S) : V M Γ μ cc (RQ M Γ Qr K SL) k sl S pc lv [.int x] := fun C H locs ls hr hs hl =>
  W.widen hk hsl (W.zret C.1.1 C.1.2.1 (C.2.2.2.2.2.2.1.trans hret) hn (fun t ht hW => ⟨⟨_, S, rfl, hQ, by rw [ht]; exact hr⟩, hs.F ht⟩) hs.2.2 d C.2.1)
theorem V_lret (pc : Nat) {x : Int64} {K SL : Nat} {Qr : Option Value → PS → Prop} (d : decode cc pc = .ok (.lreturn, 1)) (hret : μ.2.2.2.1 = some .long) (hk : k ≤ K) (hsl : sl ≤ SL) (hQ : Qr (some (.long x)) S) : V M Γ μ cc (RQ M Γ Qr K SL) k sl S pc lv [.long x] := fun C H locs ls hr hs hl =>
  W.widen hk hsl (W.lret C.1.1 C.1.2.1 (C.2.2.2.2.2.2.1.trans hret) (fun t ht hW => ⟨⟨_, S, rfl, hQ, by rw [ht]; exact hr⟩, hs.F ht⟩) hs.2.2 d C.2.1)
theorem V_vret (pc : Nat) {K SL : Nat} {Qr : Option Value → PS → Prop} (d : decode cc pc = .ok (.return_, 1)) (hret : μ.2.2.2.1 = none) (hk : k ≤ K) (hsl : sl ≤ SL) (hQ : Qr none S) : V M Γ μ cc (RQ M Γ Qr K SL) k sl S pc lv [] := fun C H locs ls hr hs hl =>
  W.widen hk hsl (W.vret C.1.1 C.1.2.1 (C.2.2.2.2.2.2.1.trans hret) (fun t ht hW => ⟨⟨_, S, rfl, hQ, by rw [ht]; exact hr⟩, hs.F ht⟩) hs.2.2 d C.2.1)
-- contracts and calls
abbrev RM (dp k sl : Nat) : Room := { frames := dp, cells := k, slots := sl, locals := 60 * dp }
/-- the contract of method y: from the pool S, with these arguments, it answers, and Qr holds of the answer and the pool behind it -/
def CT (l : Launch) (Γ : GC) (y : MethodName) (cc : ByteArray) (nL : Nat) (ret : Option FieldType) (dp k sl : Nat) (as : List Value) (S : PS) (Qr : Option Value → PS → Prop) : Prop :=
  Met l y (Cond.code y cc nL ret :: lwG) (RM dp k sl) (va_Pc as (RU Γ S)) (QC Γ Qr) k sl (gA Γ)
theorem RU_blind {Γ : GC} {S : PS} {as : List Value} : FrameBlind (va_Pc as (RU Γ S)) := fun a U g mk q => ⟨q.1, q.2.1, q.2.2.1.same (s := U) rfl, q.2.2.2.1.same (s := U) rfl, q.2.2.2.2⟩
theorem CT.of {l : Launch} {Γ : GC} {y : MethodName} {cc : ByteArray} {nL : Nat} {ret : Option FieldType} {dp k sl : Nat} {as : List Value} {S : PS} {Qr : Option Value → PS → Prop} (own nm : String) (lv0 : List (Option Value)) (hy : plainName y.cls = true) (h1 : y.cls = own) (h2 : y.name = nm) (hlen : (lg_sl as).length ≤ nL) (hlv : lvL 0 lv0 = lv_args 0 as)
    (body : ∀ M : MC, M.2.1 = l → V M Γ (nL, own, nm, ret, RM dp k sl) cc (RQ M Γ Qr k sl) 0 0 S 0 lv0 []) : CT l Γ y cc nL ret dp k sl as S Qr := by
  refine Met.ofW (cc := cc) (maxL := nL) (ret := ret) hy rfl ?_
  intro p e s m args below meth c s₁ B hml hv
  obtain ⟨rfl, hU⟩ := hv
  have hts := atoms_spec (ws := Cond.code y cc nL ret :: lwG) B.pre
  have hown : s.vm.findClass own = some m.cls := by rw [← h1]; exact findClass_of_methodNamed B.named
  have hl := lv_entry as (n := nL) hlen
  rw [lg_entry_eq]
  generalize (lg_sl as ++ List.replicate (nL - (lg_sl as).length) Slot.unset).toArray = ls at hl ⊢
  exact body (p, l, e, RM dp k sl, s, m, as.toArray, below, meth, c) rfl
    ⟨⟨B.exec, B.bytes, hml, hown, fun w hw => hts w (List.mem_cons_of_mem _ hw)⟩, B.notSynchronized, hU.2.1, hU.2.2.1, hU.1, (name_of_methodNamed B.named B.method).1.trans h2, B.returns, rfl⟩
    s.heap [] ls hU.2.2.2 va_S.rf (show lv_has ls nL (lvL 0 lv0) by rw [hlv]; exact hl)
theorem run_go {p : Program} {l : Launch} {e : Env} {R : Room} {s : State} {m : MethodId} {args : Array Value} {below : List Frame} {meth : Method} {c : Code} {H : Heap} {locs : List Loc} {k sl mc ms pc : Nat} {ls : Array Slot} {st0 rest : List Value} {Q : State → Prop} {Γ : GC} {Qr : Option Value → PS → Prop} {a : Array Value}
    (hr : va_Run p l e R s m args below meth c H locs k sl mc ms (F0 m pc ls st0) rest (QC Γ Qr a) (gA Γ)) (hS : va_S (gA Γ) s.heap H locs)
    (kk : ∀ (v : Option Value) (S' : PS) (H1 : Heap) (locs1 : List Loc), Qr v S' → RLs Γ S' H1 → va_S (gA Γ) s.heap H1 locs1 → W p l e R s m args below meth c H1 locs1 (k + mc) (sl + ms) Q (F0 m (pc + 3) ls (v.toList ++ rest))) : W p l e R s m args below meth c H locs k sl Q (F0 m pc ls st0) := by
  intro T hT X
  obtain ⟨v, st₀, t, T', L, h0, X', hL, e1, e2, ⟨⟨v', S', hv, hq, hrl⟩, hz, hk⟩, st⟩ := hr T hT X
  cases hv
  rw [h0] at hz hk
  obtain ⟨t2, a1, b1⟩ := kk v S' T'.heap (locs ++ L) hq (by rw [e1]; exact hrl)
    ⟨Nat.le_trans hS.1 (by rw [e1]; exact hz), fun q h1 h2 => by rw [e1, hk q (Nat.lt_of_lt_of_le h1 hS.1) h2]; exact hS.2.1 q h1 h2, fun q hq => by
      rcases List.mem_append.mp hq with h | h
      · exact hS.2.2 q h
      · exact hL q h⟩ T' rfl X'
  exact ⟨t2, st t2 a1, b1⟩
/-- what the tables say of a call -/
def CLB (y : MethodName) (cc : ByteArray) (nL : Nat) (ret : Option FieldType) (n : Nat) : Prop := Cond.initialized y.cls ∈ lwG ∧ Cond.code y cc nL ret ∈ lwG ∧ y.cls ≠ "java/lang/invoke/MethodHandle" ∧ y.cls ≠ "java/lang/invoke/VarHandle" ∧ (parseMethodDescriptor y.desc).map (fun d => d.parameters.length) = some n
theorem pre_U {M : MC} {Γ : GC} {μ : MI} {cc : ByteArray} {S : PS} {H : Heap} {locs : List Loc} (C : CX M Γ μ cc) (hr : RLs Γ S H) (hs : va_S (gA Γ) M.2.2.2.2.1.heap H locs) : ∀ U : State, U.heap = H → M.2.2.2.2.1.WarmedH U.vm → RU Γ S U := fun U hU hW =>
  ⟨by rw [hU]; exact Nat.le_trans C.2.2.2.2.1 hs.1, C.2.2.1.warm hW, by rw [hU]; exact (C.2.2.2.1.kept (fun a h1 h2 => hs.2.1 a h1 h2)).warm hW, by rw [hU]; exact hr⟩
theorem callB_lw {M : MC} {Γ : GC} {μ : MI} {cc : ByteArray} (C : CX M Γ μ cc) {y : MethodName} {c2 : ByteArray} {nL : Nat} {ret : Option FieldType} {n i dp k2 s2 : Nat} (hb : CLB y c2 nL ret n) (hl : Cond.methodLink μ.2.1 i y ∈ lwG) (hroom : dp + 1 ≤ μ.2.2.2.2.frames ∧ 8 + (nL + 11) + 60 * dp ≤ μ.2.2.2.2.locals) :
    CallB M.2.2.2.1 M.2.2.2.2.1 M.2.2.2.2.2.2.1 μ.2.1 i y c2 nL ret (Cond.code y c2 nL ret :: lwG) (RM dp k2 s2) k2 s2 n :=
  callB_of n C.1.2.2.2.2 (lwG_met hb.2.1) rfl rfl rfl (C.1.2.2.2.2 _ hb.1) (C.1.2.2.2.2 _ hl) ⟨hb.2.2.1, hb.2.2.2.1, hb.2.2.2.2⟩ (by rw [C.2.2.2.2.2.2.2]; exact hroom)
theorem callN_lw {M : MC} {Γ : GC} {μ : MI} {cc : ByteArray} (C : CX M Γ μ cc) {y : MethodName} {c2 : ByteArray} {nL : Nat} {ret : Option FieldType} {n i dp k2 s2 : Nat} {host : String} (hb : CLB y c2 nL ret n) (hl : (μ.2.1, i, y, host) ∈ nestW) (hroom : dp + 1 ≤ μ.2.2.2.2.frames ∧ 8 + (nL + 11) + 60 * dp ≤ μ.2.2.2.2.locals) :
    va_CN M.2.2.2.1 M.2.2.2.2.1 M.2.2.2.2.2.2.1 μ.2.1 i y host c2 nL ret (Cond.code y c2 nL ret :: lwG) (RM dp k2 s2) k2 s2 n :=
  va_cnB n C.1.2.2.2.2 (lwG_met hb.2.1) rfl rfl rfl (C.2.2.1.2.1 _ hl) (C.1.2.2.2.2 _ hb.1) ⟨hb.2.2.1, hb.2.2.2.1, hb.2.2.2.2⟩ (by rw [C.2.2.2.2.2.2.2]; exact hroom)
theorem V_callV (pc : Nat) {y : MethodName} {c2 : ByteArray} {nL : Nat} {ret : Option FieldType} {n i dp k2 s2 b ci : Nat} {Qr : Option Value → PS → Prop} (As rest : List Value) (hC : CT M.2.1 Γ y c2 nL ret dp k2 s2 (.ref b :: As) S Qr) (d : decode cc pc = .ok (.invokevirtual i, 3)) (hb : CLB y c2 nL ret n) (hl : Cond.methodLink μ.2.1 i y ∈ lwG) (him : Cond.instanceMethod y ∈ lwG) (hse : Cond.selects (RXOf ci) y y ∈ lwG)
    (ha : b ∈ PL Γ.2.2.2.2.1 S) (hk : sK S b = ci) (hc : ci < 13) (hroom : dp + 1 ≤ μ.2.2.2.2.frames ∧ 8 + (nL + 11) + 60 * dp ≤ μ.2.2.2.2.locals) (hn : As.length = n) (hst : st = As.reverse ++ .ref b :: rest) (hW : (rest.map fun v => v.category).sum ≤ 8) (hf : k + k2 ≤ μ.2.2.2.2.cells ∧ sl + s2 ≤ μ.2.2.2.2.slots)
    (h : ∀ (v : Option Value) (S' : PS), Qr v S' → V M Γ μ cc Q (k + k2) (sl + s2) S' (pc + 3) lv (v.toList ++ rest)) : V M Γ μ cc Q k sl S pc lv st := fun C H locs ls hr hs hl2 => by
  obtain ⟨i0, hi0⟩ := WDL_getO (Γ := Γ) ha hk hc
  exact run_go (va_runV (As := As) (rest := rest) (C := RXOf ci) C.1 hC ⟨callB_lw C hb hl hroom, C.1.2.2.2.2 _ him, C.1.2.2.2.2 _ hse⟩ ⟨RU_blind, va_recv C.2.2.1.1 hr.1 (vwCl_at ci hc) hi0, fun U hU hW => ⟨rfl, pre_U C hr hs U hU hW⟩⟩ rfl hn hl2.1 hst (lv_room hW) d (by rw [C.2.2.2.2.2.2.2]; exact hf)) hs (fun v S' H1 locs1 hq hr1 hs1 => h v S' hq C H1 locs1 ls hr1 hs1 hl2)
theorem V_callS (pc : Nat) {y : MethodName} {c2 : ByteArray} {nL : Nat} {ret : Option FieldType} {n i dp k2 s2 : Nat} {Qr : Option Value → PS → Prop} (As rest : List Value) (hC : CT M.2.1 Γ y c2 nL ret dp k2 s2 As S Qr) (d : decode cc pc = .ok (.invokestatic i, 3)) (hb : CLB y c2 nL ret n) (hl : Cond.methodLink μ.2.1 i y ∈ lwG) (hsm : Cond.static y ∈ lwG)
    (hroom : dp + 1 ≤ μ.2.2.2.2.frames ∧ 8 + (nL + 11) + 60 * dp ≤ μ.2.2.2.2.locals) (hn : As.length = n) (hst : st = As.reverse ++ rest) (hW : (rest.map fun v => v.category).sum ≤ 8) (hf : k + k2 ≤ μ.2.2.2.2.cells ∧ sl + s2 ≤ μ.2.2.2.2.slots)
    (h : ∀ (v : Option Value) (S' : PS), Qr v S' → V M Γ μ cc Q (k + k2) (sl + s2) S' (pc + 3) lv (v.toList ++ rest)) : V M Γ μ cc Q k sl S pc lv st := fun C H locs ls hr hs hl2 =>
  run_go (va_runS (As := As) (rest := rest) C.1 hC ⟨callB_lw C hb hl hroom, C.1.2.2.2.2 _ hsm⟩ ⟨RU_blind, fun U hU hW => ⟨rfl, pre_U C hr hs U hU hW⟩⟩ rfl hn hl2.1 hst (lv_room hW) d (by rw [C.2.2.2.2.2.2.2]; exact hf)) hs (fun v S' H1 locs1 hq hr1 hs1 => h v S' hq C H1 locs1 ls hr1 hs1 hl2)
theorem V_callSN (pc : Nat) {y : MethodName} {c2 : ByteArray} {nL : Nat} {ret : Option FieldType} {n i dp k2 s2 : Nat} {host : String} {Qr : Option Value → PS → Prop} (As rest : List Value) (hC : CT M.2.1 Γ y c2 nL ret dp k2 s2 As S Qr) (d : decode cc pc = .ok (.invokestatic i, 3)) (hb : CLB y c2 nL ret n) (hl : (μ.2.1, i, y, host) ∈ nestW) (hsm : Cond.static y ∈ lwG)
    (hroom : dp + 1 ≤ μ.2.2.2.2.frames ∧ 8 + (nL + 11) + 60 * dp ≤ μ.2.2.2.2.locals) (hn : As.length = n) (hst : st = As.reverse ++ rest) (hW : (rest.map fun v => v.category).sum ≤ 8) (hf : k + k2 ≤ μ.2.2.2.2.cells ∧ sl + s2 ≤ μ.2.2.2.2.slots)
    (h : ∀ (v : Option Value) (S' : PS), Qr v S' → V M Γ μ cc Q (k + k2) (sl + s2) S' (pc + 3) lv (v.toList ++ rest)) : V M Γ μ cc Q k sl S pc lv st := fun C H locs ls hr hs hl2 =>
  run_go (va_runSN (As := As) (rest := rest) C.1 hC ⟨callN_lw C hb hl hroom, C.1.2.2.2.2 _ hsm, trivial⟩ ⟨RU_blind, fun U hU hW => ⟨rfl, pre_U C hr hs U hU hW⟩⟩ rfl hn hl2.1 hst (lv_room hW) d (by rw [C.2.2.2.2.2.2.2]; exact hf)) hs (fun v S' H1 locs1 hq hr1 hs1 => h v S' hq C H1 locs1 ls hr1 hs1 hl2)
theorem V_callI (pc : Nat) {y : MethodName} {c2 : ByteArray} {nL : Nat} {n i dp k2 s2 b : Nat} {Qr : Option Value → PS → Prop} (As rest : List Value) (hC : CT M.2.1 Γ y c2 nL none dp k2 s2 (.ref b :: As) S Qr) (d : decode cc pc = .ok (.invokespecial i, 3)) (hb : CLB y c2 nL none n) (hl : Cond.methodLink μ.2.1 i y ∈ lwG) (him : Cond.instanceMethod y ∈ lwG) (hy1 : y.name = "<init>")
    (hroom : dp + 1 ≤ μ.2.2.2.2.frames ∧ 8 + (nL + 11) + 60 * dp ≤ μ.2.2.2.2.locals) (hn : As.length = n) (hst : st = As.reverse ++ .ref b :: rest) (hW : (rest.map fun v => v.category).sum ≤ 8) (hf : k + k2 ≤ μ.2.2.2.2.cells ∧ sl + s2 ≤ μ.2.2.2.2.slots)
    (h : ∀ (v : Option Value) (S' : PS), Qr v S' → V M Γ μ cc Q (k + k2) (sl + s2) S' (pc + 3) lv (v.toList ++ rest)) : V M Γ μ cc Q k sl S pc lv st := fun C H locs ls hr hs hl2 =>
  run_go (va_runI (As := As) (rest := rest) C.1 hC ⟨callB_lw C hb hl hroom, hy1, C.1.2.2.2.2 _ him⟩ ⟨RU_blind, fun U hU hW => ⟨rfl, pre_U C hr hs U hU hW⟩⟩ rfl hn hl2.1 hst (lv_room hW) d (by rw [C.2.2.2.2.2.2.2]; exact hf)) hs (fun v S' H1 locs1 hq hr1 hs1 => h v S' hq C H1 locs1 ls hr1 hs1 hl2)
theorem V_callIN (pc : Nat) {y : MethodName} {c2 : ByteArray} {nL : Nat} {n i dp k2 s2 b : Nat} {host : String} {Qr : Option Value → PS → Prop} (As rest : List Value) (hC : CT M.2.1 Γ y c2 nL none dp k2 s2 (.ref b :: As) S Qr) (d : decode cc pc = .ok (.invokespecial i, 3)) (hb : CLB y c2 nL none n) (hl : (μ.2.1, i, y, host) ∈ nestW) (him : Cond.instanceMethod y ∈ lwG) (hy1 : y.name = "<init>")
    (hroom : dp + 1 ≤ μ.2.2.2.2.frames ∧ 8 + (nL + 11) + 60 * dp ≤ μ.2.2.2.2.locals) (hn : As.length = n) (hst : st = As.reverse ++ .ref b :: rest) (hW : (rest.map fun v => v.category).sum ≤ 8) (hf : k + k2 ≤ μ.2.2.2.2.cells ∧ sl + s2 ≤ μ.2.2.2.2.slots)
    (h : ∀ (v : Option Value) (S' : PS), Qr v S' → V M Γ μ cc Q (k + k2) (sl + s2) S' (pc + 3) lv (v.toList ++ rest)) : V M Γ μ cc Q k sl S pc lv st := fun C H locs ls hr hs hl2 =>
  run_go (va_runIN (As := As) (rest := rest) C.1 hC ⟨callN_lw C hb hl hroom, hy1, C.1.2.2.2.2 _ him⟩ ⟨RU_blind, fun U hU hW => ⟨rfl, pre_U C hr hs U hU hW⟩⟩ rfl hn hl2.1 hst (lv_room hW) d (by rw [C.2.2.2.2.2.2.2]; exact hf)) hs (fun v S' H1 locs1 hq hr1 hs1 => h v S' hq C H1 locs1 ls hr1 hs1 hl2)
theorem V_objInit (pc : Nat) {b i : Nat} (d : decode cc pc = .ok (.invokespecial i, 3)) (hl : Cond.methodLink μ.2.1 i objectInit ∈ lwG) (hlo : 1 ≤ μ.2.2.2.2.frames ∧ (st.map fun v => v.category).sum + 12 ≤ μ.2.2.2.2.locals) (h : V M Γ μ cc Q k sl S (pc + 3) lv st) : V M Γ μ cc Q k sl S pc lv (.ref b :: st) := fun C H locs ls hr hs hl2 =>
  W.objInit C.1.1 C.1.2.1 C.1.2.2.2.1 (C.1.2.2.2.2 _ hl) (C.1.2.2.2.2 _ im_objectInit) (C.1.2.2.2.2 _ co_objectInit) rfl (by rw [C.1.2.2.1]; exact hl2.1) rfl d (by rw [C.2.2.2.2.2.2.2]; exact hlo.1) (by rw [C.2.2.2.2.2.2.2]; simpa [JFrame.monitorRoom] using hlo.2) (h C H locs ls hr hs hl2)
end VC
