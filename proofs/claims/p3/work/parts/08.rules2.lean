section VF
variable {M : MC} {Γ : GC} {μ : MI} {cc : ByteArray} {Q : State → Prop} {k sl : Nat} {S : PS} {lv : List (Option Value)} {st : List Value}
theorem WDL_get {Γ : GC} {S : PS} {a : Nat} (ha : a ∈ PL Γ.2.2.2.2.1 S) : ∃ i : Nat, (WDL Γ S)[i]? = some (a, EN Γ.2.2.1 S a) := va_pl_get ha
theorem WDL_getO {Γ : GC} {S : PS} {a c : Nat} (ha : a ∈ PL Γ.2.2.2.2.1 S) (hk : sK S a = c) (hc : c < 13) : ∃ i : Nat, (WDL Γ S)[i]? = some (a, .inr (c, flds S a)) := by
  obtain ⟨i, hi⟩ := WDL_get (Γ := Γ) ha
  exact ⟨i, by rw [hi, EN_o hk hc]⟩
/-- one cell of the pool is written -/
theorem WDL_set {Γ : GC} {S S' : PS} {a i : Nat} {H : Heap} (hr : RLs Γ S H) (ha : a ∈ PL Γ.2.2.2.2.1 S) (hi : (WDL Γ S)[i]? = some (a, EN Γ.2.2.1 S a)) (hN : sN S' = sN S) (ho : ∀ b, b ≠ a → EN Γ.2.2.1 S' b = EN Γ.2.2.1 S b) : (WDL Γ S).set i (a, EN Γ.2.2.1 S' a) = WDL Γ S' := by
  have h1 : (WDL Γ S).set i (a, EN Γ.2.2.1 S' a) = Γ.2.1 ++ va_pl (PL Γ.2.2.2.2.1 S) (va_up (EN Γ.2.2.1 S) a (EN Γ.2.2.1 S' a)) := va_pl_set (A := gA Γ) hr.2.1 ha hi
  have hL : PL Γ.2.2.2.2.1 S' = PL Γ.2.2.2.2.1 S := by unfold PL; rw [hN]
  rw [h1]
  unfold WDL
  rw [hL]
  refine congrArg (fun l => Γ.2.1 ++ l) (va_pl_congr (fun b => ?_))
  by_cases hb : b = a
  · subst hb; rw [va_up_self]
  · rw [va_up_ne _ _ hb, ho b hb]
theorem RLs_set {Γ : GC} {S S' : PS} {a i : Nat} {H H1 : Heap} (hr : RLs Γ S H) (ha : a ∈ PL Γ.2.2.2.2.1 S) (hi : (WDL Γ S)[i]? = some (a, EN Γ.2.2.1 S a)) (hN : sN S' = sN S) (ho : ∀ b, b ≠ a → EN Γ.2.2.1 S' b = EN Γ.2.2.1 S b) (hat : va_at Γ.2.2.2.1 vwCl (a, EN Γ.2.2.1 S' a) H1) (oq : ∀ q : Nat, q ≠ a → H1[q]? = H[q]?) (z : H1.size = H.size) : RLs Γ S' H1 := by
  have e2 := WDL_set hr ha hi hN ho
  refine ⟨?_, ?_, by rw [z, hr.2.2, hN]⟩
  · rw [← e2]; exact hr.1.set hr.2.1 hi hat oq
  · rw [← e2]; exact hr.2.1.set hi
theorem V_getI (pc : Nat) {a i c : Nat} (j : Nat) (d : decode cc pc = .ok (.getfield i, 3)) (hw : Cond.fieldLink μ.2.1 i (TXOf c j).1 (TXOf c j).2.1 (TXOf c j).2.2.1 ∈ lwG) (ha : a ∈ PL Γ.2.2.2.2.1 S) (hk : sK S a = c) (hc : c < 13) (hj : j < nfOf c) (ht : tint (tyOf c j) = true) (h : V M Γ μ cc Q k sl S (pc + 3) lv (.int (sI S a j) :: st)) : V M Γ μ cc Q k sl S pc lv (.ref a :: st) := fun C H locs ls hr hs hl => by
  obtain ⟨i0, hi0⟩ := WDL_getO (Γ := Γ) ha hk hc
  have hv : (flds S a)[j]? = some (.int (sI S a j)) := by rw [flds_at hk hj]; unfold fv; rw [if_pos ht]
  exact va_get (C := RXOf c) (T := TXOf c) (N := nfOf c) (ref := (TXOf c j).1) C.1.1 C.1.2.1 C.1.2.2.2.2 (inG_ok c hc) C.1.2.2.2.1 C.2.2.1.1 hr.1 i0 hi0 (vwCl_at c hc) j hj (C.1.2.2.2.2 _ hw) (fun _ h9 => h9) hv d (h C H locs ls hr hs hl)
theorem V_getR (pc : Nat) {a i c t : Nat} (j : Nat) (hv0 : sR S a j = some t) (d : decode cc pc = .ok (.getfield i, 3)) (hw : Cond.fieldLink μ.2.1 i (TXOf c j).1 (TXOf c j).2.1 (TXOf c j).2.2.1 ∈ lwG) (ha : a ∈ PL Γ.2.2.2.2.1 S) (hk : sK S a = c) (hc : c < 13) (hj : j < nfOf c) (ht : tint (tyOf c j) = false) (h : V M Γ μ cc Q k sl S (pc + 3) lv (.ref t :: st)) : V M Γ μ cc Q k sl S pc lv (.ref a :: st) := fun C H locs ls hr hs hl => by
  obtain ⟨i0, hi0⟩ := WDL_getO (Γ := Γ) ha hk hc
  have hv : (flds S a)[j]? = some (.ref t) := by rw [flds_at hk hj]; unfold fv; rw [if_neg (by rw [ht]; decide), hv0]; rfl
  exact va_get (C := RXOf c) (T := TXOf c) (N := nfOf c) (ref := (TXOf c j).1) C.1.1 C.1.2.1 C.1.2.2.2.2 (inG_ok c hc) C.1.2.2.2.1 C.2.2.1.1 hr.1 i0 hi0 (vwCl_at c hc) j hj (C.1.2.2.2.2 _ hw) (fun _ h9 => h9) hv d (h C H locs ls hr hs hl)
theorem EN_uI {cy : Nat → ClassId} {a j b : Nat} {v : Int32} (h : b ≠ a) : EN cy (uI S a j v) b = EN cy S b := EN_eq rfl (fun _ => up2_a _ _ h) (fun _ => rfl) rfl (fun _ => rfl) (fun _ => rfl) (fun _ => rfl)
theorem EN_uR {cy : Nat → ClassId} {a j b : Nat} {v : Option Nat} (h : b ≠ a) : EN cy (uR S a j v) b = EN cy S b := EN_eq rfl (fun _ => rfl) (fun _ => up2_a _ _ h) rfl (fun _ => rfl) (fun _ => rfl) (fun _ => rfl)
theorem EN_uA {cy : Nat → ClassId} {a j b : Nat} {v : Int32} (h : b ≠ a) : EN cy (uA S a j v) b = EN cy S b := EN_eq rfl (fun _ => rfl) (fun _ => rfl) rfl (fun _ => up2_a _ _ h) (fun _ => rfl) (fun _ => rfl)
theorem EN_uJ {cy : Nat → ClassId} {a j b : Nat} {v : Int64} (h : b ≠ a) : EN cy (uJ S a j v) b = EN cy S b := EN_eq rfl (fun _ => rfl) (fun _ => rfl) rfl (fun _ => rfl) (fun _ => up2_a _ _ h) (fun _ => rfl)
theorem EN_uP {cy : Nat → ClassId} {a j b : Nat} {v : Option Nat} (h : b ≠ a) : EN cy (uP S a j v) b = EN cy S b := EN_eq rfl (fun _ => rfl) (fun _ => rfl) rfl (fun _ => rfl) (fun _ => rfl) (fun _ => up2_a _ _ h)
/-- a field written: the object with its fields set is the object of the new pool -/
theorem at_put {Γ : GC} {S S' : PS} {a j c : Nat} {v : Value} {cell : Cell} {H1 : Heap} (hc : c < 13) (hj : j < nfOf c) (hk : sK S a = c) (hk' : sK S' a = c) (hf : (flds S a).set j v = flds S' a) (hap : ∀ x y, x < nfOf c → y < nfOf c → x ≠ y → Γ.2.2.2.1.2 c x ≠ Γ.2.2.2.1.2 c y)
    (q2 : cell.cls = Γ.2.2.2.1.1 c) (q3 : cell.vm = .none) (q4 : ∀ q, q < nfOf c → cell.slots[Γ.2.2.2.1.2 c q]? = some (vp_V (flds S a) q)) (e1 : H1[a]? = some (cell.setSlot (Γ.2.2.2.1.2 c j) v)) : va_at Γ.2.2.2.1 vwCl (a, EN Γ.2.2.1 S' a) H1 := by
  rw [EN_o hk' hc, ← hf]
  refine ⟨_, vwCl_at c hc, ?_⟩
  have h1 : t_OB a (Γ.2.2.2.1.1 c) (nfOf c) (Γ.2.2.2.1.2 c) H1 (updV (vp_V (flds S a)) j v) := ⟨_, e1, q2, q3, t_set q4 hap hj v⟩
  exact h1.to (fun q _ => vp_updV_set (by rw [flds_len hk]; exact hj) v q)
theorem V_putI (pc : Nat) {a i c : Nat} {v : Int32} (j : Nat) (d : decode cc pc = .ok (.putfield i, 3)) (hw : Cond.fieldLink μ.2.1 i (TXOf c j).1 (TXOf c j).2.1 (TXOf c j).2.2.1 ∈ lwG) (ha : a ∈ PL Γ.2.2.2.2.1 S) (hk : sK S a = c) (hc : c < 13) (hj : j < nfOf c) (hfin : (TXOf c j).2.2.2 = false) (ht : tyOf c j = .int ∨ (tyOf c j = .boolean ∧ (v = 0 ∨ v = 1))) (h : V M Γ μ cc Q k sl (uI S a j v) (pc + 3) lv st) : V M Γ μ cc Q k sl S pc lv (.int v :: .ref a :: st) := fun C H locs ls hr hs hl => by
  obtain ⟨i0, hi0⟩ := WDL_get (Γ := Γ) ha
  have hAa : gA Γ a := hr.2.1.2 i0 _ hi0
  have he : (WDL Γ S)[i0]? = some (a, .inr (c, flds S a)) := by rw [hi0, EN_o hk hc]
  have h1 : narrow (tyOf c j) (.int v) = .int v ∧ fits (tyOf c j) (.int v) = true ∧ tint (tyOf c j) = true := by
    rcases ht with ht | ⟨ht, rfl | rfl⟩ <;> rw [ht] <;> exact ⟨rfl, rfl, rfl⟩
  have e1 : (flds S a).set j (.int v) = flds (uI S a j v) a := flds_set (c := c) rfl hk hj (by show fv _ (up2 (sI S) a j v a j) _ = _; rw [up2_s]; unfold fv; rw [if_pos h1.2.2]) (fun q hq => ⟨up2_k _ _ hq, rfl⟩)
  obtain ⟨r, g1, cell, q1, q2, q3, q4⟩ := hr.1 i0 _ he
  cases g1.symm.trans (vwCl_at c hc)
  obtain ⟨hS, hfc, kC, hkC, hkind⟩ := C.2.2.1.1.1 c _ (vwCl_at c hc)
  obtain ⟨cf, kf, fi, f, hi, hsl⟩ := hS j hj
  have hts := C.1.2.2.2.2
  have hlay := hts _ (inG_ok c hc _ (u_in_lay hj))
  unfold u_lay at hlay
  rw [if_neg (by rw [hfin]; decide)] at hlay
  have hap := va_apart (own := μ.2.1) hts (inG_ok c hc) (tyOf c) (ty_ok c hc) (nm_ok c hc) C.2.2.1.1 (vwCl_at c hc)
  have hst := (u_facts hfc hkC (u_lays hts (inG_ok c hc) hj) hi).1
  have h6 := u_store hfc hkC hkind hlay hi (ty_ok c hc j hj) h1.1 h1.2.1
  refine W.putK C.1.1 C.1.2.1 (f := f) ⟨C.1.2.2.2.1, hts _ hw, ⟨_, _, _, hi⟩, hst⟩ (by rw [q2]; exact h6) q1 q3 (by rw [hsl]; exact k2_hasslot (q4 j hj)) rfl rfl d fun H1 y1 y2 y3 => ?_
  rw [hsl] at y1
  refine h C H1 _ ls (RLs_set (S' := uI S a j v) hr ha hi0 rfl (fun b hb => EN_uI hb) (at_put hc hj hk hk e1 hap q2 q3 q4 y1) y3 y2) (hs.put y2 y3 hAa) hl
/-- a final reference field, in the constructor -/
theorem V_putF (pc : Nat) {a i c t : Nat} (j : Nat) (d : decode cc pc = .ok (.putfield i, 3)) (hw : Cond.fieldLink μ.2.1 i (TXOf c j).1 (TXOf c j).2.1 (TXOf c j).2.2.1 ∈ lwG) (ha : a ∈ PL Γ.2.2.2.2.1 S) (hk : sK S a = c) (hc : c < 13) (hj : j < nfOf c) (hfin : (TXOf c j).2.2.2 = true) (hin : μ.2.2.1 = "<init>") (hdecl : (TXOf c j).1 = μ.2.1) (hn : narrow (tyOf c j) (.ref t) = .ref t) (hfit : fits (tyOf c j) (.ref t) = true) (ht : tint (tyOf c j) = false) (h : V M Γ μ cc Q k sl (uR S a j (some t)) (pc + 3) lv st) : V M Γ μ cc Q k sl S pc lv (.ref t :: .ref a :: st) := fun C H locs ls hr hs hl => by
  obtain ⟨i0, hi0⟩ := WDL_get (Γ := Γ) ha
  have hAa : gA Γ a := hr.2.1.2 i0 _ hi0
  have he : (WDL Γ S)[i0]? = some (a, .inr (c, flds S a)) := by rw [hi0, EN_o hk hc]
  have e1 : (flds S a).set j (.ref t) = flds (uR S a j (some t)) a := flds_set (c := c) rfl hk hj (by show fv _ _ (up2 (sR S) a j (some t) a j) = _; rw [up2_s]; unfold fv; rw [if_neg (by rw [ht]; decide)]; rfl) (fun q hq => ⟨rfl, up2_k _ _ hq⟩)
  obtain ⟨r, g1, cell, q1, q2, q3, q4⟩ := hr.1 i0 _ he
  cases g1.symm.trans (vwCl_at c hc)
  obtain ⟨hS, hfc, kC, hkC, hkind⟩ := C.2.2.1.1.1 c _ (vwCl_at c hc)
  obtain ⟨cf, kf, fi, f, hi, hsl⟩ := hS j hj
  have hts := C.1.2.2.2.2
  have hlay := hts _ (inG_ok c hc _ (u_in_lay hj))
  unfold u_lay at hlay
  rw [if_pos hfin] at hlay
  have hap := va_apart (own := μ.2.1) hts (inG_ok c hc) (tyOf c) (ty_ok c hc) (nm_ok c hc) C.2.2.1.1 (vwCl_at c hc)
  have hst := (u_facts hfc hkC (u_lays hts (inG_ok c hc) hj) hi).1
  have hcf : M.2.2.2.2.2.1.cls = cf := by
    obtain ⟨x1, x2, x3, x4, x5, x6, -, -, x7, -, -, -, x8, -⟩ := Cond.laysFinal_spec hlay
    have z1 := hi.symm.trans x7
    simp only [Option.some.injEq, Prod.mk.injEq] at z1
    rw [hdecl] at x8
    rw [z1.1]
    exact Option.some.inj (C.1.2.2.2.1.symm.trans x8)
  have h6 := u_fits hfc hkC hkind (Or.inr hlay) hi (ty_ok c hc j hj) hn hfit
  refine W.putFinK C.1.1 C.1.2.1 C.1.2.2.2.1 (hts _ hw) hi hst hcf (C.2.2.2.2.2.1.trans hin) (by rw [q2]; exact h6) q1 q3 (by rw [hsl]; exact k2_hasslot (q4 j hj)) rfl rfl d fun H1 y1 y2 y3 => ?_
  rw [hsl] at y1
  refine h C H1 _ ls (RLs_set (S' := uR S a j (some t)) hr ha hi0 rfl (fun b hb => EN_uR hb) (at_put hc hj hk hk e1 hap q2 q3 q4 y1) y3 y2) (hs.put y2 y3 hAa) hl
-- rows
theorem EN_i {cy : Nat → ClassId} {S : PS} {a : Nat} (h : sK S a = 14) : EN cy S a = .inl (cy 14, sL S a, .inl (sA S a)) := by unfold EN; rw [h]; rfl
theorem EN_b {cy : Nat → ClassId} {S : PS} {a : Nat} (h : sK S a = 13) : EN cy S a = .inl (cy 13, sL S a, .inl (sA S a)) := by unfold EN; rw [h]; rfl
theorem EN_z {cy : Nat → ClassId} {S : PS} {a : Nat} (h : sK S a = 16) : EN cy S a = .inl (cy 16, sL S a, .inl (sA S a)) := by unfold EN; rw [h]; rfl
theorem EN_l {cy : Nat → ClassId} {S : PS} {a : Nat} (h : sK S a = 15) : EN cy S a = .inl (cy 15, sL S a, .inr (.inl (sJ S a))) := by unfold EN; rw [h]; rfl
theorem EN_q {cy : Nat → ClassId} {S : PS} {a : Nat} (h : sK S a = 17) : EN cy S a = .inl (cy 17, sL S a, .inr (.inr (.inr (.inr (sP S a))))) := by unfold EN; rw [h]; rfl
theorem V_iaload (pc : Nat) {a : Nat} {i : Int32} (d : decode cc pc = .ok (.iaload, 1)) (ha : a ∈ PL Γ.2.2.2.2.1 S) (hk : sK S a = 14) (hin : vp_in i (sL S a)) (h : V M Γ μ cc Q k sl S (pc + 1) lv (.int (sA S a i.toNatClampNeg) :: st)) : V M Γ μ cc Q k sl S pc lv (.int i :: .ref a :: st) := fun C H locs ls hr hs hl => by
  obtain ⟨i0, hi0⟩ := WDL_get (Γ := Γ) ha
  have hAa : gA Γ a := hr.2.1.2 i0 _ hi0
  exact va_iald C.1.1 C.1.2.1 C.2.2.1.1 hr.1 i0 1 (by rw [hi0, EN_i hk]) rfl hin d (h C H locs ls hr hs hl)
theorem V_baload (pc : Nat) {a : Nat} {i : Int32} (d : decode cc pc = .ok (.baload, 1)) (ha : a ∈ PL Γ.2.2.2.2.1 S) (hk : sK S a = 13) (hin : vp_in i (sL S a)) (h : V M Γ μ cc Q k sl S (pc + 1) lv (.int (sA S a i.toNatClampNeg) :: st)) : V M Γ μ cc Q k sl S pc lv (.int i :: .ref a :: st) := fun C H locs ls hr hs hl => by
  obtain ⟨i0, hi0⟩ := WDL_get (Γ := Γ) ha
  have hAa : gA Γ a := hr.2.1.2 i0 _ hi0
  exact va_bald C.1.1 C.1.2.1 C.2.2.1.1 hr.1 i0 0 (by rw [hi0, EN_b hk]) rfl hin d (h C H locs ls hr hs hl)
theorem V_zaload (pc : Nat) {a : Nat} {i : Int32} (d : decode cc pc = .ok (.baload, 1)) (ha : a ∈ PL Γ.2.2.2.2.1 S) (hk : sK S a = 16) (hin : vp_in i (sL S a)) (h : V M Γ μ cc Q k sl S (pc + 1) lv (.int (sA S a i.toNatClampNeg) :: st)) : V M Γ μ cc Q k sl S pc lv (.int i :: .ref a :: st) := fun C H locs ls hr hs hl => by
  obtain ⟨i0, hi0⟩ := WDL_get (Γ := Γ) ha
  have hAa : gA Γ a := hr.2.1.2 i0 _ hi0
  exact va_zald C.1.1 C.1.2.1 C.2.2.1.1 hr.1 i0 3 (by rw [hi0, EN_z hk]) rfl hin d (h C H locs ls hr hs hl)
theorem V_laload (pc : Nat) {a : Nat} {i : Int32} (d : decode cc pc = .ok (.laload, 1)) (ha : a ∈ PL Γ.2.2.2.2.1 S) (hk : sK S a = 15) (hin : vp_in i (sL S a)) (h : V M Γ μ cc Q k sl S (pc + 1) lv (.long (sJ S a i.toNatClampNeg) :: st)) : V M Γ μ cc Q k sl S pc lv (.int i :: .ref a :: st) := fun C H locs ls hr hs hl => by
  obtain ⟨i0, hi0⟩ := WDL_get (Γ := Γ) ha
  have hAa : gA Γ a := hr.2.1.2 i0 _ hi0
  exact va_lald C.1.1 C.1.2.1 C.2.2.1.1 hr.1 i0 2 (by rw [hi0, EN_l hk]) rfl hin d (h C H locs ls hr hs hl)
theorem V_aaload (pc : Nat) {a t : Nat} {i : Int32} (hv : sP S a i.toNatClampNeg = some t) (d : decode cc pc = .ok (.aaload, 1)) (ha : a ∈ PL Γ.2.2.2.2.1 S) (hk : sK S a = 17) (hin : vp_in i (sL S a)) (h : V M Γ μ cc Q k sl S (pc + 1) lv (.ref t :: st)) : V M Γ μ cc Q k sl S pc lv (.int i :: .ref a :: st) := fun C H locs ls hr hs hl => by
  obtain ⟨i0, hi0⟩ := WDL_get (Γ := Γ) ha
  have hAa : gA Γ a := hr.2.1.2 i0 _ hi0
  refine va_aldq C.1.1 C.1.2.1 C.2.2.1.1 hr.1 i0 4 (by rw [hi0, EN_q hk]) rfl hin d ?_
  rw [hv]
  exact h C H locs ls hr hs hl
theorem V_alen (pc : Nat) {a : Nat} (v : Int32) (d : decode cc pc = .ok (.arraylength, 1)) (ha : a ∈ PL Γ.2.2.2.2.1 S) (hk : 13 ≤ sK S a) (hk2 : sK S a ≤ 17) (hv : Int32.ofNat (sL S a) = v) (h : V M Γ μ cc Q k sl S (pc + 1) lv (.int v :: st)) : V M Γ μ cc Q k sl S pc lv (.ref a :: st) := fun C H locs ls hr hs hl => by
  obtain ⟨i0, hi0⟩ := WDL_get (Γ := Γ) ha
  have hAa : gA Γ a := hr.2.1.2 i0 _ hi0
  rcases (show sK S a = 13 ∨ sK S a = 14 ∨ sK S a = 15 ∨ sK S a = 16 ∨ sK S a = 17 by omega) with q | q | q | q | q
  · exact va_alen C.1.1 C.1.2.1 C.2.2.1.1 hr.1 i0 0 (by rw [hi0, EN_b q]) rfl hv d (h C H locs ls hr hs hl)
  · exact va_alen C.1.1 C.1.2.1 C.2.2.1.1 hr.1 i0 1 (by rw [hi0, EN_i q]) rfl hv d (h C H locs ls hr hs hl)
  · exact va_alen C.1.1 C.1.2.1 C.2.2.1.1 hr.1 i0 2 (by rw [hi0, EN_l q]) rfl hv d (h C H locs ls hr hs hl)
  · exact va_alen C.1.1 C.1.2.1 C.2.2.1.1 hr.1 i0 3 (by rw [hi0, EN_z q]) rfl hv d (h C H locs ls hr hs hl)
  · exact va_alen C.1.1 C.1.2.1 C.2.2.1.1 hr.1 i0 4 (by rw [hi0, EN_q q]) rfl hv d (h C H locs ls hr hs hl)
theorem upd_up2 (f : Nat → Nat → Int32) (a i : Nat) (x : Int32) : up2 f a i x a = upd (f a) i x := by
  funext q; simp [up2, upd]
theorem arr_st {cA : ClassId} {n i : Nat} {f g : Nat → Value} {x : Value} (h : ∀ q, g q = if q = i then x else f q) : (arrV cA n f).setSlot i x = arrV cA n g := by
  rw [arrV_store]; congr 1; funext q; rw [h q]; simp only [updV]
theorem V_iastore (pc : Nat) {a : Nat} {i x : Int32} (d : decode cc pc = .ok (.iastore, 1)) (ha : a ∈ PL Γ.2.2.2.2.1 S) (hk : sK S a = 14) (hin : vp_in i (sL S a)) (h : V M Γ μ cc Q k sl (uA S a i.toNatClampNeg x) (pc + 1) lv st) : V M Γ μ cc Q k sl S pc lv (.int x :: .int i :: .ref a :: st) := fun C H locs ls hr hs hl => by
  obtain ⟨i0, hi0⟩ := WDL_get (Γ := Γ) ha
  have hAa : gA Γ a := hr.2.1.2 i0 _ hi0
  have he : H[a]? = some (arrV (Γ.2.2.1 14) (sL S a) (fun j => .int (sA S a j))) := hr.1 i0 (a, .inl (Γ.2.2.1 14, sL S a, .inl (sA S a))) (by rw [hi0, EN_i hk])
  refine W.iast C.1.1 C.1.2.1 he ((C.2.2.1.1.2 1 _ rfl).1 (sL S a) (fun j => .int (sA S a j))) (fun q => by cases q) (by show ¬ (i < 0 ∨ (arrV _ _ _).slots.size ≤ _); rw [arrV_size]; exact hin) rfl rfl d fun H1 y1 y2 y3 => ?_
  refine h C H1 _ ls (RLs_set (S' := uA S a i.toNatClampNeg x) hr ha hi0 rfl (fun b hb => EN_uA hb) ?_ y3 y2) (hs.put y2 y3 hAa) hl
  rw [EN_i (S := uA S a i.toNatClampNeg x) hk]
  show H1[a]? = some (arrV (Γ.2.2.1 14) (sL S a) (fun j => .int (sA (uA S a i.toNatClampNeg x) a j)))
  rw [y1]
  exact congrArg some (arr_st (fun q => by show Value.int (up2 (sA S) a _ x a q) = _; unfold up2; by_cases hq : q = i.toNatClampNeg <;> simp [hq]))
theorem V_bastore (pc : Nat) {a : Nat} {i x : Int32} (d : decode cc pc = .ok (.bastore, 1)) (ha : a ∈ PL Γ.2.2.2.2.1 S) (hk : sK S a = 13) (hin : vp_in i (sL S a)) (h : V M Γ μ cc Q k sl (uA S a i.toNatClampNeg x.toInt8.toInt32) (pc + 1) lv st) : V M Γ μ cc Q k sl S pc lv (.int x :: .int i :: .ref a :: st) := fun C H locs ls hr hs hl => by
  obtain ⟨i0, hi0⟩ := WDL_get (Γ := Γ) ha
  have hAa : gA Γ a := hr.2.1.2 i0 _ hi0
  have he : H[a]? = some (arrV (Γ.2.2.1 13) (sL S a) (fun j => .int (sA S a j))) := hr.1 i0 (a, .inl (Γ.2.2.1 13, sL S a, .inl (sA S a))) (by rw [hi0, EN_b hk])
  refine W.bast C.1.1 C.1.2.1 he ((C.2.2.1.1.2 0 _ rfl).1 (sL S a) (fun j => .int (sA S a j))) (fun q => by cases q) (by show ¬ (i < 0 ∨ (arrV _ _ _).slots.size ≤ _); rw [arrV_size]; exact hin) rfl rfl d fun H1 y1 y2 y3 => ?_
  refine h C H1 _ ls (RLs_set (S' := uA S a i.toNatClampNeg x.toInt8.toInt32) hr ha hi0 rfl (fun b hb => EN_uA hb) ?_ y3 y2) (hs.put y2 y3 hAa) hl
  rw [EN_b (S := uA S a i.toNatClampNeg x.toInt8.toInt32) hk]
  show H1[a]? = some (arrV (Γ.2.2.1 13) (sL S a) (fun j => .int (sA (uA S a i.toNatClampNeg x.toInt8.toInt32) a j)))
  rw [y1]
  exact congrArg some (arr_st (fun q => by show Value.int (up2 (sA S) a _ _ a q) = _; unfold up2; by_cases hq : q = i.toNatClampNeg <;> simp [hq, narrow]))
theorem V_zastore (pc : Nat) {a : Nat} {i x : Int32} (d : decode cc pc = .ok (.bastore, 1)) (ha : a ∈ PL Γ.2.2.2.2.1 S) (hk : sK S a = 16) (hin : vp_in i (sL S a)) (hx : x = 0 ∨ x = 1) (h : V M Γ μ cc Q k sl (uA S a i.toNatClampNeg x) (pc + 1) lv st) : V M Γ μ cc Q k sl S pc lv (.int x :: .int i :: .ref a :: st) := fun C H locs ls hr hs hl => by
  obtain ⟨i0, hi0⟩ := WDL_get (Γ := Γ) ha
  have hAa : gA Γ a := hr.2.1.2 i0 _ hi0
  have he : H[a]? = some (arrV (Γ.2.2.1 16) (sL S a) (fun j => .int (sA S a j))) := hr.1 i0 (a, .inl (Γ.2.2.1 16, sL S a, .inl (sA S a))) (by rw [hi0, EN_z hk])
  refine W.zast C.1.1 C.1.2.1 he ((C.2.2.1.1.2 3 _ rfl).1 (sL S a) (fun j => .int (sA S a j))) (fun q => by cases q) (by show ¬ (i < 0 ∨ (arrV _ _ _).slots.size ≤ _); rw [arrV_size]; exact hin) rfl rfl d fun H1 y1 y2 y3 => ?_
  refine h C H1 _ ls (RLs_set (S' := uA S a i.toNatClampNeg x) hr ha hi0 rfl (fun b hb => EN_uA hb) ?_ y3 y2) (hs.put y2 y3 hAa) hl
  have hn : narrow .boolean (.int x) = .int x := by rcases hx with rfl | rfl <;> rfl
  rw [hn] at y1
  rw [EN_z (S := uA S a i.toNatClampNeg x) hk]
  show H1[a]? = some (arrV (Γ.2.2.1 16) (sL S a) (fun j => .int (sA (uA S a i.toNatClampNeg x) a j)))
  rw [y1]
  exact congrArg some (arr_st (fun q => by show Value.int (up2 (sA S) a _ x a q) = _; unfold up2; by_cases hq : q = i.toNatClampNeg <;> simp [hq]))
theorem V_lastore (pc : Nat) {a : Nat} {i : Int32} {x : Int64} (d : decode cc pc = .ok (.lastore, 1)) (ha : a ∈ PL Γ.2.2.2.2.1 S) (hk : sK S a = 15) (hin : vp_in i (sL S a)) (h : V M Γ μ cc Q k sl (uJ S a i.toNatClampNeg x) (pc + 1) lv st) : V M Γ μ cc Q k sl S pc lv (.long x :: .int i :: .ref a :: st) := fun C H locs ls hr hs hl => by
  obtain ⟨i0, hi0⟩ := WDL_get (Γ := Γ) ha
  have hAa : gA Γ a := hr.2.1.2 i0 _ hi0
  have he : H[a]? = some (arrV (Γ.2.2.1 15) (sL S a) (fun j => .long (sJ S a j))) := hr.1 i0 (a, .inl (Γ.2.2.1 15, sL S a, .inr (.inl (sJ S a)))) (by rw [hi0, EN_l hk])
  refine W.last C.1.1 C.1.2.1 he ((C.2.2.1.1.2 2 _ rfl).1 (sL S a) (fun j => .long (sJ S a j))) (fun q => by cases q) (by show ¬ (i < 0 ∨ (arrV _ _ _).slots.size ≤ _); rw [arrV_size]; exact hin) rfl rfl d fun H1 y1 y2 y3 => ?_
  refine h C H1 _ ls (RLs_set (S' := uJ S a i.toNatClampNeg x) hr ha hi0 rfl (fun b hb => EN_uJ hb) ?_ y3 y2) (hs.put y2 y3 hAa) hl
  rw [EN_l (S := uJ S a i.toNatClampNeg x) hk]
  show H1[a]? = some (arrV (Γ.2.2.1 15) (sL S a) (fun j => .long (sJ (uJ S a i.toNatClampNeg x) a j)))
  rw [y1]
  exact congrArg some (arr_st (fun q => by show Value.long (up2 (sJ S) a _ x a q) = _; unfold up2; by_cases hq : q = i.toNatClampNeg <;> simp [hq]))
/-- a State goes into a row of States -/
theorem V_aastore (pc : Nat) {a t : Nat} {i : Int32} (d : decode cc pc = .ok (.aastore, 1)) (ha : a ∈ PL Γ.2.2.2.2.1 S) (hk : sK S a = 17) (hin : vp_in i (sL S a)) (ht : t ∈ PL Γ.2.2.2.2.1 S) (hkt : sK S t = 7) (h : V M Γ μ cc Q k sl (uP S a i.toNatClampNeg (some t)) (pc + 1) lv st) : V M Γ μ cc Q k sl S pc lv (.ref t :: .int i :: .ref a :: st) := fun C H locs ls hr hs hl => by
  obtain ⟨i0, hi0⟩ := WDL_get (Γ := Γ) ha
  have hAa : gA Γ a := hr.2.1.2 i0 _ hi0
  have he : H[a]? = some (arrV (Γ.2.2.1 17) (sL S a) (fun j => va_rf (sP S a j))) := hr.1 i0 (a, .inl (Γ.2.2.1 17, sL S a, .inr (.inr (.inr (.inr (sP S a)))))) (by rw [hi0, EN_q hk])
  obtain ⟨i1, hi1⟩ := WDL_getO (Γ := Γ) ht hkt (by omega)
  obtain ⟨r, g0, cellV, g1, g2, g3, -⟩ := hr.1 i1 _ hi1
  cases g0.symm.trans (vwCl_at 7 (by omega))
  have hcls := (C.2.2.1.1.1 7 _ (vwCl_at 7 (by omega))).2
  obtain ⟨kA, comp, k1, k2, k3, -⟩ := (C.2.2.1.1.2 4 _ rfl).2
  have hcomp : comp = Γ.2.2.2.1.1 7 := Option.some.inj (k3.symm.trans hcls.1)
  subst hcomp
  obtain ⟨kC, hkC, -⟩ := hcls.2
  have hlt : i.toNatClampNeg < sL S a := Nat.not_le.mp fun q => hin (Or.inr q)
  refine W.aast C.1.1 C.1.2.1 he (fun q h => by cases h) (fun h => by cases h) k1 k2 rfl hkC ⟨fun q => hin (Or.inl q), by show _ < (arrV _ _ _).slots.size; rw [arrV_size]; exact hlt⟩ g1 (fun q h => by rw [g3] at h; cases h) (by rw [g2]; exact hkC) (by rw [g2]; exact va_assign hcls) rfl rfl d fun H1 y1 y2 y3 => ?_
  refine h C H1 _ ls (RLs_set (S' := uP S a i.toNatClampNeg (some t)) hr ha hi0 rfl (fun b hb => EN_uP hb) ?_ y3 y2) (hs.put y2 y3 hAa) hl
  rw [EN_q (S := uP S a i.toNatClampNeg (some t)) hk]
  show H1[a]? = some (arrV (Γ.2.2.1 17) (sL S a) (fun j => va_rf (sP (uP S a i.toNatClampNeg (some t)) a j)))
  rw [y1]
  exact congrArg some (arr_st (fun q => by show va_rf (up2 (sP S) a _ (some t) a q) = _; unfold up2; by_cases hq : q = i.toNatClampNeg <;> simp [hq, va_rf]))
end VF
