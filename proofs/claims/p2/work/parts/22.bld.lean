/-! a constructor's work, field by field -/
theorem V_abs {M : MC} {Γ : GC} {μ : MI} {cc : ByteArray} {Q : State → Prop} {k sl pc : Nat} {S : PS} {lv : List (Option Value)} {st : List Value} (P : PS → Prop) (hp : P S) (h : ∀ S2, P S2 → V M Γ μ cc Q k sl S2 pc lv st) : V M Γ μ cc Q k sl S pc lv st := h S hp
def entA (S : PS) (b r : Nat) (e : Nat × List (Option Nat) × Nat) : Prop := sK S (b + r) = e.1 ∧ (∀ (j t : Nat), e.2.1[j]? = some (some t) → sR S (b + r) j = some (b + t)) ∧ (13 ≤ e.1 → sL S (b + r) = e.2.2)
def lyR (ly : LAY) (j : Nat) : Option (Option Nat) := (ly[0]?).bind (fun e => e.2.1[j]?)
/-- of the layout the first m cells stand, the references dn of the object itself too -/
def BLD (ly : LAY) (m : Nat) (dn : List Nat) (lo : Nat) (S0 : PS) (h : Nat) (S : PS) : Prop :=
  (lo + sN S0 = h + 1 ∧ lo ≤ h ∧ lo + sN S = h + m ∧ 1 ≤ m ∧ (ly[0]?).map Prod.fst = some (sK S h) ∧ sK S h < 13) ∧ (∀ a, a < h → eqA S0 S a) ∧ (∀ (r : Nat) (e : Nat × List (Option Nat) × Nat), 1 ≤ r → r < m → ly[r]? = some e → entA S h r e) ∧ (∀ j t, j ∈ dn → lyR ly j = some (some t) → sR S h j = some (h + t))
/-- below b nothing has changed but the object h itself, of which the ints are as they were -/
def FR (h b : Nat) (S S2 : PS) : Prop := (∀ a, a < b → a ≠ h → eqA S S2 a) ∧ sI S2 h = sI S h
theorem eqA.rf {S : PS} {a : Nat} : eqA S S a := ⟨rfl, rfl, rfl, rfl, rfl, rfl, rfl⟩
theorem eqA.tr {S1 S2 S3 : PS} {a : Nat} (h1 : eqA S1 S2 a) (h2 : eqA S2 S3 a) : eqA S1 S3 a := ⟨h2.1.trans h1.1, h2.2.1.trans h1.2.1, h2.2.2.1.trans h1.2.2.1, h2.2.2.2.1.trans h1.2.2.2.1, h2.2.2.2.2.1.trans h1.2.2.2.2.1, h2.2.2.2.2.2.1.trans h1.2.2.2.2.2.1, h2.2.2.2.2.2.2.trans h1.2.2.2.2.2.2⟩
theorem entA.eq {S S2 : PS} {b r : Nat} {e : Nat × List (Option Nat) × Nat} (h : entA S b r e) (he : eqA S S2 (b + r)) : entA S2 b r e := ⟨he.1.trans h.1, fun j t hj => by rw [he.2.1]; exact h.2.1 j t hj, fun q => he.2.2.2.1.trans (h.2.2 q)⟩
theorem eqA_uR {S : PS} {h j a : Nat} {t : Option Nat} (ha : a ≠ h) : eqA S (uR S h j t) a := ⟨rfl, up2_an _ _ ha, rfl, rfl, rfl, rfl, rfl⟩
theorem eqA_uI {S : PS} {h j a : Nat} {v : Int32} (ha : a ≠ h) : eqA S (uI S h j v) a := ⟨rfl, rfl, up2_an _ _ ha, rfl, rfl, rfl, rfl⟩
theorem eqA_nA {S : PS} {q kd n a : Nat} (ha : a ≠ q) : eqA S (nA S q kd n) a := ⟨va_up_ne _ _ ha, rfl, rfl, va_up_ne _ _ ha, va_up_ne _ _ ha, va_up_ne _ _ ha, va_up_ne _ _ ha⟩
theorem eqA_nO {S : PS} {q c a : Nat} (ha : a ≠ q) : eqA S (nO S q c) a := ⟨va_up_ne _ _ ha, va_up_ne _ _ ha, va_up_ne _ _ ha, rfl, rfl, rfl, rfl⟩
theorem BLD.mem {ly : LAY} {m : Nat} {dn : List Nat} {lo : Nat} {S0 : PS} {h : Nat} {S : PS} (B : BLD ly m dn lo S0 h S) : h ∈ PL lo S := PL_mem.mpr ⟨B.1.2.1, by have := B.1.2.2.1; have := B.1.2.2.2.1; omega⟩
theorem BLD.one {ly : LAY} {lo : Nat} {S : PS} {h : Nat} (h1 : lo + sN S = h + 1) (h2 : lo ≤ h) (h3 : (ly[0]?).map Prod.fst = some (sK S h)) (h4 : sK S h < 13) : BLD ly 1 [] lo S h S :=
  ⟨⟨h1, h2, h1, Nat.le_refl 1, h3, h4⟩, fun _ _ => eqA.rf, fun r e q1 q2 => absurd q1 (by omega), fun j t hj => absurd hj List.not_mem_nil⟩
theorem bld_ref {ly : LAY} {m : Nat} {dn : List Nat} {lo : Nat} {S0 : PS} {h : Nat} {S : PS} (B : BLD ly m dn lo S0 h S) (j t : Nat) (hj : lyR ly j = some (some t)) : BLD ly m (j :: dn) lo S0 h (uR S h j (some (h + t))) := by
  refine ⟨⟨B.1.1, B.1.2.1, B.1.2.2.1, B.1.2.2.2.1, B.1.2.2.2.2⟩, fun a ha => (B.2.1 a ha).tr (eqA_uR (by omega)), fun r e q1 q2 he => (B.2.2.1 r e q1 q2 he).eq (eqA_uR (by omega)), fun i x hi hx => ?_⟩
  show up2 (sR S) h j (some (h + t)) h i = some (h + x)
  by_cases hij : i = j
  · subst hij
    rw [up2_s]
    rw [hj] at hx
    cases hx
    rfl
  · rw [up2_k _ _ hij]
    exact B.2.2.2 i x ((List.mem_cons.mp hi).resolve_left hij) hx
theorem bld_ali {ly : LAY} {m : Nat} {dn : List Nat} {lo : Nat} {S0 : PS} {h : Nat} {S : PS} (B : BLD ly m dn lo S0 h S) (j t : Nat) (hj : lyR ly j = some (some t)) : BLD ly m (j :: dn) lo S0 h (uR S h j (some (h + t))) ∧ FR h (h + m) S (uR S h j (some (h + t))) :=
  ⟨bld_ref B j t hj, fun a _ ha => eqA_uR ha, rfl⟩
theorem bld_int {ly : LAY} {m : Nat} {dn : List Nat} {lo : Nat} {S0 : PS} {h : Nat} {S : PS} (B : BLD ly m dn lo S0 h S) (j : Nat) (v : Int32) : BLD ly m dn lo S0 h (uI S h j v) ∧ (∀ a, a < h + m → a ≠ h → eqA S (uI S h j v) a) ∧ sI (uI S h j v) h j = v ∧ ∀ i, i ≠ j → sI (uI S h j v) h i = sI S h i :=
  ⟨⟨B.1, fun a ha => (B.2.1 a ha).tr (eqA_uI (by omega)), fun r e q1 q2 he => (B.2.2.1 r e q1 q2 he).eq (eqA_uI (by omega)), B.2.2.2⟩, fun a _ ha => eqA_uI ha, up2_s _ _ _ _, fun i hi => up2_k _ _ hi⟩
theorem bld_arr {ly : LAY} {m : Nat} {dn : List Nat} {lo : Nat} {S0 : PS} {h : Nat} {S : PS} (B : BLD ly m dn lo S0 h S) (j kd n : Nat) (hj : lyR ly j = some (some m)) (he : ly[m]? = some (kd, [], n)) :
    BLD ly (m + 1) (j :: dn) lo S0 h (uR (nA S (lo + sN S) kd n) h j (some (lo + sN S))) ∧ FR h (h + m) S (uR (nA S (lo + sN S) kd n) h j (some (lo + sN S))) ∧ sA (uR (nA S (lo + sN S) kd n) h j (some (lo + sN S))) (h + m) = (fun _ => 0) ∧ sP (uR (nA S (lo + sN S) kd n) h j (some (lo + sN S))) (h + m) = (fun _ => none) := by
  have hq : lo + sN S = h + m := B.1.2.2.1
  have hm : 1 ≤ m := B.1.2.2.2.1
  rw [hq]
  have B2 : BLD ly (m + 1) dn lo S0 h (nA S (h + m) kd n) := by
    have hkh : sK (nA S (h + m) kd n) h = sK S h := va_up_ne _ _ (by omega)
    refine ⟨⟨B.1.1, B.1.2.1, by show lo + (sN S + 1) = _; omega, by omega, by rw [hkh]; exact B.1.2.2.2.2.1, by rw [hkh]; exact B.1.2.2.2.2.2⟩, fun a ha => (B.2.1 a ha).tr (eqA_nA (by omega)), fun r e q1 q2 hr => ?_, B.2.2.2⟩
    by_cases hrm : r = m
    · subst hrm
      rw [he] at hr
      cases hr
      exact ⟨va_up_self _ _ _, fun i x hx => by simp at hx, fun _ => va_up_self _ _ _⟩
    · exact (B.2.2.1 r e q1 (by omega) hr).eq (eqA_nA (by omega))
  exact ⟨bld_ref B2 j m hj, ⟨fun a ha hne => (eqA_nA (by omega)).tr (eqA_uR hne), rfl⟩, va_up_self _ _ _, va_up_self _ _ _⟩
theorem bld_obj {ly : LAY} {m : Nat} {dn : List Nat} {lo : Nat} {S0 : PS} {h : Nat} {S S1 : PS} (B : BLD ly m dn lo S0 h S) (ly2 : LAY) (j c : Nat) (hj : lyR ly j = some (some m)) (hsub : (ly.drop m).take ly2.length = lyUp m ly2) (hN : NEWO ly2 lo (nO S (lo + sN S) c) (lo + sN S) S1) :
    BLD ly (m + ly2.length) (j :: dn) lo S0 h (uR S1 h j (some (lo + sN S))) ∧ FR h (h + m) S (uR S1 h j (some (lo + sN S))) ∧ ∀ a, a ≠ h → eqA S1 (uR S1 h j (some (lo + sN S))) a := by
  have hq : lo + sN S = h + m := B.1.2.2.1
  have hm : 1 ≤ m := B.1.2.2.2.1
  rw [hq] at hN ⊢
  obtain ⟨n1, n2, n3⟩ := hN
  have n1 : sN S1 + 1 = (sN S + 1) + ly2.length := n1
  have e0 : ∀ a, a < h + m → eqA S S1 a := fun a ha => (eqA_nO (by omega)).tr (n2 a ha)
  have B2 : BLD ly (m + ly2.length) dn lo S0 h S1 := by
    have hkh : sK S1 h = sK S h := (e0 h (by omega)).1
    refine ⟨⟨B.1.1, B.1.2.1, by omega, by omega, by rw [hkh]; exact B.1.2.2.2.2.1, by rw [hkh]; exact B.1.2.2.2.2.2⟩, fun a ha => (B.2.1 a ha).tr (e0 a (by omega)), fun r e q1 q2 hr => ?_, fun i x hi hx => by rw [(e0 h (by omega)).2.1]; exact B.2.2.2 i x hi hx⟩
    by_cases hrm : r < m
    · exact (B.2.2.1 r e q1 hrm hr).eq (e0 (h + r) (by omega))
    · obtain ⟨i, rfl⟩ : ∃ i, r = m + i := ⟨r - m, by omega⟩
      have hi : i < ly2.length := by omega
      have h4 : ((ly.drop m).take ly2.length)[i]? = ly[m + i]? := by rw [List.getElem?_take, if_pos hi, List.getElem?_drop]
      rw [← h4, hsub] at hr
      unfold lyUp at hr
      rw [List.getElem?_map] at hr
      cases hy : ly2[i]? with
      | none => rw [hy] at hr; cases hr
      | some y =>
        rw [hy] at hr
        cases hr
        obtain ⟨g1, g2, g3⟩ := n3.2.2 i y hy
        rw [Nat.add_assoc] at g1 g2 g3
        refine ⟨g1, fun i2 x hx => ?_, g3⟩
        dsimp only at hx
        rw [List.getElem?_map] at hx
        cases hz : y.2.1[i2]? with
        | none => rw [hz] at hx; cases hx
        | some z =>
          rw [hz] at hx
          cases z with
          | none => cases hx
          | some z =>
            cases hx
            rw [g2 i2 z hz]
            show some (h + m + z) = some (h + (z + m))
            rw [Nat.add_assoc, Nat.add_comm m z]
  exact ⟨bld_ref B2 j m hj, ⟨fun a ha hne => (e0 a ha).tr (eqA_uR hne), (e0 h (by omega)).2.2.1⟩, fun a ha => eqA_uR ha⟩
theorem bld_end {ly : LAY} {dn : List Nat} {lo : Nat} {S0 : PS} {h : Nat} {S : PS} (B : BLD ly ly.length dn lo S0 h S) (h1 : (ly[0]?).map (fun e => decide (e.1 < 13)) = some true) (h2 : ∀ j, j < ((ly[0]?).map (fun e => e.2.1.length)).getD 0 → j ∈ dn ∨ lyR ly j = some none) : NEWO ly lo S0 h S := by
  refine ⟨by have := B.1.1; have := B.1.2.2.1; omega, B.2.1, B.1.2.1, by have := B.1.2.2.1; omega, fun r e he => ?_⟩
  cases r with
  | zero =>
    rw [he] at h1 h2
    have hk := B.1.2.2.2.2.1
    rw [he] at hk
    simp only [Option.map_some, Option.some.injEq, decide_eq_true_eq] at h1 hk
    refine ⟨hk.symm, fun j t hj => ?_, fun q => by omega⟩
    have hl : lyR ly j = some (some t) := by unfold lyR; rw [he]; exact hj
    have hlt : j < e.2.1.length := (List.getElem?_eq_some_iff.mp hj).1
    rcases h2 j (by simpa using hlt) with q | q
    · exact B.2.2.2 j t q hl
    · rw [hl] at q; cases q
  | succ r => exact B.2.2.1 (r + 1) e (by omega) (List.getElem?_eq_some_iff.mp he).1 he
theorem new_n {ly2 : LAY} {lo c m h : Nat} {S S1 : PS} (hN : NEWO ly2 lo (nO S (lo + sN S) c) (lo + sN S) S1) (hb : lo + sN S = h + m) : lo + sN S1 = h + (m + ly2.length) := by
  have n1 : sN S1 + 1 = (sN S + 1) + ly2.length := hN.1
  omega
theorem new_e {ly2 : LAY} {lo c : Nat} {S S1 : PS} (hN : NEWO ly2 lo (nO S (lo + sN S) c) (lo + sN S) S1) {a : Nat} (ha : a < lo + sN S) : eqA S S1 a := (eqA_nO (by omega)).tr (hN.2.1 a ha)
section A2
variable {M : MC} {Γ : GC} {μ : MI} {cc : ByteArray} {Q : State → Prop} {k sl : Nat} {S : PS} {lv : List (Option Value)} {st : List Value}
theorem V_alen2 (pc : Nat) {a kd n : Nat} (d : decode cc pc = .ok (.arraylength, 1)) (ha : a ∈ PL Γ.2.2.2.2.1 S) (hk : sK S a = kd) (h1 : 13 ≤ kd) (h2 : kd ≤ 17) (hl : sL S a = n) (h : V M Γ μ cc Q k sl S (pc + 1) lv (.int (nI n) :: st)) : V M Γ μ cc Q k sl S pc lv (.ref a :: st) := V_alen pc (nI n) d ha (by rw [hk]; exact h1) (by rw [hk]; exact h2) (by rw [hl]; rfl) h
theorem V_iaload2 (pc : Nat) {a n : Nat} {i : Int32} (d : decode cc pc = .ok (.iaload, 1)) (ha : a ∈ PL Γ.2.2.2.2.1 S) (hk : sK S a = 14) (hl : sL S a = n) (hin : vp_in i n) (h : V M Γ μ cc Q k sl S (pc + 1) lv (.int (sA S a i.toNatClampNeg) :: st)) : V M Γ μ cc Q k sl S pc lv (.int i :: .ref a :: st) := V_iaload pc d ha hk (by rw [hl]; exact hin) h
theorem V_baload2 (pc : Nat) {a n : Nat} {i : Int32} (d : decode cc pc = .ok (.baload, 1)) (ha : a ∈ PL Γ.2.2.2.2.1 S) (hk : sK S a = 13) (hl : sL S a = n) (hin : vp_in i n) (h : V M Γ μ cc Q k sl S (pc + 1) lv (.int (sA S a i.toNatClampNeg) :: st)) : V M Γ μ cc Q k sl S pc lv (.int i :: .ref a :: st) := V_baload pc d ha hk (by rw [hl]; exact hin) h
theorem V_zaload2 (pc : Nat) {a n : Nat} {i : Int32} (d : decode cc pc = .ok (.baload, 1)) (ha : a ∈ PL Γ.2.2.2.2.1 S) (hk : sK S a = 16) (hl : sL S a = n) (hin : vp_in i n) (h : V M Γ μ cc Q k sl S (pc + 1) lv (.int (sA S a i.toNatClampNeg) :: st)) : V M Γ μ cc Q k sl S pc lv (.int i :: .ref a :: st) := V_zaload pc d ha hk (by rw [hl]; exact hin) h
theorem V_laload2 (pc : Nat) {a n : Nat} {i : Int32} (d : decode cc pc = .ok (.laload, 1)) (ha : a ∈ PL Γ.2.2.2.2.1 S) (hk : sK S a = 15) (hl : sL S a = n) (hin : vp_in i n) (h : V M Γ μ cc Q k sl S (pc + 1) lv (.long (sJ S a i.toNatClampNeg) :: st)) : V M Γ μ cc Q k sl S pc lv (.int i :: .ref a :: st) := V_laload pc d ha hk (by rw [hl]; exact hin) h
theorem V_aaload2 (pc : Nat) {a t n : Nat} {i : Int32} (hv : sP S a i.toNatClampNeg = some t) (d : decode cc pc = .ok (.aaload, 1)) (ha : a ∈ PL Γ.2.2.2.2.1 S) (hk : sK S a = 17) (hl : sL S a = n) (hin : vp_in i n) (h : V M Γ μ cc Q k sl S (pc + 1) lv (.ref t :: st)) : V M Γ μ cc Q k sl S pc lv (.int i :: .ref a :: st) := V_aaload pc hv d ha hk (by rw [hl]; exact hin) h
theorem V_iastore2 (pc : Nat) {a n : Nat} {i : Int32} {x : Int32} (d : decode cc pc = .ok (.iastore, 1)) (ha : a ∈ PL Γ.2.2.2.2.1 S) (hk : sK S a = 14) (hl : sL S a = n) (hin : vp_in i n) (h : V M Γ μ cc Q k sl (uA S a i.toNatClampNeg x) (pc + 1) lv st) : V M Γ μ cc Q k sl S pc lv (.int x :: .int i :: .ref a :: st) := V_iastore pc d ha hk (by rw [hl]; exact hin) h
theorem V_bastore2 (pc : Nat) {a n : Nat} {i : Int32} {x : Int32} (d : decode cc pc = .ok (.bastore, 1)) (ha : a ∈ PL Γ.2.2.2.2.1 S) (hk : sK S a = 13) (hl : sL S a = n) (hin : vp_in i n) (h : V M Γ μ cc Q k sl (uA S a i.toNatClampNeg x.toInt8.toInt32) (pc + 1) lv st) : V M Γ μ cc Q k sl S pc lv (.int x :: .int i :: .ref a :: st) := V_bastore pc d ha hk (by rw [hl]; exact hin) h
theorem V_lastore2 (pc : Nat) {a n : Nat} {i : Int32} {x : Int64} (d : decode cc pc = .ok (.lastore, 1)) (ha : a ∈ PL Γ.2.2.2.2.1 S) (hk : sK S a = 15) (hl : sL S a = n) (hin : vp_in i n) (h : V M Γ μ cc Q k sl (uJ S a i.toNatClampNeg x) (pc + 1) lv st) : V M Γ μ cc Q k sl S pc lv (.long x :: .int i :: .ref a :: st) := V_lastore pc d ha hk (by rw [hl]; exact hin) h
theorem V_zastore2 (pc : Nat) {a n : Nat} {i x : Int32} (d : decode cc pc = .ok (.bastore, 1)) (ha : a ∈ PL Γ.2.2.2.2.1 S) (hk : sK S a = 16) (hl : sL S a = n) (hin : vp_in i n) (hx : x = 0 ∨ x = 1) (h : V M Γ μ cc Q k sl (uA S a i.toNatClampNeg x) (pc + 1) lv st) : V M Γ μ cc Q k sl S pc lv (.int x :: .int i :: .ref a :: st) := V_zastore pc d ha hk (by rw [hl]; exact hin) hx h
theorem V_aastore2 (pc : Nat) {a t n : Nat} {i : Int32} (d : decode cc pc = .ok (.aastore, 1)) (ha : a ∈ PL Γ.2.2.2.2.1 S) (hk : sK S a = 17) (hl : sL S a = n) (hin : vp_in i n) (ht : t ∈ PL Γ.2.2.2.2.1 S) (hkt : sK S t = 7) (h : V M Γ μ cc Q k sl (uP S a i.toNatClampNeg (some t)) (pc + 1) lv st) : V M Γ μ cc Q k sl S pc lv (.ref t :: .int i :: .ref a :: st) := V_aastore pc d ha hk (by rw [hl]; exact hin) ht hkt h
end A2

