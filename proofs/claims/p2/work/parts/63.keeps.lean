/-! what every state of the reference keeps; keeps, undo, hold, restore -/
def MV (lo m : Nat) (g : MG) (tp : Nat) (S : PS) : Prop :=
  isL lyModel lo S m ∧ TXT m g S ∧ SR g (m + 37) 0 S ∧ (∃ u, u ≤ 40 ∧ sI S m 57 = nI u ∧ ∀ i, i < u → SR g (m + 39) (30 * i) S) ∧ (∃ n, n ≤ 20 ∧ sI S m 70 = nI n ∧ ∀ i, i < n → ∃ k, k < gK g ∧ sA S (m + 51) i = nI k) ∧
    (∀ s, s < 3 → ¬ sA S (m + 55) s = 0 → SR g (m + 56) (30 * s) S) ∧ sI S m 2 = nI tp ∧ tp ≤ 2000
def miX (o : Nat) : Bool := txtX o && o != 37 && o != 39 && o != 51 && o != 55 && o != 56
def miY (p : Nat × Nat) : Bool := p != (0, 18) && p != (0, 57) && p != (0, 70) && p != (0, 2)
section MIS
variable {lo m tp a b o o2 : Nat} {g : MG} {x y : Nat → Nat} {S S2 : PS} {X : List Nat} {Y : List (Nat × Nat)}
theorem MV.f (I : MV lo m g tp S) : isL lyModel lo S m := I.1
theorem MV.t (I : MV lo m g tp S) : TXT m g S := I.2.1
theorem MV.now (I : MV lo m g tp S) : SR g (m + 37) 0 S := I.2.2.1
theorem MV.hist (I : MV lo m g tp S) : ∃ u, u ≤ 40 ∧ sI S m 57 = nI u ∧ ∀ i, i < u → SR g (m + 39) (30 * i) S := I.2.2.2.1
theorem MV.seen (I : MV lo m g tp S) : ∃ n, n ≤ 20 ∧ sI S m 70 = nI n ∧ ∀ i, i < n → ∃ k, k < gK g ∧ sA S (m + 51) i = nI k := I.2.2.2.2.1
theorem MV.held (I : MV lo m g tp S) : ∀ s, s < 3 → ¬ sA S (m + 55) s = 0 → SR g (m + 56) (30 * s) S := I.2.2.2.2.2.1
theorem MV.tape (I : MV lo m g tp S) : sI S m 2 = nI tp := I.2.2.2.2.2.2.1
theorem MV.tpl (I : MV lo m g tp S) : tp ≤ 2000 := I.2.2.2.2.2.2.2
theorem SR.eq (h : SR g a o S) (e : sA S2 a = sA S a) : SR g a o S2 := by
  obtain ⟨x, y, h1, h2⟩ := h
  exact ⟨x, y, fun k hk => by rw [e]; exact h1 k hk, h2⟩
theorem SR.cp (h : SR g b o2 S) (e : ∀ j, j < 30 → sA S2 a (o + j) = sA S b (o2 + j)) : SR g a o S2 := by
  obtain ⟨x, y, h1, h2⟩ := h
  exact ⟨x, y, fun k hk => by rw [e k (by omega), e (8 + k) (by omega)]; exact h1 k hk, h2⟩
theorem mx_of {Xo : List Nat} {o : Nat} (hx : Xo.all miX = true) (ho : miX o = false) : m + o ∉ Xo.map (fun o => m + o) := fun q => by
  obtain ⟨o2, h1, h2⟩ := List.mem_map.mp q
  have h3 := List.all_eq_true.mp hx o2 h1
  have : o2 = o := by have := h2; omega
  rw [this, ho] at h3
  cases h3
theorem my_of {Yo : List (Nat × Nat)} {j : Nat} (hy : Yo.all miY = true) (ho : miY (0, j) = false) : (m, j) ∉ Yo.map (fun p => (m + p.1, p.2)) := fun q => by
  obtain ⟨⟨o2, j2⟩, h1, h2⟩ := List.mem_map.mp q
  have h3 := List.all_eq_true.mp hy _ h1
  have e1 : o2 = 0 := by have := congrArg Prod.fst h2; simp only at this; omega
  have e2 : j2 = j := congrArg Prod.snd h2
  rw [e1, e2, ho] at h3
  cases h3
theorem MV.z (I : MV lo m g tp S) (Xo : List Nat) (Yo : List (Nat × Nat)) (e : FZ X Y S S2) (hX : X = Xo.map (fun o => m + o)) (hY : Y = Yo.map (fun p => (m + p.1, p.2))) (hx : Xo.all miX = true) (hy : Yo.all miY = true) : MV lo m g tp S2 := by
  subst hX hY
  have a37 := e.2.1 _ (mx_of (m := m) hx (o := 37) rfl)
  have a39 := e.2.1 _ (mx_of (m := m) hx (o := 39) rfl)
  have a51 := e.2.1 _ (mx_of (m := m) hx (o := 51) rfl)
  have a55 := e.2.1 _ (mx_of (m := m) hx (o := 55) rfl)
  have a56 := e.2.1 _ (mx_of (m := m) hx (o := 56) rfl)
  refine ⟨I.f.ss e.1, I.t.eq (e.2.2 _ _ (my_of hy (j := 18) rfl)) (fun o ho => e.2.1 _ (mx_of hx (by unfold miX; rw [ho]; rfl))), I.now.eq a37, ?_, ?_, fun s hs n => ?_, (e.2.2 _ _ (my_of hy (j := 2) rfl)).trans I.tape, I.tpl⟩
  · obtain ⟨u, h1, h2, h3⟩ := I.hist
    exact ⟨u, h1, (e.2.2 _ _ (my_of hy (j := 57) rfl)).trans h2, fun i hi => (h3 i hi).eq a39⟩
  · obtain ⟨u, h1, h2, h3⟩ := I.seen
    exact ⟨u, h1, (e.2.2 _ _ (my_of hy (j := 70) rfl)).trans h2, fun i hi => by rw [a51]; exact h3 i hi⟩
  · rw [a55] at n
    exact (I.held s hs n).eq a56
/-- now and the history have changed -/
theorem MV.onNow (I : MV lo m g tp S) (e : FZ [m + 37, m + 39] [(m, 57)] S S2) (n : SR g (m + 37) 0 S2) {u : Nat} (hu : u ≤ 40) (eu : sI S2 m 57 = nI u) (hh : ∀ i, i < u → SR g (m + 39) (30 * i) S2) : MV lo m g tp S2 := by
  refine ⟨I.f.ss e.1, I.t.z [37, 39] [(0, 57)] e rfl rfl rfl rfl, n, ⟨u, hu, eu, hh⟩, ?_, fun s hs n => ?_, (e.2.2 _ _ (by simp)).trans I.tape, I.tpl⟩
  · obtain ⟨u, h1, h2, h3⟩ := I.seen
    exact ⟨u, h1, (e.2.2 _ _ (by simp)).trans h2, fun i hi => by rw [e.2.1 _ (by simp)]; exact h3 i hi⟩
  · rw [e.2.1 _ (by simp)] at n
    exact (I.held s hs n).eq (e.2.1 _ (by simp))
end MIS
theorem up2_cases2 {f : Nat → Nat → Int32} {a k b j : Nat} {v w : Int32} (h1 : b = a → j = k → v = w) (h2 : ¬ (b = a ∧ j = k) → f b j = w) : up2 f a k v b j = w := by
  unfold up2; split
  · rename_i q; exact h1 q.1 q.2
  · rename_i q; exact h2 q
section KPS
variable {m tp lo v i u : Nat} {g : MG} {S T T9 : PS}
theorem kp1 (p : sI T9 m 57 = nI v ∧ sA T9 (m + 37) = sA T (m + 37) ∧ (∀ j, j < 30 * v → sA T9 (m + 39) j = sA T (m + 39) j) ∧ ∀ j, j < i → sA T9 (m + 39) (30 * v + j) = sA T (m + 37) j) (hb : i < 30 ∧ v < 40) : sI (uA T9 (m + 39) ((30 : Int32) * nI v + nI i).toNatClampNeg (sA T9 (m + 37) i)) m 57 = nI v ∧ sA (uA T9 (m + 39) ((30 : Int32) * nI v + nI i).toNatClampNeg (sA T9 (m + 37) i)) (m + 37) = sA T (m + 37) ∧ (∀ j, j < 30 * v → sA (uA T9 (m + 39) ((30 : Int32) * nI v + nI i).toNatClampNeg (sA T9 (m + 37) i)) (m + 39) j = sA T (m + 39) j) ∧ ∀ j, j < i + 1 → sA (uA T9 (m + 39) ((30 : Int32) * nI v + nI i).toNatClampNeg (sA T9 (m + 37) i)) (m + 39) (30 * v + j) = sA T (m + 37) j := by
  have e : ((30 : Int32) * nI v + nI i).toNatClampNeg = 30 * v + i := clN (eqAdd (eqMul (show (30 : Int32) = nI 30 from rfl) (Eq.refl (nI v))) (Eq.refl (nI i))) (by omega)
  rw [e]
  refine ⟨p.1, ?_, fun j hj => up2_cases2 (fun _ q => by omega) (fun _ => p.2.2.1 j hj), fun j hj => up2_cases2 (fun _ q => ?_) (fun q => p.2.2.2 j ?_)⟩
  · rw [sA_uA, up2_an _ _ (by omega)]; exact p.2.1
  · have : j = i := by omega
    rw [this, p.2.1]
  · have : ¬ j = i := fun z => q ⟨rfl, by omega⟩
    omega
theorem kp2 (p : sI T9 m 57 = nI v ∧ sA T9 (m + 37) = sA T (m + 37) ∧ (∀ j, j < 30 * v → sA T9 (m + 39) j = sA T (m + 39) j) ∧ ∀ j, j < i → sA T9 (m + 39) (30 * v + j) = sA T (m + 37) j) (hb : 30 ≤ i) : sI (uI T9 m 57 (nI v + 1)) m 57 = nI (v + 1) ∧ (∀ j, j < 30 * v → sA (uI T9 m 57 (nI v + 1)) (m + 39) j = sA T (m + 39) j) ∧ ∀ j, j < 30 → sA (uI T9 m 57 (nI v + 1)) (m + 39) (30 * v + j) = sA T (m + 37) j :=
  ⟨(up2_s _ _ _ _).trans (nI_1 v), p.2.2.1, fun j hj => p.2.2.2 j (by omega)⟩
theorem kp3 {w : Int32} {k : Nat} (p : sI T9 m 57 = nI (v + 1) ∧ (∀ j, j < 30 * v → sA T9 (m + 39) j = sA T (m + 39) j) ∧ ∀ j, j < 30 → sA T9 (m + 39) (30 * v + j) = sA T (m + 37) j) : sI (uA T9 (m + 37) k w) m 57 = nI (v + 1) ∧ (∀ j, j < 30 * v → sA (uA T9 (m + 37) k w) (m + 39) j = sA T (m + 39) j) ∧ ∀ j, j < 30 → sA (uA T9 (m + 37) k w) (m + 39) (30 * v + j) = sA T (m + 37) j := by
  rw [sA_uA, up2_an _ _ (by omega)]; exact p
theorem kp4 (p : sI T9 m 57 = nI 40 ∧ (∀ j, j < i → sA T9 (m + 39) j = sA S (m + 39) (j + 30)) ∧ ∀ j, i ≤ j → sA T9 (m + 39) j = sA S (m + 39) j) (hb : i < 1170) : sI (uA T9 (m + 39) (nI i).toNatClampNeg (sA S (m + 39) (i + 30))) m 57 = nI 40 ∧ (∀ j, j < i + 1 → sA (uA T9 (m + 39) (nI i).toNatClampNeg (sA S (m + 39) (i + 30))) (m + 39) j = sA S (m + 39) (j + 30)) ∧ ∀ j, i + 1 ≤ j → sA (uA T9 (m + 39) (nI i).toNatClampNeg (sA S (m + 39) (i + 30))) (m + 39) j = sA S (m + 39) j := by
  rw [nI_clamp (by omega)]
  refine ⟨p.1, fun j hj => up2_cases2 (fun _ q => by rw [q]) (fun q => p.2.1 j ?_), fun j hj => up2_cases2 (fun _ q => by omega) (fun _ => p.2.2 j (by omega))⟩
  have : ¬ j = i := fun z => q ⟨rfl, z⟩
  omega
theorem kp5 (hh : ∀ i, i < 40 → SR g (m + 39) (30 * i) S) (p : ∀ j, j < 1170 → sA T9 (m + 39) j = sA S (m + 39) (j + 30)) : ∀ i, i < 39 → SR g (m + 39) (30 * i) T9 := fun i hi => (hh (i + 1) (by omega)).cp (fun j hj => by
  rw [p _ (by omega)]
  congr 1
  omega)
theorem kpEnd (I : MV lo m g tp S) (e : FZ [m + 39] [(m, 57)] S T) (e2 : FZ [m + 37, m + 39] [(m, 57)] T T9) (hr : SR g (m + 38) 0 S) (hv : v < 40) (hhv : ∀ i, i < v → SR g (m + 39) (30 * i) T) (p : (sI T9 m 57 = nI (v + 1) ∧ (∀ j, j < 30 * v → sA T9 (m + 39) j = sA T (m + 39) j) ∧ ∀ j, j < 30 → sA T9 (m + 39) (30 * v + j) = sA T (m + 37) j) ∧ ∀ j, j < i → sA T9 (m + 37) j = sA T (m + 38) j) (hi : 30 ≤ i) : MV lo m g tp T9 := by
  refine I.onNow ((e.sub (by simp) (by simp)).tr e2) (hr.cp (fun j hj => ?_)) (u := v + 1) (by omega) p.1.1 (fun k hk => ?_)
  · rw [Nat.zero_add, p.2 j (by omega), e.2.1 _ (by simp)]
  · by_cases q : k = v
    · subst q
      exact I.now.cp (fun j hj => by rw [p.1.2.2 j hj, e.2.1 _ (by simp), Nat.zero_add])
    · exact (hhv k (by omega)).cp (fun j hj => p.1.2.1 _ (by omega))
end KPS
set_option maxRecDepth 100000 in
set_option maxHeartbeats 8000000 in
theorem s_mkeeps (l : Launch) (Γ : GC) (S : PS) {m tp : Nat} {g : MG} (I : MV Γ.2.2.2.2.1 m g tp S) (hr : SR g (m + 38) 0 S) : CT l Γ yX12_keeps cX12_keeps 2 none (0) (0) (0) [.ref m] S (RV (fun S' => MV Γ.2.2.2.2.1 m g tp S')) := by
  refine CT.of RX12 "keeps" [some (.ref m), none] (by decide +kernel) rfl rfl (Nat.le_of_ble_eq_true rfl) rfl (fun M hM => ?_)
  subst hM
  have F := I.f
  obtain ⟨u, hu, eu, hh⟩ := I.hist
  have J49 : ∀ (T : PS) (w : Option Value) (v : Nat), v < 40 → FZ [m + 39] [(m, 57)] S T → sI T m 57 = nI v → (∀ i, i < v → SR g (m + 39) (30 * i) T) → V M Γ (2, RX12, "keeps", none, RM (0) (0) (0)) cX12_keeps (RQ M Γ (RV (fun S' => MV Γ.2.2.2.2.1 m g tp S')) (0) (0)) 0 0 T 49 [some (.ref m), w] [] := by
    intro T w v hv e ev hhv
    have FT9 := F.ss e.1
    refine V_iconst 49 (0) dX12_keeps_49 (by decide) ?_
    refine V_istore_1 50 dX12_keeps_50 rfl (Nat.le_of_ble_eq_true rfl) ?_
    refine V_lvw (by repeat (first | exact trivial | refine ⟨rfl, ?_⟩)) (V_while (α := Nat × PS) (fun z1 => 30 - z1.1) (fun z1 => z1.1 ≤ 30 ∧ FZ [m + 37, m + 39] [(m, 57)] T z1.2 ∧ ((fun T9 => sI T9 m 57 = nI v ∧ sA T9 (m + 37) = sA T (m + 37) ∧ (∀ j, j < 30 * v → sA T9 (m + 39) j = sA T (m + 39) j) ∧ ∀ j, j < z1.1 → sA T9 (m + 39) (30 * v + j) = sA T (m + 37) j) z1.2)) (fun z1 => z1.2) (fun z1 => [some (.ref m), some (.int (nI z1.1))]) (0, _) ⟨Nat.zero_le _, FZ.rf, (show _ ∧ _ ∧ _ ∧ _ from ⟨ev, rfl, fun _ _ => rfl, fun j hj => absurd hj (Nat.not_lt_zero _)⟩)⟩ (fun z1 hx7 ih6 => ?b8))
    obtain ⟨i2, S3⟩ := z1
    obtain ⟨hi4, h5, p10⟩ := hx7
    dsimp only at hi4 h5 p10 ih6 ⊢
    refine V_iload_1 51 dX12_keeps_51 ?_
    refine V_bipush 52 (30) dX12_keeps_52 (by decide) ?_
    refine V_icmp_ge 54 83 dX12_keeps_54 (by decide) (fun c11 => ?_) (fun c11 => ?_)
    ·
      try have nf12 := (nI_leE (show (30 : Int32) = nI 30 from rfl) (Eq.refl (nI i2)) (by omega) (by omega)).mp c11
      refine V_aload_0 83 dX12_keeps_83 ?_
      refine V_dup 84 dX12_keeps_84 rfl ?_
      refine V_getI 85 (c := 12) 57 dX12_keeps_85 fl_RX12_279 ((FT9.ss h5.1).m 0 (Nat.le_of_ble_eq_true rfl)) ((FT9.ss h5.1).k 0 12 rfl) (Nat.le_of_ble_eq_true rfl) (Nat.le_of_ble_eq_true rfl) rfl ?_
      rw [p10.1]
      refine V_iconst 88 (1) dX12_keeps_88 (by decide) ?_
      refine V_iadd 89 dX12_keeps_89 ?_
      refine V_putI 90 (c := 12) 57 dX12_keeps_90 fl_RX12_279 ((FT9.ss h5.1).m 0 (Nat.le_of_ble_eq_true rfl)) ((FT9.ss h5.1).k 0 12 rfl) (Nat.le_of_ble_eq_true rfl) (Nat.le_of_ble_eq_true rfl) rfl (Or.inl rfl) ?_
      refine V_abs (fun T9 => FZ [m + 37, m + 39] [(m, 57)] T T9 ∧ ((fun T9 => sI T9 m 57 = nI (v + 1) ∧ (∀ j, j < 30 * v → sA T9 (m + 39) j = sA T (m + 39) j) ∧ ∀ j, j < 30 → sA T9 (m + 39) (30 * v + j) = sA T (m + 37) j) T9)) ⟨h5.uI (by simp), by exact kp2 p10 (by omega)⟩ (fun S13 hh16 => ?_)
      obtain ⟨h14, p15⟩ := hh16
      have p17 : ((fun T9 => (sI T9 m 57 = nI (v + 1) ∧ (∀ j, j < 30 * v → sA T9 (m + 39) j = sA T (m + 39) j) ∧ ∀ j, j < 30 → sA T9 (m + 39) (30 * v + j) = sA T (m + 37) j) ∧ ∀ j, j < 0 → sA T9 (m + 37) j = sA T (m + 38) j) S13) := by exact ⟨p15, fun j hj => absurd hj (Nat.not_lt_zero _)⟩
      refine V_iconst 93 (0) dX12_keeps_93 (by decide) ?_
      refine V_istore_1 94 dX12_keeps_94 rfl (Nat.le_of_ble_eq_true rfl) ?_
      refine V_lvw (by repeat (first | exact trivial | refine ⟨rfl, ?_⟩)) (V_while (α := Nat × PS) (fun z18 => 30 - z18.1) (fun z18 => z18.1 ≤ 30 ∧ FZ [m + 37, m + 39] [(m, 57)] T z18.2 ∧ ((fun T9 => (sI T9 m 57 = nI (v + 1) ∧ (∀ j, j < 30 * v → sA T9 (m + 39) j = sA T (m + 39) j) ∧ ∀ j, j < 30 → sA T9 (m + 39) (30 * v + j) = sA T (m + 37) j) ∧ ∀ j, j < z18.1 → sA T9 (m + 37) j = sA T (m + 38) j) z18.2)) (fun z18 => z18.2) (fun z18 => [some (.ref m), some (.int (nI z18.1))]) (0, _) ⟨Nat.zero_le _, h14, p17⟩ (fun z18 hx24 ih23 => ?b25))
      obtain ⟨i19, S20⟩ := z18
      obtain ⟨hi21, h22, p27⟩ := hx24
      dsimp only at hi21 h22 p27 ih23 ⊢
      refine V_iload_1 95 dX12_keeps_95 ?_
      refine V_bipush 96 (30) dX12_keeps_96 (by decide) ?_
      refine V_icmp_ge 98 119 dX12_keeps_98 (by decide) (fun c28 => ?_) (fun c28 => ?_)
      ·
        try have nf29 := (nI_leE (show (30 : Int32) = nI 30 from rfl) (Eq.refl (nI i19)) (by omega) (by omega)).mp c28
        refine V_vret 119 dX12_keeps_119 rfl (Nat.le_of_ble_eq_true rfl) (Nat.le_of_ble_eq_true rfl) (RV.mk (kpEnd I e h22 hr hv hhv p27 (by omega)))
      ·
        try have nf30 := mt (nI_leE (show (30 : Int32) = nI 30 from rfl) (Eq.refl (nI i19)) (by omega) (by omega)).mpr c28
        have lt31 := nI_lt8 (by decide) hi21 c28
        refine V_aload_0 101 dX12_keeps_101 ?_
        refine V_getR 102 (c := 12) 53 ((FT9.ss h22.1).r 0 53 37 rfl) dX12_keeps_102 fl_RX12_128 ((FT9.ss h22.1).m 0 (Nat.le_of_ble_eq_true rfl)) ((FT9.ss h22.1).k 0 12 rfl) (Nat.le_of_ble_eq_true rfl) (Nat.le_of_ble_eq_true rfl) rfl ?_
        refine V_iload_1 105 dX12_keeps_105 ?_
        refine V_aload_0 106 dX12_keeps_106 ?_
        refine V_getR 107 (c := 12) 54 ((FT9.ss h22.1).r 0 54 38 rfl) dX12_keeps_107 fl_RX12_131 ((FT9.ss h22.1).m 0 (Nat.le_of_ble_eq_true rfl)) ((FT9.ss h22.1).k 0 12 rfl) (Nat.le_of_ble_eq_true rfl) (Nat.le_of_ble_eq_true rfl) rfl ?_
        refine V_iload_1 110 dX12_keeps_110 ?_
        refine V_iaload2 111 dX12_keeps_111 ((FT9.ss h22.1).m 38 (Nat.le_of_ble_eq_true rfl)) ((FT9.ss h22.1).k 38 14 rfl) ((FT9.ss h22.1).l 38 30 rfl) ?_ ?_
        · exact vp_in_nI (by omega) (by decide)
        rw [clN (Eq.refl (nI i19)) (by omega)]
        refine V_iastore2 112 dX12_keeps_112 ((FT9.ss h22.1).m 37 (Nat.le_of_ble_eq_true rfl)) ((FT9.ss h22.1).k 37 14 rfl) ((FT9.ss h22.1).l 37 30 rfl) ?_ ?_
        · exact vp_in_nI (by omega) (by decide)
        refine V_abs (fun T9 => FZ [m + 37, m + 39] [(m, 57)] T T9 ∧ ((fun T9 => (sI T9 m 57 = nI (v + 1) ∧ (∀ j, j < 30 * v → sA T9 (m + 39) j = sA T (m + 39) j) ∧ ∀ j, j < 30 → sA T9 (m + 39) (30 * v + j) = sA T (m + 37) j) ∧ ∀ j, j < i19 + 1 → sA T9 (m + 37) j = sA T (m + 38) j) T9)) ⟨h22.uA (by simp), by exact ⟨kp3 p27.1, cpStep p27.2 (h22.2.1 (m + 38) (by simp)) (nI_clamp (by omega))⟩⟩ (fun S32 hh35 => ?_)
        obtain ⟨h33, p34⟩ := hh35
        refine V_iinc_1 113 (1) dX12_keeps_113 (by decide) rfl (Nat.le_of_ble_eq_true rfl) ?_
        refine V_goto 116 95 dX12_keeps_116 (by decide) ?_
        rw [← nI_succ]
        refine V_lvw (by repeat (first | exact trivial | refine ⟨rfl, ?_⟩)) (ih23 (i19 + 1, _) ⟨by dsimp only; omega, h33, p34⟩ (by dsimp only; omega))
    ·
      try have nf36 := mt (nI_leE (show (30 : Int32) = nI 30 from rfl) (Eq.refl (nI i2)) (by omega) (by omega)).mpr c11
      have lt37 := nI_lt8 (by decide) hi4 c11
      refine V_aload_0 57 dX12_keeps_57 ?_
      refine V_getR 58 (c := 12) 58 ((FT9.ss h5.1).r 0 58 39 rfl) dX12_keeps_58 fl_RX12_134 ((FT9.ss h5.1).m 0 (Nat.le_of_ble_eq_true rfl)) ((FT9.ss h5.1).k 0 12 rfl) (Nat.le_of_ble_eq_true rfl) (Nat.le_of_ble_eq_true rfl) rfl ?_
      refine V_bipush 61 (30) dX12_keeps_61 (by decide) ?_
      refine V_aload_0 63 dX12_keeps_63 ?_
      refine V_getI 64 (c := 12) 57 dX12_keeps_64 fl_RX12_279 ((FT9.ss h5.1).m 0 (Nat.le_of_ble_eq_true rfl)) ((FT9.ss h5.1).k 0 12 rfl) (Nat.le_of_ble_eq_true rfl) (Nat.le_of_ble_eq_true rfl) rfl ?_
      rw [p10.1]
      refine V_imul 67 dX12_keeps_67 ?_
      refine V_iload_1 68 dX12_keeps_68 ?_
      refine V_iadd 69 dX12_keeps_69 ?_
      refine V_aload_0 70 dX12_keeps_70 ?_
      refine V_getR 71 (c := 12) 53 ((FT9.ss h5.1).r 0 53 37 rfl) dX12_keeps_71 fl_RX12_128 ((FT9.ss h5.1).m 0 (Nat.le_of_ble_eq_true rfl)) ((FT9.ss h5.1).k 0 12 rfl) (Nat.le_of_ble_eq_true rfl) (Nat.le_of_ble_eq_true rfl) rfl ?_
      refine V_iload_1 74 dX12_keeps_74 ?_
      refine V_iaload2 75 dX12_keeps_75 ((FT9.ss h5.1).m 37 (Nat.le_of_ble_eq_true rfl)) ((FT9.ss h5.1).k 37 14 rfl) ((FT9.ss h5.1).l 37 30 rfl) ?_ ?_
      · exact vp_in_nI (by omega) (by decide)
      rw [clN (Eq.refl (nI i2)) (by omega)]
      refine V_iastore2 76 dX12_keeps_76 ((FT9.ss h5.1).m 39 (Nat.le_of_ble_eq_true rfl)) ((FT9.ss h5.1).k 39 14 rfl) ((FT9.ss h5.1).l 39 1200 rfl) ?_ ?_
      · exact vpN (eqAdd (eqMul (show (30 : Int32) = nI 30 from rfl) (Eq.refl (nI (v)))) (Eq.refl (nI i2))) (by omega) (by decide)
      refine V_abs (fun T9 => FZ [m + 37, m + 39] [(m, 57)] T T9 ∧ ((fun T9 => sI T9 m 57 = nI v ∧ sA T9 (m + 37) = sA T (m + 37) ∧ (∀ j, j < 30 * v → sA T9 (m + 39) j = sA T (m + 39) j) ∧ ∀ j, j < i2 + 1 → sA T9 (m + 39) (30 * v + j) = sA T (m + 37) j) T9)) ⟨h5.uA (by simp), by exact kp1 p10 (by omega)⟩ (fun S38 hh41 => ?_)
      obtain ⟨h39, p40⟩ := hh41
      refine V_iinc_1 77 (1) dX12_keeps_77 (by decide) rfl (Nat.le_of_ble_eq_true rfl) ?_
      refine V_goto 80 51 dX12_keeps_80 (by decide) ?_
      rw [← nI_succ]
      refine V_lvw (by repeat (first | exact trivial | refine ⟨rfl, ?_⟩)) (ih6 (i2 + 1, _) ⟨by dsimp only; omega, h39, p40⟩ (by dsimp only; omega))
  refine V_aload_0 0 dX12_keeps_0 ?_
  refine V_getI 1 (c := 12) 57 dX12_keeps_1 fl_RX12_279 (F.m 0 (Nat.le_of_ble_eq_true rfl)) (F.k 0 12 rfl) (Nat.le_of_ble_eq_true rfl) (Nat.le_of_ble_eq_true rfl) rfl ?_
  rw [eu]
  refine V_bipush 4 (40) dX12_keeps_4 (by decide) ?_
  refine V_icmp_ne 6 49 dX12_keeps_6 (by decide) (fun c => ?_) (fun c => ?_)
  · have c2 := mt (nI_eqE (Eq.refl (nI u)) (show (40 : Int32) = nI 40 from rfl) (by omega) (by omega)).mpr c
    exact J49 S none u (by omega) FZ.rf eu hh
  · have c2 := (nI_eqE (Eq.refl (nI u)) (show (40 : Int32) = nI 40 from rfl) (by omega) (by omega)).mp c
    subst c2
    refine V_iconst 9 (0) dX12_keeps_9 (by decide) ?_
    refine V_istore_1 10 dX12_keeps_10 rfl (Nat.le_of_ble_eq_true rfl) ?_
    refine V_lvw (by repeat (first | exact trivial | refine ⟨rfl, ?_⟩)) (V_while (α := Nat × PS) (fun z1 => 1170 - z1.1) (fun z1 => z1.1 ≤ 1170 ∧ FZ [m + 39] [(m, 57)] S z1.2 ∧ ((fun T9 => sI T9 m 57 = nI 40 ∧ (∀ j, j < z1.1 → sA T9 (m + 39) j = sA S (m + 39) (j + 30)) ∧ ∀ j, z1.1 ≤ j → sA T9 (m + 39) j = sA S (m + 39) j) z1.2)) (fun z1 => z1.2) (fun z1 => [some (.ref m), some (.int (nI z1.1))]) (0, _) ⟨Nat.zero_le _, FZ.rf, (show _ ∧ _ ∧ _ from ⟨eu, fun j hj => absurd hj (Nat.not_lt_zero _), fun _ _ => rfl⟩)⟩ (fun z1 hx7 ih6 => ?bb2_8))
    obtain ⟨i2, S3⟩ := z1
    obtain ⟨hi4, h5, p10⟩ := hx7
    dsimp only at hi4 h5 p10 ih6 ⊢
    refine V_iload_1 11 dX12_keeps_11 ?_
    refine V_sipush 12 (1170) dX12_keeps_12 (by decide) ?_
    refine V_icmp_ge 15 39 dX12_keeps_15 (by decide) (fun c11 => ?_) (fun c11 => ?_)
    ·
      try have nf12 := (nI_leE (show (1170 : Int32) = nI 1170 from rfl) (Eq.refl (nI i2)) (by omega) (by omega)).mp c11
      refine V_aload_0 39 dX12_keeps_39 ?_
      refine V_dup 40 dX12_keeps_40 rfl ?_
      refine V_getI 41 (c := 12) 57 dX12_keeps_41 fl_RX12_279 ((F.ss h5.1).m 0 (Nat.le_of_ble_eq_true rfl)) ((F.ss h5.1).k 0 12 rfl) (Nat.le_of_ble_eq_true rfl) (Nat.le_of_ble_eq_true rfl) rfl ?_
      rw [p10.1]
      refine V_iconst 44 (1) dX12_keeps_44 (by decide) ?_
      refine V_isub 45 dX12_keeps_45 ?_
      refine V_putI 46 (c := 12) 57 dX12_keeps_46 fl_RX12_279 ((F.ss h5.1).m 0 (Nat.le_of_ble_eq_true rfl)) ((F.ss h5.1).k 0 12 rfl) (Nat.le_of_ble_eq_true rfl) (Nat.le_of_ble_eq_true rfl) rfl (Or.inl rfl) ?_
      refine V_abs (fun T9 => FZ [m + 39] [(m, 57)] S T9 ∧ ((fun T9 => sI T9 m 57 = nI 39 ∧ ∀ j, j < 1170 → sA T9 (m + 39) j = sA S (m + 39) (j + 30)) T9)) ⟨h5.uI (by simp), by exact ⟨(up2_s _ _ _ _).trans (by decide), fun j hj => p10.2.1 j (by omega)⟩⟩ (fun S13 hh16 => ?_)
      obtain ⟨h14, p15⟩ := hh16
      exact J49 _ _ 39 (by decide) h14 p15.1 (kp5 hh p15.2)
    ·
      try have nf17 := mt (nI_leE (show (1170 : Int32) = nI 1170 from rfl) (Eq.refl (nI i2)) (by omega) (by omega)).mpr c11
      have lt18 := nI_lt8 (by decide) hi4 c11
      refine V_aload_0 18 dX12_keeps_18 ?_
      refine V_getR 19 (c := 12) 58 ((F.ss h5.1).r 0 58 39 rfl) dX12_keeps_19 fl_RX12_134 ((F.ss h5.1).m 0 (Nat.le_of_ble_eq_true rfl)) ((F.ss h5.1).k 0 12 rfl) (Nat.le_of_ble_eq_true rfl) (Nat.le_of_ble_eq_true rfl) rfl ?_
      refine V_iload_1 22 dX12_keeps_22 ?_
      refine V_aload_0 23 dX12_keeps_23 ?_
      refine V_getR 24 (c := 12) 58 ((F.ss h5.1).r 0 58 39 rfl) dX12_keeps_24 fl_RX12_134 ((F.ss h5.1).m 0 (Nat.le_of_ble_eq_true rfl)) ((F.ss h5.1).k 0 12 rfl) (Nat.le_of_ble_eq_true rfl) (Nat.le_of_ble_eq_true rfl) rfl ?_
      refine V_iload_1 27 dX12_keeps_27 ?_
      refine V_bipush 28 (30) dX12_keeps_28 (by decide) ?_
      refine V_iadd 30 dX12_keeps_30 ?_
      refine V_iaload2 31 dX12_keeps_31 ((F.ss h5.1).m 39 (Nat.le_of_ble_eq_true rfl)) ((F.ss h5.1).k 39 14 rfl) ((F.ss h5.1).l 39 1200 rfl) ?_ ?_
      · exact vpN (eqAdd (Eq.refl (nI i2)) (show (30 : Int32) = nI 30 from rfl)) (by omega) (by decide)
      rw [clN (eqAdd (Eq.refl (nI i2)) (show (30 : Int32) = nI 30 from rfl)) (by omega)]
      rw [p10.2.2 _ (by omega)]
      refine V_iastore2 32 dX12_keeps_32 ((F.ss h5.1).m 39 (Nat.le_of_ble_eq_true rfl)) ((F.ss h5.1).k 39 14 rfl) ((F.ss h5.1).l 39 1200 rfl) ?_ ?_
      · exact vp_in_nI (by omega) (by decide)
      refine V_abs (fun T9 => FZ [m + 39] [(m, 57)] S T9 ∧ ((fun T9 => sI T9 m 57 = nI 40 ∧ (∀ j, j < i2 + 1 → sA T9 (m + 39) j = sA S (m + 39) (j + 30)) ∧ ∀ j, i2 + 1 ≤ j → sA T9 (m + 39) j = sA S (m + 39) j) T9)) ⟨h5.uA (by simp), by exact kp4 p10 (by omega)⟩ (fun S19 hh22 => ?_)
      obtain ⟨h20, p21⟩ := hh22
      refine V_iinc_1 33 (1) dX12_keeps_33 (by decide) rfl (Nat.le_of_ble_eq_true rfl) ?_
      refine V_goto 36 11 dX12_keeps_36 (by decide) ?_
      rw [← nI_succ]
      refine V_lvw (by repeat (first | exact trivial | refine ⟨rfl, ?_⟩)) (ih6 (i2 + 1, _) ⟨by dsimp only; omega, h20, p21⟩ (by dsimp only; omega))

