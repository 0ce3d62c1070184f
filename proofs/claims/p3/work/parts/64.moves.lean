/-! The reference's undo, hold, restore, draw, lot, take, evenings -/
set_option maxRecDepth 100000 in
set_option maxHeartbeats 8000000 in
theorem s_min2 (l : Launch) (Γ : GC) (S : PS) (x y z : Int32) : CT l Γ yX12_in cX12_in 3 (some .boolean) (0) (0) (0) [.int x, .int y, .int z] S (RI (fun r S' => ((r = 0 ∧ (x < y ∨ z < x)) ∨ (r = 1 ∧ y ≤ x ∧ x ≤ z)) ∧ S' = S)) := by
  refine CT.of RX12 "in" [some (.int x), some (.int y), some (.int z)] (by decide +kernel) rfl rfl (Nat.le_of_ble_eq_true rfl) rfl (fun M hM => ?_)
  subst hM
  refine V_iload_0 0 dX12_in_0 ?_
  refine V_iload_1 1 dX12_in_1 ?_
  refine V_icmp_lt 2 14 dX12_in_2 (by decide) (fun c1 => ?_) (fun c1 => ?_)
  ·
    refine V_iconst 14 (0) dX12_in_14 (by decide) ?_
    refine V_iret 15 .boolean dX12_in_15 rfl (nrwB (Or.inl rfl)) (Nat.le_of_ble_eq_true rfl) (Nat.le_of_ble_eq_true rfl) (RI.mk ⟨by first | exact Or.inl ⟨rfl, Or.inl (by assumption)⟩ | exact Or.inl ⟨rfl, Or.inr (by assumption)⟩ | exact Or.inr ⟨rfl, Int32.not_lt.mp (by assumption), Int32.not_lt.mp (by assumption)⟩, rfl⟩)
  ·
    refine V_iload_0 5 dX12_in_5 ?_
    refine V_iload_2 6 dX12_in_6 ?_
    refine V_icmp_gt 7 14 dX12_in_7 (by decide) (fun c2 => ?_) (fun c2 => ?_)
    ·
      refine V_iconst 14 (0) dX12_in_14 (by decide) ?_
      refine V_iret 15 .boolean dX12_in_15 rfl (nrwB (Or.inl rfl)) (Nat.le_of_ble_eq_true rfl) (Nat.le_of_ble_eq_true rfl) (RI.mk ⟨by first | exact Or.inl ⟨rfl, Or.inl (by assumption)⟩ | exact Or.inl ⟨rfl, Or.inr (by assumption)⟩ | exact Or.inr ⟨rfl, Int32.not_lt.mp (by assumption), Int32.not_lt.mp (by assumption)⟩, rfl⟩)
    ·
      refine V_iconst 10 (1) dX12_in_10 (by decide) ?_
      refine V_goto 11 15 dX12_in_11 (by decide) ?_
      refine V_iret 15 .boolean dX12_in_15 rfl (nrwB (Or.inr rfl)) (Nat.le_of_ble_eq_true rfl) (Nat.le_of_ble_eq_true rfl) (RI.mk ⟨by first | exact Or.inl ⟨rfl, Or.inl (by assumption)⟩ | exact Or.inl ⟨rfl, Or.inr (by assumption)⟩ | exact Or.inr ⟨rfl, Int32.not_lt.mp (by assumption), Int32.not_lt.mp (by assumption)⟩, rfl⟩)
theorem cpO {a b o i : Nat} {S T : PS} (h : ∀ j, j < i → sA T a j = sA S b (o + j)) (hb : sA T b = sA S b) (hi : (nI i).toNatClampNeg = i) : ∀ j, j < i + 1 → sA (uA T a (nI i).toNatClampNeg (sA T b (o + i))) a j = sA S b (o + j) := fun j hj => by
  rw [hi, sA_uA]; unfold up2
  by_cases q : j = i
  · subst q; rw [if_pos ⟨rfl, rfl⟩, hb]
  · rw [if_neg (fun z => q z.2)]; exact h j (by omega)
theorem undoEnd {lo m tp u i : Nat} {g : MG} {S T9 : PS} (I : MV lo m g tp S) (e : FZ [m + 37] [(m, 57)] S T9) (hu1 : 0 < u) (hu : u ≤ 40) (hh : ∀ i, i < u → SR g (m + 39) (30 * i) S) (p : sI T9 m 57 = nI (u - 1) ∧ ∀ j, j < i → sA T9 (m + 37) j = sA S (m + 39) (30 * (u - 1) + j)) (hi : 30 ≤ i) : MV lo m g tp T9 :=
  I.onNow (e.sub (by simp) (by simp)) ((hh (u - 1) (by omega)).cp (fun j hj => by rw [Nat.zero_add]; exact p.2 j (by omega))) (u := u - 1) (by omega) p.1 (fun k hk => (hh k (by omega)).eq (e.2.1 _ (by simp)))
set_option maxRecDepth 100000 in
set_option maxHeartbeats 8000000 in
theorem s_mundo (l : Launch) (Γ : GC) (S : PS) {m tp : Nat} {g : MG} (I : MV Γ.2.2.2.2.1 m g tp S) : CT l Γ yX12_undo cX12_undo 2 (some .boolean) (0) (0) (0) [.ref m] S (RI (fun r S' => MV Γ.2.2.2.2.1 m g tp S')) := by
  refine CT.of RX12 "undo" [some (.ref m), none] (by decide +kernel) rfl rfl (Nat.le_of_ble_eq_true rfl) rfl (fun M hM => ?_)
  subst hM
  have F := I.f
  obtain ⟨u, hu, eu, hh⟩ := I.hist
  refine V_aload_0 0 dX12_undo_0 ?_
  refine V_getI 1 (c := 12) 57 dX12_undo_1 fl_RX12_279 (F.m 0 (Nat.le_of_ble_eq_true rfl)) (F.k 0 12 rfl) (Nat.le_of_ble_eq_true rfl) (Nat.le_of_ble_eq_true rfl) rfl ?_
  rw [eu]
  refine V_if_ne 4 9 dX12_undo_4 (by decide) (fun c => ?_) (fun c => ?_)
  · have c2 := mt (nI_eqE (Eq.refl (nI u)) (show (0 : Int32) = nI 0 from rfl) (by omega) (by omega)).mpr c
    have hu1 : 0 < u := by omega
    refine V_aload_0 9 dX12_undo_9 ?_
    refine V_dup 10 dX12_undo_10 rfl ?_
    refine V_getI 11 (c := 12) 57 dX12_undo_11 fl_RX12_279 (F.m 0 (Nat.le_of_ble_eq_true rfl)) (F.k 0 12 rfl) (Nat.le_of_ble_eq_true rfl) (Nat.le_of_ble_eq_true rfl) rfl ?_
    rw [eu]
    refine V_iconst 14 (1) dX12_undo_14 (by decide) ?_
    refine V_isub 15 dX12_undo_15 ?_
    refine V_putI 16 (c := 12) 57 dX12_undo_16 fl_RX12_279 (F.m 0 (Nat.le_of_ble_eq_true rfl)) (F.k 0 12 rfl) (Nat.le_of_ble_eq_true rfl) (Nat.le_of_ble_eq_true rfl) rfl (Or.inl rfl) ?_
    refine V_abs (fun T9 => FZ [m + 37] [(m, 57)] S T9 ∧ ((fun T9 => sI T9 m 57 = nI (u - 1) ∧ ∀ j, j < 0 → sA T9 (m + 37) j = sA S (m + 39) (30 * (u - 1) + j)) T9)) ⟨(FZ.rf (X := [m + 37]) (Y := [(m, 57)]) (S := S)).uI (by simp), by exact ⟨(up2_s _ _ _ _).trans (m1 hu1), fun j hj => absurd hj (Nat.not_lt_zero _)⟩⟩ (fun S1 hh4 => ?_)
    obtain ⟨h2, p3⟩ := hh4
    refine V_iconst 19 (0) dX12_undo_19 (by decide) ?_
    refine V_istore_1 20 dX12_undo_20 rfl (Nat.le_of_ble_eq_true rfl) ?_
    refine V_lvw (by repeat (first | exact trivial | refine ⟨rfl, ?_⟩)) (V_while (α := Nat × PS) (fun z5 => 30 - z5.1) (fun z5 => z5.1 ≤ 30 ∧ FZ [m + 37] [(m, 57)] S z5.2 ∧ ((fun T9 => sI T9 m 57 = nI (u - 1) ∧ ∀ j, j < z5.1 → sA T9 (m + 37) j = sA S (m + 39) (30 * (u - 1) + j)) z5.2)) (fun z5 => z5.2) (fun z5 => [some (.ref m), some (.int (nI z5.1))]) (0, _) ⟨Nat.zero_le _, h2, p3⟩ (fun z5 hx11 ih10 => ?b12))
    obtain ⟨i6, S7⟩ := z5
    obtain ⟨hi8, h9, p14⟩ := hx11
    dsimp only at hi8 h9 p14 ih10 ⊢
    refine V_iload_1 21 dX12_undo_21 ?_
    refine V_bipush 22 (30) dX12_undo_22 (by decide) ?_
    refine V_icmp_ge 24 53 dX12_undo_24 (by decide) (fun c15 => ?_) (fun c15 => ?_)
    ·
      try have nf16 := (nI_leE (show (30 : Int32) = nI 30 from rfl) (Eq.refl (nI i6)) (by omega) (by omega)).mp c15
      refine V_iconst 53 (1) dX12_undo_53 (by decide) ?_
      refine V_iret 54 .boolean dX12_undo_54 rfl (nrwB (Or.inr rfl)) (Nat.le_of_ble_eq_true rfl) (Nat.le_of_ble_eq_true rfl) (RI.mk (undoEnd I h9 hu1 hu hh p14 (by omega)))
    ·
      try have nf17 := mt (nI_leE (show (30 : Int32) = nI 30 from rfl) (Eq.refl (nI i6)) (by omega) (by omega)).mpr c15
      have lt18 := nI_lt8 (by decide) hi8 c15
      refine V_aload_0 27 dX12_undo_27 ?_
      refine V_getR 28 (c := 12) 53 ((F.ss h9.1).r 0 53 37 rfl) dX12_undo_28 fl_RX12_128 ((F.ss h9.1).m 0 (Nat.le_of_ble_eq_true rfl)) ((F.ss h9.1).k 0 12 rfl) (Nat.le_of_ble_eq_true rfl) (Nat.le_of_ble_eq_true rfl) rfl ?_
      refine V_iload_1 31 dX12_undo_31 ?_
      refine V_aload_0 32 dX12_undo_32 ?_
      refine V_getR 33 (c := 12) 58 ((F.ss h9.1).r 0 58 39 rfl) dX12_undo_33 fl_RX12_134 ((F.ss h9.1).m 0 (Nat.le_of_ble_eq_true rfl)) ((F.ss h9.1).k 0 12 rfl) (Nat.le_of_ble_eq_true rfl) (Nat.le_of_ble_eq_true rfl) rfl ?_
      refine V_bipush 36 (30) dX12_undo_36 (by decide) ?_
      refine V_aload_0 38 dX12_undo_38 ?_
      refine V_getI 39 (c := 12) 57 dX12_undo_39 fl_RX12_279 ((F.ss h9.1).m 0 (Nat.le_of_ble_eq_true rfl)) ((F.ss h9.1).k 0 12 rfl) (Nat.le_of_ble_eq_true rfl) (Nat.le_of_ble_eq_true rfl) rfl ?_
      rw [p14.1]
      refine V_imul 42 dX12_undo_42 ?_
      refine V_iload_1 43 dX12_undo_43 ?_
      refine V_iadd 44 dX12_undo_44 ?_
      refine V_iaload2 45 dX12_undo_45 ((F.ss h9.1).m 39 (Nat.le_of_ble_eq_true rfl)) ((F.ss h9.1).k 39 14 rfl) ((F.ss h9.1).l 39 1200 rfl) ?_ ?_
      · exact vpN (eqAdd (eqMul (show (30 : Int32) = nI 30 from rfl) (Eq.refl (nI (u - 1)))) (Eq.refl (nI i6))) (by omega) (by decide)
      rw [clN (eqAdd (eqMul (show (30 : Int32) = nI 30 from rfl) (Eq.refl (nI (u - 1)))) (Eq.refl (nI i6))) (by omega)]
      refine V_iastore2 46 dX12_undo_46 ((F.ss h9.1).m 37 (Nat.le_of_ble_eq_true rfl)) ((F.ss h9.1).k 37 14 rfl) ((F.ss h9.1).l 37 30 rfl) ?_ ?_
      · exact vp_in_nI (by omega) (by decide)
      refine V_abs (fun T9 => FZ [m + 37] [(m, 57)] S T9 ∧ ((fun T9 => sI T9 m 57 = nI (u - 1) ∧ ∀ j, j < i6 + 1 → sA T9 (m + 37) j = sA S (m + 39) (30 * (u - 1) + j)) T9)) ⟨h9.uA (by simp), by exact ⟨p14.1, cpO p14.2 (h9.2.1 (m + 39) (by simp)) (nI_clamp (by omega))⟩⟩ (fun S19 hh22 => ?_)
      obtain ⟨h20, p21⟩ := hh22
      refine V_iinc_1 47 (1) dX12_undo_47 (by decide) rfl (Nat.le_of_ble_eq_true rfl) ?_
      refine V_goto 50 21 dX12_undo_50 (by decide) ?_
      rw [← nI_succ]
      refine V_lvw (by repeat (first | exact trivial | refine ⟨rfl, ?_⟩)) (ih10 (i6 + 1, _) ⟨by dsimp only; omega, h20, p21⟩ (by dsimp only; omega))
  ·
    refine V_iconst 7 (0) dX12_undo_7 (by decide) ?_
    refine V_iret 8 .boolean dX12_undo_8 rfl (nrwB (Or.inl rfl)) (Nat.le_of_ble_eq_true rfl) (Nat.le_of_ble_eq_true rfl) (RI.mk I)
theorem holdN {x : Int32} {k : Nat} (ek : x = nI k) (hk : k ≤ 2) : (1 : Int32) = if x < 0 ∨ 3 ≤ x then 0 else 1 := by
  rw [if_neg]
  rintro (q | q)
  · exact nI_pos (n := k) (by omega) (by rw [← ek]; exact q)
  · rw [ek] at q
    have := (nI_leE (show (3 : Int32) = nI 3 from rfl) (Eq.refl (nI k)) (by omega) (by omega)).mp q
    omega
theorem hold0N {x : Int32} (h : x < 0 ∨ 2 < x) : (0 : Int32) = if x < 0 ∨ 3 ≤ x then 0 else 1 := by
  rw [if_pos]
  rcases h with h | h
  · exact Or.inl h
  · refine Or.inr (Int32.le_iff_toInt_le.mpr ?_)
    have := Int32.lt_iff_toInt_lt.mp h
    rw [show (2 : Int32).toInt = 2 from by decide] at this
    rw [show (3 : Int32).toInt = 3 from by decide]
    omega
/-- the held rows have changed -/
theorem MV.onHeld {lo m tp : Nat} {g : MG} {S S2 : PS} (I : MV lo m g tp S) (e : FZ [m + 55, m + 56] [] S S2) (hh : ∀ s, s < 3 → ¬ sA S2 (m + 55) s = 0 → SR g (m + 56) (30 * s) S2) : MV lo m g tp S2 := by
  refine ⟨I.f.ss e.1, I.t.z [55, 56] [] e rfl rfl rfl rfl, I.now.eq (e.2.1 _ (by simp)), ?_, ?_, hh, (e.2.2 _ _ (by simp)).trans I.tape, I.tpl⟩
  · obtain ⟨u, h1, h2, h3⟩ := I.hist
    exact ⟨u, h1, (e.2.2 _ _ (by simp)).trans h2, fun i hi => (h3 i hi).eq (e.2.1 _ (by simp))⟩
  · obtain ⟨u, h1, h2, h3⟩ := I.seen
    exact ⟨u, h1, (e.2.2 _ _ (by simp)).trans h2, fun i hi => by rw [e.2.1 _ (by simp)]; exact h3 i hi⟩
theorem hdStep {m k i : Nat} {S T : PS} (p : (∀ s, ¬ s = k → sA T (m + 55) s = sA S (m + 55) s) ∧ (∀ j, (j < 30 * k ∨ 30 * k + 30 ≤ j) → sA T (m + 56) j = sA S (m + 56) j) ∧ ∀ j, j < i → sA T (m + 56) (30 * k + j) = sA S (m + 37) j) {idx : Nat} (ei : idx = 30 * k + i) (hi : i < 30) {v : Int32} (ev : v = sA S (m + 37) i) : (∀ s, ¬ s = k → sA (uA T (m + 56) idx v) (m + 55) s = sA S (m + 55) s) ∧ (∀ j, (j < 30 * k ∨ 30 * k + 30 ≤ j) → sA (uA T (m + 56) idx v) (m + 56) j = sA S (m + 56) j) ∧ ∀ j, j < i + 1 → sA (uA T (m + 56) idx v) (m + 56) (30 * k + j) = sA S (m + 37) j := by
  subst ei ev
  refine ⟨fun s hs => ?_, fun j hj => up2_cases2 (fun _ q => by omega) (fun _ => p.2.1 j hj), fun j hj => up2_cases2 (fun _ q => ?_) (fun q => p.2.2 j ?_)⟩
  · rw [sA_uA, up2_an _ _ (by omega)]; exact p.1 s hs
  · have : j = i := by omega
    rw [this]
  · have : ¬ j = i := fun z => q ⟨rfl, by omega⟩
    omega
theorem holdEnd {lo m tp k i : Nat} {g : MG} {S T : PS} (I : MV lo m g tp S) (e : FZ [m + 55, m + 56] [] S T) (hk : k ≤ 2) (p : (∀ s, ¬ s = k → sA T (m + 55) s = sA S (m + 55) s) ∧ (∀ j, (j < 30 * k ∨ 30 * k + 30 ≤ j) → sA T (m + 56) j = sA S (m + 56) j) ∧ ∀ j, j < i → sA T (m + 56) (30 * k + j) = sA S (m + 37) j) (hi : 30 ≤ i) : MV lo m g tp T := by
  refine I.onHeld e (fun s hs n => ?_)
  by_cases q : s = k
  · subst q
    exact I.now.cp (fun j hj => by rw [p.2.2 j (by omega), Nat.zero_add])
  · rw [p.1 s q] at n
    exact (I.held s hs n).cp (fun j hj => p.2.1 _ (by omega))
set_option maxRecDepth 100000 in
set_option maxHeartbeats 8000000 in
theorem s_mhold (l : Launch) (Γ : GC) (S : PS) {m tp : Nat} {g : MG} (I : MV Γ.2.2.2.2.1 m g tp S) (x : Int32) : CT l Γ yX12_hold cX12_hold 3 (some .boolean) (1) (0) (0) [.ref m, .int x] S (RI (fun r S' => (r = if x < 0 ∨ 3 ≤ x then 0 else 1) ∧ MV Γ.2.2.2.2.1 m g tp S')) := by
  refine CT.of RX12 "hold" [some (.ref m), some (.int x), none] (by decide +kernel) rfl rfl (Nat.le_of_ble_eq_true rfl) rfl (fun M hM => ?_)
  subst hM
  have F := I.f
  refine V_iload_1 0 dX12_hold_0 ?_
  refine V_iconst 1 (0) dX12_hold_1 (by decide) ?_
  refine V_iconst 2 (2) dX12_hold_2 (by decide) ?_
  refine V_callS 3 [.int _, .int _, .int _] _ (s_min2 M.2.1 Γ S _ _ _) dX12_hold_3 cb_X12_in ml_RX12_335 sm_yX12_in ⟨(Nat.le_of_ble_eq_true rfl), (Nat.le_of_ble_eq_true rfl)⟩ rfl rfl (Nat.le_of_ble_eq_true rfl) ⟨(Nat.le_of_ble_eq_true rfl), (Nat.le_of_ble_eq_true rfl)⟩ (RI.go (fun r1 S1 q1 => ?_))
  rw [q1.2]
  have q1 := q1.1
  refine V_if_ne 6 11 dX12_hold_6 (by decide) (fun c => ?_) (fun c => ?_)
  · have q2 := q1.resolve_left (fun z => c z.1)
    obtain ⟨k, hk, ek⟩ := inN (n := 2) (by decide) q2.2.1 q2.2.2
    have p1 : ((fun T9 => (∀ s, ¬ s = k → sA T9 (m + 55) s = sA S (m + 55) s) ∧ (∀ j, (j < 30 * k ∨ 30 * k + 30 ≤ j) → sA T9 (m + 56) j = sA S (m + 56) j) ∧ ∀ j, j < 0 → sA T9 (m + 56) (30 * k + j) = sA S (m + 37) j) S) := ⟨fun _ _ => rfl, fun _ _ => rfl, fun j hj => absurd hj (Nat.not_lt_zero _)⟩
    refine V_aload_0 11 dX12_hold_11 ?_
    refine V_getR 12 (c := 12) 75 (F.r 0 75 55 rfl) dX12_hold_12 fl_RX12_183 (F.m 0 (Nat.le_of_ble_eq_true rfl)) (F.k 0 12 rfl) (Nat.le_of_ble_eq_true rfl) (Nat.le_of_ble_eq_true rfl) rfl ?_
    refine V_iload_1 15 dX12_hold_15 ?_
    refine V_iconst 16 (1) dX12_hold_16 (by decide) ?_
    refine V_zastore2 17 dX12_hold_17 (F.m 55 (Nat.le_of_ble_eq_true rfl)) (F.k 55 16 rfl) (F.l 55 3 rfl) ?_ (Or.inr rfl) ?_
    · exact vpN ek (by omega) (by decide)
    refine V_abs (fun T9 => FZ [m + 55, m + 56] [] S T9 ∧ ((fun T9 => (∀ s, ¬ s = k → sA T9 (m + 55) s = sA S (m + 55) s) ∧ (∀ j, (j < 30 * k ∨ 30 * k + 30 ≤ j) → sA T9 (m + 56) j = sA S (m + 56) j) ∧ ∀ j, j < 0 → sA T9 (m + 56) (30 * k + j) = sA S (m + 37) j) T9)) ⟨(FZ.rf (X := [m + 55, m + 56]) (Y := []) (S := S)).uA (by simp), by exact ⟨fun s hs => up2_cases2 (fun _ q => absurd (q.trans (clN ek (by omega))) hs) (fun _ => p1.1 s hs), by rw [sA_uA, up2_an _ _ (by omega)]; exact p1.2⟩⟩ (fun S2 hh5 => ?_)
    obtain ⟨h3, p4⟩ := hh5
    refine V_iconst 18 (0) dX12_hold_18 (by decide) ?_
    refine V_istore_2 19 dX12_hold_19 rfl (Nat.le_of_ble_eq_true rfl) ?_
    refine V_lvw (by repeat (first | exact trivial | refine ⟨rfl, ?_⟩)) (V_while (α := Nat × PS) (fun z6 => 30 - z6.1) (fun z6 => z6.1 ≤ 30 ∧ FZ [m + 55, m + 56] [] S z6.2 ∧ ((fun T9 => (∀ s, ¬ s = k → sA T9 (m + 55) s = sA S (m + 55) s) ∧ (∀ j, (j < 30 * k ∨ 30 * k + 30 ≤ j) → sA T9 (m + 56) j = sA S (m + 56) j) ∧ ∀ j, j < z6.1 → sA T9 (m + 56) (30 * k + j) = sA S (m + 37) j) z6.2)) (fun z6 => z6.2) (fun z6 => [some (.ref m), some (.int x), some (.int (nI z6.1))]) (0, _) ⟨Nat.zero_le _, h3, p4⟩ (fun z6 hx12 ih11 => ?b13))
    obtain ⟨i7, S8⟩ := z6
    obtain ⟨hi9, h10, p15⟩ := hx12
    dsimp only at hi9 h10 p15 ih11 ⊢
    refine V_iload_2 20 dX12_hold_20 ?_
    refine V_bipush 21 (30) dX12_hold_21 (by decide) ?_
    refine V_icmp_ge 23 49 dX12_hold_23 (by decide) (fun c16 => ?_) (fun c16 => ?_)
    ·
      try have nf17 := (nI_leE (show (30 : Int32) = nI 30 from rfl) (Eq.refl (nI i7)) (by omega) (by omega)).mp c16
      refine V_iconst 49 (1) dX12_hold_49 (by decide) ?_
      refine V_iret 50 .boolean dX12_hold_50 rfl (nrwB (Or.inr rfl)) (Nat.le_of_ble_eq_true rfl) (Nat.le_of_ble_eq_true rfl) (RI.mk ⟨holdN ek hk, holdEnd I h10 hk p15 (by omega)⟩)
    ·
      try have nf18 := mt (nI_leE (show (30 : Int32) = nI 30 from rfl) (Eq.refl (nI i7)) (by omega) (by omega)).mpr c16
      have lt19 := nI_lt8 (by decide) hi9 c16
      refine V_aload_0 26 dX12_hold_26 ?_
      refine V_getR 27 (c := 12) 76 ((F.ss h10.1).r 0 76 56 rfl) dX12_hold_27 fl_RX12_186 ((F.ss h10.1).m 0 (Nat.le_of_ble_eq_true rfl)) ((F.ss h10.1).k 0 12 rfl) (Nat.le_of_ble_eq_true rfl) (Nat.le_of_ble_eq_true rfl) rfl ?_
      refine V_bipush 30 (30) dX12_hold_30 (by decide) ?_
      refine V_iload_1 32 dX12_hold_32 ?_
      refine V_imul 33 dX12_hold_33 ?_
      refine V_iload_2 34 dX12_hold_34 ?_
      refine V_iadd 35 dX12_hold_35 ?_
      refine V_aload_0 36 dX12_hold_36 ?_
      refine V_getR 37 (c := 12) 53 ((F.ss h10.1).r 0 53 37 rfl) dX12_hold_37 fl_RX12_128 ((F.ss h10.1).m 0 (Nat.le_of_ble_eq_true rfl)) ((F.ss h10.1).k 0 12 rfl) (Nat.le_of_ble_eq_true rfl) (Nat.le_of_ble_eq_true rfl) rfl ?_
      refine V_iload_2 40 dX12_hold_40 ?_
      refine V_iaload2 41 dX12_hold_41 ((F.ss h10.1).m 37 (Nat.le_of_ble_eq_true rfl)) ((F.ss h10.1).k 37 14 rfl) ((F.ss h10.1).l 37 30 rfl) ?_ ?_
      · exact vp_in_nI (by omega) (by decide)
      rw [clN (Eq.refl (nI i7)) (by omega)]
      refine V_iastore2 42 dX12_hold_42 ((F.ss h10.1).m 56 (Nat.le_of_ble_eq_true rfl)) ((F.ss h10.1).k 56 14 rfl) ((F.ss h10.1).l 56 90 rfl) ?_ ?_
      · exact vpN (eqAdd (eqMul (show (30 : Int32) = nI 30 from rfl) ek) (Eq.refl (nI i7))) (by omega) (by decide)
      refine V_abs (fun T9 => FZ [m + 55, m + 56] [] S T9 ∧ ((fun T9 => (∀ s, ¬ s = k → sA T9 (m + 55) s = sA S (m + 55) s) ∧ (∀ j, (j < 30 * k ∨ 30 * k + 30 ≤ j) → sA T9 (m + 56) j = sA S (m + 56) j) ∧ ∀ j, j < i7 + 1 → sA T9 (m + 56) (30 * k + j) = sA S (m + 37) j) T9)) ⟨h10.uA (by simp), by exact hdStep p15 (clN (eqAdd (eqMul (show (30 : Int32) = nI 30 from rfl) ek) (Eq.refl _)) (by omega)) (by omega) (congrFun (h10.2.1 (m + 37) (by simp)) _)⟩ (fun S20 hh23 => ?_)
      obtain ⟨h21, p22⟩ := hh23
      refine V_iinc_2 43 (1) dX12_hold_43 (by decide) rfl (Nat.le_of_ble_eq_true rfl) ?_
      refine V_goto 46 20 dX12_hold_46 (by decide) ?_
      rw [← nI_succ]
      refine V_lvw (by repeat (first | exact trivial | refine ⟨rfl, ?_⟩)) (ih11 (i7 + 1, _) ⟨by dsimp only; omega, h21, p22⟩ (by dsimp only; omega))
  · have q2 : r1 = 0 ∧ (x < 0 ∨ 2 < x) := q1.resolve_right (fun z => by rw [z.1] at c; exact absurd c (by decide))
    refine V_iconst 9 (0) dX12_hold_9 (by decide) ?_
    refine V_iret 10 .boolean dX12_hold_10 rfl (nrwB (Or.inl rfl)) (Nat.le_of_ble_eq_true rfl) (Nat.le_of_ble_eq_true rfl) (RI.mk ⟨hold0N q2.2, I⟩)

