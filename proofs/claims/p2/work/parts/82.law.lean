/-! The reference's reading: a law's terms -/
/-- outside a .. b the branches stand -/
def BW (m a b : Nat) (S S2 : PS) : Prop := ∀ o, 27 ≤ o → o ≤ 31 → ∀ i, (i < a ∨ b ≤ i) → sA S2 (m + o) i = sA S (m + o) i
def GD (m c t : Nat) (S : PS) : Prop := sI S m 13 = 0 ∧ sI S m 12 = 0 ∧ sI S m 11 = nI t ∧ t ≤ 400 ∧ sI S m 45 = nI c
section BWD
variable {m a b c d t l : Nat} {S S2 S3 : PS} {X : List Nat} {Y : List (Nat × Nat)}
theorem BW.rf : BW m a b S S := fun _ _ _ _ _ => rfl
theorem BW.tr {a2 b2 : Nat} (h : BW m a b S S2) (g : BW m a2 b2 S2 S3) (l : a ≤ a2) (l2 : b ≤ b2) : BW m a b2 S S3 := fun o h1 h2 i q => (g o h1 h2 i (by omega)).trans (h o h1 h2 i (by omega))
theorem BW.wide {a2 b2 : Nat} (h : BW m a b S S2) (l0 : a2 ≤ a) (l : b ≤ b2) : BW m a2 b2 S S2 := fun o h1 h2 i q => h o h1 h2 i (by omega)
theorem BW.fz (e : FZ X Y S S2) (h : ∀ o, 27 ≤ o → o ≤ 31 → m + o ∉ X) : BW m a b S S2 := fun o h1 h2 i _ => by rw [e.2.1 _ (h o h1 h2)]
theorem BW.uA {r : Nat} {v : Int32} (h : a ≤ d) (h2 : d < b) : BW m a b S (uA S (m + r) d v) := fun o _ _ i q => up2_k _ _ (by omega)
theorem RPN.cw {x : Nat} (h : RPN m l S c d) (e : CW m d x S S2) : RPN m l S2 c d := ⟨h.1, h.2.1, h.2.2.1, h.2.2.2.1, RP.cw (d := x) _ _ h.2.2.2.2 (by rw [show c + (d - c) = d by have := h.2.1; omega]; exact e)⟩
theorem FLT.mv (h : FLT m S) (e : FZ X Y S S2) (y1 : (m, 11) ∉ Y) (y2 : (m, 13) ∉ Y) : FLT m S2 := by
  obtain ⟨h1, t, h2, h3⟩ := h
  exact ⟨by rw [e.2.2 _ _ y2]; exact h1, t, h2, (e.2.2 _ _ y1).trans h3⟩
theorem FLT.no (h : FLT m S) : ¬ sI S m 13 = 0 := fun q => by have := h.1; rw [q] at this; exact absurd this (by decide)
theorem GD.mv (h : GD m c t S) (e : FZ X Y S S2) (y1 : (m, 11) ∉ Y) (y2 : (m, 13) ∉ Y) (y3 : (m, 12) ∉ Y) (y4 : (m, 45) ∉ Y) : GD m c t S2 := ⟨(e.2.2 _ _ y2).trans h.1, (e.2.2 _ _ y3).trans h.2.1, (e.2.2 _ _ y1).trans h.2.2.1, h.2.2.2.1, (e.2.2 _ _ y4).trans h.2.2.2.2⟩
theorem fgT (h : FLT m S ∨ GD m c t S) : ∃ t2, t2 ≤ 400 ∧ sI S m 11 = nI t2 := by
  rcases h with h | h
  · exact h.2
  · exact ⟨t, h.2.2.2.1, h.2.2.1⟩
theorem ADV.flt {Q : Prop} (h : FLT m S) (a : ADV m t S S2 Q) (ht : t ≤ 400) : FLT m S2 := by
  rcases a with a | a
  · exact ⟨a.1, t, ht, a.2⟩
  · exact absurd a.1 h.no
theorem ADV.fg {Q : Prop} {t2 : Nat} (h : FLT m S ∨ GD m c t S) (a : ADV m t2 S S2 Q) (ht : t2 ≤ 400) (et : sI S m 11 = nI t2) (e : FZ X Y S S2) (y3 : (m, 12) ∉ Y) (y4 : (m, 45) ∉ Y) : FLT m S2 ∨ (GD m c t S ∧ GD m c (t + 1) S2 ∧ Q) := by
  rcases h with h | h
  · exact Or.inl (ADV.flt h a ht)
  · rcases a with a | a
    · exact Or.inl ⟨a.1, t2, ht, a.2⟩
    · have e0 : t2 = t := (nI_eq (by omega) (by have := h.2.2.2.1; omega)).mp (et.symm.trans h.2.2.1)
      subst e0
      exact Or.inr ⟨h, ⟨a.2.1, (e.2.2 _ _ y3).trans h.2.1, a.2.2.2.1, by have := a.2.2.1; omega, (e.2.2 _ _ y4).trans h.2.2.2.2⟩, a.2.2.2.2⟩
end BWD
/-- a term read: its codes from c to d, and its branch -/
def TMR (m b c0 t0 : Nat) (S : PS) : Prop := ∃ c t, GD m c t S ∧ t0 < t ∧ c0 ≤ c ∧ c + t0 ≤ c0 + t ∧ RP m c0 S (c - c0) 1 ∧ sA S (m + 30) b = nI c0 ∧ sA S (m + 31) b = nI c
set_option maxRecDepth 100000 in
set_option maxHeartbeats 8000000 in
theorem s_mterm (l : Launch) (Γ : GC) (S : PS) {m b c0 t0 E : Nat} (F : isL lyModel Γ.2.2.2.2.1 S m) (eb : sI S m 39 = nI b) (hb : b < 260) (hE2 : E < 840) (hE : c0 + 400 ≤ E + t0) (hf : FLT m S ∨ GD m c0 t0 S) : CT l Γ yX12_term cX12_term 1 none (4) (0) (0) [.ref m] S (RV (fun S' => FZ [m + 30, m + 31, m + 32, m + 33, m + 34] [(m, 11), (m, 12), (m, 13), (m, 14), (m, 39), (m, 45), (m, 49)] S S' ∧ CW m c0 (E + 1) S S' ∧ BW m b (b + 1) S S' ∧ sI S' m 39 = nI (b + 1) ∧ (FLT m S' ∨ (GD m c0 t0 S ∧ TMR m b c0 t0 S')))) := by
  refine CT.of RX12 "term" [some (.ref m)] (by decide +kernel) rfl rfl (Nat.le_of_ble_eq_true rfl) rfl (fun M hM => ?_)
  subst hM
  refine V_aload_0 0 dX12_term_0 ?_
  refine V_getR 1 (c := 12) 43 (F.r 0 43 30 rfl) dX12_term_1 fl_RX12_107 (F.m 0 (Nat.le_of_ble_eq_true rfl)) (F.k 0 12 rfl) (Nat.le_of_ble_eq_true rfl) (Nat.le_of_ble_eq_true rfl) rfl ?_
  refine V_aload_0 4 dX12_term_4 ?_
  refine V_getI 5 (c := 12) 39 dX12_term_5 fl_RX12_270 (F.m 0 (Nat.le_of_ble_eq_true rfl)) (F.k 0 12 rfl) (Nat.le_of_ble_eq_true rfl) (Nat.le_of_ble_eq_true rfl) rfl ?_
  rw [eb]
  refine V_aload_0 8 dX12_term_8 ?_
  refine V_getI 9 (c := 12) 45 dX12_term_9 fl_RX12_273 (F.m 0 (Nat.le_of_ble_eq_true rfl)) (F.k 0 12 rfl) (Nat.le_of_ble_eq_true rfl) (Nat.le_of_ble_eq_true rfl) rfl ?_
  refine V_iastore2 12 dX12_term_12 (F.m 30 (Nat.le_of_ble_eq_true rfl)) (F.k 30 14 rfl) (F.l 30 260 rfl) ?_ ?_
  · exact vp_in_nI (by omega) (by decide)
  rw [nI_clamp (by omega)]
  have e1 : FZ [m + 30, m + 31, m + 32, m + 33, m + 34] [(m, 11), (m, 12), (m, 13), (m, 14), (m, 39), (m, 45), (m, 49)] S (uA S (m + 30) b (sI S m 45)) := FZ.rf.uA (by simp)
  have c1 : CW m c0 (E + 1) S (uA S (m + 30) b (sI S m 45)) := fun i _ => ⟨up2_a _ _ (by omega), up2_a _ _ (by omega)⟩
  have b1 : BW m b (b + 1) S (uA S (m + 30) b (sI S m 45)) := BW.uA (by omega) (by omega)
  have u30 : sA (uA S (m + 30) b (sI S m 45)) (m + 30) b = sI S m 45 := up2_s _ _ _ _
  have h1 : FLT m (uA S (m + 30) b (sI S m 45)) ∨ GD m c0 t0 (uA S (m + 30) b (sI S m 45)) := hf.imp (fun q => q) (fun q => q)
  have hg : GD m c0 t0 (uA S (m + 30) b (sI S m 45)) → GD m c0 t0 S := fun q => q
  have eb1 : sI (uA S (m + 30) b (sI S m 45)) m 39 = nI b := eb
  have hf0 : GD m c0 t0 (uA S (m + 30) b (sI S m 45)) → sI S m 45 = nI c0 := fun q => q.2.2.2.2
  generalize uA S (m + 30) b (sI S m 45) = T at e1 c1 b1 u30 h1 hg eb1 hf0 ⊢
  have FT9 := F.ss e1.1
  have J24 : ∀ (U : PS), FZ [m + 32, m + 33, m + 34] [(m, 11), (m, 12), (m, 13), (m, 14), (m, 45), (m, 49)] T U → CW m c0 (E + 1) T U → (FLT m U ∨ (EXR m c0 t0 U ∧ GD m c0 t0 T)) → V M Γ (1, RX12, "term", none, RM (4) (0) (0)) cX12_term (RQ M Γ (RV (fun S' => FZ [m + 30, m + 31, m + 32, m + 33, m + 34] [(m, 11), (m, 12), (m, 13), (m, 14), (m, 39), (m, 45), (m, 49)] S S' ∧ CW m c0 (E + 1) S S' ∧ BW m b (b + 1) S S' ∧ sI S' m 39 = nI (b + 1) ∧ (FLT m S' ∨ (GD m c0 t0 S ∧ TMR m b c0 t0 S')))) (0) (0)) 0 0 U 24 [some (.ref m)] [] := by
    intro U e cw h
    have FU9 := FT9.ss e.1
    have eb2 : sI U m 39 = nI b := (e.2.2 m 39 (by simp)).trans eb1
    refine V_aload_0 24 dX12_term_24 ?_
    refine V_getR 25 (c := 12) 44 (FU9.r 0 44 31 rfl) dX12_term_25 fl_RX12_110 (FU9.m 0 (Nat.le_of_ble_eq_true rfl)) (FU9.k 0 12 rfl) (Nat.le_of_ble_eq_true rfl) (Nat.le_of_ble_eq_true rfl) rfl ?_
    refine V_aload_0 28 dX12_term_28 ?_
    refine V_getI 29 (c := 12) 39 dX12_term_29 fl_RX12_270 (FU9.m 0 (Nat.le_of_ble_eq_true rfl)) (FU9.k 0 12 rfl) (Nat.le_of_ble_eq_true rfl) (Nat.le_of_ble_eq_true rfl) rfl ?_
    rw [eb2]
    refine V_aload_0 32 dX12_term_32 ?_
    refine V_getI 33 (c := 12) 45 dX12_term_33 fl_RX12_273 (FU9.m 0 (Nat.le_of_ble_eq_true rfl)) (FU9.k 0 12 rfl) (Nat.le_of_ble_eq_true rfl) (Nat.le_of_ble_eq_true rfl) rfl ?_
    refine V_iastore2 36 dX12_term_36 (FU9.m 31 (Nat.le_of_ble_eq_true rfl)) (FU9.k 31 14 rfl) (FU9.l 31 260 rfl) ?_ ?_
    · exact vp_in_nI (by omega) (by decide)
    rw [nI_clamp (by omega)]
    refine V_aload_0 37 dX12_term_37 ?_
    refine V_dup 38 dX12_term_38 rfl ?_
    refine V_getI 39 (c := 12) 39 dX12_term_39 fl_RX12_270 (FU9.m 0 (Nat.le_of_ble_eq_true rfl)) (FU9.k 0 12 rfl) (Nat.le_of_ble_eq_true rfl) (Nat.le_of_ble_eq_true rfl) rfl ?_
    rw [show sI (uA U (m + 31) b (sI U m 45)) m 39 = nI b from eb2]
    refine V_iconst 42 (1) dX12_term_42 (by decide) ?_
    refine V_iadd 43 dX12_term_43 ?_
    refine V_putI 44 (c := 12) 39 dX12_term_44 fl_RX12_270 (FU9.m 0 (Nat.le_of_ble_eq_true rfl)) (FU9.k 0 12 rfl) (Nat.le_of_ble_eq_true rfl) (Nat.le_of_ble_eq_true rfl) rfl (Or.inl rfl) ?_
    rw [nI_1]
    have eV : FZ [m + 31] [(m, 39)] U (uI (uA U (m + 31) b (sI U m 45)) m 39 (nI (b + 1))) := (FZ.rf.uA (by simp)).uI (by simp)
    have u39 : sI (uI (uA U (m + 31) b (sI U m 45)) m 39 (nI (b + 1))) m 39 = nI (b + 1) := up2_s _ _ _ _
    have u31 : sA (uI (uA U (m + 31) b (sI U m 45)) m 39 (nI (b + 1))) (m + 31) b = sI U m 45 := up2_s _ _ _ _
    have uB : BW m b (b + 1) U (uI (uA U (m + 31) b (sI U m 45)) m 39 (nI (b + 1))) := fun o o1 o2 i hi => up2_k _ _ (by omega)
    generalize uI (uA U (m + 31) b (sI U m 45)) m 39 (nI (b + 1)) = V9 at eV u39 u31 uB ⊢
    refine V_vret 47 dX12_term_47 rfl (Nat.le_of_ble_eq_true rfl) (Nat.le_of_ble_eq_true rfl) (RV.mk ⟨(e1.tr (e.sub (by simp) (by simp))).tr (eV.sub (by simp) (by simp)), (c1.tr cw (Nat.le_refl _) (Nat.le_refl _)).tr (CW.fz (a := c0) (b := E + 1) eV (by simp) (by simp)) (Nat.le_refl _) (Nat.le_refl _), (b1.tr (BW.fz (a := b) (b := b + 1) e (fun o h1 h2 => by simp; omega)) (Nat.le_refl _) (Nat.le_refl _)).tr uB (Nat.le_refl _) (Nat.le_refl _), u39, ?_⟩)
    rcases h with h | ⟨⟨h1, h2, c, t, h3, h4, h5, h6, h7, h8, h9⟩, g⟩
    · exact Or.inl (h.mv eV (by simp) (by simp))
    · refine Or.inr ⟨hg g, c, t, GD.mv ⟨h1, h2, h5, h4, h6⟩ eV (by simp) (by simp) (by simp) (by simp), h3, h7, h8, RP.eq _ _ h9 (fun i => by rw [eV.2.1 (m + 32) (by simp)]) (fun i => by rw [eV.2.1 (m + 33) (by simp)]), ?_, ?_⟩
      · rw [eV.2.1 (m + 30) (by simp), e.2.1 (m + 30) (by simp), u30]
        exact hf0 g
      · rw [u31]; exact h6
  refine V_aload_0 13 dX12_term_13 ?_
  refine V_getI 14 (c := 12) 13 dX12_term_14 fl_RX12_234 (FT9.m 0 (Nat.le_of_ble_eq_true rfl)) (FT9.k 0 12 rfl) (Nat.le_of_ble_eq_true rfl) (Nat.le_of_ble_eq_true rfl) rfl ?_
  refine V_if_ne 17 24 dX12_term_17 (by decide) (fun k1 => ?_) (fun k1 => ?_)
  · exact J24 T FZ.rf CW.rf (Or.inl (h1.resolve_right (fun q => k1 q.1)))
  · have g := h1.resolve_left (fun q => q.no k1)
    refine V_aload_0 20 dX12_term_20 ?_
    refine V_callV 21 (ci := 12) [] _ (s_mexpression M.2.1 Γ T FT9 g.2.2.2.2 g.2.2.1 g.2.2.2.1 hE hE2 (Or.inl ⟨g.1, g.2.1⟩)) dX12_term_21 cb_X12_expression ml_RX12_312 im_yX12_expression se_yX12_expression (FT9.m 0 (Nat.le_of_ble_eq_true rfl)) (FT9.k 0 12 rfl) (Nat.le_of_ble_eq_true rfl) ⟨(Nat.le_of_ble_eq_true rfl), (Nat.le_of_ble_eq_true rfl)⟩ rfl rfl (Nat.le_of_ble_eq_true rfl) ⟨(Nat.le_of_ble_eq_true rfl), (Nat.le_of_ble_eq_true rfl)⟩ (RV.go (fun S3 h3 => ?_))
    exact J24 S3 h3.1 h3.2.1 (h3.2.2.imp id (fun q => ⟨q, g⟩))

