/-! The reference's reading: a law -/
def LB1 (m l : Nat) (S : PS) (i e : Nat) : Prop := ∃ c0 c1 c2 c3 : Nat, (¬ sA S (m + 27) i = 0 → sA S (m + 28) i = nI c0 ∧ sA S (m + 29) i = nI c1 ∧ RPN m l S c0 c1 ∧ RPN m l S c1 c2) ∧ sA S (m + 30) i = nI c2 ∧ sA S (m + 31) i = nI c3 ∧ RPN m l S c2 c3 ∧ c3 ≤ e
def LBS (m l : Nat) (S : PS) (a b e : Nat) : Prop := ∀ i, a ≤ i → i < b → LB1 m l S i e
section LBD
variable {m l a b c e i : Nat} {S S2 : PS}
theorem LB1.law (h : LB1 m l S i e) : LAW1 m l S i := by
  obtain ⟨c0, c1, c2, c3, h1, h2, h3, h4, -⟩ := h
  exact ⟨c0, c1, c2, c3, h1, h2, h3, h4⟩
theorem LB1.mv {x y z : Nat} (h : LB1 m l S i e) (cw : CW m e x S S2) (bw : BW m y z S S2) (hi : i < y) : LB1 m l S2 i e := by
  obtain ⟨c0, c1, c2, c3, h1, h2, h3, h4, h5⟩ := h
  have k : ∀ c d, d ≤ c3 → RPN m l S c d → RPN m l S2 c d := fun c d hd q => q.cw (x := x) (fun i hi => cw i (by omega))
  refine ⟨c0, c1, c2, c3, fun q => ?_, by rw [bw 30 (by omega) (by omega) i (by omega)]; exact h2, by rw [bw 31 (by omega) (by omega) i (by omega)]; exact h3, k _ _ (Nat.le_refl _) h4, h5⟩
  rw [bw 27 (by omega) (by omega) i (by omega)] at q
  obtain ⟨g1, g2, g3, g4⟩ := h1 q
  have q4 := h4.2.1
  have q5 := g4.2.1
  exact ⟨by rw [bw 28 (by omega) (by omega) i (by omega)]; exact g1, by rw [bw 29 (by omega) (by omega) i (by omega)]; exact g2, k _ _ (by omega) g3, k _ _ (by omega) g4⟩
theorem LBS.mv {x z : Nat} (h : LBS m l S a b e) (cw : CW m e x S S2) (bw : BW m b z S S2) : LBS m l S2 a b e := fun i h1 h2 => (h i h1 h2).mv cw bw h2
theorem LBS.wide {e2 : Nat} (h : LBS m l S a b e) (q : e ≤ e2) : LBS m l S a b e2 := fun i h1 h2 => by
  obtain ⟨c0, c1, c2, c3, g1, g2, g3, g4, g5⟩ := h i h1 h2
  exact ⟨c0, c1, c2, c3, g1, g2, g3, g4, by omega⟩
theorem LBS.add (h : LBS m l S a b e) (g : LB1 m l S b e) : LBS m l S a (b + 1) e := fun i h1 h2 => by
  by_cases q : i = b
  · subst q; exact g
  · exact h i h1 (by omega)
theorem EXR.rpn {c0 t0 : Nat} (h : EXR m c0 t0 S) (h1 : 420 * l ≤ c0) (h2 : c0 ≤ 420 * l + t0) : ∃ c t, GD m c t S ∧ t0 < t ∧ c0 ≤ c ∧ c + t0 ≤ c0 + t ∧ RPN m l S c0 c := by
  obtain ⟨q1, q2, c, t, h3, h4, h5, h6, h7, h8, h9⟩ := h
  exact ⟨c, t, ⟨q1, q2, h5, h4, h6⟩, h3, h7, h8, h1, h7, by omega, by omega, h9⟩
end LBD
def LAWR (m s b0 c0 t0 : Nat) (S : PS) : Prop := ∃ b c t, GD m c t S ∧ sI S m 39 = nI b ∧ b0 ≤ b ∧ 4 * (b - b0) + t0 ≤ t + 2 ∧ c0 ≤ c ∧ c + t0 ≤ c0 + t ∧ sA S (m + 25) s = nI b0 ∧ sA S (m + 26) s = nI b ∧ LBS m s S b0 b c
set_option maxRecDepth 100000 in
set_option maxHeartbeats 8000000 in
theorem s_mtellLaw (l : Launch) (Γ : GC) (S : PS) {m s b0 c0 t0 : Nat} (F : isL lyModel Γ.2.2.2.2.1 S m) (es : sI S m 19 = nI s) (hs : s < 2) (eb : sI S m 39 = nI b0) (hb1 : 130 * s ≤ b0) (hb2 : b0 ≤ 130 * s + 100) (hc1 : 420 * s ≤ c0) (hc2 : c0 ≤ 420 * s + t0) (hf : FLT m S ∨ GD m c0 t0 S) : CT l Γ yX12_tellLaw cX12_tellLaw 3 none (5) (0) (0) [.ref m] S (RV (fun S' => FZ [m + 25, m + 26, m + 27, m + 28, m + 29, m + 30, m + 31, m + 32, m + 33, m + 34] [(m, 11), (m, 12), (m, 13), (m, 14), (m, 39), (m, 45), (m, 49)] S S' ∧ CW m c0 (420 * s + 401) S S' ∧ BW m b0 (130 * s + 130) S S' ∧ (∀ i, i ≠ s → sA S' (m + 25) i = sA S (m + 25) i ∧ sA S' (m + 26) i = sA S (m + 26) i) ∧ (FLT m S' ∨ LAWR m s b0 c0 t0 S'))) := by
  refine CT.of RX12 "tellLaw" [some (.ref m), none, none] (by decide +kernel) rfl rfl (Nat.le_of_ble_eq_true rfl) rfl (fun M hM => ?_)
  subst hM
  refine V_aload_0 0 dX12_tellLaw_0 ?_
  refine V_getI 1 (c := 12) 39 dX12_tellLaw_1 fl_RX12_270 (F.m 0 (Nat.le_of_ble_eq_true rfl)) (F.k 0 12 rfl) (Nat.le_of_ble_eq_true rfl) (Nat.le_of_ble_eq_true rfl) rfl ?_
  rw [eb]
  refine V_istore_1 4 dX12_tellLaw_4 rfl (Nat.le_of_ble_eq_true rfl) ?_
  refine V_iconst 5 (0) dX12_tellLaw_5 (by decide) ?_
  refine V_istore_2 6 dX12_tellLaw_6 rfl (Nat.le_of_ble_eq_true rfl) ?_
  obtain ⟨f0, hf0⟩ : ∃ f0 : Nat, (FLT m S ∧ f0 = 0) ∨ ∃ c t, GD m c t S ∧ c0 ≤ c ∧ c + t0 ≤ c0 + t ∧ t0 + 4 * 0 ≤ t ∧ LBS m s S b0 (b0 + 0) c ∧ f0 = 402 - t := by
    rcases hf with q | q
    · exact ⟨0, Or.inl ⟨q, rfl⟩⟩
    · exact ⟨402 - t0, Or.inr ⟨c0, t0, q, Nat.le_refl _, Nat.le_refl _, by omega, fun i h1 h2 => absurd h2 (by omega), rfl⟩⟩
  refine V_while (α := Nat × Nat × PS) (fun z => z.1) (fun z => FZ [m + 27, m + 28, m + 29, m + 30, m + 31, m + 32, m + 33, m + 34] [(m, 11), (m, 12), (m, 13), (m, 14), (m, 39), (m, 45), (m, 49)] S z.2.2 ∧ CW m c0 (420 * s + 401) S z.2.2 ∧ BW m b0 (b0 + z.2.1) S z.2.2 ∧ sI z.2.2 m 39 = nI (b0 + z.2.1) ∧ z.2.1 ≤ 4 ∧ ((FLT m z.2.2 ∧ z.1 = 0) ∨ ∃ c t, GD m c t z.2.2 ∧ c0 ≤ c ∧ c + t0 ≤ c0 + t ∧ t0 + 4 * z.2.1 ≤ t ∧ LBS m s z.2.2 b0 (b0 + z.2.1) c ∧ z.1 = 402 - t)) (fun z => z.2.2) (fun z => [some (.ref m), some (.int (nI b0)), some (.int (nI z.2.1))]) (f0, 0, S) ⟨FZ.rf, CW.rf, BW.rf, eb, Nat.zero_le _, hf0⟩ (fun z hz ih => ?_)
  obtain ⟨f, j, T⟩ := z
  obtain ⟨e, cw, bw, e39, hj, hz⟩ := hz
  dsimp only at e cw bw e39 hj hz ih ⊢
  have FT9 := F.ss e.1
  have esT : sI T m 19 = nI s := (e.2.2 m 19 (by simp)).trans es
  have hz2 : FLT m T ∨ ∃ c t, GD m c t T ∧ c0 ≤ c ∧ c + t0 ≤ c0 + t ∧ t0 + 4 * j ≤ t ∧ LBS m s T b0 (b0 + j) c ∧ f = 402 - t := hz.imp (fun q => q.1) id
  have J138 : ∀ (U : PS), FZ [m + 27, m + 28, m + 29, m + 30, m + 31, m + 32, m + 33, m + 34] [(m, 11), (m, 12), (m, 13), (m, 14), (m, 39), (m, 45), (m, 49)] S U → CW m c0 (420 * s + 401) S U → BW m b0 (b0 + j + 1) S U → sI U m 39 = nI (b0 + j + 1) → (FLT m U ∨ ∃ c t, GD m c t U ∧ c0 ≤ c ∧ c + t0 ≤ c0 + t ∧ t0 + 4 * j + 1 ≤ t ∧ LBS m s U b0 (b0 + j + 1) c) → V M Γ (3, RX12, "tellLaw", none, RM (5) (0) (0)) cX12_tellLaw (RQ M Γ (RV (fun S' => FZ [m + 25, m + 26, m + 27, m + 28, m + 29, m + 30, m + 31, m + 32, m + 33, m + 34] [(m, 11), (m, 12), (m, 13), (m, 14), (m, 39), (m, 45), (m, 49)] S S' ∧ CW m c0 (420 * s + 401) S S' ∧ BW m b0 (130 * s + 130) S S' ∧ (∀ i, i ≠ s → sA S' (m + 25) i = sA S (m + 25) i ∧ sA S' (m + 26) i = sA S (m + 26) i) ∧ (FLT m S' ∨ LAWR m s b0 c0 t0 S'))) (0) (0)) 0 0 U 138 [some (.ref m), some (.int (nI b0)), some (.int (nI j))] [] := by
    intro U e cw bw e39 h
    have FU9 := F.ss e.1
    obtain ⟨t1, ht1, et1⟩ : ∃ t, t ≤ 400 ∧ sI U m 11 = nI t := by
      rcases h with h | ⟨c, t, h, -⟩
      · exact h.2
      · exact ⟨t, h.2.2.2.1, h.2.2.1⟩
    refine V_aload_0 138 dX12_tellLaw_138 ?_
    refine V_iconst 139 (4) dX12_tellLaw_139 (by decide) ?_
    refine V_callV 140 (ci := 12) [.int _] _ (s_mmust M.2.1 Γ U FU9 et1 ht1 _) dX12_tellLaw_140 cb_X12_must ml_RX12_295 im_yX12_must se_yX12_must (FU9.m 0 (Nat.le_of_ble_eq_true rfl)) (FU9.k 0 12 rfl) (Nat.le_of_ble_eq_true rfl) ⟨(Nat.le_of_ble_eq_true rfl), (Nat.le_of_ble_eq_true rfl)⟩ rfl rfl (Nat.le_of_ble_eq_true rfl) ⟨(Nat.le_of_ble_eq_true rfl), (Nat.le_of_ble_eq_true rfl)⟩ (RV.go (fun S4 h4 => ?_))
    have F49 := FU9.ss h4.1.1
    have E4 : FZ [m + 27, m + 28, m + 29, m + 30, m + 31, m + 32, m + 33, m + 34] [(m, 11), (m, 12), (m, 13), (m, 14), (m, 39), (m, 45), (m, 49)] S S4 := e.tr (h4.1.sub (by simp) (by simp))
    have C4 : CW m c0 (420 * s + 401) S S4 := cw.tr (CW.fz (a := c0) (b := 420 * s + 401) h4.1 (by simp) (by simp)) (Nat.le_refl _) (Nat.le_refl _)
    have B4 : BW m b0 (b0 + j + 1) S S4 := bw.tr (BW.fz (a := b0) (b := b0 + j + 1) h4.1 (fun _ _ _ => by simp)) (Nat.le_refl _) (Nat.le_refl _)
    refine V_aload_0 143 dX12_tellLaw_143 ?_
    refine V_getI 144 (c := 12) 13 dX12_tellLaw_144 fl_RX12_234 (F49.m 0 (Nat.le_of_ble_eq_true rfl)) (F49.k 0 12 rfl) (Nat.le_of_ble_eq_true rfl) (Nat.le_of_ble_eq_true rfl) rfl ?_
    have BADE : FLT m S4 → V M Γ (3, RX12, "tellLaw", none, RM (5) (0) (0)) cX12_tellLaw (RQ M Γ (RV (fun S' => FZ [m + 25, m + 26, m + 27, m + 28, m + 29, m + 30, m + 31, m + 32, m + 33, m + 34] [(m, 11), (m, 12), (m, 13), (m, 14), (m, 39), (m, 45), (m, 49)] S S' ∧ CW m c0 (420 * s + 401) S S' ∧ BW m b0 (130 * s + 130) S S' ∧ (∀ i, i ≠ s → sA S' (m + 25) i = sA S (m + 25) i ∧ sA S' (m + 26) i = sA S (m + 26) i) ∧ (FLT m S' ∨ LAWR m s b0 c0 t0 S'))) (0) (0)) 0 0 S4 147 [some (.ref m), some (.int (nI b0)), some (.int (nI j))] [.int (sI S4 m 13)] := by
      intro qq
      refine V_if_le 147 151 dX12_tellLaw_147 (by decide) (fun q => absurd q (Int32.not_le.mpr qq.1)) (fun _ => ?_)
      refine V_vret 150 dX12_tellLaw_150 rfl (Nat.le_of_ble_eq_true rfl) (Nat.le_of_ble_eq_true rfl) (RV.mk ⟨E4.sub (by simp) (by simp), C4, B4.wide (by omega) (by omega), fun i _ => ⟨by rw [E4.2.1 (m + 25) (by simp)], by rw [E4.2.1 (m + 26) (by simp)]⟩, Or.inl qq⟩)
    rcases h with h | ⟨c, t, h, h1, h2, h3, h5⟩
    · exact BADE (ADV.flt h h4.2 ht1)
    · rcases ADV.fg (Or.inr h) h4.2 ht1 et1 h4.1 (by simp) (by simp) with q | ⟨-, q, -⟩
      · exact BADE q
      · have e39b : sI S4 m 39 = nI (b0 + j + 1) := (h4.1.2.2 m 39 (by simp)).trans e39
        rw [q.1]
        refine V_if_le 147 151 dX12_tellLaw_147 (by decide) (fun _ => ?_) (fun q => absurd (by decide) q)
        refine V_aload_0 151 dX12_tellLaw_151 ?_
        refine V_getR 152 (c := 12) 37 (F49.r 0 37 25 rfl) dX12_tellLaw_152 fl_RX12_91 (F49.m 0 (Nat.le_of_ble_eq_true rfl)) (F49.k 0 12 rfl) (Nat.le_of_ble_eq_true rfl) (Nat.le_of_ble_eq_true rfl) rfl ?_
        refine V_aload_0 155 dX12_tellLaw_155 ?_
        refine V_getI 156 (c := 12) 19 dX12_tellLaw_156 fl_RX12_267 (F49.m 0 (Nat.le_of_ble_eq_true rfl)) (F49.k 0 12 rfl) (Nat.le_of_ble_eq_true rfl) (Nat.le_of_ble_eq_true rfl) rfl ?_
        rw [(h4.1.2.2 m 19 (by simp)).trans ((e.2.2 m 19 (by simp)).trans es)]
        refine V_iload_1 159 dX12_tellLaw_159 ?_
        refine V_iastore2 160 dX12_tellLaw_160 (F49.m 25 (Nat.le_of_ble_eq_true rfl)) (F49.k 25 14 rfl) (F49.l 25 2 rfl) ?_ ?_
        · exact vp_in_nI (by omega) (by decide)
        rw [nI_clamp (by omega)]
        refine V_aload_0 161 dX12_tellLaw_161 ?_
        refine V_getR 162 (c := 12) 38 (F49.r 0 38 26 rfl) dX12_tellLaw_162 fl_RX12_94 (F49.m 0 (Nat.le_of_ble_eq_true rfl)) (F49.k 0 12 rfl) (Nat.le_of_ble_eq_true rfl) (Nat.le_of_ble_eq_true rfl) rfl ?_
        refine V_aload_0 165 dX12_tellLaw_165 ?_
        refine V_getI 166 (c := 12) 19 dX12_tellLaw_166 fl_RX12_267 (F49.m 0 (Nat.le_of_ble_eq_true rfl)) (F49.k 0 12 rfl) (Nat.le_of_ble_eq_true rfl) (Nat.le_of_ble_eq_true rfl) rfl ?_
        rw [show sI (uA S4 (m + 25) s (nI b0)) m 19 = nI s from (h4.1.2.2 m 19 (by simp)).trans ((e.2.2 m 19 (by simp)).trans es)]
        refine V_aload_0 169 dX12_tellLaw_169 ?_
        refine V_getI 170 (c := 12) 39 dX12_tellLaw_170 fl_RX12_270 (F49.m 0 (Nat.le_of_ble_eq_true rfl)) (F49.k 0 12 rfl) (Nat.le_of_ble_eq_true rfl) (Nat.le_of_ble_eq_true rfl) rfl ?_
        rw [show sI (uA S4 (m + 25) s (nI b0)) m 39 = nI (b0 + j + 1) from e39b]
        refine V_iastore2 173 dX12_tellLaw_173 (F49.m 26 (Nat.le_of_ble_eq_true rfl)) (F49.k 26 14 rfl) (F49.l 26 2 rfl) ?_ ?_
        · exact vp_in_nI (by omega) (by decide)
        rw [nI_clamp (by omega)]
        have eU : FZ [m + 25, m + 26] [] S4 (uA (uA S4 (m + 25) s (nI b0)) (m + 26) s (nI (b0 + j + 1))) := (FZ.rf.uA (by simp)).uA (by simp)
        have u25 : sA (uA (uA S4 (m + 25) s (nI b0)) (m + 26) s (nI (b0 + j + 1))) (m + 25) s = nI b0 := (up2_a _ _ (by omega)).trans (up2_s _ _ _ _)
        have u26 : sA (uA (uA S4 (m + 25) s (nI b0)) (m + 26) s (nI (b0 + j + 1))) (m + 26) s = nI (b0 + j + 1) := up2_s _ _ _ _
        have uo : ∀ i, i ≠ s → sA (uA (uA S4 (m + 25) s (nI b0)) (m + 26) s (nI (b0 + j + 1))) (m + 25) i = sA S4 (m + 25) i ∧ sA (uA (uA S4 (m + 25) s (nI b0)) (m + 26) s (nI (b0 + j + 1))) (m + 26) i = sA S4 (m + 26) i := fun i hi => ⟨(up2_a _ _ (by omega)).trans (up2_k _ _ hi), (up2_k _ _ hi).trans (up2_a _ _ (by omega))⟩
        generalize uA (uA S4 (m + 25) s (nI b0)) (m + 26) s (nI (b0 + j + 1)) = S6 at eU u25 u26 uo ⊢
        have cU : CW m c0 (420 * s + 401) S4 S6 := CW.fz eU (by simp) (by simp)
        have bU : BW m b0 (b0 + j + 1) S4 S6 := BW.fz eU (fun o h1 h2 => by simp; omega)
        refine V_vret 174 dX12_tellLaw_174 rfl (Nat.le_of_ble_eq_true rfl) (Nat.le_of_ble_eq_true rfl) (RV.mk ⟨(E4.sub (by simp) (by simp)).tr (eU.sub (by simp) (by simp)), C4.tr cU (Nat.le_refl _) (Nat.le_refl _), (B4.tr bU (Nat.le_refl _) (Nat.le_refl _)).wide (by omega) (by omega), fun i hi => ⟨(uo i hi).1.trans (by rw [E4.2.1 (m + 25) (by simp)]), (uo i hi).2.trans (by rw [E4.2.1 (m + 26) (by simp)])⟩, Or.inr ⟨b0 + j + 1, c, t + 1, q.mv eU (by simp) (by simp) (by simp) (by simp), (eU.2.2 m 39 (by simp)).trans e39b, by omega, by omega, h1, by omega, u25, u26, ?_⟩⟩)
        exact (h5.mv (x := 0) (z := 0) (CW.fz h4.1 (by simp) (by simp)) (BW.fz h4.1 (fun _ _ _ => by simp))).mv (x := 0) (z := 0) (CW.fz eU (by simp) (by simp)) (BW.fz eU (fun o h1 h2 => by simp; omega))
  have J124 : V M Γ (3, RX12, "tellLaw", none, RM (5) (0) (0)) cX12_tellLaw (RQ M Γ (RV (fun S' => FZ [m + 25, m + 26, m + 27, m + 28, m + 29, m + 30, m + 31, m + 32, m + 33, m + 34] [(m, 11), (m, 12), (m, 13), (m, 14), (m, 39), (m, 45), (m, 49)] S S' ∧ CW m c0 (420 * s + 401) S S' ∧ BW m b0 (130 * s + 130) S S' ∧ (∀ i, i ≠ s → sA S' (m + 25) i = sA S (m + 25) i ∧ sA S' (m + 26) i = sA S (m + 26) i) ∧ (FLT m S' ∨ LAWR m s b0 c0 t0 S'))) (0) (0)) 0 0 T 124 [some (.ref m), some (.int (nI b0)), some (.int (nI j))] [] := by
    refine V_aload_0 124 dX12_tellLaw_124 ?_
    refine V_getR 125 (c := 12) 40 (FT9.r 0 40 27 rfl) dX12_tellLaw_125 fl_RX12_97 (FT9.m 0 (Nat.le_of_ble_eq_true rfl)) (FT9.k 0 12 rfl) (Nat.le_of_ble_eq_true rfl) (Nat.le_of_ble_eq_true rfl) rfl ?_
    refine V_aload_0 128 dX12_tellLaw_128 ?_
    refine V_getI 129 (c := 12) 39 dX12_tellLaw_129 fl_RX12_270 (FT9.m 0 (Nat.le_of_ble_eq_true rfl)) (FT9.k 0 12 rfl) (Nat.le_of_ble_eq_true rfl) (Nat.le_of_ble_eq_true rfl) rfl ?_
    rw [e39]
    refine V_iconst 132 (0) dX12_tellLaw_132 (by decide) ?_
    refine V_zastore2 133 dX12_tellLaw_133 (FT9.m 27 (Nat.le_of_ble_eq_true rfl)) (FT9.k 27 16 rfl) (FT9.l 27 260 rfl) ?_ (Or.inl rfl) ?_
    · exact vp_in_nI (by omega) (by decide)
    rw [nI_clamp (by omega)]
    have eU : FZ [m + 27] [] T (uA T (m + 27) (b0 + j) 0) := FZ.rf.uA (by simp)
    have u27 : sA (uA T (m + 27) (b0 + j) 0) (m + 27) (b0 + j) = 0 := up2_s _ _ _ _
    have uB : BW m (b0 + j) (b0 + j + 1) T (uA T (m + 27) (b0 + j) 0) := BW.uA (by omega) (by omega)
    generalize uA T (m + 27) (b0 + j) 0 = S1 at eU u27 uB ⊢
    have F19 := FT9.ss eU.1
    have e39b : sI S1 m 39 = nI (b0 + j) := (eU.2.2 m 39 (by simp)).trans e39
    have cU : CW m c0 (420 * s + 401) T S1 := CW.fz eU (by simp) (by simp)
    have E1 : FZ [m + 27, m + 28, m + 29, m + 30, m + 31, m + 32, m + 33, m + 34] [(m, 11), (m, 12), (m, 13), (m, 14), (m, 39), (m, 45), (m, 49)] S S1 := e.tr (eU.sub (by simp) (by simp))
    rcases hz2 with h | ⟨c, t, h, h1, h2, h3, h5, h6⟩
    · have h7 : FLT m S1 := h.mv eU (by simp) (by simp)
      refine V_aload_0 134 dX12_tellLaw_134 ?_
      refine V_callV 135 (ci := 12) [] _ (s_mterm M.2.1 Γ S1 F19 e39b (by omega) (c0 := c0) (t0 := t0) (E := 420 * s + 400) (by omega) (by omega) (Or.inl h7)) dX12_tellLaw_135 cb_X12_term ml_RX12_315 im_yX12_term se_yX12_term (F19.m 0 (Nat.le_of_ble_eq_true rfl)) (F19.k 0 12 rfl) (Nat.le_of_ble_eq_true rfl) ⟨(Nat.le_of_ble_eq_true rfl), (Nat.le_of_ble_eq_true rfl)⟩ rfl rfl (Nat.le_of_ble_eq_true rfl) ⟨(Nat.le_of_ble_eq_true rfl), (Nat.le_of_ble_eq_true rfl)⟩ (RV.go (fun S3 h3 => ?_))
      exact J138 S3 (E1.tr (h3.1.sub (by simp) (by simp))) ((cw.tr cU (Nat.le_refl _) (Nat.le_refl _)).tr h3.2.1 (Nat.le_refl _) (Nat.le_refl _)) (((bw.wide (Nat.le_refl _) (by omega)).tr uB (by omega) (Nat.le_refl _)).tr h3.2.2.1 (by omega) (Nat.le_refl _)) h3.2.2.2.1 (Or.inl (h3.2.2.2.2.resolve_right (fun q => h7.no q.1.1)))
    · have h7 : GD m c t S1 := h.mv eU (by simp) (by simp) (by simp) (by simp)
      have h54 := h.2.2.2.1
      refine V_aload_0 134 dX12_tellLaw_134 ?_
      refine V_callV 135 (ci := 12) [] _ (s_mterm M.2.1 Γ S1 F19 e39b (by omega) (c0 := c) (t0 := t) (E := 420 * s + 400) (by omega) (by omega) (Or.inr h7)) dX12_tellLaw_135 cb_X12_term ml_RX12_315 im_yX12_term se_yX12_term (F19.m 0 (Nat.le_of_ble_eq_true rfl)) (F19.k 0 12 rfl) (Nat.le_of_ble_eq_true rfl) ⟨(Nat.le_of_ble_eq_true rfl), (Nat.le_of_ble_eq_true rfl)⟩ rfl rfl (Nat.le_of_ble_eq_true rfl) ⟨(Nat.le_of_ble_eq_true rfl), (Nat.le_of_ble_eq_true rfl)⟩ (RV.go (fun S3 g => ?_))
      refine J138 S3 (E1.tr (g.1.sub (by simp) (by simp))) ((cw.tr cU (Nat.le_refl _) (Nat.le_refl _)).tr g.2.1 h1 (Nat.le_refl _)) (((bw.wide (Nat.le_refl _) (by omega)).tr uB (by omega) (Nat.le_refl _)).tr g.2.2.1 (by omega) (Nat.le_refl _)) g.2.2.2.1 (g.2.2.2.2.imp id (fun q => ?_))
      obtain ⟨-, c2, t2, q1, q2, q3, q4, q5, q6, q7⟩ := q
      have qt := q1.2.2.2.1
      refine ⟨c2, t2, q1, by omega, by omega, by omega, (((h5.mv (x := 420 * s + 401) (z := b0 + j + 1) (cw := CW.fz eU (by simp) (by simp)) uB).mv (x := 420 * s + 401) (z := b0 + j + 1) g.2.1 g.2.2.1).wide q3).add ⟨0, 0, c, c2, fun q => absurd ?_ q, q6, q7, ⟨by omega, q3, by omega, by omega, q5⟩, Nat.le_refl _⟩⟩
      rw [g.1.2.1 (m + 27) (by simp)]
      exact u27
  refine V_aload_0 7 dX12_tellLaw_7 ?_
  refine V_getI 8 (c := 12) 13 dX12_tellLaw_8 fl_RX12_234 (FT9.m 0 (Nat.le_of_ble_eq_true rfl)) (FT9.k 0 12 rfl) (Nat.le_of_ble_eq_true rfl) (Nat.le_of_ble_eq_true rfl) rfl ?_
  refine V_if_ne 11 124 dX12_tellLaw_11 (by decide) (fun k1 => ?_) (fun k1 => ?_)
  · exact J124
  · obtain ⟨c, t, h, h1, h2, h3, h5, h6⟩ := hz2.resolve_left (fun q => q.no k1)
    have h54 := h.2.2.2.1
    have J105 : ∀ (V9 : PS), FZ [m + 27, m + 28, m + 29, m + 30, m + 31, m + 32, m + 33, m + 34] [(m, 11), (m, 12), (m, 13), (m, 14), (m, 39), (m, 45), (m, 49)] T V9 → CW m c (420 * s + 401) T V9 → BW m (b0 + j) (b0 + j + 1) T V9 → sI V9 m 39 = nI (b0 + j) → j < 4 → (FLT m V9 ∨ ∃ c1 c2 t3, GD m c2 t3 V9 ∧ t + 3 ≤ t3 ∧ c2 + t ≤ c + t3 ∧ RPN m s V9 c c1 ∧ RPN m s V9 c1 c2 ∧ sA V9 (m + 28) (b0 + j) = nI c ∧ sA V9 (m + 29) (b0 + j) = nI c1) → V M Γ (3, RX12, "tellLaw", none, RM (5) (0) (0)) cX12_tellLaw (RQ M Γ (RV (fun S' => FZ [m + 25, m + 26, m + 27, m + 28, m + 29, m + 30, m + 31, m + 32, m + 33, m + 34] [(m, 11), (m, 12), (m, 13), (m, 14), (m, 39), (m, 45), (m, 49)] S S' ∧ CW m c0 (420 * s + 401) S S' ∧ BW m b0 (130 * s + 130) S S' ∧ (∀ i, i ≠ s → sA S' (m + 25) i = sA S (m + 25) i ∧ sA S' (m + 26) i = sA S (m + 26) i) ∧ (FLT m S' ∨ LAWR m s b0 c0 t0 S'))) (0) (0)) 0 0 V9 105 [some (.ref m), some (.int (nI b0)), some (.int (nI (j + 1)))] [] := by
      intro V9 eV cV bV e39V hj4 hV
      have FV9 := FT9.ss eV.1
      obtain ⟨t1, ht1, et1⟩ : ∃ t, t ≤ 400 ∧ sI V9 m 11 = nI t := by
        rcases hV with q | ⟨c1, c2, t3, q, -⟩
        · exact q.2
        · exact ⟨t3, q.2.2.2.1, q.2.2.1⟩
      refine V_aload_0 105 dX12_tellLaw_105 ?_
      refine V_bipush 106 (35) dX12_tellLaw_106 (by decide) ?_
      refine V_callV 108 (ci := 12) [.int _] _ (s_mmust M.2.1 Γ V9 FV9 et1 ht1 _) dX12_tellLaw_108 cb_X12_must ml_RX12_295 im_yX12_must se_yX12_must (FV9.m 0 (Nat.le_of_ble_eq_true rfl)) (FV9.k 0 12 rfl) (Nat.le_of_ble_eq_true rfl) ⟨(Nat.le_of_ble_eq_true rfl), (Nat.le_of_ble_eq_true rfl)⟩ rfl rfl (Nat.le_of_ble_eq_true rfl) ⟨(Nat.le_of_ble_eq_true rfl), (Nat.le_of_ble_eq_true rfl)⟩ (RV.go (fun V2 k2 => ?_))
      have F29 := FV9.ss k2.1.1
      have e39b : sI V2 m 39 = nI (b0 + j) := (k2.1.2.2 m 39 (by simp)).trans e39V
      have END : ∀ (V3 : PS), FZ [m + 30, m + 31, m + 32, m + 33, m + 34] [(m, 11), (m, 12), (m, 13), (m, 14), (m, 39), (m, 45), (m, 49)] V2 V3 → CW m c (420 * s + 401) V2 V3 → BW m (b0 + j) (b0 + j + 1) V2 V3 → sI V3 m 39 = nI (b0 + j + 1) → (FLT m V3 ∨ ∃ c3 t4, GD m c3 t4 V3 ∧ t + 4 ≤ t4 ∧ c ≤ c3 ∧ c3 + t ≤ c + t4 ∧ LBS m s V3 b0 (b0 + j + 1) c3) → V M Γ (3, RX12, "tellLaw", none, RM (5) (0) (0)) cX12_tellLaw (RQ M Γ (RV (fun S' => FZ [m + 25, m + 26, m + 27, m + 28, m + 29, m + 30, m + 31, m + 32, m + 33, m + 34] [(m, 11), (m, 12), (m, 13), (m, 14), (m, 39), (m, 45), (m, 49)] S S' ∧ CW m c0 (420 * s + 401) S S' ∧ BW m b0 (130 * s + 130) S S' ∧ (∀ i, i ≠ s → sA S' (m + 25) i = sA S (m + 25) i ∧ sA S' (m + 26) i = sA S (m + 26) i) ∧ (FLT m S' ∨ LAWR m s b0 c0 t0 S'))) (0) (0)) 0 0 V3 115 [some (.ref m), some (.int (nI b0)), some (.int (nI (j + 1)))] [] := by
        intro V3 e3 cw3 bw3 e393 h3
        have F39 := F29.ss e3.1
        obtain ⟨t5, ht5, et5⟩ : ∃ t, t ≤ 400 ∧ sI V3 m 11 = nI t := by
          rcases h3 with q | ⟨c3, t4, q, -⟩
          · exact q.2
          · exact ⟨t4, q.2.2.2.1, q.2.2.1⟩
        refine V_aload_0 115 dX12_tellLaw_115 ?_
        refine V_bipush 116 (36) dX12_tellLaw_116 (by decide) ?_
        refine V_callV 118 (ci := 12) [.int _] _ (s_mmust M.2.1 Γ V3 F39 et5 ht5 _) dX12_tellLaw_118 cb_X12_must ml_RX12_295 im_yX12_must se_yX12_must (F39.m 0 (Nat.le_of_ble_eq_true rfl)) (F39.k 0 12 rfl) (Nat.le_of_ble_eq_true rfl) ⟨(Nat.le_of_ble_eq_true rfl), (Nat.le_of_ble_eq_true rfl)⟩ rfl rfl (Nat.le_of_ble_eq_true rfl) ⟨(Nat.le_of_ble_eq_true rfl), (Nat.le_of_ble_eq_true rfl)⟩ (RV.go (fun V4 k4 => ?_))
        refine V_goto 121 7 dX12_tellLaw_121 (by decide) ?_
        have E4 : FZ [m + 27, m + 28, m + 29, m + 30, m + 31, m + 32, m + 33, m + 34] [(m, 11), (m, 12), (m, 13), (m, 14), (m, 39), (m, 45), (m, 49)] S V4 := (((e.tr eV).tr (k2.1.sub (by simp) (by simp))).tr (e3.sub (by simp) (by simp))).tr (k4.1.sub (by simp) (by simp))
        have C4 : CW m c (420 * s + 401) T V4 := ((cV.tr (CW.fz (a := c) (b := 420 * s + 401) k2.1 (by simp) (by simp)) (Nat.le_refl _) (Nat.le_refl _)).tr cw3 (Nat.le_refl _) (Nat.le_refl _)).tr (CW.fz (a := c) (b := 420 * s + 401) k4.1 (by simp) (by simp)) (Nat.le_refl _) (Nat.le_refl _)
        have B4 : BW m (b0 + j) (b0 + j + 1) T V4 := ((bV.tr (BW.fz (a := b0 + j) (b := b0 + j + 1) k2.1 (fun _ _ _ => by simp)) (Nat.le_refl _) (Nat.le_refl _)).tr bw3 (Nat.le_refl _) (Nat.le_refl _)).tr (BW.fz (a := b0 + j) (b := b0 + j + 1) k4.1 (fun _ _ _ => by simp)) (Nat.le_refl _) (Nat.le_refl _)
        have B5 : BW m b0 (b0 + (j + 1)) S V4 := (bw.wide (a2 := b0) (b2 := b0 + j + 1) (Nat.le_refl _) (by omega)).tr B4 (by omega) (by omega)
        have C5 : CW m c0 (420 * s + 401) S V4 := cw.tr C4 h1 (Nat.le_refl _)
        have e394 : sI V4 m 39 = nI (b0 + (j + 1)) := (k4.1.2.2 m 39 (by simp)).trans e393
        have BADE : FLT m V4 → V M Γ (3, RX12, "tellLaw", none, RM (5) (0) (0)) cX12_tellLaw (RQ M Γ (RV (fun S' => FZ [m + 25, m + 26, m + 27, m + 28, m + 29, m + 30, m + 31, m + 32, m + 33, m + 34] [(m, 11), (m, 12), (m, 13), (m, 14), (m, 39), (m, 45), (m, 49)] S S' ∧ CW m c0 (420 * s + 401) S S' ∧ BW m b0 (130 * s + 130) S S' ∧ (∀ i, i ≠ s → sA S' (m + 25) i = sA S (m + 25) i ∧ sA S' (m + 26) i = sA S (m + 26) i) ∧ (FLT m S' ∨ LAWR m s b0 c0 t0 S'))) (0) (0)) 0 0 V4 7 [some (.ref m), some (.int (nI b0)), some (.int (nI (j + 1)))] [] := fun q => ih (0, j + 1, V4) ⟨E4, C5, B5, e394, hj4, Or.inl ⟨q, rfl⟩⟩ (by dsimp only; omega)
        rcases h3 with h3 | ⟨c3, t4, g1, g2, g3, g4, g5⟩
        · exact BADE (ADV.flt h3 k4.2 ht5)
        · rcases ADV.fg (Or.inr g1) k4.2 ht5 et5 k4.1 (by simp) (by simp) with q | ⟨-, q, -⟩
          · exact BADE q
          · exact ih (402 - (t4 + 1), j + 1, V4) ⟨E4, C5, B5, e394, hj4, Or.inr ⟨c3, t4 + 1, q, by omega, by omega, by dsimp only; omega, g5.mv (x := 0) (z := 0) (CW.fz k4.1 (by simp) (by simp)) (BW.fz k4.1 (fun _ _ _ => by simp)), rfl⟩⟩ (by dsimp only; omega)
      have BAD : FLT m V2 → V M Γ (3, RX12, "tellLaw", none, RM (5) (0) (0)) cX12_tellLaw (RQ M Γ (RV (fun S' => FZ [m + 25, m + 26, m + 27, m + 28, m + 29, m + 30, m + 31, m + 32, m + 33, m + 34] [(m, 11), (m, 12), (m, 13), (m, 14), (m, 39), (m, 45), (m, 49)] S S' ∧ CW m c0 (420 * s + 401) S S' ∧ BW m b0 (130 * s + 130) S S' ∧ (∀ i, i ≠ s → sA S' (m + 25) i = sA S (m + 25) i ∧ sA S' (m + 26) i = sA S (m + 26) i) ∧ (FLT m S' ∨ LAWR m s b0 c0 t0 S'))) (0) (0)) 0 0 V2 111 [some (.ref m), some (.int (nI b0)), some (.int (nI (j + 1)))] [] := by
        intro q
        refine V_aload_0 111 dX12_tellLaw_111 ?_
        refine V_callV 112 (ci := 12) [] _ (s_mterm M.2.1 Γ V2 F29 e39b (by omega) (c0 := c) (t0 := t) (E := 420 * s + 400) (by omega) (by omega) (Or.inl q)) dX12_tellLaw_112 cb_X12_term ml_RX12_315 im_yX12_term se_yX12_term (F29.m 0 (Nat.le_of_ble_eq_true rfl)) (F29.k 0 12 rfl) (Nat.le_of_ble_eq_true rfl) ⟨(Nat.le_of_ble_eq_true rfl), (Nat.le_of_ble_eq_true rfl)⟩ rfl rfl (Nat.le_of_ble_eq_true rfl) ⟨(Nat.le_of_ble_eq_true rfl), (Nat.le_of_ble_eq_true rfl)⟩ (RV.go (fun V3 k3 => ?_))
        exact END V3 k3.1 k3.2.1 k3.2.2.1 k3.2.2.2.1 (Or.inl (k3.2.2.2.2.resolve_right (fun y => q.no y.1.1)))
      rcases hV with hV | ⟨c1, c2, t3, g1, g2, g3, g4, g5, g6, g7⟩
      · exact BAD (ADV.flt hV k2.2 ht1)
      · rcases ADV.fg (Or.inr g1) k2.2 ht1 et1 k2.1 (by simp) (by simp) with q | ⟨-, q, -⟩
        · exact BAD q
        · have l1 := g4.2.1
          have l2 := g5.2.1
          refine V_aload_0 111 dX12_tellLaw_111 ?_
          refine V_callV 112 (ci := 12) [] _ (s_mterm M.2.1 Γ V2 F29 e39b (by omega) (c0 := c2) (t0 := t3 + 1) (E := 420 * s + 400) (by omega) (by omega) (Or.inr q)) dX12_tellLaw_112 cb_X12_term ml_RX12_315 im_yX12_term se_yX12_term (F29.m 0 (Nat.le_of_ble_eq_true rfl)) (F29.k 0 12 rfl) (Nat.le_of_ble_eq_true rfl) ⟨(Nat.le_of_ble_eq_true rfl), (Nat.le_of_ble_eq_true rfl)⟩ rfl rfl (Nat.le_of_ble_eq_true rfl) ⟨(Nat.le_of_ble_eq_true rfl), (Nat.le_of_ble_eq_true rfl)⟩ (RV.go (fun V3 k3 => ?_))
          refine END V3 k3.1 (CW.tr (CW.rf (a := c) (b := 420 * s + 401)) k3.2.1 (by omega) (Nat.le_refl _)) k3.2.2.1 k3.2.2.2.1 (k3.2.2.2.2.imp id (fun y => ?_))
          obtain ⟨-, c3, t4, y1, y2, y3, y4, y5, y6, y7⟩ := y
          have yt := y1.2.2.2.1
          have CT3 : CW m c (420 * s + 401) T V3 := (cV.tr (CW.fz (a := c) (b := 420 * s + 401) k2.1 (by simp) (by simp)) (Nat.le_refl _) (Nat.le_refl _)).tr k3.2.1 (by omega) (Nat.le_refl _)
          have BT3 : BW m (b0 + j) (b0 + j + 1) T V3 := (bV.tr (BW.fz (a := b0 + j) (b := b0 + j + 1) k2.1 (fun _ _ _ => by simp)) (Nat.le_refl _) (Nat.le_refl _)).tr k3.2.2.1 (Nat.le_refl _) (Nat.le_refl _)
          have rp : ∀ x y, y ≤ c2 → RPN m s V9 x y → RPN m s V3 x y := fun x y hy r => (r.cw (x := y) (CW.fz k2.1 (by simp) (by simp))).cw (x := 420 * s + 401) (fun i hi => k3.2.1 i (by omega))
          refine ⟨c3, t4, y1, by omega, by omega, by omega, ((h5.mv CT3 BT3).wide (by omega)).add ⟨c, c1, c2, c3, fun _ => ⟨?_, ?_, rp _ _ l2 g4, rp _ _ (Nat.le_refl _) g5⟩, y6, y7, ⟨by omega, y3, by omega, by omega, y5⟩, Nat.le_refl _⟩⟩
          · rw [k3.1.2.1 (m + 28) (by simp), k2.1.2.1 (m + 28) (by simp)]; exact g6
          · rw [k3.1.2.1 (m + 29) (by simp), k2.1.2.1 (m + 29) (by simp)]; exact g7
    refine V_aload_0 14 dX12_tellLaw_14 ?_
    refine V_bipush 15 (34) dX12_tellLaw_15 (by decide) ?_
    refine V_callV 17 (ci := 12) [.int _] _ (s_mis M.2.1 Γ T FT9 h.2.2.1 h.2.2.2.1 _) dX12_tellLaw_17 cb_X12_is ml_RX12_252 im_yX12_is se_yX12_is (FT9.m 0 (Nat.le_of_ble_eq_true rfl)) (FT9.k 0 12 rfl) (Nat.le_of_ble_eq_true rfl) ⟨(Nat.le_of_ble_eq_true rfl), (Nat.le_of_ble_eq_true rfl)⟩ rfl rfl (Nat.le_of_ble_eq_true rfl) ⟨(Nat.le_of_ble_eq_true rfl), (Nat.le_of_ble_eq_true rfl)⟩ (RI.go (fun r1 S1 q1 => ?_))
    rw [q1.2]
    refine V_if_eq 20 124 dX12_tellLaw_20 (by decide) (fun k2 => ?_) (fun k2 => ?_)
    · exact J124
    · have J33 : ∀ (U : PS), FZ [] [(m, 13), (m, 14)] T U → ((FLT m U) ∨ (j < 4 ∧ GD m c t U)) → V M Γ (3, RX12, "tellLaw", none, RM (5) (0) (0)) cX12_tellLaw (RQ M Γ (RV (fun S' => FZ [m + 25, m + 26, m + 27, m + 28, m + 29, m + 30, m + 31, m + 32, m + 33, m + 34] [(m, 11), (m, 12), (m, 13), (m, 14), (m, 39), (m, 45), (m, 49)] S S' ∧ CW m c0 (420 * s + 401) S S' ∧ BW m b0 (130 * s + 130) S S' ∧ (∀ i, i ≠ s → sA S' (m + 25) i = sA S (m + 25) i ∧ sA S' (m + 26) i = sA S (m + 26) i) ∧ (FLT m S' ∨ LAWR m s b0 c0 t0 S'))) (0) (0)) 0 0 U 33 [some (.ref m), some (.int (nI b0)), some (.int (nI j))] [] := by
        intro U eU hU
        have FU9 := FT9.ss eU.1
        refine V_aload_0 33 dX12_tellLaw_33 ?_
        refine V_getI 34 (c := 12) 13 dX12_tellLaw_34 fl_RX12_234 (FU9.m 0 (Nat.le_of_ble_eq_true rfl)) (FU9.k 0 12 rfl) (Nat.le_of_ble_eq_true rfl) (Nat.le_of_ble_eq_true rfl) rfl ?_
        rcases hU with hU | ⟨hj4, hU⟩
        ·
          refine V_if_le 37 41 dX12_tellLaw_37 (by decide) (fun q => absurd q (Int32.not_le.mpr hU.1)) (fun _ => ?_)
          have E4 : FZ [m + 27, m + 28, m + 29, m + 30, m + 31, m + 32, m + 33, m + 34] [(m, 11), (m, 12), (m, 13), (m, 14), (m, 39), (m, 45), (m, 49)] S U := e.tr (eU.sub (by simp) (by simp))
          refine V_vret 40 dX12_tellLaw_40 rfl (Nat.le_of_ble_eq_true rfl) (Nat.le_of_ble_eq_true rfl) (RV.mk ⟨E4.sub (by simp) (by simp), cw.tr (CW.fz (a := c0) (b := 420 * s + 401) eU (by simp) (by simp)) (Nat.le_refl _) (Nat.le_refl _), (bw.tr (BW.fz (a := b0) (b := b0 + j) eU (fun _ _ _ => by simp)) (Nat.le_refl _) (Nat.le_refl _)).wide (by omega) (by omega), fun i _ => ⟨by rw [E4.2.1 (m + 25) (by simp)], by rw [E4.2.1 (m + 26) (by simp)]⟩, Or.inl hU⟩)
        · rw [hU.1]
          refine V_if_le 37 41 dX12_tellLaw_37 (by decide) (fun _ => ?_) (fun q => absurd (by decide) q)
          refine V_iinc_2 41 (1) dX12_tellLaw_41 (by decide) rfl (Nat.le_of_ble_eq_true rfl) ?_
          rw [nI_1]
          refine V_aload_0 44 dX12_tellLaw_44 ?_
          refine V_callV 45 (ci := 12) [] _ (s_mgoesOn M.2.1 Γ U FU9 hU.2.2.1 hU.2.2.2.1) dX12_tellLaw_45 cb_X12_goesOn ml_RX12_255 im_yX12_goesOn se_yX12_goesOn (FU9.m 0 (Nat.le_of_ble_eq_true rfl)) (FU9.k 0 12 rfl) (Nat.le_of_ble_eq_true rfl) ⟨(Nat.le_of_ble_eq_true rfl), (Nat.le_of_ble_eq_true rfl)⟩ rfl rfl (Nat.le_of_ble_eq_true rfl) ⟨(Nat.le_of_ble_eq_true rfl), (Nat.le_of_ble_eq_true rfl)⟩ (RV.go (fun S1 g1 => ?_))
          obtain ⟨t1, ht1, ht2, et1, hf1⟩ : ∃ t1, t ≤ t1 ∧ t1 ≤ 400 ∧ sI S1 m 11 = nI t1 ∧ (sI S1 m 13 = 0 ∨ 0 < sI S1 m 13) := by
            rcases g1.2 with q | q
            · exact ⟨t, Nat.le_refl _, h54, q.2, Or.inr q.1⟩
            · exact ⟨t + 1, by omega, by omega, q.2.2, Or.inl (q.1.trans hU.1)⟩
          have F19 := FU9.ss g1.1.1
          have e39c : sI S1 m 39 = nI (b0 + j) := (g1.1.2.2 m 39 (by simp)).trans ((eU.2.2 m 39 (by simp)).trans e39)
          have e45c : sI S1 m 45 = nI c := (g1.1.2.2 m 45 (by simp)).trans hU.2.2.2.2
          have e12c : sI S1 m 12 = 0 := (g1.1.2.2 m 12 (by simp)).trans hU.2.1
          have ET1 : FZ [m + 27, m + 28, m + 29, m + 30, m + 31, m + 32, m + 33, m + 34] [(m, 11), (m, 12), (m, 13), (m, 14), (m, 39), (m, 45), (m, 49)] T S1 := (eU.sub (by simp) (by simp)).tr (g1.1.sub (by simp) (by simp))
          refine V_aload_0 48 dX12_tellLaw_48 ?_
          refine V_getR 49 (c := 12) 40 (F19.r 0 40 27 rfl) dX12_tellLaw_49 fl_RX12_97 (F19.m 0 (Nat.le_of_ble_eq_true rfl)) (F19.k 0 12 rfl) (Nat.le_of_ble_eq_true rfl) (Nat.le_of_ble_eq_true rfl) rfl ?_
          refine V_aload_0 52 dX12_tellLaw_52 ?_
          refine V_getI 53 (c := 12) 39 dX12_tellLaw_53 fl_RX12_270 (F19.m 0 (Nat.le_of_ble_eq_true rfl)) (F19.k 0 12 rfl) (Nat.le_of_ble_eq_true rfl) (Nat.le_of_ble_eq_true rfl) rfl ?_
          rw [e39c]
          refine V_iconst 56 (1) dX12_tellLaw_56 (by decide) ?_
          refine V_zastore2 57 dX12_tellLaw_57 (F19.m 27 (Nat.le_of_ble_eq_true rfl)) (F19.k 27 16 rfl) (F19.l 27 260 rfl) ?_ (Or.inr rfl) ?_
          · exact vp_in_nI (by omega) (by decide)
          rw [nI_clamp (by omega)]
          refine V_aload_0 58 dX12_tellLaw_58 ?_
          refine V_getR 59 (c := 12) 41 (F19.r 0 41 28 rfl) dX12_tellLaw_59 fl_RX12_101 (F19.m 0 (Nat.le_of_ble_eq_true rfl)) (F19.k 0 12 rfl) (Nat.le_of_ble_eq_true rfl) (Nat.le_of_ble_eq_true rfl) rfl ?_
          refine V_aload_0 62 dX12_tellLaw_62 ?_
          refine V_getI 63 (c := 12) 39 dX12_tellLaw_63 fl_RX12_270 (F19.m 0 (Nat.le_of_ble_eq_true rfl)) (F19.k 0 12 rfl) (Nat.le_of_ble_eq_true rfl) (Nat.le_of_ble_eq_true rfl) rfl ?_
          rw [show sI (uA S1 (m + 27) (b0 + j) 1) m 39 = nI (b0 + j) from e39c]
          refine V_aload_0 66 dX12_tellLaw_66 ?_
          refine V_getI 67 (c := 12) 45 dX12_tellLaw_67 fl_RX12_273 (F19.m 0 (Nat.le_of_ble_eq_true rfl)) (F19.k 0 12 rfl) (Nat.le_of_ble_eq_true rfl) (Nat.le_of_ble_eq_true rfl) rfl ?_
          rw [show sI (uA S1 (m + 27) (b0 + j) 1) m 45 = nI c from e45c]
          refine V_iastore2 70 dX12_tellLaw_70 (F19.m 28 (Nat.le_of_ble_eq_true rfl)) (F19.k 28 14 rfl) (F19.l 28 260 rfl) ?_ ?_
          · exact vp_in_nI (by omega) (by decide)
          rw [nI_clamp (by omega)]
          have eW : FZ [m + 27, m + 28] [] S1 (uA (uA S1 (m + 27) (b0 + j) 1) (m + 28) (b0 + j) (nI c)) := (FZ.rf.uA (by simp)).uA (by simp)
          have u28 : sA (uA (uA S1 (m + 27) (b0 + j) 1) (m + 28) (b0 + j) (nI c)) (m + 28) (b0 + j) = nI c := up2_s _ _ _ _
          have uB : BW m (b0 + j) (b0 + j + 1) S1 (uA (uA S1 (m + 27) (b0 + j) 1) (m + 28) (b0 + j) (nI c)) := BW.tr (BW.uA (by omega) (by omega)) (BW.uA (by omega) (by omega)) (Nat.le_refl _) (Nat.le_refl _)
          generalize uA (uA S1 (m + 27) (b0 + j) 1) (m + 28) (b0 + j) (nI c) = S2 at eW u28 uB ⊢
          have F29 := F19.ss eW.1
          have ET2 : FZ [m + 27, m + 28, m + 29, m + 30, m + 31, m + 32, m + 33, m + 34] [(m, 11), (m, 12), (m, 13), (m, 14), (m, 39), (m, 45), (m, 49)] T S2 := ET1.tr (eW.sub (by simp) (by simp))
          have CT2 : CW m c (420 * s + 401) T S2 := ((CW.fz (a := c) (b := 420 * s + 401) eU (by simp) (by simp)).tr (CW.fz (a := c) (b := 420 * s + 401) g1.1 (by simp) (by simp)) (Nat.le_refl _) (Nat.le_refl _)).tr (CW.fz (a := c) (b := 420 * s + 401) eW (by simp) (by simp)) (Nat.le_refl _) (Nat.le_refl _)
          have BT2 : BW m (b0 + j) (b0 + j + 1) T S2 := ((BW.fz (a := b0 + j) (b := b0 + j + 1) eU (fun _ _ _ => by simp)).tr (BW.fz (a := b0 + j) (b := b0 + j + 1) g1.1 (fun _ _ _ => by simp)) (Nat.le_refl _) (Nat.le_refl _)).tr uB (Nat.le_refl _) (Nat.le_refl _)
          refine V_aload_0 71 dX12_tellLaw_71 ?_
          refine V_callV 72 (ci := 12) [] _ (s_mexpression M.2.1 Γ S2 F29 (c0 := c) (t0 := t1) (E := 420 * s + 400) ((eW.2.2 m 45 (by simp)).trans e45c) ((eW.2.2 m 11 (by simp)).trans et1) ht2 (by omega) (by omega) (by rw [eW.2.2 m 13 (by simp), eW.2.2 m 12 (by simp)]; exact hf1.imp (fun q => ⟨q, e12c⟩) id)) dX12_tellLaw_72 cb_X12_expression ml_RX12_312 im_yX12_expression se_yX12_expression (F29.m 0 (Nat.le_of_ble_eq_true rfl)) (F29.k 0 12 rfl) (Nat.le_of_ble_eq_true rfl) ⟨(Nat.le_of_ble_eq_true rfl), (Nat.le_of_ble_eq_true rfl)⟩ rfl rfl (Nat.le_of_ble_eq_true rfl) ⟨(Nat.le_of_ble_eq_true rfl), (Nat.le_of_ble_eq_true rfl)⟩ (RV.go (fun S3 g3 => ?_))
          have F39 := F29.ss g3.1.1
          have h3 : FLT m S3 ∨ ∃ c1 t3, GD m c1 t3 S3 ∧ t1 < t3 ∧ c ≤ c1 ∧ c1 + t1 ≤ c + t3 ∧ RPN m s S3 c c1 := g3.2.2.imp id (fun q => q.rpn (by omega) (by omega))
          obtain ⟨t5, ht5, et5⟩ : ∃ t, t ≤ 400 ∧ sI S3 m 11 = nI t := by
            rcases h3 with q | ⟨c3, t4, q, -⟩
            · exact q.2
            · exact ⟨t4, q.2.2.2.1, q.2.2.1⟩
          refine V_aload_0 75 dX12_tellLaw_75 ?_
          refine V_bipush 76 (13) dX12_tellLaw_76 (by decide) ?_
          refine V_callV 78 (ci := 12) [.int _] _ (s_mmust M.2.1 Γ S3 F39 et5 ht5 _) dX12_tellLaw_78 cb_X12_must ml_RX12_295 im_yX12_must se_yX12_must (F39.m 0 (Nat.le_of_ble_eq_true rfl)) (F39.k 0 12 rfl) (Nat.le_of_ble_eq_true rfl) ⟨(Nat.le_of_ble_eq_true rfl), (Nat.le_of_ble_eq_true rfl)⟩ rfl rfl (Nat.le_of_ble_eq_true rfl) ⟨(Nat.le_of_ble_eq_true rfl), (Nat.le_of_ble_eq_true rfl)⟩ (RV.go (fun S4 g4 => ?_))
          have F49 := F39.ss g4.1.1
          have h4 : FLT m S4 ∨ ∃ c1 t3, GD m c1 t3 S4 ∧ t + 2 ≤ t3 ∧ c1 + t ≤ c + t3 ∧ RPN m s S4 c c1 := by
            rcases h3 with q | ⟨c1, t3, q, q2, q3, q4, q5⟩
            · exact Or.inl (ADV.flt q g4.2 ht5)
            · rcases ADV.fg (Or.inr q) g4.2 ht5 et5 g4.1 (by simp) (by simp) with y | ⟨-, y, -⟩
              · exact Or.inl y
              · exact Or.inr ⟨c1, t3 + 1, y, by omega, by omega, q5.cw (x := c1) (CW.fz g4.1 (by simp) (by simp))⟩
          have e39d : sI S4 m 39 = nI (b0 + j) := (g4.1.2.2 m 39 (by simp)).trans ((g3.1.2.2 m 39 (by simp)).trans ((eW.2.2 m 39 (by simp)).trans e39c))
          have ET4 : FZ [m + 27, m + 28, m + 29, m + 30, m + 31, m + 32, m + 33, m + 34] [(m, 11), (m, 12), (m, 13), (m, 14), (m, 39), (m, 45), (m, 49)] T S4 := (ET2.tr (g3.1.sub (by simp) (by simp))).tr (g4.1.sub (by simp) (by simp))
          have CT4 : CW m c (420 * s + 401) T S4 := (CT2.tr g3.2.1 (Nat.le_refl _) (Nat.le_refl _)).tr (CW.fz (a := c) (b := 420 * s + 401) g4.1 (by simp) (by simp)) (Nat.le_refl _) (Nat.le_refl _)
          have BT4 : BW m (b0 + j) (b0 + j + 1) T S4 := (BT2.tr (BW.fz (a := b0 + j) (b := b0 + j + 1) g3.1 (fun o h1 h2 => by simp; omega)) (Nat.le_refl _) (Nat.le_refl _)).tr (BW.fz (a := b0 + j) (b := b0 + j + 1) g4.1 (fun _ _ _ => by simp)) (Nat.le_refl _) (Nat.le_refl _)
          have u284 : sA S4 (m + 28) (b0 + j) = nI c := by rw [g4.1.2.1 (m + 28) (by simp), g3.1.2.1 (m + 28) (by simp)]; exact u28
          refine V_aload_0 81 dX12_tellLaw_81 ?_
          refine V_getR 82 (c := 12) 42 (F49.r 0 42 29 rfl) dX12_tellLaw_82 fl_RX12_104 (F49.m 0 (Nat.le_of_ble_eq_true rfl)) (F49.k 0 12 rfl) (Nat.le_of_ble_eq_true rfl) (Nat.le_of_ble_eq_true rfl) rfl ?_
          refine V_aload_0 85 dX12_tellLaw_85 ?_
          refine V_getI 86 (c := 12) 39 dX12_tellLaw_86 fl_RX12_270 (F49.m 0 (Nat.le_of_ble_eq_true rfl)) (F49.k 0 12 rfl) (Nat.le_of_ble_eq_true rfl) (Nat.le_of_ble_eq_true rfl) rfl ?_
          rw [e39d]
          refine V_aload_0 89 dX12_tellLaw_89 ?_
          refine V_getI 90 (c := 12) 45 dX12_tellLaw_90 fl_RX12_273 (F49.m 0 (Nat.le_of_ble_eq_true rfl)) (F49.k 0 12 rfl) (Nat.le_of_ble_eq_true rfl) (Nat.le_of_ble_eq_true rfl) rfl ?_
          refine V_iastore2 93 dX12_tellLaw_93 (F49.m 29 (Nat.le_of_ble_eq_true rfl)) (F49.k 29 14 rfl) (F49.l 29 260 rfl) ?_ ?_
          · exact vp_in_nI (by omega) (by decide)
          rw [nI_clamp (by omega)]
          have eX : FZ [m + 29] [] S4 (uA S4 (m + 29) (b0 + j) (sI S4 m 45)) := FZ.rf.uA (by simp)
          have u29 : sA (uA S4 (m + 29) (b0 + j) (sI S4 m 45)) (m + 29) (b0 + j) = sI S4 m 45 := up2_s _ _ _ _
          have uB2 : BW m (b0 + j) (b0 + j + 1) S4 (uA S4 (m + 29) (b0 + j) (sI S4 m 45)) := BW.uA (by omega) (by omega)
          generalize uA S4 (m + 29) (b0 + j) (sI S4 m 45) = S5 at eX u29 uB2 ⊢
          have F59 := F49.ss eX.1
          have e39e : sI S5 m 39 = nI (b0 + j) := (eX.2.2 m 39 (by simp)).trans e39d
          have ET5 : FZ [m + 27, m + 28, m + 29, m + 30, m + 31, m + 32, m + 33, m + 34] [(m, 11), (m, 12), (m, 13), (m, 14), (m, 39), (m, 45), (m, 49)] T S5 := ET4.tr (eX.sub (by simp) (by simp))
          have CT5 : CW m c (420 * s + 401) T S5 := CT4.tr (CW.fz (a := c) (b := 420 * s + 401) eX (by simp) (by simp)) (Nat.le_refl _) (Nat.le_refl _)
          have BT5 : BW m (b0 + j) (b0 + j + 1) T S5 := BT4.tr uB2 (Nat.le_refl _) (Nat.le_refl _)
          have u285 : sA S5 (m + 28) (b0 + j) = nI c := by rw [eX.2.1 (m + 28) (by simp)]; exact u284
          have h7 : FLT m S5 ∨ ∃ c1 t3, GD m c1 t3 S5 ∧ t + 2 ≤ t3 ∧ c1 + t ≤ c + t3 ∧ RPN m s S5 c c1 ∧ sA S5 (m + 29) (b0 + j) = nI c1 := h4.imp (fun q => q.mv eX (by simp) (by simp)) (fun ⟨c1, t3, q1, q2, q3, q4⟩ => ⟨c1, t3, q1.mv eX (by simp) (by simp) (by simp) (by simp), q2, q3, q4.cw (x := c1) (CW.fz eX (by simp) (by simp)), u29.trans q1.2.2.2.2⟩)
          refine V_aload_0 94 dX12_tellLaw_94 ?_
          refine V_getI 95 (c := 12) 13 dX12_tellLaw_95 fl_RX12_234 (F59.m 0 (Nat.le_of_ble_eq_true rfl)) (F59.k 0 12 rfl) (Nat.le_of_ble_eq_true rfl) (Nat.le_of_ble_eq_true rfl) rfl ?_
          refine V_if_ne 98 105 dX12_tellLaw_98 (by decide) (fun k8 => ?_) (fun k8 => ?_)
          · exact J105 S5 ET5 CT5 BT5 e39e hj4 (Or.inl (h7.resolve_right (fun ⟨_, _, q, _⟩ => k8 q.1)))
          · obtain ⟨c1, t3, y1, y2, y3, y4, y5⟩ := h7.resolve_left (fun q => q.no k8)
            have l1 := y4.2.1
            refine V_aload_0 101 dX12_tellLaw_101 ?_
            refine V_callV 102 (ci := 12) [] _ (s_mexpression M.2.1 Γ S5 F59 (c0 := c1) (t0 := t3) (E := 420 * s + 400) y1.2.2.2.2 y1.2.2.1 y1.2.2.2.1 (by omega) (by omega) (Or.inl ⟨y1.1, y1.2.1⟩)) dX12_tellLaw_102 cb_X12_expression ml_RX12_312 im_yX12_expression se_yX12_expression (F59.m 0 (Nat.le_of_ble_eq_true rfl)) (F59.k 0 12 rfl) (Nat.le_of_ble_eq_true rfl) ⟨(Nat.le_of_ble_eq_true rfl), (Nat.le_of_ble_eq_true rfl)⟩ rfl rfl (Nat.le_of_ble_eq_true rfl) ⟨(Nat.le_of_ble_eq_true rfl), (Nat.le_of_ble_eq_true rfl)⟩ (RV.go (fun S6 g6 => ?_))
            refine J105 S6 (ET5.tr (g6.1.sub (by simp) (by simp))) (CT5.tr g6.2.1 l1 (Nat.le_refl _)) (BT5.tr (BW.fz (a := b0 + j) (b := b0 + j + 1) g6.1 (fun o h1 h2 => by simp; omega)) (Nat.le_refl _) (Nat.le_refl _)) ((g6.1.2.2 m 39 (by simp)).trans e39e) hj4 (g6.2.2.imp id (fun q => ?_))
            obtain ⟨c2, t4, q1, q2, q3, q4, q5⟩ := q.rpn (l := s) (by omega) (by omega)
            exact ⟨c1, c2, t4, q1, by omega, by omega, y4.cw (x := 420 * s + 401) g6.2.1, q5, by rw [g6.1.2.1 (m + 28) (by simp)]; exact u285, by rw [g6.1.2.1 (m + 29) (by simp)]; exact y5⟩
      refine V_iload_2 23 dX12_tellLaw_23 ?_
      refine V_iconst 24 (4) dX12_tellLaw_24 (by decide) ?_
      refine V_icmp_ne 25 33 dX12_tellLaw_25 (by decide) (fun k3 => ?_) (fun k3 => ?_)
      · have k4 := mt (nI_eqE (Eq.refl (nI j)) (show (4 : Int32) = nI 4 from rfl) (by omega) (by omega)).mpr k3
        exact J33 T FZ.rf (Or.inr ⟨by omega, h⟩)
      ·
        refine V_aload_0 28 dX12_tellLaw_28 ?_
        refine V_iconst 29 (2) dX12_tellLaw_29 (by decide) ?_
        refine V_callV 30 (ci := 12) [.int _] _ (s_mfail M.2.1 Γ T FT9 h.2.2.1 h.2.2.2.1 _ (by decide)) dX12_tellLaw_30 cb_X12_fail ml_RX12_249 im_yX12_fail se_yX12_fail (FT9.m 0 (Nat.le_of_ble_eq_true rfl)) (FT9.k 0 12 rfl) (Nat.le_of_ble_eq_true rfl) ⟨(Nat.le_of_ble_eq_true rfl), (Nat.le_of_ble_eq_true rfl)⟩ rfl rfl (Nat.le_of_ble_eq_true rfl) ⟨(Nat.le_of_ble_eq_true rfl), (Nat.le_of_ble_eq_true rfl)⟩ (RV.go (fun S3 g3 => ?_))
        exact J33 S3 g3.1 (Or.inl ⟨g3.2, t, h54, (g3.1.2.2 m 11 (by simp)).trans h.2.2.1⟩)

