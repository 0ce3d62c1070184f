/-! The reference's reading: an expression -/
def EXS (m c0 t0 b : Nat) (S : PS) (w o r c t : Nat) : Prop := ((sI S m 13 = 0 ∧ o ≤ 6) ∨ (0 < sI S m 13 ∧ o ≤ 7)) ∧ sI S m 12 = nI o ∧ sI S m 49 = nI w ∧ sI S m 45 = nI c ∧ c0 ≤ c ∧ sI S m 11 = nI t ∧ t0 ≤ t ∧ t ≤ 400 ∧ c + (w - o) + t0 ≤ c0 + t ∧ STK m S w o r ∧ RP m c0 S (c - c0) (w - o + b)
def EXR (m c0 t0 : Nat) (S : PS) : Prop := sI S m 13 = 0 ∧ sI S m 12 = 0 ∧ ∃ c t, t0 < t ∧ t ≤ 400 ∧ sI S m 11 = nI t ∧ sI S m 45 = nI c ∧ c0 ≤ c ∧ c + t0 ≤ c0 + t ∧ RP m c0 S (c - c0) 1
section EXD
variable {m c0 t0 b w o r c t : Nat} {S S2 : PS}
theorem EXS.o7 (x : EXS m c0 t0 b S w o r c t) : o ≤ 7 := by rcases x.1 with q | q <;> omega
theorem EXS.no (x : EXS m c0 t0 b S w o r c t) (z : sI S m 13 = 0) : o ≤ 6 := by
  rcases x.1 with q | q
  · exact q.2
  · rw [z] at q; exact absurd q.1 (by decide)
theorem EXS.flt (x : EXS m c0 t0 b S w o r c t) (z : ¬ sI S m 13 = 0) : FLT m S := ⟨(x.1.resolve_left (fun q => z q.1)).1, t, x.2.2.2.2.2.2.2.1, x.2.2.2.2.2.1⟩
theorem EXS.w23 (x : EXS m c0 t0 b S w o r c t) : o ≤ w ∧ w ≤ 23 := by
  have h := STK.le w o r x.2.2.2.2.2.2.2.2.2.1
  have := x.o7
  omega
/-- only a fault, its place and the token's place may have changed -/
theorem EXS.mv (x : EXS m c0 t0 b S w o r c t) {X : List Nat} {Y : List (Nat × Nat)} (e : FZ X Y S S2) (hX : m + 32 ∉ X) (hX2 : m + 33 ∉ X) (hX3 : m + 34 ∉ X) (y12 : (m, 12) ∉ Y) (y45 : (m, 45) ∉ Y) (y49 : (m, 49) ∉ Y) {t2 : Nat} (et : sI S2 m 11 = nI t2) (h2 : t ≤ t2) (h4 : t2 ≤ 400) (hf : (sI S2 m 13 = 0 ∧ o ≤ 6) ∨ (0 < sI S2 m 13 ∧ o ≤ 7)) : EXS m c0 t0 b S2 w o r c t2 := by
  obtain ⟨x1, x2, x3, x4, x5, x6, x7, x8, x9, x10, x11⟩ := x
  refine ⟨hf, (e.2.2 _ _ y12).trans x2, (e.2.2 _ _ y49).trans x3, (e.2.2 _ _ y45).trans x4, x5, et, by omega, h4, by omega, STK.eq _ _ _ x10 (fun i _ => by rw [e.2.1 _ hX3]), RP.eq _ _ x11 (fun i => by rw [e.2.1 _ hX]) (fun i => by rw [e.2.1 _ hX2])⟩
end EXD
set_option maxRecDepth 100000 in
set_option maxHeartbeats 8000000 in
theorem s_mexpression (l : Launch) (Γ : GC) (S : PS) {m c0 t0 E : Nat} (F : isL lyModel Γ.2.2.2.2.1 S m) (ec : sI S m 45 = nI c0) (et : sI S m 11 = nI t0) (ht : t0 ≤ 400) (hE : c0 + 400 ≤ E + t0) (hE2 : E < 840) (hf : (sI S m 13 = 0 ∧ sI S m 12 = 0) ∨ 0 < sI S m 13) : CT l Γ yX12_expression cX12_expression 3 none (3) (0) (0) [.ref m] S (RV (fun S' => FZ [m + 32, m + 33, m + 34] [(m, 11), (m, 12), (m, 13), (m, 14), (m, 45), (m, 49)] S S' ∧ CW m c0 (E + 1) S S' ∧ (FLT m S' ∨ EXR m c0 t0 S'))) := by
  refine CT.of RX12 "expression" [some (.ref m), none, none] (by decide +kernel) rfl rfl (Nat.le_of_ble_eq_true rfl) rfl (fun M hM => ?_)
  subst hM
  refine V_aload_0 0 dX12_expression_0 ?_
  refine V_iconst 1 (0) dX12_expression_1 (by decide) ?_
  refine V_putI 2 (c := 12) 49 dX12_expression_2 fl_RX12_318 (F.m 0 (Nat.le_of_ble_eq_true rfl)) (F.k 0 12 rfl) (Nat.le_of_ble_eq_true rfl) (Nat.le_of_ble_eq_true rfl) rfl (Or.inl rfl) ?_
  have e0 : FZ [m + 32, m + 33, m + 34] [(m, 11), (m, 12), (m, 13), (m, 14), (m, 45), (m, 49)] S (uI S m 49 0) := FZ.rf.uI (by simp)
  have F0 := F.ss e0.1
  have f13 : sI (uI S m 49 0) m 13 = sI S m 13 := up2_k _ _ (by decide)
  have f12 : sI (uI S m 49 0) m 12 = sI S m 12 := up2_k _ _ (by decide)
  have f11 : sI (uI S m 49 0) m 11 = sI S m 11 := up2_k _ _ (by decide)
  have f45 : sI (uI S m 49 0) m 45 = sI S m 45 := up2_k _ _ (by decide)
  have f49 : sI (uI S m 49 0) m 49 = nI 0 := up2_s _ _ _ _
  have cw0 : CW m c0 (E + 1) S (uI S m 49 0) := fun _ _ => ⟨rfl, rfl⟩
  generalize uI S m 49 0 = S0 at e0 F0 f13 f12 f11 f45 f49 cw0 ⊢
  have J272 : ∀ (T : PS) (lv : Option Value) (lw : Option Value), FZ [m + 32, m + 33, m + 34] [(m, 11), (m, 12), (m, 13), (m, 14), (m, 45), (m, 49)] S T → CW m c0 (E + 1) S T → FLT m T → V M Γ (3, RX12, "expression", none, RM (3) (0) (0)) cX12_expression (RQ M Γ (RV (fun S' => FZ [m + 32, m + 33, m + 34] [(m, 11), (m, 12), (m, 13), (m, 14), (m, 45), (m, 49)] S S' ∧ CW m c0 (E + 1) S S' ∧ (FLT m S' ∨ EXR m c0 t0 S'))) (0) (0)) 0 0 T 272 [some (.ref m), lv, lw] [] := by
    intro T lv lw e cw x
    refine V_vret 272 dX12_expression_272 rfl (Nat.le_of_ble_eq_true rfl) (Nat.le_of_ble_eq_true rfl) (RV.mk ⟨e, cw, Or.inl x⟩)
  by_cases z0 : sI S m 13 = 0
  rotate_left
  · have q := hf.resolve_left (fun q => z0 q.1)
    refine V_aload_0 5 dX12_expression_5 ?_
    refine V_getI 6 (c := 12) 12 dX12_expression_6 fl_RX12_261 (F0.m 0 (Nat.le_of_ble_eq_true rfl)) (F0.k 0 12 rfl) (Nat.le_of_ble_eq_true rfl) (Nat.le_of_ble_eq_true rfl) rfl ?_
    refine V_istore_1 9 dX12_expression_9 rfl (Nat.le_of_ble_eq_true rfl) ?_
    refine V_iconst 10 (1) dX12_expression_10 (by decide) ?_
    refine V_istore_2 11 dX12_expression_11 rfl (Nat.le_of_ble_eq_true rfl) ?_
    refine V_iload_2 12 dX12_expression_12 ?_
    refine V_if_eq 13 272 dX12_expression_13 (by decide) (fun q => absurd q (by decide)) (fun _ => ?_)
    refine V_aload_0 16 dX12_expression_16 ?_
    refine V_getI 17 (c := 12) 13 dX12_expression_17 fl_RX12_234 (F0.m 0 (Nat.le_of_ble_eq_true rfl)) (F0.k 0 12 rfl) (Nat.le_of_ble_eq_true rfl) (Nat.le_of_ble_eq_true rfl) rfl ?_
    refine V_if_ne 20 272 dX12_expression_20 (by decide) (fun _ => ?_) (fun q => absurd q (by rw [f13]; exact z0))
    exact J272 S0 _ _ e0 cw0 ⟨by rw [f13]; exact q, t0, ht, f11.trans et⟩
  have z12 := (hf.resolve_right (fun q => by rw [z0] at q; exact absurd q (by decide))).2
  refine V_aload_0 5 dX12_expression_5 ?_
  refine V_getI 6 (c := 12) 12 dX12_expression_6 fl_RX12_261 (F0.m 0 (Nat.le_of_ble_eq_true rfl)) (F0.k 0 12 rfl) (Nat.le_of_ble_eq_true rfl) (Nat.le_of_ble_eq_true rfl) rfl ?_
  rw [f12, z12]
  refine V_istore_1 9 dX12_expression_9 rfl (Nat.le_of_ble_eq_true rfl) ?_
  refine V_iconst 10 (1) dX12_expression_10 (by decide) ?_
  refine V_istore_2 11 dX12_expression_11 rfl (Nat.le_of_ble_eq_true rfl) ?_
  refine V_while (α := Nat × PS) (fun z => z.1) (fun z => FZ [m + 32, m + 33, m + 34] [(m, 11), (m, 12), (m, 13), (m, 14), (m, 45), (m, 49)] S z.2 ∧ CW m c0 (E + 1) S z.2 ∧ ((FLT m z.2 ∧ z.1 = 0) ∨ ∃ w o r c t, sI z.2 m 13 = 0 ∧ EXS m c0 t0 0 z.2 w o r c t ∧ z.1 = 402 - t)) (fun z => z.2) (fun _ => [some (.ref m), some (.int 0), some (.int 1)]) (402 - t0, S0) ⟨e0, cw0, Or.inr ⟨0, 0, 0, c0, t0, f13.trans z0, ⟨Or.inl ⟨f13.trans z0, Nat.zero_le _⟩, f12.trans z12, f49, f45.trans ec, Nat.le_refl _, f11.trans et, Nat.le_refl _, ht, by omega, ⟨rfl, rfl⟩, by rw [Nat.sub_self]; rfl⟩, rfl⟩⟩ (fun z hz ih => ?_)
  obtain ⟨f, T0⟩ := z
  obtain ⟨eT, cwT, hz⟩ := hz
  dsimp only at eT cwT hz ih ⊢
  rcases hz with ⟨hz, rfl⟩ | ⟨w, o, r, c, t, z13, x, hfu⟩
  · have FT9 := F.ss eT.1
    refine V_iload_2 12 dX12_expression_12 ?_
    refine V_if_eq 13 272 dX12_expression_13 (by decide) (fun q => absurd q (by decide)) (fun _ => ?_)
    refine V_aload_0 16 dX12_expression_16 ?_
    refine V_getI 17 (c := 12) 13 dX12_expression_17 fl_RX12_234 (FT9.m 0 (Nat.le_of_ble_eq_true rfl)) (FT9.k 0 12 rfl) (Nat.le_of_ble_eq_true rfl) (Nat.le_of_ble_eq_true rfl) rfl ?_
    refine V_if_ne 20 272 dX12_expression_20 (by decide) (fun _ => ?_) (fun q => absurd q (fun q => by have := hz.1; rw [q] at this; exact absurd this (by decide)))
    exact J272 T0 _ _ eT cwT hz
  · have J204 : ∀ (T : PS) (w o r c t : Nat), FZ [m + 32, m + 33, m + 34] [(m, 11), (m, 12), (m, 13), (m, 14), (m, 45), (m, 49)] S T → CW m c0 (E + 1) S T → EXS m c0 t0 1 T w o r c t → (o = 0 ∨ ¬ sI T m 13 = 0) → V M Γ (3, RX12, "expression", none, RM (3) (0) (0)) cX12_expression (RQ M Γ (RV (fun S' => FZ [m + 32, m + 33, m + 34] [(m, 11), (m, 12), (m, 13), (m, 14), (m, 45), (m, 49)] S S' ∧ CW m c0 (E + 1) S S' ∧ (FLT m S' ∨ EXR m c0 t0 S'))) (0) (0)) 0 0 T 204 [some (.ref m), some (.int 0), some (.int 0)] [] := by
      intro T w o r c t e cw x ho
      have FT9 := F.ss e.1
      have xw := x.w23
      obtain ⟨x1, x2, x3, x4, x5, x6, x7, x8, x9, x10, x11⟩ := x
      refine V_aload_0 204 dX12_expression_204 ?_
      refine V_iconst 205 (0) dX12_expression_205 (by decide) ?_
      refine V_callV 206 (ci := 12) [.int _] _ (s_mcomesOut M.2.1 Γ T FT9 x4 x5 (by omega) x3 (by omega) x10 x11 _) dX12_expression_206 cb_X12_comesOut ml_RX12_327 im_yX12_comesOut se_yX12_comesOut (FT9.m 0 (Nat.le_of_ble_eq_true rfl)) (FT9.k 0 12 rfl) (Nat.le_of_ble_eq_true rfl) ⟨(Nat.le_of_ble_eq_true rfl), (Nat.le_of_ble_eq_true rfl)⟩ rfl rfl (Nat.le_of_ble_eq_true rfl) ⟨(Nat.le_of_ble_eq_true rfl), (Nat.le_of_ble_eq_true rfl)⟩ (RV.go (fun S3 h3 => ?_))
      obtain ⟨h3, v, r3, v1, v2, v3, v4, v5, v6, v7, v8, v9⟩ := h3
      have e13 : sI S3 m 13 = sI T m 13 := h3.2.2 m 13 (by simp)
      have e11 : sI S3 m 11 = nI t := (h3.2.2 m 11 (by simp)).trans x6
      have r0 := v7 rfl
      subst r0
      have E3 := e.tr (h3.sub (X2 := [m + 32, m + 33, m + 34]) (Y2 := [(m, 11), (m, 12), (m, 13), (m, 14), (m, 45), (m, 49)]) (by simp) (by simp))
      have C3 : CW m c0 (E + 1) S S3 := CW.tr cw (v9.wide (b2 := E + 1) (by omega)) (by omega) (by omega)
      refine V_vret 209 dX12_expression_209 rfl (Nat.le_of_ble_eq_true rfl) (Nat.le_of_ble_eq_true rfl) (RV.mk ⟨E3, C3, ?_⟩)
      by_cases z : sI T m 13 = 0
      · have o0 := ho.resolve_right (fun q => q z)
        subst o0
        have v0 : v = 0 := by
          rcases v with _ | u
          · rfl
          · unfold STK at v5
            rcases v5 with ⟨_, _, o2, r2, q, _⟩ | ⟨_, q, _⟩ | ⟨_, q, _⟩ <;> omega
        subst v0
        have hl := RP.le _ _ x11
        refine Or.inr ⟨e13.trans z, (h3.2.2 m 12 (by simp)).trans x2, c + (w - 0), t, by omega, x8, e11, v4, by omega, by omega, ?_⟩
        exact v8
      · exact Or.inl ⟨by rw [e13]; exact (x1.resolve_left (fun q => z q.1)).1, t, x8, e11⟩
    have J185 : ∀ (T : PS) (w o r c t : Nat), FZ [m + 32, m + 33, m + 34] [(m, 11), (m, 12), (m, 13), (m, 14), (m, 45), (m, 49)] S T → CW m c0 (E + 1) S T → EXS m c0 t0 1 T w o r c t → V M Γ (3, RX12, "expression", none, RM (3) (0) (0)) cX12_expression (RQ M Γ (RV (fun S' => FZ [m + 32, m + 33, m + 34] [(m, 11), (m, 12), (m, 13), (m, 14), (m, 45), (m, 49)] S S' ∧ CW m c0 (E + 1) S S' ∧ (FLT m S' ∨ EXR m c0 t0 S'))) (0) (0)) 0 0 T 185 [some (.ref m), some (.int 0), some (.int 1)] [] := by
      intro T w o r c t e cw x
      have FT9 := F.ss e.1
      refine V_iconst 185 (0) dX12_expression_185 (by decide) ?_
      refine V_istore_2 186 dX12_expression_186 rfl (Nat.le_of_ble_eq_true rfl) ?_
      refine V_iload_2 187 dX12_expression_187 ?_
      refine V_if_ne 188 210 dX12_expression_188 (by decide) (fun q => absurd (by decide) q) (fun _ => ?_)
      refine V_aload_0 191 dX12_expression_191 ?_
      refine V_getI 192 (c := 12) 12 dX12_expression_192 fl_RX12_261 (FT9.m 0 (Nat.le_of_ble_eq_true rfl)) (FT9.k 0 12 rfl) (Nat.le_of_ble_eq_true rfl) (Nat.le_of_ble_eq_true rfl) rfl ?_
      rw [x.2.1]
      refine V_iload_1 195 dX12_expression_195 ?_
      refine V_icmp_le 196 204 dX12_expression_196 (by decide) (fun k1 => ?_) (fun k1 => ?_)
      · have k2 := (nI_leE (Eq.refl (nI o)) (show (0 : Int32) = nI 0 from rfl) (by have := x.o7; omega) (by omega)).mp k1
        exact J204 T w o r c t e cw x (Or.inl (by omega))
      ·
        refine V_aload_0 199 dX12_expression_199 ?_
        refine V_iconst 200 (1) dX12_expression_200 (by decide) ?_
        refine V_callV 201 (ci := 12) [.int _] _ (s_mfail M.2.1 Γ T FT9 x.2.2.2.2.2.1 x.2.2.2.2.2.2.2.1 _ (by decide)) dX12_expression_201 cb_X12_fail ml_RX12_249 im_yX12_fail se_yX12_fail (FT9.m 0 (Nat.le_of_ble_eq_true rfl)) (FT9.k 0 12 rfl) (Nat.le_of_ble_eq_true rfl) ⟨(Nat.le_of_ble_eq_true rfl), (Nat.le_of_ble_eq_true rfl)⟩ rfl rfl (Nat.le_of_ble_eq_true rfl) ⟨(Nat.le_of_ble_eq_true rfl), (Nat.le_of_ble_eq_true rfl)⟩ (RV.go (fun S3 h3 => ?_))
        refine J204 S3 w o r c t (e.tr (h3.1.sub (by simp) (by simp))) (cw.tr (CW.fz (a := c0) (b := E + 1) h3.1 (by simp) (by simp)) (Nat.le_refl _) (Nat.le_refl _)) (x.mv h3.1 (by simp) (by simp) (by simp) (by simp) (by simp) (by simp) ((h3.1.2.2 m 11 (by simp)).trans x.2.2.2.2.2.1) (Nat.le_refl _) x.2.2.2.2.2.2.2.1 (Or.inr ⟨h3.2, x.o7⟩)) (Or.inr (fun q => ?_))
        have := h3.2
        rw [q] at this
        exact absurd this (by decide)
    have J234 : ∀ (T : PS) (w o r c t : Nat) (y : Int32), 402 - t ≤ f → FZ [m + 32, m + 33, m + 34] [(m, 11), (m, 12), (m, 13), (m, 14), (m, 45), (m, 49)] S T → CW m c0 (E + 1) S T → EXS m c0 t0 1 T w o r c t → sI T m 13 = 0 → (((sA T (m + 3) t = nI 8 ∨ sA T (m + 3) t = nI 9) ∧ y = 0) ∨ sA T (m + 3) t = nI 10 ∨ sA T (m + 3) t = nI 15) → V M Γ (3, RX12, "expression", none, RM (3) (0) (0)) cX12_expression (RQ M Γ (RV (fun S' => FZ [m + 32, m + 33, m + 34] [(m, 11), (m, 12), (m, 13), (m, 14), (m, 45), (m, 49)] S S' ∧ CW m c0 (E + 1) S S' ∧ (FLT m S' ∨ EXR m c0 t0 S'))) (0) (0)) 0 0 T 234 [some (.ref m), some (.int 0), some (.int 1)] [.int y, .ref m] := by
      intro T w o r c t y hfl e cw x z hk
      have FT9 := F.ss e.1
      have xw := x.w23
      have xn := x.no z
      obtain ⟨x1, x2, x3, x4, x5, x6, x7, x8, x9, x10, x11⟩ := x
      refine V_callV 234 (ci := 12) [.int _] _ (s_mcomesOut M.2.1 Γ T FT9 x4 x5 (by omega) x3 (by omega) x10 x11 _) dX12_expression_234 cb_X12_comesOut ml_RX12_327 im_yX12_comesOut se_yX12_comesOut (FT9.m 0 (Nat.le_of_ble_eq_true rfl)) (FT9.k 0 12 rfl) (Nat.le_of_ble_eq_true rfl) ⟨(Nat.le_of_ble_eq_true rfl), (Nat.le_of_ble_eq_true rfl)⟩ rfl rfl (Nat.le_of_ble_eq_true rfl) ⟨(Nat.le_of_ble_eq_true rfl), (Nat.le_of_ble_eq_true rfl)⟩ (RV.go (fun S3 h3 => ?_))
      obtain ⟨h3, v, r3, v1, v2, v3, v4, v5, v6, v7, v8, v9⟩ := h3
      have F39 := FT9.ss h3.1
      have e11 : sI S3 m 11 = nI t := (h3.2.2 m 11 (by simp)).trans x6
      have e13 : sI S3 m 13 = 0 := (h3.2.2 m 13 (by simp)).trans z
      have e3 : sA S3 (m + 3) = sA T (m + 3) := h3.2.1 _ (by simp)
      refine V_aload_0 237 dX12_expression_237 ?_
      refine V_getR 238 (c := 12) 48 (F39.r 0 48 34 rfl) dX12_expression_238 fl_RX12_119 (F39.m 0 (Nat.le_of_ble_eq_true rfl)) (F39.k 0 12 rfl) (Nat.le_of_ble_eq_true rfl) (Nat.le_of_ble_eq_true rfl) rfl ?_
      refine V_aload_0 241 dX12_expression_241 ?_
      refine V_getI 242 (c := 12) 49 dX12_expression_242 fl_RX12_318 (F39.m 0 (Nat.le_of_ble_eq_true rfl)) (F39.k 0 12 rfl) (Nat.le_of_ble_eq_true rfl) (Nat.le_of_ble_eq_true rfl) rfl ?_
      rw [v3]
      refine V_aload_0 245 dX12_expression_245 ?_
      refine V_getR 246 (c := 12) 5 (F39.r 0 5 3 rfl) dX12_expression_246 fl_RX12_20 (F39.m 0 (Nat.le_of_ble_eq_true rfl)) (F39.k 0 12 rfl) (Nat.le_of_ble_eq_true rfl) (Nat.le_of_ble_eq_true rfl) rfl ?_
      refine V_aload_0 249 dX12_expression_249 ?_
      refine V_getI 250 (c := 12) 11 dX12_expression_250 fl_RX12_237 (F39.m 0 (Nat.le_of_ble_eq_true rfl)) (F39.k 0 12 rfl) (Nat.le_of_ble_eq_true rfl) (Nat.le_of_ble_eq_true rfl) rfl ?_
      rw [e11]
      refine V_iaload2 253 dX12_expression_253 (F39.m 3 (Nat.le_of_ble_eq_true rfl)) (F39.k 3 14 rfl) (F39.l 3 403 rfl) ?_ ?_
      · exact vp_in_nI (by omega) (by decide)
      rw [nI_clamp (by omega), e3]
      refine V_iastore2 254 dX12_expression_254 (F39.m 34 (Nat.le_of_ble_eq_true rfl)) (F39.k 34 14 rfl) (F39.l 34 64 rfl) ?_ ?_
      · exact vp_in_nI (by omega) (by decide)
      rw [nI_clamp (by omega)]
      refine V_aload_0 255 dX12_expression_255 ?_
      refine V_dup 256 dX12_expression_256 rfl ?_
      refine V_getI 257 (c := 12) 49 dX12_expression_257 fl_RX12_318 (F39.m 0 (Nat.le_of_ble_eq_true rfl)) (F39.k 0 12 rfl) (Nat.le_of_ble_eq_true rfl) (Nat.le_of_ble_eq_true rfl) rfl ?_
      rw [show sI (uA S3 (m + 34) v (sA T (m + 3) t)) m 49 = nI v from v3]
      refine V_iconst 260 (1) dX12_expression_260 (by decide) ?_
      refine V_iadd 261 dX12_expression_261 ?_
      refine V_putI 262 (c := 12) 49 dX12_expression_262 fl_RX12_318 (F39.m 0 (Nat.le_of_ble_eq_true rfl)) (F39.k 0 12 rfl) (Nat.le_of_ble_eq_true rfl) (Nat.le_of_ble_eq_true rfl) rfl (Or.inl rfl) ?_
      rw [nI_1]
      have eU : FZ [m + 34] [(m, 49)] S3 (uI (uA S3 (m + 34) v (sA T (m + 3) t)) m 49 (nI (v + 1))) := (FZ.rf.uA (by simp)).uI (by simp)
      have u49 : sI (uI (uA S3 (m + 34) v (sA T (m + 3) t)) m 49 (nI (v + 1))) m 49 = nI (v + 1) := up2_s _ _ _ _
      have u34 : sA (uI (uA S3 (m + 34) v (sA T (m + 3) t)) m 49 (nI (v + 1))) (m + 34) v = sA T (m + 3) t := up2_s _ _ _ _
      have u34b : ∀ i, i < v → sA (uI (uA S3 (m + 34) v (sA T (m + 3) t)) m 49 (nI (v + 1))) (m + 34) i = sA S3 (m + 34) i := fun i hi => up2_k _ _ (by omega)
      generalize uI (uA S3 (m + 34) v (sA T (m + 3) t)) m 49 (nI (v + 1)) = S5 at eU u49 u34 u34b ⊢
      have F59 := F39.ss eU.1
      refine V_aload_0 265 dX12_expression_265 ?_
      refine V_callV 266 (ci := 12) [] _ (s_mgoesOn M.2.1 Γ S5 F59 ((eU.2.2 m 11 (by simp)).trans e11) x8) dX12_expression_266 cb_X12_goesOn ml_RX12_255 im_yX12_goesOn se_yX12_goesOn (F59.m 0 (Nat.le_of_ble_eq_true rfl)) (F59.k 0 12 rfl) (Nat.le_of_ble_eq_true rfl) ⟨(Nat.le_of_ble_eq_true rfl), (Nat.le_of_ble_eq_true rfl)⟩ rfl rfl (Nat.le_of_ble_eq_true rfl) ⟨(Nat.le_of_ble_eq_true rfl), (Nat.le_of_ble_eq_true rfl)⟩ (RV.go (fun S6 h6 => ?_))
      refine V_goto 269 12 dX12_expression_269 (by decide) ?_
      have E6 : FZ [m + 32, m + 33, m + 34] [(m, 11), (m, 12), (m, 13), (m, 14), (m, 45), (m, 49)] S S6 := ((e.tr (h3.sub (by simp) (by simp))).tr (eU.sub (by simp) (by simp))).tr (h6.1.sub (by simp) (by simp))
      have C3 : CW m c0 (E + 1) S S3 := CW.tr cw (v9.wide (b2 := E + 1) (by omega)) (by omega) (by omega)
      have C5 : CW m c0 (E + 1) S S5 := C3.tr (CW.fz (a := c0) (b := E + 1) eU (by simp) (by simp)) (Nat.le_refl _) (Nat.le_refl _)
      have C6 : CW m c0 (E + 1) S S6 := C5.tr (CW.fz (a := c0) (b := E + 1) h6.1 (by simp) (by simp)) (Nat.le_refl _) (Nat.le_refl _)
      rcases h6.2 with ⟨q1, q2⟩ | ⟨q1, q2, q3⟩
      · exact ih (0, S6) ⟨E6, C6, Or.inl ⟨⟨q1, t, x8, q2⟩, rfl⟩⟩ (by dsimp only; omega)
      · have g13 : sI S6 m 13 = 0 := q1.trans ((eU.2.2 m 13 (by simp)).trans e13)
        have hs5 : STK m S6 v o r3 := STK.eq _ _ _ v5 (fun i hi => by rw [h6.1.2.1 (m + 34) (by simp), u34b i hi])
        have hv6 : sA S6 (m + 34) v = sA T (m + 3) t := by rw [h6.1.2.1 (m + 34) (by simp), u34]
        obtain ⟨r4, hs6⟩ : ∃ r4, STK m S6 (v + 1) o r4 := by
          rcases hk with ⟨k, ky⟩ | k
          · have r0 := v7 ky
            subst r0
            exact ⟨1, Or.inr (Or.inl ⟨by rw [hv6]; exact k, rfl, hs5⟩)⟩
          · exact ⟨2, Or.inr (Or.inr ⟨by rw [hv6]; exact k, rfl, r3, v6, hs5⟩)⟩
        refine ih (402 - (t + 1), S6) ⟨E6, C6, Or.inr ⟨v + 1, o, r4, c + (w - v), t + 1, g13, ⟨Or.inl ⟨g13, xn⟩, ?_, ?_, ?_, by omega, q3, by omega, by omega, by omega, hs6, ?_⟩, rfl⟩⟩ (by dsimp only; omega)
        · exact (h6.1.2.2 m 12 (by simp)).trans ((eU.2.2 m 12 (by simp)).trans ((h3.2.2 m 12 (by simp)).trans x2))
        · exact (h6.1.2.2 m 49 (by simp)).trans u49
        · exact (h6.1.2.2 m 45 (by simp)).trans ((eU.2.2 m 45 (by simp)).trans v4)
        · have en : v + 1 - o + 0 = v - o + 1 := by omega
          rw [en]
          exact RP.eq _ _ v8 (fun i => by rw [h6.1.2.1 (m + 32) (by simp), eU.2.1 (m + 32) (by simp)]) (fun i => by rw [h6.1.2.1 (m + 33) (by simp), eU.2.1 (m + 33) (by simp)])
    have J181 : ∀ (T : PS) (w o r c t : Nat), 402 - t ≤ f → FZ [m + 32, m + 33, m + 34] [(m, 11), (m, 12), (m, 13), (m, 14), (m, 45), (m, 49)] S T → CW m c0 (E + 1) S T → EXS m c0 t0 1 T w o r c t → sI T m 13 = 0 → ((sA T (m + 3) t = nI 8 ∨ sA T (m + 3) t = nI 9) ∨ sA T (m + 3) t = nI 10 ∨ sA T (m + 3) t = nI 15) → V M Γ (3, RX12, "expression", none, RM (3) (0) (0)) cX12_expression (RQ M Γ (RV (fun S' => FZ [m + 32, m + 33, m + 34] [(m, 11), (m, 12), (m, 13), (m, 14), (m, 45), (m, 49)] S S' ∧ CW m c0 (E + 1) S S' ∧ (FLT m S' ∨ EXR m c0 t0 S'))) (0) (0)) 0 0 T 181 [some (.ref m), some (.int 0), some (.int 1)] [] := by
      intro T w o r c t hfl e cw x z hk
      have FT9 := F.ss e.1
      refine V_iconst 181 (1) dX12_expression_181 (by decide) ?_
      refine V_goto 182 186 dX12_expression_182 (by decide) ?_
      refine V_istore_2 186 dX12_expression_186 rfl (Nat.le_of_ble_eq_true rfl) ?_
      refine V_iload_2 187 dX12_expression_187 ?_
      refine V_if_ne 188 210 dX12_expression_188 (by decide) (fun _ => ?_) (fun q => absurd q (by decide))
      refine V_aload_0 210 dX12_expression_210 ?_
      refine V_aload_0 211 dX12_expression_211 ?_
      refine V_bipush 212 (10) dX12_expression_212 (by decide) ?_
      refine V_callV 214 (ci := 12) [.int _] _ (s_mis M.2.1 Γ T FT9 x.2.2.2.2.2.1 x.2.2.2.2.2.2.2.1 _) dX12_expression_214 cb_X12_is ml_RX12_252 im_yX12_is se_yX12_is (FT9.m 0 (Nat.le_of_ble_eq_true rfl)) (FT9.k 0 12 rfl) (Nat.le_of_ble_eq_true rfl) ⟨(Nat.le_of_ble_eq_true rfl), (Nat.le_of_ble_eq_true rfl)⟩ rfl rfl (Nat.le_of_ble_eq_true rfl) ⟨(Nat.le_of_ble_eq_true rfl), (Nat.le_of_ble_eq_true rfl)⟩ (RI.go (fun r1 S1 q1 => ?_))
      rw [q1.2]
      have q1 := q1.1
      have J229 : (sA T (m + 3) t = nI 10 ∨ sA T (m + 3) t = nI 15) → V M Γ (3, RX12, "expression", none, RM (3) (0) (0)) cX12_expression (RQ M Γ (RV (fun S' => FZ [m + 32, m + 33, m + 34] [(m, 11), (m, 12), (m, 13), (m, 14), (m, 45), (m, 49)] S S' ∧ CW m c0 (E + 1) S S' ∧ (FLT m S' ∨ EXR m c0 t0 S'))) (0) (0)) 0 0 T 229 [some (.ref m), some (.int 0), some (.int 1)] [.ref m] := by
        intro k
        refine V_iconst 229 (1) dX12_expression_229 (by decide) ?_
        refine V_goto 230 234 dX12_expression_230 (by decide) ?_
        exact J234 T w o r c t 1 hfl e cw x z (Or.inr k)
      refine V_if_ne 217 229 dX12_expression_217 (by decide) (fun k1 => ?_) (fun k1 => ?_)
      · exact J229 (Or.inl (q1.resolve_left (fun q => k1 q.1)).2.2)
      ·
        refine V_aload_0 220 dX12_expression_220 ?_
        refine V_bipush 221 (15) dX12_expression_221 (by decide) ?_
        refine V_callV 223 (ci := 12) [.int _] _ (s_mis M.2.1 Γ T FT9 x.2.2.2.2.2.1 x.2.2.2.2.2.2.2.1 _) dX12_expression_223 cb_X12_is ml_RX12_252 im_yX12_is se_yX12_is (FT9.m 0 (Nat.le_of_ble_eq_true rfl)) (FT9.k 0 12 rfl) (Nat.le_of_ble_eq_true rfl) ⟨(Nat.le_of_ble_eq_true rfl), (Nat.le_of_ble_eq_true rfl)⟩ rfl rfl (Nat.le_of_ble_eq_true rfl) ⟨(Nat.le_of_ble_eq_true rfl), (Nat.le_of_ble_eq_true rfl)⟩ (RI.go (fun r2 S2 q2 => ?_))
        rw [q2.2]
        have q2 := q2.1
        refine V_if_eq 226 233 dX12_expression_226 (by decide) (fun k2 => ?_) (fun k2 => ?_)
        ·
          refine V_iconst 233 (0) dX12_expression_233 (by decide) ?_
          have n1 : ¬ sA T (m + 3) t = nI 10 := fun q => by
            rcases q1 with q1 | q1
            · exact q1.2 ⟨z, q⟩
            · rw [q1.1] at k1; exact absurd k1 (by decide)
          have n2 : ¬ sA T (m + 3) t = nI 15 := fun q => by
            rcases q2 with q2 | q2
            · exact q2.2 ⟨z, q⟩
            · rw [q2.1] at k2; exact absurd k2 (by decide)
          exact J234 T w o r c t 0 hfl e cw x z (Or.inl ⟨by rcases hk with k | k | k; exact k; exact absurd k n1; exact absurd k n2, rfl⟩)
        · exact J229 (Or.inr (q2.resolve_left (fun q => k2 q.1)).2.2)
    have J145 : ∀ (T : PS) (w o r c t : Nat), 402 - t ≤ f → FZ [m + 32, m + 33, m + 34] [(m, 11), (m, 12), (m, 13), (m, 14), (m, 45), (m, 49)] S T → CW m c0 (E + 1) S T → EXS m c0 t0 1 T w o r c t → V M Γ (3, RX12, "expression", none, RM (3) (0) (0)) cX12_expression (RQ M Γ (RV (fun S' => FZ [m + 32, m + 33, m + 34] [(m, 11), (m, 12), (m, 13), (m, 14), (m, 45), (m, 49)] S S' ∧ CW m c0 (E + 1) S S' ∧ (FLT m S' ∨ EXR m c0 t0 S'))) (0) (0)) 0 0 T 145 [some (.ref m), some (.int 0), some (.int 1)] [] := by
      intro T w o r c t hfl e cw x
      have FT9 := F.ss e.1
      refine V_aload_0 145 dX12_expression_145 ?_
      refine V_bipush 146 (8) dX12_expression_146 (by decide) ?_
      refine V_callV 148 (ci := 12) [.int _] _ (s_mis M.2.1 Γ T FT9 x.2.2.2.2.2.1 x.2.2.2.2.2.2.2.1 _) dX12_expression_148 cb_X12_is ml_RX12_252 im_yX12_is se_yX12_is (FT9.m 0 (Nat.le_of_ble_eq_true rfl)) (FT9.k 0 12 rfl) (Nat.le_of_ble_eq_true rfl) ⟨(Nat.le_of_ble_eq_true rfl), (Nat.le_of_ble_eq_true rfl)⟩ rfl rfl (Nat.le_of_ble_eq_true rfl) ⟨(Nat.le_of_ble_eq_true rfl), (Nat.le_of_ble_eq_true rfl)⟩ (RI.go (fun r1 S1 q1 => ?_))
      rw [q1.2]
      have q1 := q1.1
      refine V_if_ne 151 181 dX12_expression_151 (by decide) (fun k1 => ?_) (fun k1 => ?_)
      · have q := (q1.resolve_left (fun q => k1 q.1)).2
        exact J181 T w o r c t hfl e cw x q.1 (Or.inl (Or.inl q.2))
      ·
        refine V_aload_0 154 dX12_expression_154 ?_
        refine V_bipush 155 (9) dX12_expression_155 (by decide) ?_
        refine V_callV 157 (ci := 12) [.int _] _ (s_mis M.2.1 Γ T FT9 x.2.2.2.2.2.1 x.2.2.2.2.2.2.2.1 _) dX12_expression_157 cb_X12_is ml_RX12_252 im_yX12_is se_yX12_is (FT9.m 0 (Nat.le_of_ble_eq_true rfl)) (FT9.k 0 12 rfl) (Nat.le_of_ble_eq_true rfl) ⟨(Nat.le_of_ble_eq_true rfl), (Nat.le_of_ble_eq_true rfl)⟩ rfl rfl (Nat.le_of_ble_eq_true rfl) ⟨(Nat.le_of_ble_eq_true rfl), (Nat.le_of_ble_eq_true rfl)⟩ (RI.go (fun r2 S2 q2 => ?_))
        rw [q2.2]
        have q2 := q2.1
        refine V_if_ne 160 181 dX12_expression_160 (by decide) (fun k2 => ?_) (fun k2 => ?_)
        · have q := (q2.resolve_left (fun q => k2 q.1)).2
          exact J181 T w o r c t hfl e cw x q.1 (Or.inl (Or.inr q.2))
        ·
          refine V_aload_0 163 dX12_expression_163 ?_
          refine V_bipush 164 (10) dX12_expression_164 (by decide) ?_
          refine V_callV 166 (ci := 12) [.int _] _ (s_mis M.2.1 Γ T FT9 x.2.2.2.2.2.1 x.2.2.2.2.2.2.2.1 _) dX12_expression_166 cb_X12_is ml_RX12_252 im_yX12_is se_yX12_is (FT9.m 0 (Nat.le_of_ble_eq_true rfl)) (FT9.k 0 12 rfl) (Nat.le_of_ble_eq_true rfl) ⟨(Nat.le_of_ble_eq_true rfl), (Nat.le_of_ble_eq_true rfl)⟩ rfl rfl (Nat.le_of_ble_eq_true rfl) ⟨(Nat.le_of_ble_eq_true rfl), (Nat.le_of_ble_eq_true rfl)⟩ (RI.go (fun r3 S3 q3 => ?_))
          rw [q3.2]
          have q3 := q3.1
          refine V_if_ne 169 181 dX12_expression_169 (by decide) (fun k3 => ?_) (fun k3 => ?_)
          · have q := (q3.resolve_left (fun q => k3 q.1)).2
            exact J181 T w o r c t hfl e cw x q.1 (Or.inr (Or.inl q.2))
          ·
            refine V_aload_0 172 dX12_expression_172 ?_
            refine V_bipush 173 (15) dX12_expression_173 (by decide) ?_
            refine V_callV 175 (ci := 12) [.int _] _ (s_mis M.2.1 Γ T FT9 x.2.2.2.2.2.1 x.2.2.2.2.2.2.2.1 _) dX12_expression_175 cb_X12_is ml_RX12_252 im_yX12_is se_yX12_is (FT9.m 0 (Nat.le_of_ble_eq_true rfl)) (FT9.k 0 12 rfl) (Nat.le_of_ble_eq_true rfl) ⟨(Nat.le_of_ble_eq_true rfl), (Nat.le_of_ble_eq_true rfl)⟩ rfl rfl (Nat.le_of_ble_eq_true rfl) ⟨(Nat.le_of_ble_eq_true rfl), (Nat.le_of_ble_eq_true rfl)⟩ (RI.go (fun r4 S4 q4 => ?_))
            rw [q4.2]
            have q4 := q4.1
            refine V_if_eq 178 185 dX12_expression_178 (by decide) (fun k4 => ?_) (fun k4 => ?_)
            · exact J185 T w o r c t e cw x
            · have q := (q4.resolve_left (fun q => k4 q.1)).2
              exact J181 T w o r c t hfl e cw x q.1 (Or.inr (Or.inr q.2))
    have J96 : ∀ (T : PS) (w o r c t : Nat), 402 - t ≤ f → FZ [m + 32, m + 33, m + 34] [(m, 11), (m, 12), (m, 13), (m, 14), (m, 45), (m, 49)] S T → CW m c0 (E + 1) S T → EXS m c0 t0 1 T w o r c t → sI T m 13 = 0 → V M Γ (3, RX12, "expression", none, RM (3) (0) (0)) cX12_expression (RQ M Γ (RV (fun S' => FZ [m + 32, m + 33, m + 34] [(m, 11), (m, 12), (m, 13), (m, 14), (m, 45), (m, 49)] S S' ∧ CW m c0 (E + 1) S S' ∧ (FLT m S' ∨ EXR m c0 t0 S'))) (0) (0)) 0 0 T 96 [some (.ref m), some (.int 0), some (.int 1)] [] := by
      intro T w o r c t hfl e cw x z
      refine V_while (α := Nat × PS) (fun z => z.1) (fun z => ∃ w o r c t, 402 - t ≤ f ∧ FZ [m + 32, m + 33, m + 34] [(m, 11), (m, 12), (m, 13), (m, 14), (m, 45), (m, 49)] S z.2 ∧ CW m c0 (E + 1) S z.2 ∧ EXS m c0 t0 1 z.2 w o r c t ∧ ((sI z.2 m 13 = 0 ∧ z.1 = 402 - t) ∨ (0 < sI z.2 m 13 ∧ z.1 = 0))) (fun z => z.2) (fun _ => [some (.ref m), some (.int 0), some (.int 1)]) (402 - t, T) ⟨w, o, r, c, t, hfl, e, cw, x, Or.inl ⟨z, rfl⟩⟩ (fun y hy ih2 => ?_)
      obtain ⟨f2, U⟩ := y
      obtain ⟨w, o, r, c, t, hfl, e, cw, x, hu⟩ := hy
      dsimp only at e cw x hu ih2 ⊢
      have FT9 := F.ss e.1
      refine V_aload_0 96 dX12_expression_96 ?_
      refine V_bipush 97 (7) dX12_expression_97 (by decide) ?_
      refine V_callV 99 (ci := 12) [.int _] _ (s_mis M.2.1 Γ U FT9 x.2.2.2.2.2.1 x.2.2.2.2.2.2.2.1 _) dX12_expression_99 cb_X12_is ml_RX12_252 im_yX12_is se_yX12_is (FT9.m 0 (Nat.le_of_ble_eq_true rfl)) (FT9.k 0 12 rfl) (Nat.le_of_ble_eq_true rfl) ⟨(Nat.le_of_ble_eq_true rfl), (Nat.le_of_ble_eq_true rfl)⟩ rfl rfl (Nat.le_of_ble_eq_true rfl) ⟨(Nat.le_of_ble_eq_true rfl), (Nat.le_of_ble_eq_true rfl)⟩ (RI.go (fun r1 S1 q1 => ?_))
      rw [q1.2]
      have q1 := q1.1
      refine V_if_eq 102 145 dX12_expression_102 (by decide) (fun k1 => ?_) (fun k1 => ?_)
      · exact J145 U w o r c t hfl e cw x
      · have q2 := (q1.resolve_left (fun q => k1 q.1)).2
        have z := q2.1
        have xw := x.w23
        have xn := x.no z
        refine V_aload_0 105 dX12_expression_105 ?_
        refine V_getI 106 (c := 12) 12 dX12_expression_106 fl_RX12_261 (FT9.m 0 (Nat.le_of_ble_eq_true rfl)) (FT9.k 0 12 rfl) (Nat.le_of_ble_eq_true rfl) (Nat.le_of_ble_eq_true rfl) rfl ?_
        rw [x.2.1]
        refine V_iload_1 109 dX12_expression_109 ?_
        refine V_icmp_le 110 145 dX12_expression_110 (by decide) (fun k2 => ?_) (fun k2 => ?_)
        · exact J145 U w o r c t hfl e cw x
        · have k3 := mt (nI_leE (Eq.refl (nI o)) (show (0 : Int32) = nI 0 from rfl) (by omega) (by omega)).mpr k2
          obtain ⟨x1, x2, x3, x4, x5, x6, x7, x8, x9, x10, x11⟩ := x
          refine V_aload_0 113 dX12_expression_113 ?_
          refine V_iconst 114 (0) dX12_expression_114 (by decide) ?_
          refine V_callV 115 (ci := 12) [.int _] _ (s_mcomesOut M.2.1 Γ U FT9 x4 x5 (by omega) x3 (by omega) x10 x11 _) dX12_expression_115 cb_X12_comesOut ml_RX12_327 im_yX12_comesOut se_yX12_comesOut (FT9.m 0 (Nat.le_of_ble_eq_true rfl)) (FT9.k 0 12 rfl) (Nat.le_of_ble_eq_true rfl) ⟨(Nat.le_of_ble_eq_true rfl), (Nat.le_of_ble_eq_true rfl)⟩ rfl rfl (Nat.le_of_ble_eq_true rfl) ⟨(Nat.le_of_ble_eq_true rfl), (Nat.le_of_ble_eq_true rfl)⟩ (RV.go (fun S3 h3 => ?_))
          obtain ⟨h3, v, r3, v1, v2, v3, v4, v5, v6, v7, v8, v9⟩ := h3
          have r0 := v7 rfl
          subst r0
          have F39 := FT9.ss h3.1
          obtain ⟨u, o2, r2, rfl, rfl, hs⟩ : ∃ u o2 r2, v = u + 1 ∧ o = o2 + 1 ∧ STK m S3 u o2 r2 := by
            rcases v with _ | u
            · omega
            · unfold STK at v5
              rcases v5 with ⟨_, _, o2, r2, q, p⟩ | ⟨_, q, _⟩ | ⟨_, q, _⟩
              · exact ⟨u, o2, r2, rfl, q, p⟩
              · omega
              · omega
          refine V_aload_0 118 dX12_expression_118 ?_
          refine V_dup 119 dX12_expression_119 rfl ?_
          refine V_getI 120 (c := 12) 49 dX12_expression_120 fl_RX12_318 (F39.m 0 (Nat.le_of_ble_eq_true rfl)) (F39.k 0 12 rfl) (Nat.le_of_ble_eq_true rfl) (Nat.le_of_ble_eq_true rfl) rfl ?_
          rw [v3]
          refine V_iconst 123 (1) dX12_expression_123 (by decide) ?_
          refine V_isub 124 dX12_expression_124 ?_
          rw [m1 (show 0 < u + 1 by omega), Nat.add_sub_cancel]
          refine V_putI 125 (c := 12) 49 dX12_expression_125 fl_RX12_318 (F39.m 0 (Nat.le_of_ble_eq_true rfl)) (F39.k 0 12 rfl) (Nat.le_of_ble_eq_true rfl) (Nat.le_of_ble_eq_true rfl) rfl (Or.inl rfl) ?_
          refine V_aload_0 128 dX12_expression_128 ?_
          refine V_dup 129 dX12_expression_129 rfl ?_
          refine V_getI 130 (c := 12) 12 dX12_expression_130 fl_RX12_261 (F39.m 0 (Nat.le_of_ble_eq_true rfl)) (F39.k 0 12 rfl) (Nat.le_of_ble_eq_true rfl) (Nat.le_of_ble_eq_true rfl) rfl ?_
          rw [show sI (uI S3 m 49 (nI u)) m 12 = nI (o2 + 1) from (up2_k _ _ (by decide)).trans ((h3.2.2 m 12 (by simp)).trans x2)]
          refine V_iconst 133 (1) dX12_expression_133 (by decide) ?_
          refine V_isub 134 dX12_expression_134 ?_
          rw [m1 (show 0 < o2 + 1 by omega), Nat.add_sub_cancel]
          refine V_putI 135 (c := 12) 12 dX12_expression_135 fl_RX12_261 (F39.m 0 (Nat.le_of_ble_eq_true rfl)) (F39.k 0 12 rfl) (Nat.le_of_ble_eq_true rfl) (Nat.le_of_ble_eq_true rfl) rfl (Or.inl rfl) ?_
          have eU : FZ [] [(m, 49), (m, 12)] S3 (uI (uI S3 m 49 (nI u)) m 12 (nI o2)) := (FZ.rf.uI (by simp)).uI (by simp)
          have u49 : sI (uI (uI S3 m 49 (nI u)) m 12 (nI o2)) m 49 = nI u := (up2_k _ _ (by decide)).trans (up2_s _ _ _ _)
          have u12 : sI (uI (uI S3 m 49 (nI u)) m 12 (nI o2)) m 12 = nI o2 := up2_s _ _ _ _
          generalize uI (uI S3 m 49 (nI u)) m 12 (nI o2) = S5 at eU u49 u12 ⊢
          have F59 := F39.ss eU.1
          refine V_aload_0 138 dX12_expression_138 ?_
          refine V_callV 139 (ci := 12) [] _ (s_mgoesOn M.2.1 Γ S5 F59 ((eU.2.2 m 11 (by simp)).trans ((h3.2.2 m 11 (by simp)).trans x6)) x8) dX12_expression_139 cb_X12_goesOn ml_RX12_255 im_yX12_goesOn se_yX12_goesOn (F59.m 0 (Nat.le_of_ble_eq_true rfl)) (F59.k 0 12 rfl) (Nat.le_of_ble_eq_true rfl) ⟨(Nat.le_of_ble_eq_true rfl), (Nat.le_of_ble_eq_true rfl)⟩ rfl rfl (Nat.le_of_ble_eq_true rfl) ⟨(Nat.le_of_ble_eq_true rfl), (Nat.le_of_ble_eq_true rfl)⟩ (RV.go (fun S6 h6 => ?_))
          refine V_goto 142 96 dX12_expression_142 (by decide) ?_
          have E6 : FZ [m + 32, m + 33, m + 34] [(m, 11), (m, 12), (m, 13), (m, 14), (m, 45), (m, 49)] S S6 := ((e.tr (h3.sub (by simp) (by simp))).tr (eU.sub (by simp) (by simp))).tr (h6.1.sub (by simp) (by simp))
          have C3 : CW m c0 (E + 1) S S3 := CW.tr cw (v9.wide (b2 := E + 1) (by omega)) (by omega) (by omega)
          have C5 : CW m c0 (E + 1) S S5 := C3.tr (CW.fz (a := c0) (b := E + 1) eU (by simp) (by simp)) (Nat.le_refl _) (Nat.le_refl _)
          have C6 : CW m c0 (E + 1) S S6 := C5.tr (CW.fz (a := c0) (b := E + 1) h6.1 (by simp) (by simp)) (Nat.le_refl _) (Nat.le_refl _)
          have X : ∀ t2, t ≤ t2 → t2 ≤ 400 → sI S6 m 11 = nI t2 → ((sI S6 m 13 = 0 ∧ o2 ≤ 6) ∨ (0 < sI S6 m 13 ∧ o2 ≤ 7)) → EXS m c0 t0 1 S6 u o2 r2 (c + (w - (u + 1))) t2 := by
            intro t2 a1 a2 a3 a4
            refine ⟨a4, ?_, ?_, ?_, by omega, a3, by omega, a2, by omega, ?_, ?_⟩
            · exact (h6.1.2.2 m 12 (by simp)).trans u12
            · exact (h6.1.2.2 m 49 (by simp)).trans u49
            · exact (h6.1.2.2 m 45 (by simp)).trans ((eU.2.2 m 45 (by simp)).trans v4)
            · exact STK.eq _ _ _ hs (fun i _ => by rw [h6.1.2.1 (m + 34) (by simp), eU.2.1 (m + 34) (by simp)])
            · have en : u - o2 + 1 = u + 1 - (o2 + 1) + 1 := by omega
              rw [en]
              exact RP.eq _ _ v8 (fun i => by rw [h6.1.2.1 (m + 32) (by simp), eU.2.1 (m + 32) (by simp)]) (fun i => by rw [h6.1.2.1 (m + 33) (by simp), eU.2.1 (m + 33) (by simp)])
          have hu2 := hu.resolve_right (fun q => by have := q.1; rw [z] at this; exact absurd this (by decide))
          rcases h6.2 with ⟨p1, p2⟩ | ⟨p1, p2, p3⟩
          · exact ih2 (0, S6) ⟨u, o2, r2, c + (w - (u + 1)), t, hfl, E6, C6, X t (Nat.le_refl _) x8 p2 (Or.inr ⟨p1, by omega⟩), Or.inr ⟨p1, rfl⟩⟩ (by dsimp only; omega)
          · have g13 : sI S6 m 13 = 0 := p1.trans ((eU.2.2 m 13 (by simp)).trans ((h3.2.2 m 13 (by simp)).trans z))
            exact ih2 (402 - (t + 1), S6) ⟨u, o2, r2, c + (w - (u + 1)), t + 1, by omega, E6, C6, X (t + 1) (by omega) (by omega) p3 (Or.inl ⟨g13, by omega⟩), Or.inl ⟨g13, rfl⟩⟩ (by dsimp only; omega)
    have J84 : ∀ (T : PS) (w o r c t : Nat), 402 - t ≤ f → FZ [m + 32, m + 33, m + 34] [(m, 11), (m, 12), (m, 13), (m, 14), (m, 45), (m, 49)] S T → CW m c0 (E + 1) S T → EXS m c0 t0 0 T w o r c t → V M Γ (3, RX12, "expression", none, RM (3) (0) (0)) cX12_expression (RQ M Γ (RV (fun S' => FZ [m + 32, m + 33, m + 34] [(m, 11), (m, 12), (m, 13), (m, 14), (m, 45), (m, 49)] S S' ∧ CW m c0 (E + 1) S S' ∧ (FLT m S' ∨ EXR m c0 t0 S'))) (0) (0)) 0 0 T 84 [some (.ref m), some (.int 0), some (.int 1)] [] := by
      intro T w o r c t hfl e cw x
      have FT9 := F.ss e.1
      obtain ⟨x1, x2, x3, x4, x5, x6, x7, x8, x9, x10, x11⟩ := x
      refine V_aload_0 84 dX12_expression_84 ?_
      refine V_callV 85 (ci := 12) [] _ (s_munit M.2.1 Γ T FT9 x4 (by omega) x6 x8) dX12_expression_85 cb_X12_unit ml_RX12_324 im_yX12_unit se_yX12_unit (FT9.m 0 (Nat.le_of_ble_eq_true rfl)) (FT9.k 0 12 rfl) (Nat.le_of_ble_eq_true rfl) ⟨(Nat.le_of_ble_eq_true rfl), (Nat.le_of_ble_eq_true rfl)⟩ rfl rfl (Nat.le_of_ble_eq_true rfl) ⟨(Nat.le_of_ble_eq_true rfl), (Nat.le_of_ble_eq_true rfl)⟩ (RV.go (fun S3 h3 => ?_))
      have E3 : FZ [m + 32, m + 33, m + 34] [(m, 11), (m, 12), (m, 13), (m, 14), (m, 45), (m, 49)] S S3 := e.tr (h3.1.sub (by simp) (by simp))
      have C3 : CW m c0 (E + 1) S S3 := CW.tr cw (h3.2.1.wide (b2 := E + 1) (by omega)) (by omega) (by omega)
      have F39 := F.ss E3.1
      refine V_aload_0 88 dX12_expression_88 ?_
      refine V_getI 89 (c := 12) 13 dX12_expression_89 fl_RX12_234 (F39.m 0 (Nat.le_of_ble_eq_true rfl)) (F39.k 0 12 rfl) (Nat.le_of_ble_eq_true rfl) (Nat.le_of_ble_eq_true rfl) rfl ?_
      rcases h3.2.2 with p | ⟨z, p1, p2, p3, p4, p5⟩
      ·
        refine V_if_le 92 96 dX12_expression_92 (by decide) (fun q => absurd q (Int32.not_le.mpr p.1)) (fun _ => ?_)
        refine V_vret 95 dX12_expression_95 rfl (Nat.le_of_ble_eq_true rfl) (Nat.le_of_ble_eq_true rfl) (RV.mk ⟨E3, C3, Or.inl p⟩)
      · rw [p1]
        refine V_if_le 92 96 dX12_expression_92 (by decide) (fun _ => ?_) (fun q => absurd (by decide) q)
        refine J96 S3 w o r (c + 1) (t + 1) (by omega) E3 C3 ⟨Or.inl ⟨p1, ?_⟩, ?_, ?_, p4, by omega, p3, by omega, by omega, by omega, ?_, ?_⟩ p1
        · exact (x1.resolve_right (fun q => by have := q.1; rw [z] at this; exact absurd this (by decide))).2
        · exact (h3.1.2.2 m 12 (by simp)).trans x2
        · exact (h3.1.2.2 m 49 (by simp)).trans x3
        · exact STK.eq _ _ _ x10 (fun i _ => by rw [h3.1.2.1 (m + 34) (by simp)])
        · rw [show c + 1 - c0 = (c - c0) + 1 by omega]
          refine ⟨w - o, RP.cw (d := c + 1) _ _ x11 (fun i hi => h3.2.1 i (by omega)), Or.inl ⟨?_, rfl⟩⟩
          rw [show c0 + (c - c0) = c by omega]
          exact p5
    have FT9 := F.ss eT.1
    refine V_iload_2 12 dX12_expression_12 ?_
    refine V_if_eq 13 272 dX12_expression_13 (by decide) (fun q => absurd q (by decide)) (fun _ => ?_)
    refine V_aload_0 16 dX12_expression_16 ?_
    refine V_getI 17 (c := 12) 13 dX12_expression_17 fl_RX12_234 (FT9.m 0 (Nat.le_of_ble_eq_true rfl)) (FT9.k 0 12 rfl) (Nat.le_of_ble_eq_true rfl) (Nat.le_of_ble_eq_true rfl) rfl ?_
    refine V_if_ne 20 272 dX12_expression_20 (by decide) (fun q => absurd z13 q) (fun _ => ?_)
    refine V_while (α := Nat × PS) (fun z => z.1) (fun z => ∃ w o r c t, 402 - t ≤ f ∧ FZ [m + 32, m + 33, m + 34] [(m, 11), (m, 12), (m, 13), (m, 14), (m, 45), (m, 49)] S z.2 ∧ CW m c0 (E + 1) S z.2 ∧ EXS m c0 t0 0 z.2 w o r c t ∧ ((sI z.2 m 13 = 0 ∧ z.1 = 402 - t) ∨ (0 < sI z.2 m 13 ∧ z.1 = 0))) (fun z => z.2) (fun _ => [some (.ref m), some (.int 0), some (.int 1)]) (402 - t, T0) ⟨w, o, r, c, t, by omega, eT, cwT, x, Or.inl ⟨z13, rfl⟩⟩ (fun y hy ih2 => ?_)
    obtain ⟨f2, U⟩ := y
    obtain ⟨w, o, r, c, t, hfl, e, cw, x, hu⟩ := hy
    dsimp only at e cw x hu ih2 ⊢
    have FU9 := F.ss e.1
    refine V_aload_0 23 dX12_expression_23 ?_
    refine V_bipush 24 (6) dX12_expression_24 (by decide) ?_
    refine V_callV 26 (ci := 12) [.int _] _ (s_mis M.2.1 Γ U FU9 x.2.2.2.2.2.1 x.2.2.2.2.2.2.2.1 _) dX12_expression_26 cb_X12_is ml_RX12_252 im_yX12_is se_yX12_is (FU9.m 0 (Nat.le_of_ble_eq_true rfl)) (FU9.k 0 12 rfl) (Nat.le_of_ble_eq_true rfl) ⟨(Nat.le_of_ble_eq_true rfl), (Nat.le_of_ble_eq_true rfl)⟩ rfl rfl (Nat.le_of_ble_eq_true rfl) ⟨(Nat.le_of_ble_eq_true rfl), (Nat.le_of_ble_eq_true rfl)⟩ (RI.go (fun r1 S1 q1 => ?_))
    rw [q1.2]
    have q1 := q1.1
    refine V_if_eq 29 84 dX12_expression_29 (by decide) (fun k1 => ?_) (fun k1 => ?_)
    · exact J84 U w o r c t hfl e cw x
    · have q2 := (q1.resolve_left (fun q => k1 q.1)).2
      have z := q2.1
      have xw := x.w23
      have xn := x.no z
      have hu2 := hu.resolve_right (fun q => by have := q.1; rw [z] at this; exact absurd this (by decide))
      have J46 : ∀ (U2 : PS), FZ [] [(m, 13), (m, 14)] U U2 → ((sI U2 m 13 = 0 ∧ o < 6) ∨ 0 < sI U2 m 13) → V M Γ (3, RX12, "expression", none, RM (3) (0) (0)) cX12_expression (RQ M Γ (RV (fun S' => FZ [m + 32, m + 33, m + 34] [(m, 11), (m, 12), (m, 13), (m, 14), (m, 45), (m, 49)] S S' ∧ CW m c0 (E + 1) S S' ∧ (FLT m S' ∨ EXR m c0 t0 S'))) (0) (0)) 0 0 U2 46 [some (.ref m), some (.int 0), some (.int 1)] [] := by
        intro U2 e2 hf2
        obtain ⟨x1, x2, x3, x4, x5, x6, x7, x8, x9, x10, x11⟩ := x
        have F29 := FU9.ss e2.1
        refine V_aload_0 46 dX12_expression_46 ?_
        refine V_dup 47 dX12_expression_47 rfl ?_
        refine V_getI 48 (c := 12) 12 dX12_expression_48 fl_RX12_261 (F29.m 0 (Nat.le_of_ble_eq_true rfl)) (F29.k 0 12 rfl) (Nat.le_of_ble_eq_true rfl) (Nat.le_of_ble_eq_true rfl) rfl ?_
        rw [(e2.2.2 m 12 (by simp)).trans x2]
        refine V_iconst 51 (1) dX12_expression_51 (by decide) ?_
        refine V_iadd 52 dX12_expression_52 ?_
        refine V_putI 53 (c := 12) 12 dX12_expression_53 fl_RX12_261 (F29.m 0 (Nat.le_of_ble_eq_true rfl)) (F29.k 0 12 rfl) (Nat.le_of_ble_eq_true rfl) (Nat.le_of_ble_eq_true rfl) rfl (Or.inl rfl) ?_
        rw [nI_1]
        have eV : FZ [] [(m, 12)] U2 (uI U2 m 12 (nI (o + 1))) := FZ.rf.uI (by simp)
        have u12 : sI (uI U2 m 12 (nI (o + 1))) m 12 = nI (o + 1) := up2_s _ _ _ _
        generalize uI U2 m 12 (nI (o + 1)) = S3 at eV u12 ⊢
        have F39 := F29.ss eV.1
        refine V_aload_0 56 dX12_expression_56 ?_
        refine V_callV 57 (ci := 12) [] _ (s_mgoesOn M.2.1 Γ S3 F39 ((eV.2.2 m 11 (by simp)).trans ((e2.2.2 m 11 (by simp)).trans x6)) x8) dX12_expression_57 cb_X12_goesOn ml_RX12_255 im_yX12_goesOn se_yX12_goesOn (F39.m 0 (Nat.le_of_ble_eq_true rfl)) (F39.k 0 12 rfl) (Nat.le_of_ble_eq_true rfl) ⟨(Nat.le_of_ble_eq_true rfl), (Nat.le_of_ble_eq_true rfl)⟩ rfl rfl (Nat.le_of_ble_eq_true rfl) ⟨(Nat.le_of_ble_eq_true rfl), (Nat.le_of_ble_eq_true rfl)⟩ (RV.go (fun S4 h4 => ?_))
        have F49 := F39.ss h4.1.1
        have e49 : sI S4 m 49 = nI w := (h4.1.2.2 m 49 (by simp)).trans ((eV.2.2 m 49 (by simp)).trans ((e2.2.2 m 49 (by simp)).trans x3))
        refine V_aload_0 60 dX12_expression_60 ?_
        refine V_getR 61 (c := 12) 48 (F49.r 0 48 34 rfl) dX12_expression_61 fl_RX12_119 (F49.m 0 (Nat.le_of_ble_eq_true rfl)) (F49.k 0 12 rfl) (Nat.le_of_ble_eq_true rfl) (Nat.le_of_ble_eq_true rfl) rfl ?_
        refine V_aload_0 64 dX12_expression_64 ?_
        refine V_getI 65 (c := 12) 49 dX12_expression_65 fl_RX12_318 (F49.m 0 (Nat.le_of_ble_eq_true rfl)) (F49.k 0 12 rfl) (Nat.le_of_ble_eq_true rfl) (Nat.le_of_ble_eq_true rfl) rfl ?_
        rw [e49]
        refine V_bipush 68 (6) dX12_expression_68 (by decide) ?_
        refine V_iastore2 70 dX12_expression_70 (F49.m 34 (Nat.le_of_ble_eq_true rfl)) (F49.k 34 14 rfl) (F49.l 34 64 rfl) ?_ ?_
        · exact vp_in_nI (by omega) (by decide)
        rw [nI_clamp (by omega)]
        refine V_aload_0 71 dX12_expression_71 ?_
        refine V_dup 72 dX12_expression_72 rfl ?_
        refine V_getI 73 (c := 12) 49 dX12_expression_73 fl_RX12_318 (F49.m 0 (Nat.le_of_ble_eq_true rfl)) (F49.k 0 12 rfl) (Nat.le_of_ble_eq_true rfl) (Nat.le_of_ble_eq_true rfl) rfl ?_
        rw [show sI (uA S4 (m + 34) w 6) m 49 = nI w from e49]
        refine V_iconst 76 (1) dX12_expression_76 (by decide) ?_
        refine V_iadd 77 dX12_expression_77 ?_
        refine V_putI 78 (c := 12) 49 dX12_expression_78 fl_RX12_318 (F49.m 0 (Nat.le_of_ble_eq_true rfl)) (F49.k 0 12 rfl) (Nat.le_of_ble_eq_true rfl) (Nat.le_of_ble_eq_true rfl) rfl (Or.inl rfl) ?_
        rw [nI_1]
        have eU : FZ [m + 34] [(m, 49)] S4 (uI (uA S4 (m + 34) w 6) m 49 (nI (w + 1))) := (FZ.rf.uA (by simp)).uI (by simp)
        have u49 : sI (uI (uA S4 (m + 34) w 6) m 49 (nI (w + 1))) m 49 = nI (w + 1) := up2_s _ _ _ _
        have u34 : sA (uI (uA S4 (m + 34) w 6) m 49 (nI (w + 1))) (m + 34) w = nI 6 := up2_s _ _ _ _
        have u34b : ∀ i, i < w → sA (uI (uA S4 (m + 34) w 6) m 49 (nI (w + 1))) (m + 34) i = sA S4 (m + 34) i := fun i hi => up2_k _ _ (by omega)
        generalize uI (uA S4 (m + 34) w 6) m 49 (nI (w + 1)) = S5 at eU u49 u34 u34b ⊢
        refine V_goto 81 23 dX12_expression_81 (by decide) ?_
        have E5 : FZ [m + 32, m + 33, m + 34] [(m, 11), (m, 12), (m, 13), (m, 14), (m, 45), (m, 49)] S S5 := (((e.tr (e2.sub (by simp) (by simp))).tr (eV.sub (by simp) (by simp))).tr (h4.1.sub (by simp) (by simp))).tr (eU.sub (by simp) (by simp))
        have C5 : CW m c0 (E + 1) S S5 := (((cw.tr (CW.fz (a := c0) (b := E + 1) e2 (by simp) (by simp)) (Nat.le_refl _) (Nat.le_refl _)).tr (CW.fz (a := c0) (b := E + 1) eV (by simp) (by simp)) (Nat.le_refl _) (Nat.le_refl _)).tr (CW.fz (a := c0) (b := E + 1) h4.1 (by simp) (by simp)) (Nat.le_refl _) (Nat.le_refl _)).tr (CW.fz (a := c0) (b := E + 1) eU (by simp) (by simp)) (Nat.le_refl _) (Nat.le_refl _)
        have X : ∀ t2, t ≤ t2 → t2 ≤ 400 → sI S5 m 11 = nI t2 → ((sI S5 m 13 = 0 ∧ o + 1 ≤ 6) ∨ (0 < sI S5 m 13 ∧ o + 1 ≤ 7)) → EXS m c0 t0 0 S5 (w + 1) (o + 1) 0 c t2 := by
          intro t2 a1 a2 a3 a4
          refine ⟨a4, ?_, u49, ?_, x5, a3, by omega, a2, by omega, Or.inl ⟨u34, rfl, o, r, rfl, ?_⟩, ?_⟩
          · exact (eU.2.2 m 12 (by simp)).trans ((h4.1.2.2 m 12 (by simp)).trans u12)
          · exact (eU.2.2 m 45 (by simp)).trans ((h4.1.2.2 m 45 (by simp)).trans ((eV.2.2 m 45 (by simp)).trans ((e2.2.2 m 45 (by simp)).trans x4)))
          · exact STK.eq _ _ _ x10 (fun i hi => by rw [u34b i hi, h4.1.2.1 (m + 34) (by simp), eV.2.1 (m + 34) (by simp), e2.2.1 (m + 34) (by simp)])
          · have en : w + 1 - (o + 1) + 0 = w - o + 0 := by omega
            rw [en]
            exact RP.eq _ _ x11 (fun i => by rw [eU.2.1 (m + 32) (by simp), h4.1.2.1 (m + 32) (by simp), eV.2.1 (m + 32) (by simp), e2.2.1 (m + 32) (by simp)]) (fun i => by rw [eU.2.1 (m + 33) (by simp), h4.1.2.1 (m + 33) (by simp), eV.2.1 (m + 33) (by simp), e2.2.1 (m + 33) (by simp)])
        have g13 : sI S5 m 13 = sI S4 m 13 := eU.2.2 m 13 (by simp)
        have g11 : sI S5 m 11 = sI S4 m 11 := eU.2.2 m 11 (by simp)
        have g13b : sI S3 m 13 = sI U2 m 13 := eV.2.2 m 13 (by simp)
        rcases h4.2 with ⟨p1, p2⟩ | ⟨p1, p2, p3⟩
        · exact ih2 (0, S5) ⟨w + 1, o + 1, 0, c, t, hfl, E5, C5, X t (Nat.le_refl _) x8 (g11.trans p2) (Or.inr ⟨by rw [g13]; exact p1, by omega⟩), Or.inr ⟨by rw [g13]; exact p1, rfl⟩⟩ (by dsimp only; omega)
        · rcases hf2 with ⟨hf2, ho6⟩ | hf2
          · have g : sI S5 m 13 = 0 := g13.trans (p1.trans (g13b.trans hf2))
            exact ih2 (402 - (t + 1), S5) ⟨w + 1, o + 1, 0, c, t + 1, by omega, E5, C5, X (t + 1) (by omega) (by omega) (g11.trans p3) (Or.inl ⟨g, by omega⟩), Or.inl ⟨g, rfl⟩⟩ (by dsimp only; omega)
          · have g : 0 < sI S5 m 13 := by rw [g13, p1, g13b]; exact hf2
            exact ih2 (0, S5) ⟨w + 1, o + 1, 0, c, t + 1, by omega, E5, C5, X (t + 1) (by omega) (by omega) (g11.trans p3) (Or.inr ⟨g, by omega⟩), Or.inr ⟨g, rfl⟩⟩ (by dsimp only; omega)
      refine V_aload_0 32 dX12_expression_32 ?_
      refine V_getI 33 (c := 12) 12 dX12_expression_33 fl_RX12_261 (FU9.m 0 (Nat.le_of_ble_eq_true rfl)) (FU9.k 0 12 rfl) (Nat.le_of_ble_eq_true rfl) (Nat.le_of_ble_eq_true rfl) rfl ?_
      rw [x.2.1]
      refine V_bipush 36 (6) dX12_expression_36 (by decide) ?_
      refine V_icmp_ne 38 46 dX12_expression_38 (by decide) (fun k2 => ?_) (fun k2 => ?_)
      · have k3 := mt (nI_eqE (Eq.refl (nI o)) (show (6 : Int32) = nI 6 from rfl) (by omega) (by omega)).mpr k2
        exact J46 U FZ.rf (Or.inl ⟨z, by omega⟩)
      ·
        refine V_aload_0 41 dX12_expression_41 ?_
        refine V_iconst 42 (2) dX12_expression_42 (by decide) ?_
        refine V_callV 43 (ci := 12) [.int _] _ (s_mfail M.2.1 Γ U FU9 x.2.2.2.2.2.1 x.2.2.2.2.2.2.2.1 _ (by decide)) dX12_expression_43 cb_X12_fail ml_RX12_249 im_yX12_fail se_yX12_fail (FU9.m 0 (Nat.le_of_ble_eq_true rfl)) (FU9.k 0 12 rfl) (Nat.le_of_ble_eq_true rfl) ⟨(Nat.le_of_ble_eq_true rfl), (Nat.le_of_ble_eq_true rfl)⟩ rfl rfl (Nat.le_of_ble_eq_true rfl) ⟨(Nat.le_of_ble_eq_true rfl), (Nat.le_of_ble_eq_true rfl)⟩ (RV.go (fun S3 h3 => ?_))
        exact J46 S3 h3.1 (Or.inr h3.2)

