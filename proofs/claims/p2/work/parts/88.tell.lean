/-! The reference's reading: a row of the text -/
def D19 (m s : Nat) (S : PS) : Prop := sI S m 15 = 0 → ∃ R, sA S (m + 19) s = nI R ∧ 1 ≤ R ∧ R ≤ 18
def DRX (m s K u : Nat) (S : PS) : Prop := sI S m 19 = nI s ∧ sA S (m + 11) s = nI K ∧ K ≤ 8 ∧ sA S (m + 8) s = nI u ∧ u ≤ K ∧ D12 m s K S ∧ D14 m s K S ∧ D10 m s K u S ∧ D13 m s K S ∧ D19 m s S ∧ D22 m s K S
def D25 (m s b c : Nat) (S : PS) : Prop := ∃ f a, sA S (m + 25) s = nI f ∧ sA S (m + 26) s = nI a ∧ f ≤ a ∧ (f < a → 130 * s ≤ f) ∧ a ≤ b ∧ LBS m s S f a c
def DLW (m s b c t : Nat) (S : PS) : Prop := sI S m 39 = nI b ∧ 130 * s ≤ b ∧ 4 * (b - 130 * s) ≤ t ∧ 420 * s ≤ c ∧ c ≤ 420 * s + t ∧ D25 m s b c S
def DRA (m s : Nat) (t0 : Nat) (S : PS) : Prop := ∃ K u b c t, t0 < t ∧ GD m c t S ∧ DRX m s K u S ∧ DLW m s b c t S
section DRS
variable {m s K u b c t t2 : Nat} {S S2 : PS} {X : List Nat} {Y : List (Nat × Nat)}
def drX (m : Nat) (X : List Nat) : Prop := m + 8 ∉ X ∧ m + 10 ∉ X ∧ m + 11 ∉ X ∧ m + 12 ∉ X ∧ m + 13 ∉ X ∧ m + 14 ∉ X ∧ m + 15 ∉ X
theorem wmn0 (w : WMN m S S2) (z : sI S2 m 15 = 0) : sI S m 15 = 0 := Classical.byContradiction (fun q => w.1 q z)
theorem D12.fz (h : D12 m s K S) (e : FZ X Y S S2) (hx : m + 12 ∉ X) : D12 m s K S2 := fun k hk => by rw [e.2.1 _ hx]; exact h k hk
theorem D14.fz (h : D14 m s K S) (e : FZ X Y S S2) (hx : m + 14 ∉ X) : D14 m s K S2 := fun k hk => by rw [e.2.1 _ hx]; exact h k hk
theorem D13.fz (h : D13 m s K S) (e : FZ X Y S S2) (w : WMN m S S2) (hx : m + 13 ∉ X) (hx2 : m + 15 ∉ X) : D13 m s K S2 := fun z => by
  rw [e.2.1 _ hx, e.2.1 _ hx2]; exact h (wmn0 w z)
theorem D19.fz (h : D19 m s S) (e : FZ X Y S S2) (w : WMN m S S2) (hx : m + 19 ∉ X) : D19 m s S2 := fun z => by
  rw [e.2.1 _ hx]; exact h (wmn0 w z)
theorem D22.fz (h : D22 m s K S) (e : FZ X Y S S2) (hx : m + 21 ∉ X) (hx2 : m + 22 ∉ X) : D22 m s K S2 := by
  obtain ⟨n, h1, h2, h3⟩ := h
  exact ⟨n, h1, by rw [e.2.1 _ hx]; exact h2, fun i hi => by rw [e.2.1 _ hx2]; exact h3 i hi⟩
theorem D22.up {K2 : Nat} (h : D22 m s K S) (q : K ≤ K2) : D22 m s K2 S := by
  obtain ⟨n, h1, h2, h3⟩ := h
  exact ⟨n, h1, h2, fun i hi => by obtain ⟨k, a, b⟩ := h3 i hi; exact ⟨k, by omega, b⟩⟩
theorem DRX.fz (h : DRX m s K u S) (e : FZ X Y S S2) (w : WMN m S S2) (hx : drX m X) (y19 : (m, 19) ∉ Y) (q19 : D19 m s S2) (q22 : D22 m s K S2) : DRX m s K u S2 := by
  obtain ⟨h1, h2, h3, h4, h5, h6, h7, h8, h9, -, -⟩ := h
  obtain ⟨x8, x10, x11, x12, x13, x14, x15⟩ := hx
  exact ⟨(e.2.2 _ _ y19).trans h1, by rw [e.2.1 _ x11]; exact h2, h3, by rw [e.2.1 _ x8]; exact h4, h5, h6.fz e x12, h7.fz e x14, h8.fz e x10 x12, h9.fz e w x13 x15, q19, q22⟩
theorem D25.fz (h : D25 m s b c S) (e : FZ X Y S S2) (hx : ∀ o, 25 ≤ o → o ≤ 33 → m + o ∉ X) : D25 m s b c S2 := by
  obtain ⟨f, a, h1, h2, h3, h4, h5, h6⟩ := h
  exact ⟨f, a, by rw [e.2.1 _ (hx 25 (by omega) (by omega))]; exact h1, by rw [e.2.1 _ (hx 26 (by omega) (by omega))]; exact h2, h3, h4, h5, h6.mv (x := 0) (z := 0) (CW.fz e (hx 32 (by omega) (by omega)) (hx 33 (by omega) (by omega))) (BW.fz e (fun o a b => hx o (by omega) (by omega)))⟩
theorem DLW.fz (h : DLW m s b c t S) (e : FZ X Y S S2) (hx : ∀ o, 25 ≤ o → o ≤ 33 → m + o ∉ X) (y39 : (m, 39) ∉ Y) (ht : t ≤ t2) : DLW m s b c t2 S2 := by
  obtain ⟨h1, h2, h3, h4, h5, h6⟩ := h
  exact ⟨(e.2.2 _ _ y39).trans h1, h2, by omega, h4, by omega, h6.fz e hx⟩
end DRS
set_option maxRecDepth 100000 in
set_option maxHeartbeats 8000000 in
theorem s_mtell (l : Launch) (Γ : GC) (S : PS) {m s K u b c t : Nat} (F : isL lyModel Γ.2.2.2.2.1 S m) (hs : s < 2) (h : GD m c t S) (dx : DRX m s K u S) (dl : DLW m s b c t S) : CT l Γ yX12_tell cX12_tell 2 none (6) (0) (0) [.ref m] S (RV (fun S' => FZ [m + 8, m + 10, m + 11, m + 12, m + 13, m + 14, m + 15, m + 16, m + 17, m + 18, m + 19, m + 20, m + 21, m + 22, m + 23, m + 24, m + 25, m + 26, m + 27, m + 28, m + 29, m + 30, m + 31, m + 32, m + 33, m + 34] [(m, 11), (m, 12), (m, 13), (m, 14), (m, 15), (m, 16), (m, 39), (m, 45), (m, 49)] S S' ∧ OUT m s S S' ∧ WMN m S S' ∧ (FLT m S' ∨ DRA m s t S'))) := by
  refine CT.of RX12 "tell" [some (.ref m), none] (by decide +kernel) rfl rfl (Nat.le_of_ble_eq_true rfl) rfl (fun M hM => ?_)
  subst hM
  have es := dx.1
  have eK := dx.2.1
  have hK := dx.2.2.1
  have eM := dx.2.2.2.1
  have hu := dx.2.2.2.2.1
  have hb1 := dl.2.1
  have hb2 := dl.2.2.1
  have hc1 := dl.2.2.2.1
  have hc2 := dl.2.2.2.2.1
  have h400 := h.2.2.2.1
  have J370 : ∀ (U : PS) (v1 : Option Value), FZ [m + 8, m + 10, m + 11, m + 12, m + 13, m + 14, m + 15, m + 16, m + 17, m + 18, m + 19, m + 20, m + 21, m + 22, m + 23, m + 24, m + 25, m + 26, m + 27, m + 28, m + 29, m + 30, m + 31, m + 32, m + 33, m + 34] [(m, 11), (m, 12), (m, 13), (m, 14), (m, 15), (m, 16), (m, 39), (m, 45), (m, 49)] S U → OUT m s S U → WMN m S U → (FLT m U ∨ DRA m s t U) → V M Γ (2, RX12, "tell", none, RM (6) (0) (0)) cX12_tell (RQ M Γ (RV (fun S' => FZ [m + 8, m + 10, m + 11, m + 12, m + 13, m + 14, m + 15, m + 16, m + 17, m + 18, m + 19, m + 20, m + 21, m + 22, m + 23, m + 24, m + 25, m + 26, m + 27, m + 28, m + 29, m + 30, m + 31, m + 32, m + 33, m + 34] [(m, 11), (m, 12), (m, 13), (m, 14), (m, 15), (m, 16), (m, 39), (m, 45), (m, 49)] S S' ∧ OUT m s S S' ∧ WMN m S S' ∧ (FLT m S' ∨ DRA m s t S'))) (0) (0)) 0 0 U 370 [some (.ref m), v1] [] := by
    intro U v1 e o w d
    refine V_vret 370 dX12_tell_370 rfl (Nat.le_of_ble_eq_true rfl) (Nat.le_of_ble_eq_true rfl) (RV.mk ⟨e, o, w, d⟩)
  have J365 : V M Γ (2, RX12, "tell", none, RM (6) (0) (0)) cX12_tell (RQ M Γ (RV (fun S' => FZ [m + 8, m + 10, m + 11, m + 12, m + 13, m + 14, m + 15, m + 16, m + 17, m + 18, m + 19, m + 20, m + 21, m + 22, m + 23, m + 24, m + 25, m + 26, m + 27, m + 28, m + 29, m + 30, m + 31, m + 32, m + 33, m + 34] [(m, 11), (m, 12), (m, 13), (m, 14), (m, 15), (m, 16), (m, 39), (m, 45), (m, 49)] S S' ∧ OUT m s S S' ∧ WMN m S S' ∧ (FLT m S' ∨ DRA m s t S'))) (0) (0)) 0 0 S 365 [some (.ref m), none] [] := by
    refine V_aload_0 365 dX12_tell_365 ?_
    refine V_iconst 366 (1) dX12_tell_366 (by decide) ?_
    refine V_callV 367 (ci := 12) [.int _] _ (s_mfail M.2.1 Γ S F h.2.2.1 h.2.2.2.1 _ (by decide)) dX12_tell_367 cb_X12_fail ml_RX12_249 im_yX12_fail se_yX12_fail (F.m 0 (Nat.le_of_ble_eq_true rfl)) (F.k 0 12 rfl) (Nat.le_of_ble_eq_true rfl) ⟨(Nat.le_of_ble_eq_true rfl), (Nat.le_of_ble_eq_true rfl)⟩ rfl rfl (Nat.le_of_ble_eq_true rfl) ⟨(Nat.le_of_ble_eq_true rfl), (Nat.le_of_ble_eq_true rfl)⟩ (RV.go (fun S2 k2 => ?_))
    exact J370 S2 _ (k2.1.sub (by simp) (by simp)) (OUT.fz k2.1 (by simp) (fun _ _ => by simp)) (WMN.fz k2.1 (by simp)) (Or.inl ⟨k2.2, t, h400, (k2.1.2.2 m 11 (by simp)).trans h.2.2.1⟩)
  have FE : ∀ (U : PS), FZ [] [(m, 13), (m, 14)] S U → 0 < sI U m 13 → FLT m U := fun U e q => ⟨q, t, h400, (e.2.2 m 11 (by simp)).trans h.2.2.1⟩
  have fro : ∀ (U : PS), FZ [] [(m, 13), (m, 14)] S U → FLT m U → FZ [m + 8, m + 10, m + 11, m + 12, m + 13, m + 14, m + 15, m + 16, m + 17, m + 18, m + 19, m + 20, m + 21, m + 22, m + 23, m + 24, m + 25, m + 26, m + 27, m + 28, m + 29, m + 30, m + 31, m + 32, m + 33, m + 34] [(m, 11), (m, 12), (m, 13), (m, 14), (m, 15), (m, 16), (m, 39), (m, 45), (m, 49)] S U ∧ OUT m s S U ∧ (FLT m U ∨ DRA m s t U) := fun U e q => ⟨e.sub (by simp) (by simp), OUT.fz e (by simp) (fun _ _ => by simp), Or.inl q⟩
  have TH1 : K + 1 ≤ 8 → V M Γ (2, RX12, "tell", none, RM (6) (0) (0)) cX12_tell (RQ M Γ (RV (fun S' => FZ [m + 8, m + 10, m + 11, m + 12, m + 13, m + 14, m + 15, m + 16, m + 17, m + 18, m + 19, m + 20, m + 21, m + 22, m + 23, m + 24, m + 25, m + 26, m + 27, m + 28, m + 29, m + 30, m + 31, m + 32, m + 33, m + 34] [(m, 11), (m, 12), (m, 13), (m, 14), (m, 15), (m, 16), (m, 39), (m, 45), (m, 49)] S S' ∧ OUT m s S S' ∧ WMN m S S' ∧ (FLT m S' ∨ DRA m s t S'))) (0) (0)) 0 0 S 99 [some (.ref m), none] [] := by
    intro hK2
    refine V_aload_0 99 dX12_tell_99 ?_
    refine V_getI 100 (c := 12) 13 dX12_tell_100 fl_RX12_234 (F.m 0 (Nat.le_of_ble_eq_true rfl)) (F.k 0 12 rfl) (Nat.le_of_ble_eq_true rfl) (Nat.le_of_ble_eq_true rfl) rfl ?_
    refine V_if_ne 103 370 dX12_tell_103 (by decide) (fun q => absurd h.1 q) (fun _ => ?_)
    refine V_aload_0 106 dX12_tell_106 ?_
    refine V_iconst 107 (1) dX12_tell_107 (by decide) ?_
    refine V_callV 108 (ci := 12) [.int _] _ (s_mtellThing M.2.1 Γ S F es hs eK eM hu (p := 1) (by omega) hK2 h dx.2.2.2.2.2.1 dx.2.2.2.2.2.2.1 dx.2.2.2.2.2.2.2.1 dx.2.2.2.2.2.2.2.2.1) dX12_tell_108 cb_X12_tellThing ml_RX12_285 im_yX12_tellThing se_yX12_tellThing (F.m 0 (Nat.le_of_ble_eq_true rfl)) (F.k 0 12 rfl) (Nat.le_of_ble_eq_true rfl) ⟨(Nat.le_of_ble_eq_true rfl), (Nat.le_of_ble_eq_true rfl)⟩ rfl rfl (Nat.le_of_ble_eq_true rfl) ⟨(Nat.le_of_ble_eq_true rfl), (Nat.le_of_ble_eq_true rfl)⟩ (RV.go (fun S2 k2 => ?_))
    refine V_goto 111 370 dX12_tell_111 (by decide) ?_
    refine J370 S2 _ (k2.1.sub (by simp) (by simp)) k2.2.2.1 k2.2.1 (k2.2.2.2.imp id (fun q => ?_))
    obtain ⟨t2, q1, q2, q3, q4, q5, q6, q7, q8⟩ := q
    exact ⟨K + 1, u + 1, b, c, t2, q1, q2, ⟨(k2.1.2.2 m 19 (by simp)).trans es, q3, hK2, q4, by omega, q5, q6, q7, q8, dx.2.2.2.2.2.2.2.2.2.1.fz k2.1 k2.2.1 (by simp), (dx.2.2.2.2.2.2.2.2.2.2.fz k2.1 (by simp) (by simp)).up (by omega)⟩, dl.fz k2.1 (fun o a b => by simp; omega) (by simp) (by omega)⟩
  have J80 : V M Γ (2, RX12, "tell", none, RM (6) (0) (0)) cX12_tell (RQ M Γ (RV (fun S' => FZ [m + 8, m + 10, m + 11, m + 12, m + 13, m + 14, m + 15, m + 16, m + 17, m + 18, m + 19, m + 20, m + 21, m + 22, m + 23, m + 24, m + 25, m + 26, m + 27, m + 28, m + 29, m + 30, m + 31, m + 32, m + 33, m + 34] [(m, 11), (m, 12), (m, 13), (m, 14), (m, 15), (m, 16), (m, 39), (m, 45), (m, 49)] S S' ∧ OUT m s S S' ∧ WMN m S S' ∧ (FLT m S' ∨ DRA m s t S'))) (0) (0)) 0 0 S 80 [some (.ref m), none] [] := by
    refine V_aload_0 80 dX12_tell_80 ?_
    refine V_getR 81 (c := 12) 23 (F.r 0 23 11 rfl) dX12_tell_81 fl_RX12_49 (F.m 0 (Nat.le_of_ble_eq_true rfl)) (F.k 0 12 rfl) (Nat.le_of_ble_eq_true rfl) (Nat.le_of_ble_eq_true rfl) rfl ?_
    refine V_aload_0 84 dX12_tell_84 ?_
    refine V_getI 85 (c := 12) 19 dX12_tell_85 fl_RX12_267 (F.m 0 (Nat.le_of_ble_eq_true rfl)) (F.k 0 12 rfl) (Nat.le_of_ble_eq_true rfl) (Nat.le_of_ble_eq_true rfl) rfl ?_
    rw [es]
    refine V_iaload2 88 dX12_tell_88 (F.m 11 (Nat.le_of_ble_eq_true rfl)) (F.k 11 14 rfl) (F.l 11 2 rfl) ?_ ?_
    · exact vp_in_nI (by omega) (by decide)
    rw [nI_clamp (by omega), eK]
    refine V_bipush 89 (8) dX12_tell_89 (by decide) ?_
    refine V_icmp_ne 91 99 dX12_tell_91 (by decide) (fun c1 => ?_) (fun c1 => ?_)
    · have c2 := mt (nI_eqE (Eq.refl (nI K)) (show (8 : Int32) = nI 8 from rfl) (by omega) (by omega)).mpr c1
      exact TH1 (by omega)
    ·
      refine V_aload_0 94 dX12_tell_94 ?_
      refine V_iconst 95 (2) dX12_tell_95 (by decide) ?_
      refine V_callV 96 (ci := 12) [.int _] _ (s_mfail M.2.1 Γ S F h.2.2.1 h.2.2.2.1 _ (by decide)) dX12_tell_96 cb_X12_fail ml_RX12_249 im_yX12_fail se_yX12_fail (F.m 0 (Nat.le_of_ble_eq_true rfl)) (F.k 0 12 rfl) (Nat.le_of_ble_eq_true rfl) ⟨(Nat.le_of_ble_eq_true rfl), (Nat.le_of_ble_eq_true rfl)⟩ rfl rfl (Nat.le_of_ble_eq_true rfl) ⟨(Nat.le_of_ble_eq_true rfl), (Nat.le_of_ble_eq_true rfl)⟩ (RV.go (fun S2 k2 => ?_))
      have q2 := FE S2 k2.1 k2.2
      have F2 := F.ss k2.1.1
      refine V_aload_0 99 dX12_tell_99 ?_
      refine V_getI 100 (c := 12) 13 dX12_tell_100 fl_RX12_234 (F2.m 0 (Nat.le_of_ble_eq_true rfl)) (F2.k 0 12 rfl) (Nat.le_of_ble_eq_true rfl) (Nat.le_of_ble_eq_true rfl) rfl ?_
      refine V_if_ne 103 370 dX12_tell_103 (by decide) (fun _ => ?_) (fun q => absurd q q2.no)
      exact J370 S2 _ (fro S2 k2.1 q2).1 (fro S2 k2.1 q2).2.1 (WMN.fz k2.1 (by simp)) (Or.inl q2)
  have TH2 : K + 2 ≤ 8 → V M Γ (2, RX12, "tell", none, RM (6) (0) (0)) cX12_tell (RQ M Γ (RV (fun S' => FZ [m + 8, m + 10, m + 11, m + 12, m + 13, m + 14, m + 15, m + 16, m + 17, m + 18, m + 19, m + 20, m + 21, m + 22, m + 23, m + 24, m + 25, m + 26, m + 27, m + 28, m + 29, m + 30, m + 31, m + 32, m + 33, m + 34] [(m, 11), (m, 12), (m, 13), (m, 14), (m, 15), (m, 16), (m, 39), (m, 45), (m, 49)] S S' ∧ OUT m s S S' ∧ WMN m S S' ∧ (FLT m S' ∨ DRA m s t S'))) (0) (0)) 0 0 S 133 [some (.ref m), none] [] := by
    intro hK2
    refine V_aload_0 133 dX12_tell_133 ?_
    refine V_getI 134 (c := 12) 13 dX12_tell_134 fl_RX12_234 (F.m 0 (Nat.le_of_ble_eq_true rfl)) (F.k 0 12 rfl) (Nat.le_of_ble_eq_true rfl) (Nat.le_of_ble_eq_true rfl) rfl ?_
    refine V_if_ne 137 370 dX12_tell_137 (by decide) (fun q => absurd h.1 q) (fun _ => ?_)
    refine V_aload_0 140 dX12_tell_140 ?_
    refine V_iconst 141 (2) dX12_tell_141 (by decide) ?_
    refine V_callV 142 (ci := 12) [.int _] _ (s_mtellThing M.2.1 Γ S F es hs eK eM hu (p := 2) (by omega) hK2 h dx.2.2.2.2.2.1 dx.2.2.2.2.2.2.1 dx.2.2.2.2.2.2.2.1 dx.2.2.2.2.2.2.2.2.1) dX12_tell_142 cb_X12_tellThing ml_RX12_285 im_yX12_tellThing se_yX12_tellThing (F.m 0 (Nat.le_of_ble_eq_true rfl)) (F.k 0 12 rfl) (Nat.le_of_ble_eq_true rfl) ⟨(Nat.le_of_ble_eq_true rfl), (Nat.le_of_ble_eq_true rfl)⟩ rfl rfl (Nat.le_of_ble_eq_true rfl) ⟨(Nat.le_of_ble_eq_true rfl), (Nat.le_of_ble_eq_true rfl)⟩ (RV.go (fun S2 k2 => ?_))
    refine V_goto 145 370 dX12_tell_145 (by decide) ?_
    refine J370 S2 _ (k2.1.sub (by simp) (by simp)) k2.2.2.1 k2.2.1 (k2.2.2.2.imp id (fun q => ?_))
    obtain ⟨t2, q1, q2, q3, q4, q5, q6, q7, q8⟩ := q
    exact ⟨K + 2, u + 1, b, c, t2, q1, q2, ⟨(k2.1.2.2 m 19 (by simp)).trans es, q3, hK2, q4, by omega, q5, q6, q7, q8, dx.2.2.2.2.2.2.2.2.2.1.fz k2.1 k2.2.1 (by simp), (dx.2.2.2.2.2.2.2.2.2.2.fz k2.1 (by simp) (by simp)).up (by omega)⟩, dl.fz k2.1 (fun o a b => by simp; omega) (by simp) (by omega)⟩
  have J114 : V M Γ (2, RX12, "tell", none, RM (6) (0) (0)) cX12_tell (RQ M Γ (RV (fun S' => FZ [m + 8, m + 10, m + 11, m + 12, m + 13, m + 14, m + 15, m + 16, m + 17, m + 18, m + 19, m + 20, m + 21, m + 22, m + 23, m + 24, m + 25, m + 26, m + 27, m + 28, m + 29, m + 30, m + 31, m + 32, m + 33, m + 34] [(m, 11), (m, 12), (m, 13), (m, 14), (m, 15), (m, 16), (m, 39), (m, 45), (m, 49)] S S' ∧ OUT m s S S' ∧ WMN m S S' ∧ (FLT m S' ∨ DRA m s t S'))) (0) (0)) 0 0 S 114 [some (.ref m), none] [] := by
    refine V_aload_0 114 dX12_tell_114 ?_
    refine V_getR 115 (c := 12) 23 (F.r 0 23 11 rfl) dX12_tell_115 fl_RX12_49 (F.m 0 (Nat.le_of_ble_eq_true rfl)) (F.k 0 12 rfl) (Nat.le_of_ble_eq_true rfl) (Nat.le_of_ble_eq_true rfl) rfl ?_
    refine V_aload_0 118 dX12_tell_118 ?_
    refine V_getI 119 (c := 12) 19 dX12_tell_119 fl_RX12_267 (F.m 0 (Nat.le_of_ble_eq_true rfl)) (F.k 0 12 rfl) (Nat.le_of_ble_eq_true rfl) (Nat.le_of_ble_eq_true rfl) rfl ?_
    rw [es]
    refine V_iaload2 122 dX12_tell_122 (F.m 11 (Nat.le_of_ble_eq_true rfl)) (F.k 11 14 rfl) (F.l 11 2 rfl) ?_ ?_
    · exact vp_in_nI (by omega) (by decide)
    rw [nI_clamp (by omega), eK]
    refine V_bipush 123 (6) dX12_tell_123 (by decide) ?_
    refine V_icmp_le 125 133 dX12_tell_125 (by decide) (fun c1 => ?_) (fun c1 => ?_)
    · have c2 := (nI_leE (Eq.refl (nI K)) (show (6 : Int32) = nI 6 from rfl) (by omega) (by omega)).mp c1
      exact TH2 (by omega)
    ·
      refine V_aload_0 128 dX12_tell_128 ?_
      refine V_iconst 129 (2) dX12_tell_129 (by decide) ?_
      refine V_callV 130 (ci := 12) [.int _] _ (s_mfail M.2.1 Γ S F h.2.2.1 h.2.2.2.1 _ (by decide)) dX12_tell_130 cb_X12_fail ml_RX12_249 im_yX12_fail se_yX12_fail (F.m 0 (Nat.le_of_ble_eq_true rfl)) (F.k 0 12 rfl) (Nat.le_of_ble_eq_true rfl) ⟨(Nat.le_of_ble_eq_true rfl), (Nat.le_of_ble_eq_true rfl)⟩ rfl rfl (Nat.le_of_ble_eq_true rfl) ⟨(Nat.le_of_ble_eq_true rfl), (Nat.le_of_ble_eq_true rfl)⟩ (RV.go (fun S2 k2 => ?_))
      have q2 := FE S2 k2.1 k2.2
      have F2 := F.ss k2.1.1
      refine V_aload_0 133 dX12_tell_133 ?_
      refine V_getI 134 (c := 12) 13 dX12_tell_134 fl_RX12_234 (F2.m 0 (Nat.le_of_ble_eq_true rfl)) (F2.k 0 12 rfl) (Nat.le_of_ble_eq_true rfl) (Nat.le_of_ble_eq_true rfl) rfl ?_
      refine V_if_ne 137 370 dX12_tell_137 (by decide) (fun _ => ?_) (fun q => absurd q q2.no)
      exact J370 S2 _ (fro S2 k2.1 q2).1 (fro S2 k2.1 q2).2.1 (WMN.fz k2.1 (by simp)) (Or.inl q2)
  have J148 : V M Γ (2, RX12, "tell", none, RM (6) (0) (0)) cX12_tell (RQ M Γ (RV (fun S' => FZ [m + 8, m + 10, m + 11, m + 12, m + 13, m + 14, m + 15, m + 16, m + 17, m + 18, m + 19, m + 20, m + 21, m + 22, m + 23, m + 24, m + 25, m + 26, m + 27, m + 28, m + 29, m + 30, m + 31, m + 32, m + 33, m + 34] [(m, 11), (m, 12), (m, 13), (m, 14), (m, 15), (m, 16), (m, 39), (m, 45), (m, 49)] S S' ∧ OUT m s S S' ∧ WMN m S S' ∧ (FLT m S' ∨ DRA m s t S'))) (0) (0)) 0 0 S 148 [some (.ref m), none] [] := by
    refine V_aload_0 148 dX12_tell_148 ?_
    refine V_getR 149 (c := 12) 28 (F.r 0 28 16 rfl) dX12_tell_149 fl_RX12_64 (F.m 0 (Nat.le_of_ble_eq_true rfl)) (F.k 0 12 rfl) (Nat.le_of_ble_eq_true rfl) (Nat.le_of_ble_eq_true rfl) rfl ?_
    refine V_aload_0 152 dX12_tell_152 ?_
    refine V_getI 153 (c := 12) 19 dX12_tell_153 fl_RX12_267 (F.m 0 (Nat.le_of_ble_eq_true rfl)) (F.k 0 12 rfl) (Nat.le_of_ble_eq_true rfl) (Nat.le_of_ble_eq_true rfl) rfl ?_
    rw [es]
    refine V_iaload2 156 dX12_tell_156 (F.m 16 (Nat.le_of_ble_eq_true rfl)) (F.k 16 14 rfl) (F.l 16 2 rfl) ?_ ?_
    · exact vp_in_nI (by omega) (by decide)
    refine V_bipush 157 (15) dX12_tell_157 (by decide) ?_
    refine V_icmp_ne 159 167 dX12_tell_159 (by decide) (fun c1 => ?_) (fun c1 => ?_)
    ·
      refine V_aload_0 167 dX12_tell_167 ?_
      refine V_getI 168 (c := 12) 13 dX12_tell_168 fl_RX12_234 (F.m 0 (Nat.le_of_ble_eq_true rfl)) (F.k 0 12 rfl) (Nat.le_of_ble_eq_true rfl) (Nat.le_of_ble_eq_true rfl) rfl ?_
      refine V_if_ne 171 370 dX12_tell_171 (by decide) (fun q => absurd h.1 q) (fun _ => ?_)
      refine V_aload_0 174 dX12_tell_174 ?_
      refine V_callV 175 (ci := 12) [] _ (s_mtellLike M.2.1 Γ S F es hs eM (by omega) h) dX12_tell_175 cb_X12_tellLike ml_RX12_288 im_yX12_tellLike se_yX12_tellLike (F.m 0 (Nat.le_of_ble_eq_true rfl)) (F.k 0 12 rfl) (Nat.le_of_ble_eq_true rfl) ⟨(Nat.le_of_ble_eq_true rfl), (Nat.le_of_ble_eq_true rfl)⟩ rfl rfl (Nat.le_of_ble_eq_true rfl) ⟨(Nat.le_of_ble_eq_true rfl), (Nat.le_of_ble_eq_true rfl)⟩ (RV.go (fun S2 k2 => ?_))
      refine V_goto 178 370 dX12_tell_178 (by decide) ?_
      refine J370 S2 _ (k2.1.sub (by simp) (by simp)) (OUT.fz k2.1 (by simp) (fun o ho => by have h16 : o ≠ 16 := fun q => ho (by rw [q]; rfl); have h17 : o ≠ 17 := fun q => ho (by rw [q]; rfl); simp; omega)) k2.2.1 (k2.2.2.imp id (fun q => ?_))
      obtain ⟨t2, q1, q2⟩ := q
      exact ⟨K, u, b, c, t2, q1, q2, dx.fz k2.1 k2.2.1 (by simp [drX]) (by simp) (dx.2.2.2.2.2.2.2.2.2.1.fz k2.1 k2.2.1 (by simp)) (dx.2.2.2.2.2.2.2.2.2.2.fz k2.1 (by simp) (by simp)), dl.fz k2.1 (fun o a b => by simp; omega) (by simp) (by omega)⟩
    ·
      refine V_aload_0 162 dX12_tell_162 ?_
      refine V_iconst 163 (2) dX12_tell_163 (by decide) ?_
      refine V_callV 164 (ci := 12) [.int _] _ (s_mfail M.2.1 Γ S F h.2.2.1 h.2.2.2.1 _ (by decide)) dX12_tell_164 cb_X12_fail ml_RX12_249 im_yX12_fail se_yX12_fail (F.m 0 (Nat.le_of_ble_eq_true rfl)) (F.k 0 12 rfl) (Nat.le_of_ble_eq_true rfl) ⟨(Nat.le_of_ble_eq_true rfl), (Nat.le_of_ble_eq_true rfl)⟩ rfl rfl (Nat.le_of_ble_eq_true rfl) ⟨(Nat.le_of_ble_eq_true rfl), (Nat.le_of_ble_eq_true rfl)⟩ (RV.go (fun S2 k2 => ?_))
      have q2 := FE S2 k2.1 k2.2
      have F2 := F.ss k2.1.1
      refine V_aload_0 167 dX12_tell_167 ?_
      refine V_getI 168 (c := 12) 13 dX12_tell_168 fl_RX12_234 (F2.m 0 (Nat.le_of_ble_eq_true rfl)) (F2.k 0 12 rfl) (Nat.le_of_ble_eq_true rfl) (Nat.le_of_ble_eq_true rfl) rfl ?_
      refine V_if_ne 171 370 dX12_tell_171 (by decide) (fun _ => ?_) (fun q => absurd q q2.no)
      exact J370 S2 _ (fro S2 k2.1 q2).1 (fro S2 k2.1 q2).2.1 (WMN.fz k2.1 (by simp)) (Or.inl q2)
  have J181 : V M Γ (2, RX12, "tell", none, RM (6) (0) (0)) cX12_tell (RQ M Γ (RV (fun S' => FZ [m + 8, m + 10, m + 11, m + 12, m + 13, m + 14, m + 15, m + 16, m + 17, m + 18, m + 19, m + 20, m + 21, m + 22, m + 23, m + 24, m + 25, m + 26, m + 27, m + 28, m + 29, m + 30, m + 31, m + 32, m + 33, m + 34] [(m, 11), (m, 12), (m, 13), (m, 14), (m, 15), (m, 16), (m, 39), (m, 45), (m, 49)] S S' ∧ OUT m s S S' ∧ WMN m S S' ∧ (FLT m S' ∨ DRA m s t S'))) (0) (0)) 0 0 S 181 [some (.ref m), none] [] := by
    refine V_aload_0 181 dX12_tell_181 ?_
    refine V_callV 182 (ci := 12) [] _ (s_mgoesOn M.2.1 Γ S F h.2.2.1 h.2.2.2.1) dX12_tell_182 cb_X12_goesOn ml_RX12_255 im_yX12_goesOn se_yX12_goesOn (F.m 0 (Nat.le_of_ble_eq_true rfl)) (F.k 0 12 rfl) (Nat.le_of_ble_eq_true rfl) ⟨(Nat.le_of_ble_eq_true rfl), (Nat.le_of_ble_eq_true rfl)⟩ rfl rfl (Nat.le_of_ble_eq_true rfl) ⟨(Nat.le_of_ble_eq_true rfl), (Nat.le_of_ble_eq_true rfl)⟩ (RV.go (fun S1 k1 => ?_))
    have F1 := F.ss k1.1.1
    have g1 : FGX m c t S1 := FGX.go h k1.1 (by simp) (by simp) k1.2
    obtain ⟨t1, ht1, et1⟩ := g1.tt
    refine V_aload_0 185 dX12_tell_185 ?_
    refine V_getR 186 (c := 12) 30 (F1.r 0 30 18 rfl) dX12_tell_186 fl_RX12_70 (F1.m 0 (Nat.le_of_ble_eq_true rfl)) (F1.k 0 12 rfl) (Nat.le_of_ble_eq_true rfl) (Nat.le_of_ble_eq_true rfl) rfl ?_
    refine V_aload_0 189 dX12_tell_189 ?_
    refine V_getI 190 (c := 12) 19 dX12_tell_190 fl_RX12_267 (F1.m 0 (Nat.le_of_ble_eq_true rfl)) (F1.k 0 12 rfl) (Nat.le_of_ble_eq_true rfl) (Nat.le_of_ble_eq_true rfl) rfl ?_
    rw [(k1.1.2.2 m 19 (by simp)).trans es]
    refine V_aload_0 193 dX12_tell_193 ?_
    refine V_iconst 194 (0) dX12_tell_194 (by decide) ?_
    refine V_bipush 195 (99) dX12_tell_195 (by decide) ?_
    refine V_callV 197 (ci := 12) [.int _, .int _] _ (s_mbounded M.2.1 Γ S1 F1 et1 ht1 _ _) dX12_tell_197 cb_X12_bounded ml_RX12_291 im_yX12_bounded se_yX12_bounded (F1.m 0 (Nat.le_of_ble_eq_true rfl)) (F1.k 0 12 rfl) (Nat.le_of_ble_eq_true rfl) ⟨(Nat.le_of_ble_eq_true rfl), (Nat.le_of_ble_eq_true rfl)⟩ rfl rfl (Nat.le_of_ble_eq_true rfl) ⟨(Nat.le_of_ble_eq_true rfl), (Nat.le_of_ble_eq_true rfl)⟩ (RI.go (fun v S2 k2 => ?_))
    have F2 := F1.ss k2.1.1
    have g2 := g1.adv k2.2.2 ht1 et1 k2.1 (by simp) (by simp)
    refine V_iastore2 200 dX12_tell_200 (F2.m 18 (Nat.le_of_ble_eq_true rfl)) (F2.k 18 14 rfl) (F2.l 18 2 rfl) ?_ ?_
    · exact vp_in_nI (by omega) (by decide)
    rw [nI_clamp (by omega)]
    have eU : FZ [m + 18] [] S2 (uA S2 (m + 18) s v) := FZ.rf.uA (by simp)
    have oU : OUT m s S2 (uA S2 (m + 18) s v) := OUT.wr0 rfl
    have uR : sA (uA S2 (m + 18) s v) (m + 18) s = v := up2_s _ _ _ _
    generalize uA S2 (m + 18) s v = S3 at eU oU uR ⊢
    have F3 := F2.ss eU.1
    have g3 : FGX m c t S3 := g2.mv eU (by simp) (by simp) (by simp) (by simp)
    obtain ⟨t3, ht3, et3⟩ := g3.tt
    refine V_aload_0 201 dX12_tell_201 ?_
    refine V_iconst 202 (4) dX12_tell_202 (by decide) ?_
    refine V_callV 203 (ci := 12) [.int _] _ (s_mmust M.2.1 Γ S3 F3 et3 ht3 _) dX12_tell_203 cb_X12_must ml_RX12_295 im_yX12_must se_yX12_must (F3.m 0 (Nat.le_of_ble_eq_true rfl)) (F3.k 0 12 rfl) (Nat.le_of_ble_eq_true rfl) ⟨(Nat.le_of_ble_eq_true rfl), (Nat.le_of_ble_eq_true rfl)⟩ rfl rfl (Nat.le_of_ble_eq_true rfl) ⟨(Nat.le_of_ble_eq_true rfl), (Nat.le_of_ble_eq_true rfl)⟩ (RV.go (fun S4 k4 => ?_))
    refine V_goto 206 370 dX12_tell_206 (by decide) ?_
    have g4 := g3.adv k4.2 ht3 et3 k4.1 (by simp) (by simp)
    have e4 : FZ [m + 18] [(m, 11), (m, 13), (m, 14), (m, 15), (m, 16)] S S4 := (((k1.1.sub (by simp) (by simp)).tr (k2.1.sub (by simp) (by simp))).tr (eU.sub (by simp) (by simp))).tr (k4.1.sub (by simp) (by simp))
    have w4 : WMN m S S4 := (((WMN.fz k1.1 (by simp)).tr k2.2.1).tr (WMN.fz eU (by simp))).tr (WMN.fz k4.1 (by simp))
    have o4 : OUT m s S S4 := (((OUT.fz k1.1 (by simp) (fun _ _ => by simp)).tr (OUT.fz k2.1 (by simp) (fun _ _ => by simp))).tr oU).tr (OUT.fz k4.1 (by simp) (fun _ _ => by simp))
    refine J370 S4 _ (e4.sub (by simp) (by simp)) o4 w4 ?_
    rcases g4 with q | ⟨t2, q1, q2⟩
    · exact Or.inl q
    · refine Or.inr ⟨K, u, b, c, t2, q1, q2, dx.fz e4 w4 (by simp [drX]) (by simp) (dx.2.2.2.2.2.2.2.2.2.1.fz e4 w4 (by simp)) (dx.2.2.2.2.2.2.2.2.2.2.fz e4 (by simp) (by simp)), dl.fz e4 (fun o a b => by simp; omega) (by simp) (by omega)⟩
  have J209 : V M Γ (2, RX12, "tell", none, RM (6) (0) (0)) cX12_tell (RQ M Γ (RV (fun S' => FZ [m + 8, m + 10, m + 11, m + 12, m + 13, m + 14, m + 15, m + 16, m + 17, m + 18, m + 19, m + 20, m + 21, m + 22, m + 23, m + 24, m + 25, m + 26, m + 27, m + 28, m + 29, m + 30, m + 31, m + 32, m + 33, m + 34] [(m, 11), (m, 12), (m, 13), (m, 14), (m, 15), (m, 16), (m, 39), (m, 45), (m, 49)] S S' ∧ OUT m s S S' ∧ WMN m S S' ∧ (FLT m S' ∨ DRA m s t S'))) (0) (0)) 0 0 S 209 [some (.ref m), none] [] := by
    refine V_aload_0 209 dX12_tell_209 ?_
    refine V_callV 210 (ci := 12) [] _ (s_mgoesOn M.2.1 Γ S F h.2.2.1 h.2.2.2.1) dX12_tell_210 cb_X12_goesOn ml_RX12_255 im_yX12_goesOn se_yX12_goesOn (F.m 0 (Nat.le_of_ble_eq_true rfl)) (F.k 0 12 rfl) (Nat.le_of_ble_eq_true rfl) ⟨(Nat.le_of_ble_eq_true rfl), (Nat.le_of_ble_eq_true rfl)⟩ rfl rfl (Nat.le_of_ble_eq_true rfl) ⟨(Nat.le_of_ble_eq_true rfl), (Nat.le_of_ble_eq_true rfl)⟩ (RV.go (fun S1 k1 => ?_))
    have F1 := F.ss k1.1.1
    have g1 : FGX m c t S1 := FGX.go h k1.1 (by simp) (by simp) k1.2
    obtain ⟨t1, ht1, et1⟩ := g1.tt
    refine V_aload_0 213 dX12_tell_213 ?_
    refine V_getR 214 (c := 12) 31 (F1.r 0 31 19 rfl) dX12_tell_214 fl_RX12_73 (F1.m 0 (Nat.le_of_ble_eq_true rfl)) (F1.k 0 12 rfl) (Nat.le_of_ble_eq_true rfl) (Nat.le_of_ble_eq_true rfl) rfl ?_
    refine V_aload_0 217 dX12_tell_217 ?_
    refine V_getI 218 (c := 12) 19 dX12_tell_218 fl_RX12_267 (F1.m 0 (Nat.le_of_ble_eq_true rfl)) (F1.k 0 12 rfl) (Nat.le_of_ble_eq_true rfl) (Nat.le_of_ble_eq_true rfl) rfl ?_
    rw [(k1.1.2.2 m 19 (by simp)).trans es]
    refine V_aload_0 221 dX12_tell_221 ?_
    refine V_iconst 222 (1) dX12_tell_222 (by decide) ?_
    refine V_bipush 223 (18) dX12_tell_223 (by decide) ?_
    refine V_callV 225 (ci := 12) [.int _, .int _] _ (s_mbounded M.2.1 Γ S1 F1 et1 ht1 _ _) dX12_tell_225 cb_X12_bounded ml_RX12_291 im_yX12_bounded se_yX12_bounded (F1.m 0 (Nat.le_of_ble_eq_true rfl)) (F1.k 0 12 rfl) (Nat.le_of_ble_eq_true rfl) ⟨(Nat.le_of_ble_eq_true rfl), (Nat.le_of_ble_eq_true rfl)⟩ rfl rfl (Nat.le_of_ble_eq_true rfl) ⟨(Nat.le_of_ble_eq_true rfl), (Nat.le_of_ble_eq_true rfl)⟩ (RI.go (fun v S2 k2 => ?_))
    have F2 := F1.ss k2.1.1
    have g2 := g1.adv k2.2.2 ht1 et1 k2.1 (by simp) (by simp)
    refine V_iastore2 228 dX12_tell_228 (F2.m 19 (Nat.le_of_ble_eq_true rfl)) (F2.k 19 14 rfl) (F2.l 19 2 rfl) ?_ ?_
    · exact vp_in_nI (by omega) (by decide)
    rw [nI_clamp (by omega)]
    have eU : FZ [m + 19] [] S2 (uA S2 (m + 19) s v) := FZ.rf.uA (by simp)
    have oU : OUT m s S2 (uA S2 (m + 19) s v) := OUT.wr (w := 1) rfl (by omega) (by omega)
    have uR : sA (uA S2 (m + 19) s v) (m + 19) s = v := up2_s _ _ _ _
    generalize uA S2 (m + 19) s v = S3 at eU oU uR ⊢
    have F3 := F2.ss eU.1
    have g3 : FGX m c t S3 := g2.mv eU (by simp) (by simp) (by simp) (by simp)
    obtain ⟨t3, ht3, et3⟩ := g3.tt
    refine V_aload_0 229 dX12_tell_229 ?_
    refine V_iconst 230 (4) dX12_tell_230 (by decide) ?_
    refine V_callV 231 (ci := 12) [.int _] _ (s_mmust M.2.1 Γ S3 F3 et3 ht3 _) dX12_tell_231 cb_X12_must ml_RX12_295 im_yX12_must se_yX12_must (F3.m 0 (Nat.le_of_ble_eq_true rfl)) (F3.k 0 12 rfl) (Nat.le_of_ble_eq_true rfl) ⟨(Nat.le_of_ble_eq_true rfl), (Nat.le_of_ble_eq_true rfl)⟩ rfl rfl (Nat.le_of_ble_eq_true rfl) ⟨(Nat.le_of_ble_eq_true rfl), (Nat.le_of_ble_eq_true rfl)⟩ (RV.go (fun S4 k4 => ?_))
    refine V_goto 234 370 dX12_tell_234 (by decide) ?_
    have g4 := g3.adv k4.2 ht3 et3 k4.1 (by simp) (by simp)
    have e4 : FZ [m + 19] [(m, 11), (m, 13), (m, 14), (m, 15), (m, 16)] S S4 := (((k1.1.sub (by simp) (by simp)).tr (k2.1.sub (by simp) (by simp))).tr (eU.sub (by simp) (by simp))).tr (k4.1.sub (by simp) (by simp))
    have w4 : WMN m S S4 := (((WMN.fz k1.1 (by simp)).tr k2.2.1).tr (WMN.fz eU (by simp))).tr (WMN.fz k4.1 (by simp))
    have o4 : OUT m s S S4 := (((OUT.fz k1.1 (by simp) (fun _ _ => by simp)).tr (OUT.fz k2.1 (by simp) (fun _ _ => by simp))).tr oU).tr (OUT.fz k4.1 (by simp) (fun _ _ => by simp))
    refine J370 S4 _ (e4.sub (by simp) (by simp)) o4 w4 ?_
    rcases g4 with q | ⟨t2, q1, q2⟩
    · exact Or.inl q
    · refine Or.inr ⟨K, u, b, c, t2, q1, q2, dx.fz e4 w4 (by simp [drX]) (by simp) ?_ (dx.2.2.2.2.2.2.2.2.2.2.fz e4 (by simp) (by simp)), dl.fz e4 (fun o a b => by simp; omega) (by simp) (by omega)⟩
      intro z4
      have z3 : sI S3 m 15 = 0 := (k4.1.2.2 m 15 (by simp)).symm.trans z4
      have z2 : sI S2 m 15 = 0 := (eU.2.2 m 15 (by simp)).symm.trans z3
      have f13 : sI S3 m 13 = 0 := by
        rcases k4.2 with y | y
        · exact absurd (q2.1 ▸ y.1) (by decide)
        · exact y.1
      have f2 : sI S2 m 13 = 0 := (eU.2.2 m 13 (by simp)).symm.trans f13
      rcases k2.2.2 with y | y
      · exact absurd (f2 ▸ y.1) (by decide)
      · have hv := y.2.2.2.2.resolve_right (fun q => q z2)
        obtain ⟨n, hn, rfl⟩ := nI_of2 (M := 18) (n := 18) (by decide) (Int32.not_lt.mpr (Int32.le_trans (by decide) hv.1)) hv.2
        have n1 := (nI_leE (show (1 : Int32) = nI 1 from rfl) (Eq.refl (nI n)) (by omega) (by omega)).mp hv.1
        exact ⟨n, by rw [k4.1.2.1 (m + 19) (by simp)]; exact uR, n1, hn⟩
  have J320 : V M Γ (2, RX12, "tell", none, RM (6) (0) (0)) cX12_tell (RQ M Γ (RV (fun S' => FZ [m + 8, m + 10, m + 11, m + 12, m + 13, m + 14, m + 15, m + 16, m + 17, m + 18, m + 19, m + 20, m + 21, m + 22, m + 23, m + 24, m + 25, m + 26, m + 27, m + 28, m + 29, m + 30, m + 31, m + 32, m + 33, m + 34] [(m, 11), (m, 12), (m, 13), (m, 14), (m, 15), (m, 16), (m, 39), (m, 45), (m, 49)] S S' ∧ OUT m s S S' ∧ WMN m S S' ∧ (FLT m S' ∨ DRA m s t S'))) (0) (0)) 0 0 S 320 [some (.ref m), none] [] := by
    refine V_aload_0 320 dX12_tell_320 ?_
    refine V_callV 321 (ci := 12) [] _ (s_mgoesOn M.2.1 Γ S F h.2.2.1 h.2.2.2.1) dX12_tell_321 cb_X12_goesOn ml_RX12_255 im_yX12_goesOn se_yX12_goesOn (F.m 0 (Nat.le_of_ble_eq_true rfl)) (F.k 0 12 rfl) (Nat.le_of_ble_eq_true rfl) ⟨(Nat.le_of_ble_eq_true rfl), (Nat.le_of_ble_eq_true rfl)⟩ rfl rfl (Nat.le_of_ble_eq_true rfl) ⟨(Nat.le_of_ble_eq_true rfl), (Nat.le_of_ble_eq_true rfl)⟩ (RV.go (fun S1 k1 => ?_))
    have F1 := F.ss k1.1.1
    have g1 : FGX m c t S1 := FGX.go h k1.1 (by simp) (by simp) k1.2
    obtain ⟨t1, ht1, et1⟩ := g1.tt
    refine V_aload_0 324 dX12_tell_324 ?_
    refine V_getR 325 (c := 12) 36 (F1.r 0 36 24 rfl) dX12_tell_325 fl_RX12_88 (F1.m 0 (Nat.le_of_ble_eq_true rfl)) (F1.k 0 12 rfl) (Nat.le_of_ble_eq_true rfl) (Nat.le_of_ble_eq_true rfl) rfl ?_
    refine V_aload_0 328 dX12_tell_328 ?_
    refine V_getI 329 (c := 12) 19 dX12_tell_329 fl_RX12_267 (F1.m 0 (Nat.le_of_ble_eq_true rfl)) (F1.k 0 12 rfl) (Nat.le_of_ble_eq_true rfl) (Nat.le_of_ble_eq_true rfl) rfl ?_
    rw [(k1.1.2.2 m 19 (by simp)).trans es]
    refine V_aload_0 332 dX12_tell_332 ?_
    refine V_iconst 333 (0) dX12_tell_333 (by decide) ?_
    refine V_sipush 334 (9999) dX12_tell_334 (by decide) ?_
    refine V_callV 337 (ci := 12) [.int _, .int _] _ (s_mbounded M.2.1 Γ S1 F1 et1 ht1 _ _) dX12_tell_337 cb_X12_bounded ml_RX12_291 im_yX12_bounded se_yX12_bounded (F1.m 0 (Nat.le_of_ble_eq_true rfl)) (F1.k 0 12 rfl) (Nat.le_of_ble_eq_true rfl) ⟨(Nat.le_of_ble_eq_true rfl), (Nat.le_of_ble_eq_true rfl)⟩ rfl rfl (Nat.le_of_ble_eq_true rfl) ⟨(Nat.le_of_ble_eq_true rfl), (Nat.le_of_ble_eq_true rfl)⟩ (RI.go (fun v S2 k2 => ?_))
    have F2 := F1.ss k2.1.1
    have g2 := g1.adv k2.2.2 ht1 et1 k2.1 (by simp) (by simp)
    refine V_iastore2 340 dX12_tell_340 (F2.m 24 (Nat.le_of_ble_eq_true rfl)) (F2.k 24 14 rfl) (F2.l 24 2 rfl) ?_ ?_
    · exact vp_in_nI (by omega) (by decide)
    rw [nI_clamp (by omega)]
    have eU : FZ [m + 24] [] S2 (uA S2 (m + 24) s v) := FZ.rf.uA (by simp)
    have oU : OUT m s S2 (uA S2 (m + 24) s v) := OUT.wr0 rfl
    have uR : sA (uA S2 (m + 24) s v) (m + 24) s = v := up2_s _ _ _ _
    generalize uA S2 (m + 24) s v = S3 at eU oU uR ⊢
    have F3 := F2.ss eU.1
    have g3 : FGX m c t S3 := g2.mv eU (by simp) (by simp) (by simp) (by simp)
    obtain ⟨t3, ht3, et3⟩ := g3.tt
    refine V_aload_0 341 dX12_tell_341 ?_
    refine V_iconst 342 (4) dX12_tell_342 (by decide) ?_
    refine V_callV 343 (ci := 12) [.int _] _ (s_mmust M.2.1 Γ S3 F3 et3 ht3 _) dX12_tell_343 cb_X12_must ml_RX12_295 im_yX12_must se_yX12_must (F3.m 0 (Nat.le_of_ble_eq_true rfl)) (F3.k 0 12 rfl) (Nat.le_of_ble_eq_true rfl) ⟨(Nat.le_of_ble_eq_true rfl), (Nat.le_of_ble_eq_true rfl)⟩ rfl rfl (Nat.le_of_ble_eq_true rfl) ⟨(Nat.le_of_ble_eq_true rfl), (Nat.le_of_ble_eq_true rfl)⟩ (RV.go (fun S4 k4 => ?_))
    refine V_goto 346 370 dX12_tell_346 (by decide) ?_
    have g4 := g3.adv k4.2 ht3 et3 k4.1 (by simp) (by simp)
    have e4 : FZ [m + 24] [(m, 11), (m, 13), (m, 14), (m, 15), (m, 16)] S S4 := (((k1.1.sub (by simp) (by simp)).tr (k2.1.sub (by simp) (by simp))).tr (eU.sub (by simp) (by simp))).tr (k4.1.sub (by simp) (by simp))
    have w4 : WMN m S S4 := (((WMN.fz k1.1 (by simp)).tr k2.2.1).tr (WMN.fz eU (by simp))).tr (WMN.fz k4.1 (by simp))
    have o4 : OUT m s S S4 := (((OUT.fz k1.1 (by simp) (fun _ _ => by simp)).tr (OUT.fz k2.1 (by simp) (fun _ _ => by simp))).tr oU).tr (OUT.fz k4.1 (by simp) (fun _ _ => by simp))
    refine J370 S4 _ (e4.sub (by simp) (by simp)) o4 w4 ?_
    rcases g4 with q | ⟨t2, q1, q2⟩
    · exact Or.inl q
    · refine Or.inr ⟨K, u, b, c, t2, q1, q2, dx.fz e4 w4 (by simp [drX]) (by simp) (dx.2.2.2.2.2.2.2.2.2.1.fz e4 w4 (by simp)) (dx.2.2.2.2.2.2.2.2.2.2.fz e4 (by simp) (by simp)), dl.fz e4 (fun o a b => by simp; omega) (by simp) (by omega)⟩
  have J309 : V M Γ (2, RX12, "tell", none, RM (6) (0) (0)) cX12_tell (RQ M Γ (RV (fun S' => FZ [m + 8, m + 10, m + 11, m + 12, m + 13, m + 14, m + 15, m + 16, m + 17, m + 18, m + 19, m + 20, m + 21, m + 22, m + 23, m + 24, m + 25, m + 26, m + 27, m + 28, m + 29, m + 30, m + 31, m + 32, m + 33, m + 34] [(m, 11), (m, 12), (m, 13), (m, 14), (m, 15), (m, 16), (m, 39), (m, 45), (m, 49)] S S' ∧ OUT m s S S' ∧ WMN m S S' ∧ (FLT m S' ∨ DRA m s t S'))) (0) (0)) 0 0 S 309 [some (.ref m), none] [] := by
    refine V_aload_0 309 dX12_tell_309 ?_
    refine V_callV 310 (ci := 12) [] _ (s_mgoesOn M.2.1 Γ S F h.2.2.1 h.2.2.2.1) dX12_tell_310 cb_X12_goesOn ml_RX12_255 im_yX12_goesOn se_yX12_goesOn (F.m 0 (Nat.le_of_ble_eq_true rfl)) (F.k 0 12 rfl) (Nat.le_of_ble_eq_true rfl) ⟨(Nat.le_of_ble_eq_true rfl), (Nat.le_of_ble_eq_true rfl)⟩ rfl rfl (Nat.le_of_ble_eq_true rfl) ⟨(Nat.le_of_ble_eq_true rfl), (Nat.le_of_ble_eq_true rfl)⟩ (RV.go (fun S1 k1 => ?_))
    have F1 := F.ss k1.1.1
    have g1 : FGX m c t S1 := FGX.go h k1.1 (by simp) (by simp) k1.2
    refine V_aload_0 313 dX12_tell_313 ?_
    refine V_callV 314 (ci := 12) [] _ (s_mtellLine M.2.1 Γ S1 F1 ((k1.1.2.2 m 19 (by simp)).trans es) hs hK (by rw [k1.1.2.1 (m + 8) (by simp)]; exact eM) (by omega) (dx.2.2.2.2.2.2.2.1.fz k1.1 (by simp) (by simp)) g1) dX12_tell_314 cb_X12_tellLine ml_RX12_298 im_yX12_tellLine se_yX12_tellLine (F1.m 0 (Nat.le_of_ble_eq_true rfl)) (F1.k 0 12 rfl) (Nat.le_of_ble_eq_true rfl) ⟨(Nat.le_of_ble_eq_true rfl), (Nat.le_of_ble_eq_true rfl)⟩ rfl rfl (Nat.le_of_ble_eq_true rfl) ⟨(Nat.le_of_ble_eq_true rfl), (Nat.le_of_ble_eq_true rfl)⟩ (RV.go (fun S2 k2 => ?_))
    refine V_goto 317 370 dX12_tell_317 (by decide) ?_
    have e2 : FZ [m + 21, m + 22, m + 23] [(m, 11), (m, 13), (m, 14), (m, 15), (m, 16)] S S2 := (k1.1.sub (by simp) (by simp)).tr k2.1
    have w2 : WMN m S S2 := (WMN.fz k1.1 (by simp)).tr k2.2.1
    refine J370 S2 _ (e2.sub (by simp) (by simp)) ((OUT.fz k1.1 (by simp) (fun _ _ => by simp)).tr k2.2.2.1) w2 (k2.2.2.2.imp id (fun q => ?_))
    obtain ⟨t2, q1, q2, q3⟩ := q
    exact ⟨K, u, b, c, t2, q1, q2, dx.fz e2 w2 (by simp [drX]) (by simp) (dx.2.2.2.2.2.2.2.2.2.1.fz e2 w2 (by simp)) q3, dl.fz e2 (fun o a b => by simp; omega) (by simp) (by omega)⟩
  have J349 : V M Γ (2, RX12, "tell", none, RM (6) (0) (0)) cX12_tell (RQ M Γ (RV (fun S' => FZ [m + 8, m + 10, m + 11, m + 12, m + 13, m + 14, m + 15, m + 16, m + 17, m + 18, m + 19, m + 20, m + 21, m + 22, m + 23, m + 24, m + 25, m + 26, m + 27, m + 28, m + 29, m + 30, m + 31, m + 32, m + 33, m + 34] [(m, 11), (m, 12), (m, 13), (m, 14), (m, 15), (m, 16), (m, 39), (m, 45), (m, 49)] S S' ∧ OUT m s S S' ∧ WMN m S S' ∧ (FLT m S' ∨ DRA m s t S'))) (0) (0)) 0 0 S 349 [some (.ref m), none] [] := by
    refine V_aload_0 349 dX12_tell_349 ?_
    refine V_callV 350 (ci := 12) [] _ (s_mgoesOn M.2.1 Γ S F h.2.2.1 h.2.2.2.1) dX12_tell_350 cb_X12_goesOn ml_RX12_255 im_yX12_goesOn se_yX12_goesOn (F.m 0 (Nat.le_of_ble_eq_true rfl)) (F.k 0 12 rfl) (Nat.le_of_ble_eq_true rfl) ⟨(Nat.le_of_ble_eq_true rfl), (Nat.le_of_ble_eq_true rfl)⟩ rfl rfl (Nat.le_of_ble_eq_true rfl) ⟨(Nat.le_of_ble_eq_true rfl), (Nat.le_of_ble_eq_true rfl)⟩ (RV.go (fun S1 k1 => ?_))
    have F1 := F.ss k1.1.1
    have g1 : FGX m c t S1 := FGX.go h k1.1 (by simp) (by simp) k1.2
    obtain ⟨t1, ht1, et1⟩ := g1.tt
    refine V_aload_0 353 dX12_tell_353 ?_
    refine V_iconst 354 (5) dX12_tell_354 (by decide) ?_
    refine V_callV 355 (ci := 12) [.int _] _ (s_mmust M.2.1 Γ S1 F1 et1 ht1 _) dX12_tell_355 cb_X12_must ml_RX12_295 im_yX12_must se_yX12_must (F1.m 0 (Nat.le_of_ble_eq_true rfl)) (F1.k 0 12 rfl) (Nat.le_of_ble_eq_true rfl) ⟨(Nat.le_of_ble_eq_true rfl), (Nat.le_of_ble_eq_true rfl)⟩ rfl rfl (Nat.le_of_ble_eq_true rfl) ⟨(Nat.le_of_ble_eq_true rfl), (Nat.le_of_ble_eq_true rfl)⟩ (RV.go (fun S2 k2 => ?_))
    have F2 := F1.ss k2.1.1
    have e2 : FZ [] [(m, 11), (m, 13), (m, 14)] S S2 := k1.1.tr k2.1
    have g2 : FLT m S2 ∨ GD m c (t + 2) S2 := by
      rcases k1.2 with y | y
      · exact Or.inl (ADV.flt ⟨y.1, t, h400, y.2⟩ k2.2 ht1)
      · rcases ADV.fg (c := c) (t := t + 1) (Or.inr ⟨y.1.trans h.1, (k1.1.2.2 m 12 (by simp)).trans h.2.1, y.2.2, by omega, (k1.1.2.2 m 45 (by simp)).trans h.2.2.2.2⟩) k2.2 ht1 et1 k2.1 (by simp) (by simp) with q | ⟨-, q, -⟩
        · exact Or.inl q
        · exact Or.inr q
    refine V_aload_0 358 dX12_tell_358 ?_
    refine V_callV 359 (ci := 12) [] _ (s_mtellLaw M.2.1 Γ S2 F2 (b0 := b) (c0 := c) (t0 := t + 2) ((e2.2.2 m 19 (by simp)).trans es) hs ((e2.2.2 m 39 (by simp)).trans dl.1) hb1 (by omega) hc1 (by omega) g2) dX12_tell_359 cb_X12_tellLaw ml_RX12_301 im_yX12_tellLaw se_yX12_tellLaw (F2.m 0 (Nat.le_of_ble_eq_true rfl)) (F2.k 0 12 rfl) (Nat.le_of_ble_eq_true rfl) ⟨(Nat.le_of_ble_eq_true rfl), (Nat.le_of_ble_eq_true rfl)⟩ rfl rfl (Nat.le_of_ble_eq_true rfl) ⟨(Nat.le_of_ble_eq_true rfl), (Nat.le_of_ble_eq_true rfl)⟩ (RV.go (fun S3 k3 => ?_))
    refine V_goto 362 370 dX12_tell_362 (by decide) ?_
    have e3 : FZ [m + 25, m + 26, m + 27, m + 28, m + 29, m + 30, m + 31, m + 32, m + 33, m + 34] [(m, 11), (m, 12), (m, 13), (m, 14), (m, 39), (m, 45), (m, 49)] S S3 := (e2.sub (by simp) (by simp)).tr k3.1
    have w3 : WMN m S S3 := (WMN.fz e2 (by simp)).tr (WMN.fz k3.1 (by simp))
    have o3 : OUT m s S2 S3 := OUT.fz2 k3.1 (by simp) (fun o ho hm i hi => by
      have ho2 : 25 ≤ o ∧ o ≤ 34 := by
        simp at hm; omega
      by_cases c1 : o = 25
      · subst c1; exact (k3.2.2.2.1 i (by rw [show wd 25 = 1 from rfl] at hi; omega)).1
      · by_cases c2 : o = 26
        · subst c2; exact (k3.2.2.2.1 i (by rw [show wd 26 = 1 from rfl] at hi; omega)).2
        · by_cases c3 : o ≤ 31
          · have hw : wd o = 130 := by
              rcases (show o = 27 ∨ o = 28 ∨ o = 29 ∨ o = 30 ∨ o = 31 by omega) with q | q | q | q | q <;> subst q <;> rfl
            rw [hw] at hi
            exact k3.2.2.1 o (by omega) c3 i (by omega)
          · by_cases c4 : o = 32
            · subst c4; exact (k3.2.1 i (by rw [show wd 32 = 420 from rfl] at hi; omega)).1
            · by_cases c5 : o = 33
              · subst c5; exact (k3.2.1 i (by rw [show wd 33 = 420 from rfl] at hi; omega)).2
              · have c6 : o = 34 := by omega
                subst c6; exact absurd rfl ho)
    refine J370 S3 _ (e3.sub (by simp) (by simp)) ((OUT.fz e2 (by simp) (fun _ _ => by simp)).tr o3) w3 (k3.2.2.2.2.imp id (fun q => ?_))
    obtain ⟨b2, c2, t2, q1, q2, q3, q4, q5, q6, q7, q8, q9⟩ := q
    exact ⟨K, u, b2, c2, t2, by omega, q1, dx.fz e3 w3 (by simp [drX]) (by simp) (dx.2.2.2.2.2.2.2.2.2.1.fz e3 w3 (by simp)) (dx.2.2.2.2.2.2.2.2.2.2.fz e3 (by simp) (by simp)), q2, by omega, by omega, by omega, by omega, b, b2, q7, q8, q3, fun _ => hb1, Nat.le_refl _, q9⟩
  have J237 : V M Γ (2, RX12, "tell", none, RM (6) (0) (0)) cX12_tell (RQ M Γ (RV (fun S' => FZ [m + 8, m + 10, m + 11, m + 12, m + 13, m + 14, m + 15, m + 16, m + 17, m + 18, m + 19, m + 20, m + 21, m + 22, m + 23, m + 24, m + 25, m + 26, m + 27, m + 28, m + 29, m + 30, m + 31, m + 32, m + 33, m + 34] [(m, 11), (m, 12), (m, 13), (m, 14), (m, 15), (m, 16), (m, 39), (m, 45), (m, 49)] S S' ∧ OUT m s S S' ∧ WMN m S S' ∧ (FLT m S' ∨ DRA m s t S'))) (0) (0)) 0 0 S 237 [some (.ref m), none] [] := by
    refine V_aload_0 237 dX12_tell_237 ?_
    refine V_callV 238 (ci := 12) [] _ (s_mgoesOn M.2.1 Γ S F h.2.2.1 h.2.2.2.1) dX12_tell_238 cb_X12_goesOn ml_RX12_255 im_yX12_goesOn se_yX12_goesOn (F.m 0 (Nat.le_of_ble_eq_true rfl)) (F.k 0 12 rfl) (Nat.le_of_ble_eq_true rfl) ⟨(Nat.le_of_ble_eq_true rfl), (Nat.le_of_ble_eq_true rfl)⟩ rfl rfl (Nat.le_of_ble_eq_true rfl) ⟨(Nat.le_of_ble_eq_true rfl), (Nat.le_of_ble_eq_true rfl)⟩ (RV.go (fun S1 k1 => ?_))
    have F1 := F.ss k1.1.1
    have g1 : FGX m c t S1 := FGX.go h k1.1 (by simp) (by simp) k1.2
    obtain ⟨t1, ht1, et1⟩ := g1.tt
    have es1 : sI S1 m 19 = nI s := (k1.1.2.2 m 19 (by simp)).trans es
    have J279 : ∀ (U : PS) (v : Int32), FZ [] [(m, 11), (m, 13), (m, 14)] S U → FGX m c t U → V M Γ (2, RX12, "tell", none, RM (6) (0) (0)) cX12_tell (RQ M Γ (RV (fun S' => FZ [m + 8, m + 10, m + 11, m + 12, m + 13, m + 14, m + 15, m + 16, m + 17, m + 18, m + 19, m + 20, m + 21, m + 22, m + 23, m + 24, m + 25, m + 26, m + 27, m + 28, m + 29, m + 30, m + 31, m + 32, m + 33, m + 34] [(m, 11), (m, 12), (m, 13), (m, 14), (m, 15), (m, 16), (m, 39), (m, 45), (m, 49)] S S' ∧ OUT m s S S' ∧ WMN m S S' ∧ (FLT m S' ∨ DRA m s t S'))) (0) (0)) 0 0 U 279 [some (.ref m), some (.int v)] [] := by
      intro U v e g
      have FU9 := F.ss e.1
      obtain ⟨tu, htu, etu⟩ := g.tt
      refine V_aload_0 279 dX12_tell_279 ?_
      refine V_getI 280 (c := 12) 13 dX12_tell_280 fl_RX12_234 (FU9.m 0 (Nat.le_of_ble_eq_true rfl)) (FU9.k 0 12 rfl) (Nat.le_of_ble_eq_true rfl) (Nat.le_of_ble_eq_true rfl) rfl ?_
      rcases g with qq | ⟨t2, ht2, g⟩
      ·
        refine V_if_le 283 287 dX12_tell_283 (by decide) (fun q => absurd q (Int32.not_le.mpr qq.1)) (fun _ => ?_)
        refine V_vret 286 dX12_tell_286 rfl (Nat.le_of_ble_eq_true rfl) (Nat.le_of_ble_eq_true rfl) (RV.mk ⟨e.sub (by simp) (by simp), OUT.fz e (by simp) (fun _ _ => by simp), WMN.fz e (by simp), Or.inl qq⟩)
      · rw [g.1]
        refine V_if_le 283 287 dX12_tell_283 (by decide) (fun _ => ?_) (fun q => absurd (by decide) q)
        refine V_aload_0 287 dX12_tell_287 ?_
        refine V_getR 288 (c := 12) 32 (FU9.r 0 32 20 rfl) dX12_tell_288 fl_RX12_76 (FU9.m 0 (Nat.le_of_ble_eq_true rfl)) (FU9.k 0 12 rfl) (Nat.le_of_ble_eq_true rfl) (Nat.le_of_ble_eq_true rfl) rfl ?_
        refine V_aload_0 291 dX12_tell_291 ?_
        refine V_getI 292 (c := 12) 19 dX12_tell_292 fl_RX12_267 (FU9.m 0 (Nat.le_of_ble_eq_true rfl)) (FU9.k 0 12 rfl) (Nat.le_of_ble_eq_true rfl) (Nat.le_of_ble_eq_true rfl) rfl ?_
        rw [(e.2.2 m 19 (by simp)).trans es]
        refine V_iload_1 295 dX12_tell_295 ?_
        refine V_iastore2 296 dX12_tell_296 (FU9.m 20 (Nat.le_of_ble_eq_true rfl)) (FU9.k 20 14 rfl) (FU9.l 20 2 rfl) ?_ ?_
        · exact vp_in_nI (by omega) (by decide)
        rw [nI_clamp (by omega)]
        have eU : FZ [m + 20] [] U (uA U (m + 20) s v) := FZ.rf.uA (by simp)
        have oU : OUT m s U (uA U (m + 20) s v) := OUT.wr0 rfl
        generalize uA U (m + 20) s v = S3 at eU oU ⊢
        have F3 := FU9.ss eU.1
        have g3 : GD m c t2 S3 := g.mv eU (by simp) (by simp) (by simp) (by simp)
        refine V_aload_0 297 dX12_tell_297 ?_
        refine V_callV 298 (ci := 12) [] _ (s_mgoesOn M.2.1 Γ S3 F3 g3.2.2.1 g3.2.2.2.1) dX12_tell_298 cb_X12_goesOn ml_RX12_255 im_yX12_goesOn se_yX12_goesOn (F3.m 0 (Nat.le_of_ble_eq_true rfl)) (F3.k 0 12 rfl) (Nat.le_of_ble_eq_true rfl) ⟨(Nat.le_of_ble_eq_true rfl), (Nat.le_of_ble_eq_true rfl)⟩ rfl rfl (Nat.le_of_ble_eq_true rfl) ⟨(Nat.le_of_ble_eq_true rfl), (Nat.le_of_ble_eq_true rfl)⟩ (RV.go (fun S4 k4 => ?_))
        have F4 := F3.ss k4.1.1
        have g4 : FGX m c t2 S4 := FGX.go g3 k4.1 (by simp) (by simp) k4.2
        obtain ⟨t5, ht5, et5⟩ := g4.tt
        refine V_aload_0 301 dX12_tell_301 ?_
        refine V_iconst 302 (4) dX12_tell_302 (by decide) ?_
        refine V_callV 303 (ci := 12) [.int _] _ (s_mmust M.2.1 Γ S4 F4 et5 ht5 _) dX12_tell_303 cb_X12_must ml_RX12_295 im_yX12_must se_yX12_must (F4.m 0 (Nat.le_of_ble_eq_true rfl)) (F4.k 0 12 rfl) (Nat.le_of_ble_eq_true rfl) ⟨(Nat.le_of_ble_eq_true rfl), (Nat.le_of_ble_eq_true rfl)⟩ rfl rfl (Nat.le_of_ble_eq_true rfl) ⟨(Nat.le_of_ble_eq_true rfl), (Nat.le_of_ble_eq_true rfl)⟩ (RV.go (fun S5 k5 => ?_))
        refine V_goto 306 370 dX12_tell_306 (by decide) ?_
        have g5 := g4.adv k5.2 ht5 et5 k5.1 (by simp) (by simp)
        have e5 : FZ [m + 20] [(m, 11), (m, 13), (m, 14)] S S5 := (((e.sub (by simp) (by simp)).tr (eU.sub (by simp) (by simp))).tr (k4.1.sub (by simp) (by simp))).tr (k5.1.sub (by simp) (by simp))
        have w5 : WMN m S S5 := WMN.fz e5 (by simp)
        have o5 : OUT m s S S5 := (((OUT.fz e (by simp) (fun _ _ => by simp)).tr oU).tr (OUT.fz k4.1 (by simp) (fun _ _ => by simp))).tr (OUT.fz k5.1 (by simp) (fun _ _ => by simp))
        refine J370 S5 _ (e5.sub (by simp) (by simp)) o5 w5 (g5.imp id (fun q => ?_))
        obtain ⟨t6, q1, q2⟩ := q
        exact ⟨K, u, b, c, t6, by omega, q2, dx.fz e5 w5 (by simp [drX]) (by simp) (dx.2.2.2.2.2.2.2.2.2.1.fz e5 w5 (by simp)) (dx.2.2.2.2.2.2.2.2.2.2.fz e5 (by simp) (by simp)), dl.fz e5 (fun o a b => by simp; omega) (by simp) (by omega)⟩
    have J274 : ∀ (v : Int32), V M Γ (2, RX12, "tell", none, RM (6) (0) (0)) cX12_tell (RQ M Γ (RV (fun S' => FZ [m + 8, m + 10, m + 11, m + 12, m + 13, m + 14, m + 15, m + 16, m + 17, m + 18, m + 19, m + 20, m + 21, m + 22, m + 23, m + 24, m + 25, m + 26, m + 27, m + 28, m + 29, m + 30, m + 31, m + 32, m + 33, m + 34] [(m, 11), (m, 12), (m, 13), (m, 14), (m, 15), (m, 16), (m, 39), (m, 45), (m, 49)] S S' ∧ OUT m s S S' ∧ WMN m S S' ∧ (FLT m S' ∨ DRA m s t S'))) (0) (0)) 0 0 S1 274 [some (.ref m), some (.int v)] [] := by
      intro v
      refine V_aload_0 274 dX12_tell_274 ?_
      refine V_iconst 275 (1) dX12_tell_275 (by decide) ?_
      refine V_callV 276 (ci := 12) [.int _] _ (s_mfail M.2.1 Γ S1 F1 et1 ht1 _ (by decide)) dX12_tell_276 cb_X12_fail ml_RX12_249 im_yX12_fail se_yX12_fail (F1.m 0 (Nat.le_of_ble_eq_true rfl)) (F1.k 0 12 rfl) (Nat.le_of_ble_eq_true rfl) ⟨(Nat.le_of_ble_eq_true rfl), (Nat.le_of_ble_eq_true rfl)⟩ rfl rfl (Nat.le_of_ble_eq_true rfl) ⟨(Nat.le_of_ble_eq_true rfl), (Nat.le_of_ble_eq_true rfl)⟩ (RV.go (fun S2 k2 => ?_))
      exact J279 S2 v (k1.1.tr (k2.1.sub (by simp) (by simp))) (Or.inl ⟨k2.2, t1, ht1, (k2.1.2.2 m 11 (by simp)).trans et1⟩)
    have J264 : ∀ (v : Int32), V M Γ (2, RX12, "tell", none, RM (6) (0) (0)) cX12_tell (RQ M Γ (RV (fun S' => FZ [m + 8, m + 10, m + 11, m + 12, m + 13, m + 14, m + 15, m + 16, m + 17, m + 18, m + 19, m + 20, m + 21, m + 22, m + 23, m + 24, m + 25, m + 26, m + 27, m + 28, m + 29, m + 30, m + 31, m + 32, m + 33, m + 34] [(m, 11), (m, 12), (m, 13), (m, 14), (m, 15), (m, 16), (m, 39), (m, 45), (m, 49)] S S' ∧ OUT m s S S' ∧ WMN m S S' ∧ (FLT m S' ∨ DRA m s t S'))) (0) (0)) 0 0 S1 264 [some (.ref m), none] [.int v] := by
      intro v
      refine V_istore_1 264 dX12_tell_264 rfl (Nat.le_of_ble_eq_true rfl) ?_
      refine V_iload_1 265 dX12_tell_265 ?_
      refine V_if_lt 266 274 dX12_tell_266 (by decide) (fun c1 => ?_) (fun c1 => ?_)
      · exact J274 v
      ·
        refine V_iload_1 269 dX12_tell_269 ?_
        refine V_iconst 270 (3) dX12_tell_270 (by decide) ?_
        refine V_icmp_le 271 279 dX12_tell_271 (by decide) (fun c2 => ?_) (fun c2 => ?_)
        · exact J279 S1 v k1.1 g1
        · exact J274 v
    refine V_aload_0 241 dX12_tell_241 ?_
    refine V_getI 242 (c := 12) 13 dX12_tell_242 fl_RX12_234 (F1.m 0 (Nat.le_of_ble_eq_true rfl)) (F1.k 0 12 rfl) (Nat.le_of_ble_eq_true rfl) (Nat.le_of_ble_eq_true rfl) rfl ?_
    refine V_if_le 245 252 dX12_tell_245 (by decide) (fun c1 => ?_) (fun c1 => ?_)
    ·
      refine V_aload_0 252 dX12_tell_252 ?_
      refine V_getR 253 (c := 12) 5 (F1.r 0 5 3 rfl) dX12_tell_253 fl_RX12_20 (F1.m 0 (Nat.le_of_ble_eq_true rfl)) (F1.k 0 12 rfl) (Nat.le_of_ble_eq_true rfl) (Nat.le_of_ble_eq_true rfl) rfl ?_
      refine V_aload_0 256 dX12_tell_256 ?_
      refine V_getI 257 (c := 12) 11 dX12_tell_257 fl_RX12_237 (F1.m 0 (Nat.le_of_ble_eq_true rfl)) (F1.k 0 12 rfl) (Nat.le_of_ble_eq_true rfl) (Nat.le_of_ble_eq_true rfl) rfl ?_
      rw [et1]
      refine V_iaload2 260 dX12_tell_260 (F1.m 3 (Nat.le_of_ble_eq_true rfl)) (F1.k 3 14 rfl) (F1.l 3 403 rfl) ?_ ?_
      · exact vp_in_nI (by omega) (by decide)
      refine V_bipush 261 (26) dX12_tell_261 (by decide) ?_
      refine V_isub 263 dX12_tell_263 ?_
      exact J264 _
    ·
      refine V_iconst 248 (-1) dX12_tell_248 (by decide) ?_
      refine V_goto 249 264 dX12_tell_249 (by decide) ?_
      exact J264 _
  refine V_aload_0 0 dX12_tell_0 ?_
  refine V_getR 1 (c := 12) 5 (F.r 0 5 3 rfl) dX12_tell_1 fl_RX12_20 (F.m 0 (Nat.le_of_ble_eq_true rfl)) (F.k 0 12 rfl) (Nat.le_of_ble_eq_true rfl) (Nat.le_of_ble_eq_true rfl) rfl ?_
  refine V_aload_0 4 dX12_tell_4 ?_
  refine V_getI 5 (c := 12) 11 dX12_tell_5 fl_RX12_237 (F.m 0 (Nat.le_of_ble_eq_true rfl)) (F.k 0 12 rfl) (Nat.le_of_ble_eq_true rfl) (Nat.le_of_ble_eq_true rfl) rfl ?_
  rw [h.2.2.1]
  refine V_iaload2 8 dX12_tell_8 (F.m 3 (Nat.le_of_ble_eq_true rfl)) (F.k 3 14 rfl) (F.l 3 403 rfl) ?_ ?_
  · exact vp_in_nI (by omega) (by decide)
  refine V_tsw (20) (33) (fun q => ?_) (fun q => ?_)
  · refine V_tableOut 9 365 dX12_tell_9 q (by decide) ?_
    exact J365
  refine V_teq (20) (fun e => ?_) (fun e0 => ?_)
  · refine V_tableIn 9 80 (off := 71) dX12_tell_9 (by omega) (by omega) (by rw [e]; rfl) (by decide) ?_
    exact J80
  refine V_teq (21) (fun e => ?_) (fun e1 => ?_)
  · refine V_tableIn 9 114 (off := 105) dX12_tell_9 (by omega) (by omega) (by rw [e]; rfl) (by decide) ?_
    exact J114
  refine V_teq (22) (fun e => ?_) (fun e2 => ?_)
  · refine V_tableIn 9 148 (off := 139) dX12_tell_9 (by omega) (by omega) (by rw [e]; rfl) (by decide) ?_
    exact J148
  refine V_teq (23) (fun e => ?_) (fun e3 => ?_)
  · refine V_tableIn 9 181 (off := 172) dX12_tell_9 (by omega) (by omega) (by rw [e]; rfl) (by decide) ?_
    exact J181
  refine V_teq (24) (fun e => ?_) (fun e4 => ?_)
  · refine V_tableIn 9 209 (off := 200) dX12_tell_9 (by omega) (by omega) (by rw [e]; rfl) (by decide) ?_
    exact J209
  refine V_teq (25) (fun e => ?_) (fun e5 => ?_)
  · refine V_tableIn 9 237 (off := 228) dX12_tell_9 (by omega) (by omega) (by rw [e]; rfl) (by decide) ?_
    exact J237
  refine V_teq (26) (fun e => ?_) (fun e6 => ?_)
  · refine V_tableIn 9 365 (off := 356) dX12_tell_9 (by omega) (by omega) (by rw [e]; rfl) (by decide) ?_
    exact J365
  refine V_teq (27) (fun e => ?_) (fun e7 => ?_)
  · refine V_tableIn 9 365 (off := 356) dX12_tell_9 (by omega) (by omega) (by rw [e]; rfl) (by decide) ?_
    exact J365
  refine V_teq (28) (fun e => ?_) (fun e8 => ?_)
  · refine V_tableIn 9 365 (off := 356) dX12_tell_9 (by omega) (by omega) (by rw [e]; rfl) (by decide) ?_
    exact J365
  refine V_teq (29) (fun e => ?_) (fun e9 => ?_)
  · refine V_tableIn 9 365 (off := 356) dX12_tell_9 (by omega) (by omega) (by rw [e]; rfl) (by decide) ?_
    exact J365
  refine V_teq (30) (fun e => ?_) (fun e10 => ?_)
  · refine V_tableIn 9 309 (off := 300) dX12_tell_9 (by omega) (by omega) (by rw [e]; rfl) (by decide) ?_
    exact J309
  refine V_teq (31) (fun e => ?_) (fun e11 => ?_)
  · refine V_tableIn 9 365 (off := 356) dX12_tell_9 (by omega) (by omega) (by rw [e]; rfl) (by decide) ?_
    exact J365
  refine V_teq (32) (fun e => ?_) (fun e12 => ?_)
  · refine V_tableIn 9 320 (off := 311) dX12_tell_9 (by omega) (by omega) (by rw [e]; rfl) (by decide) ?_
    exact J320
  refine V_teq (33) (fun e => ?_) (fun e13 => ?_)
  · refine V_tableIn 9 349 (off := 340) dX12_tell_9 (by omega) (by omega) (by rw [e]; rfl) (by decide) ?_
    exact J349
  exact absurd (by omega) q

