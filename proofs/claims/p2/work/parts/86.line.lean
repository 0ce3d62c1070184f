/-! The reference's reading: a line -/
def D10 (m s K u : Nat) (S : PS) : Prop := ∀ i, i < u → ∃ q p, q < K ∧ p < K ∧ sA S (m + 10) (8 * s + i) = nI q ∧ sA S (m + 12) (8 * s + q) = nI p ∧ (p ≠ q → q + 1 < K)
def D22 (m s K : Nat) (S : PS) : Prop := ∃ n, n ≤ 18 ∧ sA S (m + 21) s = nI n ∧ ∀ i, i < n → ∃ k, k < K ∧ sA S (m + 22) (18 * s + i) = nI k
def L22 (m s K n : Nat) (S : PS) : Prop := ∀ i, i < n → i < 18 → ∃ k, k < K ∧ sA S (m + 22) (18 * s + i) = nI k
def FGL (m s K c t : Nat) (S : PS) : Prop := FLT m S ∨ ∃ t2, t < t2 ∧ GD m c t2 S ∧ D22 m s K S
theorem L22.fz {m s K n : Nat} {S S2 : PS} {X : List Nat} {Y : List (Nat × Nat)} (h : L22 m s K n S) (e : FZ X Y S S2) (hx : m + 22 ∉ X) : L22 m s K n S2 := fun i h1 h2 => by rw [e.2.1 _ hx]; exact h i h1 h2
theorem D10.fz {m s K u : Nat} {S S2 : PS} {X : List Nat} {Y : List (Nat × Nat)} (h : D10 m s K u S) (e : FZ X Y S S2) (hx : m + 10 ∉ X) (hx2 : m + 12 ∉ X) : D10 m s K u S2 := fun i h1 => by
  rw [e.2.1 _ hx, e.2.1 _ hx2]; exact h i h1
theorem OUT.f23 {m s : Nat} {S S2 : PS} {Y : List (Nat × Nat)} (e : FZ [m + 23] Y S S2) (hy : (m, 18) ∉ Y) : OUT m s S S2 := OUT.fz e hy (fun o ho q => by
  have h : m + o = m + 23 := List.mem_singleton.mp q
  have h2 : o = 23 := by omega
  exact ho (by rw [h2]; rfl))
set_option maxRecDepth 100000 in
set_option maxHeartbeats 8000000 in
theorem s_mtellLine (l : Launch) (Γ : GC) (S : PS) {m s K u c t : Nat} (F : isL lyModel Γ.2.2.2.2.1 S m) (es : sI S m 19 = nI s) (hs : s < 2) (hK : K ≤ 8) (eM : sA S (m + 8) s = nI u) (hM : u ≤ 8) (hD : D10 m s K u S) (h : FGX m c t S) : CT l Γ yX12_tellLine cX12_tellLine 7 none (4) (0) (0) [.ref m] S (RV (fun S' => FZ [m + 21, m + 22, m + 23] [(m, 11), (m, 13), (m, 14), (m, 15), (m, 16)] S S' ∧ WMN m S S' ∧ OUT m s S S' ∧ FGL m s K c t S')) := by
  refine CT.of RX12 "tellLine" [some (.ref m), none, none, none, none, none, none] (by decide +kernel) rfl rfl (Nat.le_of_ble_eq_true rfl) rfl (fun M hM => ?_)
  subst hM
  refine V_iconst 0 (0) dX12_tellLine_0 (by decide) ?_
  refine V_istore_1 1 dX12_tellLine_1 rfl (Nat.le_of_ble_eq_true rfl) ?_
  refine V_iconst 2 (0) dX12_tellLine_2 (by decide) ?_
  refine V_istore_2 3 dX12_tellLine_3 rfl (Nat.le_of_ble_eq_true rfl) ?_
  refine V_lvw (lv2 := [some (.ref m), some (.int 0), some (.int (nI 0)), none, none, none, none]) (by repeat (first | exact trivial | refine ⟨rfl, ?_⟩)) ?_
  refine V_while (α := Nat × PS) (fun z => 8 - z.1) (fun z => z.1 ≤ 8 ∧ FZ [m + 23] [] S z.2) (fun z => z.2) (fun z => [some (.ref m), some (.int 0), some (.int (nI z.1)), none, none, none, none]) (0, S) ⟨Nat.zero_le _, FZ.rf⟩ (fun z hz ih => ?_)
  obtain ⟨k, T⟩ := z
  obtain ⟨hk, e⟩ := hz
  dsimp only at hk e ih ⊢
  have FT9 := F.ss e.1
  refine V_iload_2 4 dX12_tellLine_4 ?_
  refine V_bipush 5 (8) dX12_tellLine_5 (by decide) ?_
  refine V_icmp_ge 7 23 dX12_tellLine_7 (by decide) (fun k1 => ?_) (fun k1 => ?_)
  rotate_left
  · have k2 := mt (nI_leE (show (8 : Int32) = nI 8 from rfl) (Eq.refl (nI k)) (by omega) (by omega)).mpr (fun q => k1 (by first | exact q | exact Int32.not_lt.mpr q))
    refine V_aload_0 10 dX12_tellLine_10 ?_
    refine V_getR 11 (c := 12) 35 (FT9.r 0 35 23 rfl) dX12_tellLine_11 fl_RX12_85 (FT9.m 0 (Nat.le_of_ble_eq_true rfl)) (FT9.k 0 12 rfl) (Nat.le_of_ble_eq_true rfl) (Nat.le_of_ble_eq_true rfl) rfl ?_
    refine V_iload_2 14 dX12_tellLine_14 ?_
    refine V_iconst 15 (0) dX12_tellLine_15 (by decide) ?_
    refine V_iastore2 16 dX12_tellLine_16 (FT9.m 23 (Nat.le_of_ble_eq_true rfl)) (FT9.k 23 14 rfl) (FT9.l 23 8 rfl) ?_ ?_
    · exact vp_in_nI (by omega) (by decide)
    refine V_iinc_2 17 (1) dX12_tellLine_17 (by decide) rfl (Nat.le_of_ble_eq_true rfl) ?_
    refine V_goto 20 4 dX12_tellLine_20 (by decide) ?_
    rw [nI_1]
    exact ih (k + 1, _) ⟨by dsimp only; omega, e.uA (by simp)⟩ (by dsimp only; omega)
  have e0 : FZ [m + 21, m + 22, m + 23] [(m, 11), (m, 13), (m, 14), (m, 15), (m, 16)] S T := e.sub (by simp) (by simp)
  have o0 : OUT m s S T := OUT.f23 e (by simp)
  have w0 : WMN m S T := WMN.fz e (by simp)
  have h0 : FGX m c t T := h.mv e (by simp) (by simp) (by simp) (by simp)
  clear ih k1
  obtain ⟨f0, hf0⟩ : ∃ f0 : Nat, f0 ≤ 402 ∧ ((FLT m T ∧ f0 = 0) ∨ ∃ t2, t < t2 ∧ GD m c t2 T ∧ f0 = 402 - t2) := by
    rcases h0 with q | ⟨t2, q1, q2⟩
    · exact ⟨0, by omega, Or.inl ⟨q, rfl⟩⟩
    · exact ⟨402 - t2, by omega, Or.inr ⟨t2, q1, q2, rfl⟩⟩
  refine V_while (α := Nat × Nat × PS × Option Value × Option Value × Option Value × Option Value × Option Value) (fun z => z.1) (fun z => z.2.1 + z.1 ≤ 402 ∧ FZ [m + 22, m + 23] [(m, 11), (m, 13), (m, 14), (m, 15), (m, 16)] S z.2.2.1 ∧ WMN m S z.2.2.1 ∧ OUT m s S z.2.2.1 ∧ L22 m s K z.2.1 z.2.2.1 ∧ ((FLT m z.2.2.1 ∧ z.1 = 0) ∨ ∃ t2, t < t2 ∧ GD m c t2 z.2.2.1 ∧ z.1 = 402 - t2)) (fun z => z.2.2.1) (fun z => [some (.ref m), some (.int (nI z.2.1)), z.2.2.2.1, z.2.2.2.2.1, z.2.2.2.2.2.1, z.2.2.2.2.2.2.1, z.2.2.2.2.2.2.2]) (f0, 0, T, some (.int (nI k)), none, none, none, none) ⟨by dsimp only; omega, e.sub (by simp) (by simp), w0, o0, fun i q => absurd q (Nat.not_lt_zero _), hf0.2⟩ (fun z hz ih => ?_)
  clear e0 o0 w0 h0 hf0 FT9 e hk
  obtain ⟨f, n, T, v2, v3, v4, v5, v6⟩ := z
  obtain ⟨hn, e, w, o, l22, hz⟩ := hz
  dsimp only at hn e w o l22 hz ih ⊢
  have FT9 := F.ss e.1
  have hz2 : FLT m T ∨ ∃ t2, t < t2 ∧ GD m c t2 T ∧ f = 402 - t2 := hz.imp (fun q => q.1) id
  have hz3 : FGX m c t T := hz2.imp id (fun ⟨t2, q1, q2, _⟩ => ⟨t2, q1, q2⟩)
  obtain ⟨tt, htt, ett⟩ := hz3.tt
  have es1 : sI T m 19 = nI s := (e.2.2 m 19 (by simp)).trans es
  have eM1 : sA T (m + 8) s = nI u := by rw [e.2.1 (m + 8) (by simp)]; exact eM
  have hD1 : D10 m s K u T := hD.fz e (by simp) (by simp)
  have J230 : ∀ (v2 v3 v4 v5 v6 : Option Value), V M Γ (7, RX12, "tellLine", none, RM (4) (0) (0)) cX12_tellLine (RQ M Γ (RV (fun S' => FZ [m + 21, m + 22, m + 23] [(m, 11), (m, 13), (m, 14), (m, 15), (m, 16)] S S' ∧ WMN m S S' ∧ OUT m s S S' ∧ FGL m s K c t S')) (0) (0)) 0 0 T 230 [some (.ref m), some (.int (nI n)), v2, v3, v4, v5, v6] [] := by
    intro v2 v3 v4 v5 v6
    refine V_aload_0 230 dX12_tellLine_230 ?_
    refine V_iconst 231 (4) dX12_tellLine_231 (by decide) ?_
    refine V_callV 232 (ci := 12) [.int _] _ (s_mmust M.2.1 Γ T FT9 ett htt _) dX12_tellLine_232 cb_X12_must ml_RX12_295 im_yX12_must se_yX12_must (FT9.m 0 (Nat.le_of_ble_eq_true rfl)) (FT9.k 0 12 rfl) (Nat.le_of_ble_eq_true rfl) ⟨(Nat.le_of_ble_eq_true rfl), (Nat.le_of_ble_eq_true rfl)⟩ rfl rfl (Nat.le_of_ble_eq_true rfl) ⟨(Nat.le_of_ble_eq_true rfl), (Nat.le_of_ble_eq_true rfl)⟩ (RV.go (fun S1 k1 => ?_))
    have F1 := FT9.ss k1.1.1
    have g1 := hz3.adv k1.2 htt ett k1.1 (by simp) (by simp)
    have l1 : L22 m s K n S1 := l22.fz k1.1 (by simp)
    have J255 : ∀ (r : Nat), r ≤ 18 → r ≤ n → V M Γ (7, RX12, "tellLine", none, RM (4) (0) (0)) cX12_tellLine (RQ M Γ (RV (fun S' => FZ [m + 21, m + 22, m + 23] [(m, 11), (m, 13), (m, 14), (m, 15), (m, 16)] S S' ∧ WMN m S S' ∧ OUT m s S S' ∧ FGL m s K c t S')) (0) (0)) 0 0 S1 255 [some (.ref m), some (.int (nI n)), v2, v3, v4, v5, v6] [.int (nI r), .int (nI s), .ref (m + 21)] := by
      intro r hr hr2
      refine V_iastore2 255 dX12_tellLine_255 (F1.m 21 (Nat.le_of_ble_eq_true rfl)) (F1.k 21 14 rfl) (F1.l 21 2 rfl) ?_ ?_
      · exact vp_in_nI (by omega) (by decide)
      rw [nI_clamp (by omega)]
      refine V_vret 256 dX12_tellLine_256 rfl (Nat.le_of_ble_eq_true rfl) (Nat.le_of_ble_eq_true rfl) (RV.mk ⟨((e.sub (by simp) (by simp)).tr (k1.1.sub (by simp) (by simp))).uA (by simp), w.tr ((WMN.fz k1.1 (by simp)).tr ⟨fun q => q, fun q => q⟩), (o.tr (OUT.fz k1.1 (by simp) (fun _ _ => by simp))).tr (OUT.wr (w := 1) rfl (by omega) (by omega)), ?_⟩)
      rcases g1 with q | ⟨t2, q1, q2⟩
      · exact Or.inl q
      · refine Or.inr ⟨t2, q1, q2, r, hr, up2_s _ _ _ _, fun i hi => ?_⟩
        obtain ⟨k, hk, ek⟩ := l1 i (by omega) (by omega)
        exact ⟨k, hk, (up2_a _ _ (by omega)).trans ek⟩
    refine V_aload_0 235 dX12_tellLine_235 ?_
    refine V_getR 236 (c := 12) 33 (F1.r 0 33 21 rfl) dX12_tellLine_236 fl_RX12_79 (F1.m 0 (Nat.le_of_ble_eq_true rfl)) (F1.k 0 12 rfl) (Nat.le_of_ble_eq_true rfl) (Nat.le_of_ble_eq_true rfl) rfl ?_
    refine V_aload_0 239 dX12_tellLine_239 ?_
    refine V_getI 240 (c := 12) 19 dX12_tellLine_240 fl_RX12_267 (F1.m 0 (Nat.le_of_ble_eq_true rfl)) (F1.k 0 12 rfl) (Nat.le_of_ble_eq_true rfl) (Nat.le_of_ble_eq_true rfl) rfl ?_
    rw [(k1.1.2.2 m 19 (by simp)).trans es1]
    refine V_iload_1 243 dX12_tellLine_243 ?_
    refine V_bipush 244 (18) dX12_tellLine_244 (by decide) ?_
    refine V_icmp_ge 246 253 dX12_tellLine_246 (by decide) (fun c1 => ?_) (fun c1 => ?_)
    ·
      have c2 := (nI_leE (show (18 : Int32) = nI 18 from rfl) (Eq.refl (nI n)) (by omega) (by omega)).mp (by first | exact c1 | exact Int32.not_lt.mp c1)
      refine V_bipush 253 (18) dX12_tellLine_253 (by decide) ?_
      exact J255 18 (by omega) c2
    ·
      have c2 := mt (nI_leE (show (18 : Int32) = nI 18 from rfl) (Eq.refl (nI n)) (by omega) (by omega)).mpr (fun q => c1 (by first | exact q | exact Int32.not_lt.mpr q))
      refine V_iload_1 249 dX12_tellLine_249 ?_
      refine V_goto 250 255 dX12_tellLine_250 (by decide) ?_
      exact J255 n (by omega) (Nat.le_refl _)
  refine V_aload_0 23 dX12_tellLine_23 ?_
  refine V_getI 24 (c := 12) 13 dX12_tellLine_24 fl_RX12_234 (FT9.m 0 (Nat.le_of_ble_eq_true rfl)) (FT9.k 0 12 rfl) (Nat.le_of_ble_eq_true rfl) (Nat.le_of_ble_eq_true rfl) rfl ?_
  refine V_if_ne 27 230 dX12_tellLine_27 (by decide) (fun c1 => ?_) (fun c1 => ?_)
  · exact J230 _ _ _ _ _
  · obtain ⟨t2, ht2, hg, hf⟩ := hz2.resolve_left (fun q => q.no c1)
    have h400 := hg.2.2.2.1
    have J62 : ∀ (U : PS) (x : Int32), FZ [] [(m, 11), (m, 13), (m, 14)] T U → (FLT m U ∨ ∃ t3, t2 ≤ t3 ∧ GD m c t3 U) → V M Γ (7, RX12, "tellLine", none, RM (4) (0) (0)) cX12_tellLine (RQ M Γ (RV (fun S' => FZ [m + 21, m + 22, m + 23] [(m, 11), (m, 13), (m, 14), (m, 15), (m, 16)] S S' ∧ WMN m S S' ∧ OUT m s S S' ∧ FGL m s K c t S')) (0) (0)) 0 0 U 62 [some (.ref m), some (.int (nI n)), some (.int x), v3, v4, v5, v6] [] := by
      intro U x eU hU
      have FU9 := FT9.ss eU.1
      obtain ⟨tU, htU, etU⟩ : ∃ t, t ≤ 400 ∧ sI U m 11 = nI t := by
        rcases hU with q | ⟨t3, _, q⟩
        · exact q.2
        · exact ⟨t3, q.2.2.2.1, q.2.2.1⟩
      have gU : FGX m c t U := hU.imp id (fun ⟨t3, q1, q2⟩ => ⟨t3, by omega, q2⟩)
      refine V_aload_0 62 dX12_tellLine_62 ?_
      refine V_getI 63 (c := 12) 11 dX12_tellLine_63 fl_RX12_237 (FU9.m 0 (Nat.le_of_ble_eq_true rfl)) (FU9.k 0 12 rfl) (Nat.le_of_ble_eq_true rfl) (Nat.le_of_ble_eq_true rfl) rfl ?_
      rw [etU]
      refine V_istore_3 66 dX12_tellLine_66 rfl (Nat.le_of_ble_eq_true rfl) ?_
      refine V_aload_0 67 dX12_tellLine_67 ?_
      refine V_callV 68 (ci := 12) [] _ (s_mknown M.2.1 Γ U FU9 ((eU.2.2 m 19 (by simp)).trans es1) hs (by rw [eU.2.1 (m + 8) (by simp)]; exact eM1) hM etU htU) dX12_tellLine_68 cb_X12_known ml_RX12_308 im_yX12_known se_yX12_known (FU9.m 0 (Nat.le_of_ble_eq_true rfl)) (FU9.k 0 12 rfl) (Nat.le_of_ble_eq_true rfl) ⟨(Nat.le_of_ble_eq_true rfl), (Nat.le_of_ble_eq_true rfl)⟩ rfl rfl (Nat.le_of_ble_eq_true rfl) ⟨(Nat.le_of_ble_eq_true rfl), (Nat.le_of_ble_eq_true rfl)⟩ (RI.go (fun r2 S2 k2 => ?_))
      refine V_istore_4 71 dX12_tellLine_71 rfl (Nat.le_of_ble_eq_true rfl) ?_
      have F2 := FU9.ss k2.1.1
      have e2 : FZ [m + 22, m + 23] [(m, 11), (m, 13), (m, 14), (m, 15), (m, 16)] S S2 := (e.tr (eU.sub (by simp) (by simp))).tr (k2.1.sub (by simp) (by simp))
      have w2 : WMN m S S2 := (w.tr (WMN.fz eU (by simp))).tr k2.2.1
      have o2 : OUT m s S S2 := (o.tr (OUT.fz eU (by simp) (fun _ _ => by simp))).tr (OUT.fz k2.1 (by simp) (fun _ _ => by simp))
      have l2 : L22 m s K n S2 := (l22.fz eU (by simp)).fz k2.1 (by simp)
      have hD2 : D10 m s K u S2 := hD.fz e2 (by simp) (by simp)
      refine V_aload_0 73 dX12_tellLine_73 ?_
      refine V_getI 74 (c := 12) 13 dX12_tellLine_74 fl_RX12_234 (F2.m 0 (Nat.le_of_ble_eq_true rfl)) (F2.k 0 12 rfl) (Nat.le_of_ble_eq_true rfl) (Nat.le_of_ble_eq_true rfl) rfl ?_
      rcases k2.2.2 with ⟨qq, -⟩ | ⟨a1, a2, a3, a4, a5⟩
      ·
        refine V_if_le 77 81 dX12_tellLine_77 (by decide) (fun q => absurd q (Int32.not_le.mpr qq.1)) (fun _ => ?_)
        refine V_vret 80 dX12_tellLine_80 rfl (Nat.le_of_ble_eq_true rfl) (Nat.le_of_ble_eq_true rfl) (RV.mk ⟨e2.sub (by simp) (by simp), w2, o2, Or.inl qq⟩)
      · have gt : ∃ t3, t2 ≤ t3 ∧ GD m c t3 U := hU.resolve_left (fun q => q.no a1)
        obtain ⟨t3, ht3, hg3⟩ := gt
        have e0 : tU = t3 := (nI_eq (by omega) (by have := hg3.2.2.2.1; omega)).mp (etU.symm.trans hg3.2.2.1)
        subst e0
        have g4 : GD m c (tU + 1) S2 := ⟨a2, (k2.1.2.2 m 12 (by simp)).trans hg3.2.1, a4, by omega, (k2.1.2.2 m 45 (by simp)).trans hg3.2.2.2.2⟩
        rw [a2]
        refine V_if_le 77 81 dX12_tellLine_77 (by decide) (fun _ => ?_) (fun q => absurd (by decide) q)
        refine V_iload_4 81 dX12_tellLine_81 ?_
        rcases a5 with ⟨rfl, -⟩ | ⟨i, hi, rfl⟩
        ·
          refine V_if_ge 83 89 dX12_tellLine_83 (by decide) (fun q => absurd q (by decide)) (fun _ => ?_)
          refine V_goto 86 23 dX12_tellLine_86 (by decide) ?_
          exact ih (402 - (tU + 1), n, S2, _, _, _, _, _) ⟨by dsimp only; omega, e2, w2, o2, l2, Or.inr ⟨tU + 1, by omega, g4, rfl⟩⟩ (by dsimp only; omega)
        · obtain ⟨q, p, hq, hp, eq10, eq12, hqp⟩ := hD2 i hi
          have es2 : sI S2 m 19 = nI s := (e2.2.2 m 19 (by simp)).trans es
          have J202 : ∀ (V9 : PS) (k : Nat) (v6 : Option Value), k < K → FZ [m + 23] [(m, 15), (m, 16)] S2 V9 → WMN m S2 V9 → V M Γ (7, RX12, "tellLine", none, RM (4) (0) (0)) cX12_tellLine (RQ M Γ (RV (fun S' => FZ [m + 21, m + 22, m + 23] [(m, 11), (m, 13), (m, 14), (m, 15), (m, 16)] S S' ∧ WMN m S S' ∧ OUT m s S S' ∧ FGL m s K c t S')) (0) (0)) 0 0 V9 202 [some (.ref m), some (.int (nI n)), some (.int x), some (.int (nI tU)), some (.int (nI i)), some (.int (nI k)), v6] [] := by
            intro V9 k v6 hk eV wV
            have FV9 := F2.ss eV.1
            have oV : OUT m s S2 V9 := OUT.f23 eV (by simp)
            have gV : GD m c (tU + 1) V9 := g4.mv eV (by simp) (by simp) (by simp) (by simp)
            have lV : L22 m s K n V9 := l2.fz eV (by simp)
            have eV2 : FZ [m + 22, m + 23] [(m, 11), (m, 13), (m, 14), (m, 15), (m, 16)] S V9 := e2.tr (eV.sub (by simp) (by simp))
            have J224 : ∀ (V2 : PS), FZ [m + 22, m + 23] [(m, 11), (m, 13), (m, 14), (m, 15), (m, 16)] S V2 → WMN m S V2 → OUT m s S V2 → L22 m s K (n + 1) V2 → GD m c (tU + 1) V2 → V M Γ (7, RX12, "tellLine", none, RM (4) (0) (0)) cX12_tellLine (RQ M Γ (RV (fun S' => FZ [m + 21, m + 22, m + 23] [(m, 11), (m, 13), (m, 14), (m, 15), (m, 16)] S S' ∧ WMN m S S' ∧ OUT m s S S' ∧ FGL m s K c t S')) (0) (0)) 0 0 V2 224 [some (.ref m), some (.int (nI n)), some (.int x), some (.int (nI tU)), some (.int (nI i)), some (.int (nI k)), v6] [] := by
              intro V2 b1 b2 b3 b4 b5
              refine V_iinc_1 224 (1) dX12_tellLine_224 (by decide) rfl (Nat.le_of_ble_eq_true rfl) ?_
              rw [nI_1]
              refine V_goto 227 23 dX12_tellLine_227 (by decide) ?_
              exact ih (402 - (tU + 1), n + 1, V2, _, _, _, _, _) ⟨by dsimp only; omega, b1, b2, b3, b4, Or.inr ⟨tU + 1, by omega, b5, rfl⟩⟩ (by dsimp only; omega)
            refine V_iload_1 202 dX12_tellLine_202 ?_
            refine V_bipush 203 (18) dX12_tellLine_203 (by decide) ?_
            refine V_icmp_ge 205 224 dX12_tellLine_205 (by decide) (fun c5 => ?_) (fun c5 => ?_)
            · have c6 := (nI_leE (show (18 : Int32) = nI 18 from rfl) (Eq.refl (nI n)) (by omega) (by omega)).mp (by first | exact c5 | exact Int32.not_lt.mp c5)
              exact J224 V9 eV2 (w2.tr wV) (o2.tr oV) (fun i h1 h2 => lV i (by omega) h2) gV
            · have c6 := mt (nI_leE (show (18 : Int32) = nI 18 from rfl) (Eq.refl (nI n)) (by omega) (by omega)).mpr (fun q => c5 (by first | exact q | exact Int32.not_lt.mpr q))
              refine V_aload_0 208 dX12_tellLine_208 ?_
              refine V_getR 209 (c := 12) 34 (FV9.r 0 34 22 rfl) dX12_tellLine_209 fl_RX12_82 (FV9.m 0 (Nat.le_of_ble_eq_true rfl)) (FV9.k 0 12 rfl) (Nat.le_of_ble_eq_true rfl) (Nat.le_of_ble_eq_true rfl) rfl ?_
              refine V_bipush 212 (18) dX12_tellLine_212 (by decide) ?_
              refine V_aload_0 214 dX12_tellLine_214 ?_
              refine V_getI 215 (c := 12) 19 dX12_tellLine_215 fl_RX12_267 (FV9.m 0 (Nat.le_of_ble_eq_true rfl)) (FV9.k 0 12 rfl) (Nat.le_of_ble_eq_true rfl) (Nat.le_of_ble_eq_true rfl) rfl ?_
              rw [(eV.2.2 m 19 (by simp)).trans es2]
              refine V_imul 218 dX12_tellLine_218 ?_
              rw [show (18 : Int32) * nI s = nI (18 * s) from nI_mul 18 s]
              refine V_iload_1 219 dX12_tellLine_219 ?_
              refine V_iadd 220 dX12_tellLine_220 ?_
              rw [nI_add]
              refine V_iload_5 221 dX12_tellLine_221 ?_
              refine V_iastore2 223 dX12_tellLine_223 (FV9.m 22 (Nat.le_of_ble_eq_true rfl)) (FV9.k 22 14 rfl) (FV9.l 22 36 rfl) ?_ ?_
              · exact vp_in_nI (by omega) (by decide)
              rw [nI_clamp (by omega)]
              refine J224 _ (eV2.uA (by simp)) ((w2.tr wV).tr ⟨fun q => q, fun q => q⟩) ((o2.tr oV).tr (OUT.wr (w := 18) rfl (by omega) (by omega))) (fun j h1 h2 => ?_) gV
              by_cases c7 : j = n
              · subst c7; exact ⟨k, hk, up2_s _ _ _ _⟩
              · obtain ⟨k3, b1, b2⟩ := lV j (by omega) h2
                exact ⟨k3, b1, (up2_k _ _ (by omega)).trans b2⟩
          have J160 : ∀ (V9 : PS) (k : Nat) (v6 : Option Value), k < K → FZ [m + 23] [(m, 15), (m, 16)] S2 V9 → WMN m S2 V9 → V M Γ (7, RX12, "tellLine", none, RM (4) (0) (0)) cX12_tellLine (RQ M Γ (RV (fun S' => FZ [m + 21, m + 22, m + 23] [(m, 11), (m, 13), (m, 14), (m, 15), (m, 16)] S S' ∧ WMN m S S' ∧ OUT m s S S' ∧ FGL m s K c t S')) (0) (0)) 0 0 V9 160 [some (.ref m), some (.int (nI n)), some (.int x), some (.int (nI tU)), some (.int (nI i)), some (.int (nI k)), v6] [] := by
            intro V9 k v6 hk eV wV
            have FV9 := F2.ss eV.1
            refine V_aload_0 160 dX12_tellLine_160 ?_
            refine V_getR 161 (c := 12) 35 (FV9.r 0 35 23 rfl) dX12_tellLine_161 fl_RX12_85 (FV9.m 0 (Nat.le_of_ble_eq_true rfl)) (FV9.k 0 12 rfl) (Nat.le_of_ble_eq_true rfl) (Nat.le_of_ble_eq_true rfl) rfl ?_
            refine V_iload_5 164 dX12_tellLine_164 ?_
            refine V_dup2 166 dX12_tellLine_166 rfl rfl ?_
            refine V_iaload2 167 dX12_tellLine_167 (FV9.m 23 (Nat.le_of_ble_eq_true rfl)) (FV9.k 23 14 rfl) (FV9.l 23 8 rfl) ?_ ?_
            · exact vp_in_nI (by omega) (by decide)
            rw [nI_clamp (by omega)]
            refine V_iconst 168 (1) dX12_tellLine_168 (by decide) ?_
            refine V_iadd 169 dX12_tellLine_169 ?_
            refine V_iastore2 170 dX12_tellLine_170 (FV9.m 23 (Nat.le_of_ble_eq_true rfl)) (FV9.k 23 14 rfl) (FV9.l 23 8 rfl) ?_ ?_
            · exact vp_in_nI (by omega) (by decide)
            rw [nI_clamp (by omega)]
            have eX : FZ [m + 23] [(m, 15), (m, 16)] S2 (uA V9 (m + 23) k (sA V9 (m + 23) k + 1)) := eV.uA (by simp)
            have wX : WMN m S2 (uA V9 (m + 23) k (sA V9 (m + 23) k + 1)) := wV.tr ⟨fun q => q, fun q => q⟩
            generalize uA V9 (m + 23) k (sA V9 (m + 23) k + 1) = V3 at eX wX ⊢
            have FX9 := F2.ss eX.1
            refine V_aload_0 171 dX12_tellLine_171 ?_
            refine V_getR 172 (c := 12) 35 (FX9.r 0 35 23 rfl) dX12_tellLine_172 fl_RX12_85 (FX9.m 0 (Nat.le_of_ble_eq_true rfl)) (FX9.k 0 12 rfl) (Nat.le_of_ble_eq_true rfl) (Nat.le_of_ble_eq_true rfl) rfl ?_
            refine V_iload_5 175 dX12_tellLine_175 ?_
            refine V_iaload2 177 dX12_tellLine_177 (FX9.m 23 (Nat.le_of_ble_eq_true rfl)) (FX9.k 23 14 rfl) (FX9.l 23 8 rfl) ?_ ?_
            · exact vp_in_nI (by omega) (by decide)
            refine V_aload_0 178 dX12_tellLine_178 ?_
            refine V_getR 179 (c := 12) 25 (FX9.r 0 25 13 rfl) dX12_tellLine_179 fl_RX12_55 (FX9.m 0 (Nat.le_of_ble_eq_true rfl)) (FX9.k 0 12 rfl) (Nat.le_of_ble_eq_true rfl) (Nat.le_of_ble_eq_true rfl) rfl ?_
            refine V_bipush 182 (8) dX12_tellLine_182 (by decide) ?_
            refine V_aload_0 184 dX12_tellLine_184 ?_
            refine V_getI 185 (c := 12) 19 dX12_tellLine_185 fl_RX12_267 (FX9.m 0 (Nat.le_of_ble_eq_true rfl)) (FX9.k 0 12 rfl) (Nat.le_of_ble_eq_true rfl) (Nat.le_of_ble_eq_true rfl) rfl ?_
            rw [(eX.2.2 m 19 (by simp)).trans es2]
            refine V_imul 188 dX12_tellLine_188 ?_
            rw [show (8 : Int32) * nI s = nI (8 * s) from nI_mul 8 s]
            refine V_iload_5 189 dX12_tellLine_189 ?_
            refine V_iadd 191 dX12_tellLine_191 ?_
            rw [nI_add]
            refine V_iaload2 192 dX12_tellLine_192 (FX9.m 13 (Nat.le_of_ble_eq_true rfl)) (FX9.k 13 14 rfl) (FX9.l 13 16 rfl) ?_ ?_
            · exact vp_in_nI (by omega) (by decide)
            refine V_icmp_le 193 202 dX12_tellLine_193 (by decide) (fun c5 => ?_) (fun c5 => ?_)
            · exact J202 V3 k v6 hk eX wX
            ·
              refine V_aload_0 196 dX12_tellLine_196 ?_
              refine V_iconst 197 (5) dX12_tellLine_197 (by decide) ?_
              refine V_iload_3 198 dX12_tellLine_198 ?_
              refine V_callV 199 (ci := 12) [.int _, .int _] _ (s_mwrong M.2.1 Γ V3 FX9 (k := tU) (by omega) _ (by decide)) dX12_tellLine_199 cb_X12_wrong ml_RX12_304 im_yX12_wrong se_yX12_wrong (FX9.m 0 (Nat.le_of_ble_eq_true rfl)) (FX9.k 0 12 rfl) (Nat.le_of_ble_eq_true rfl) ⟨(Nat.le_of_ble_eq_true rfl), (Nat.le_of_ble_eq_true rfl)⟩ rfl rfl (Nat.le_of_ble_eq_true rfl) ⟨(Nat.le_of_ble_eq_true rfl), (Nat.le_of_ble_eq_true rfl)⟩ (RV.go (fun S8 k8 => ?_))
              exact J202 S8 k v6 hk (eX.tr (k8.1.sub (by simp) (by simp))) (wX.tr k8.2.2)
          have J148 : ∀ (V9 : PS) (y : Int32), (y = 0 → q + 1 < K) → FZ [m + 23] [(m, 15), (m, 16)] S2 V9 → WMN m S2 V9 → V M Γ (7, RX12, "tellLine", none, RM (4) (0) (0)) cX12_tellLine (RQ M Γ (RV (fun S' => FZ [m + 21, m + 22, m + 23] [(m, 11), (m, 13), (m, 14), (m, 15), (m, 16)] S S' ∧ WMN m S S' ∧ OUT m s S S' ∧ FGL m s K c t S')) (0) (0)) 0 0 V9 148 [some (.ref m), some (.int (nI n)), some (.int x), some (.int (nI tU)), some (.int (nI i)), some (.int (nI q)), some (.int y)] [] := by
            intro V9 y hy eV wV
            have FV9 := F2.ss eV.1
            refine V_iload_2 148 dX12_tellLine_148 ?_
            refine V_if_eq 149 160 dX12_tellLine_149 (by decide) (fun c5 => ?_) (fun c5 => ?_)
            · exact J160 V9 q _ hq eV wV
            ·
              refine V_iload_6 152 dX12_tellLine_152 ?_
              refine V_if_ne 154 160 dX12_tellLine_154 (by decide) (fun c6 => ?_) (fun c6 => ?_)
              · exact J160 V9 q _ hq eV wV
              ·
                refine V_iinc_5 157 (1) dX12_tellLine_157 (by decide) rfl (Nat.le_of_ble_eq_true rfl) ?_
                rw [nI_1]
                exact J160 V9 (q + 1) _ (hy (by first | exact c6 | exact Classical.not_not.mp c6)) eV wV
          have J131 : ∀ (y : Int32), (y = 0 → q + 1 < K) → V M Γ (7, RX12, "tellLine", none, RM (4) (0) (0)) cX12_tellLine (RQ M Γ (RV (fun S' => FZ [m + 21, m + 22, m + 23] [(m, 11), (m, 13), (m, 14), (m, 15), (m, 16)] S S' ∧ WMN m S S' ∧ OUT m s S S' ∧ FGL m s K c t S')) (0) (0)) 0 0 S2 131 [some (.ref m), some (.int (nI n)), some (.int x), some (.int (nI tU)), some (.int (nI i)), some (.int (nI q)), v6] [.int y] := by
            intro y hy
            refine V_istore_6 131 dX12_tellLine_131 rfl (Nat.le_of_ble_eq_true rfl) ?_
            refine V_iload_2 133 dX12_tellLine_133 ?_
            refine V_if_eq 134 148 dX12_tellLine_134 (by decide) (fun c5 => ?_) (fun c5 => ?_)
            · exact J148 S2 y hy FZ.rf WMN.rf
            ·
              refine V_iload_6 137 dX12_tellLine_137 ?_
              refine V_if_eq 139 148 dX12_tellLine_139 (by decide) (fun c6 => ?_) (fun c6 => ?_)
              · exact J148 S2 y hy FZ.rf WMN.rf
              ·
                refine V_aload_0 142 dX12_tellLine_142 ?_
                refine V_iconst 143 (5) dX12_tellLine_143 (by decide) ?_
                refine V_iload_3 144 dX12_tellLine_144 ?_
                refine V_callV 145 (ci := 12) [.int _, .int _] _ (s_mwrong M.2.1 Γ S2 F2 (k := tU) (by omega) _ (by decide)) dX12_tellLine_145 cb_X12_wrong ml_RX12_304 im_yX12_wrong se_yX12_wrong (F2.m 0 (Nat.le_of_ble_eq_true rfl)) (F2.k 0 12 rfl) (Nat.le_of_ble_eq_true rfl) ⟨(Nat.le_of_ble_eq_true rfl), (Nat.le_of_ble_eq_true rfl)⟩ rfl rfl (Nat.le_of_ble_eq_true rfl) ⟨(Nat.le_of_ble_eq_true rfl), (Nat.le_of_ble_eq_true rfl)⟩ (RV.go (fun S8 k8 => ?_))
                exact J148 S8 y hy (k8.1.sub (by simp) (by simp)) k8.2.2
          refine V_if_ge 83 89 dX12_tellLine_83 (by decide) (fun _ => ?_) (fun q => absurd (Int32.not_lt.mp (nn0 (by omega))) q)
          refine V_aload_0 89 dX12_tellLine_89 ?_
          refine V_getR 90 (c := 12) 22 (F2.r 0 22 10 rfl) dX12_tellLine_90 fl_RX12_46 (F2.m 0 (Nat.le_of_ble_eq_true rfl)) (F2.k 0 12 rfl) (Nat.le_of_ble_eq_true rfl) (Nat.le_of_ble_eq_true rfl) rfl ?_
          refine V_bipush 93 (8) dX12_tellLine_93 (by decide) ?_
          refine V_aload_0 95 dX12_tellLine_95 ?_
          refine V_getI 96 (c := 12) 19 dX12_tellLine_96 fl_RX12_267 (F2.m 0 (Nat.le_of_ble_eq_true rfl)) (F2.k 0 12 rfl) (Nat.le_of_ble_eq_true rfl) (Nat.le_of_ble_eq_true rfl) rfl ?_
          rw [es2]
          refine V_imul 99 dX12_tellLine_99 ?_
          rw [show (8 : Int32) * nI s = nI (8 * s) from nI_mul 8 s]
          refine V_iload_4 100 dX12_tellLine_100 ?_
          refine V_iadd 102 dX12_tellLine_102 ?_
          rw [nI_add]
          refine V_iaload2 103 dX12_tellLine_103 (F2.m 10 (Nat.le_of_ble_eq_true rfl)) (F2.k 10 14 rfl) (F2.l 10 16 rfl) ?_ ?_
          · exact vp_in_nI (by omega) (by decide)
          rw [nI_clamp (by omega), eq10]
          refine V_istore_5 104 dX12_tellLine_104 rfl (Nat.le_of_ble_eq_true rfl) ?_
          refine V_aload_0 106 dX12_tellLine_106 ?_
          refine V_getR 107 (c := 12) 24 (F2.r 0 24 12 rfl) dX12_tellLine_107 fl_RX12_52 (F2.m 0 (Nat.le_of_ble_eq_true rfl)) (F2.k 0 12 rfl) (Nat.le_of_ble_eq_true rfl) (Nat.le_of_ble_eq_true rfl) rfl ?_
          refine V_bipush 110 (8) dX12_tellLine_110 (by decide) ?_
          refine V_aload_0 112 dX12_tellLine_112 ?_
          refine V_getI 113 (c := 12) 19 dX12_tellLine_113 fl_RX12_267 (F2.m 0 (Nat.le_of_ble_eq_true rfl)) (F2.k 0 12 rfl) (Nat.le_of_ble_eq_true rfl) (Nat.le_of_ble_eq_true rfl) rfl ?_
          rw [es2]
          refine V_imul 116 dX12_tellLine_116 ?_
          rw [show (8 : Int32) * nI s = nI (8 * s) from nI_mul 8 s]
          refine V_iload_5 117 dX12_tellLine_117 ?_
          refine V_iadd 119 dX12_tellLine_119 ?_
          rw [nI_add]
          refine V_iaload2 120 dX12_tellLine_120 (F2.m 12 (Nat.le_of_ble_eq_true rfl)) (F2.k 12 14 rfl) (F2.l 12 16 rfl) ?_ ?_
          · exact vp_in_nI (by omega) (by decide)
          rw [nI_clamp (by omega), eq12]
          refine V_iload_5 121 dX12_tellLine_121 ?_
          refine V_icmp_ne 123 130 dX12_tellLine_123 (by decide) (fun c3 => ?_) (fun c3 => ?_)
          ·
            refine V_iconst 130 (0) dX12_tellLine_130 (by decide) ?_
            exact J131 0 (fun _ => hqp (fun q => c3 (by rw [q])))
          ·
            refine V_iconst 126 (1) dX12_tellLine_126 (by decide) ?_
            refine V_goto 127 131 dX12_tellLine_127 (by decide) ?_
            exact J131 1 (fun q => absurd q (by decide))
    have J47 : V M Γ (7, RX12, "tellLine", none, RM (4) (0) (0)) cX12_tellLine (RQ M Γ (RV (fun S' => FZ [m + 21, m + 22, m + 23] [(m, 11), (m, 13), (m, 14), (m, 15), (m, 16)] S S' ∧ WMN m S S' ∧ OUT m s S S' ∧ FGL m s K c t S')) (0) (0)) 0 0 T 47 [some (.ref m), some (.int (nI n)), v2, v3, v4, v5, v6] [] := by
      refine V_aload_0 47 dX12_tellLine_47 ?_
      refine V_bipush 48 (31) dX12_tellLine_48 (by decide) ?_
      refine V_callV 50 (ci := 12) [.int _] _ (s_mis M.2.1 Γ T FT9 ett htt _) dX12_tellLine_50 cb_X12_is ml_RX12_252 im_yX12_is se_yX12_is (FT9.m 0 (Nat.le_of_ble_eq_true rfl)) (FT9.k 0 12 rfl) (Nat.le_of_ble_eq_true rfl) ⟨(Nat.le_of_ble_eq_true rfl), (Nat.le_of_ble_eq_true rfl)⟩ rfl rfl (Nat.le_of_ble_eq_true rfl) ⟨(Nat.le_of_ble_eq_true rfl), (Nat.le_of_ble_eq_true rfl)⟩ (RI.go (fun r1 S1 q1 => ?_))
      rw [q1.2]
      refine V_istore_2 53 dX12_tellLine_53 rfl (Nat.le_of_ble_eq_true rfl) ?_
      refine V_iload_2 54 dX12_tellLine_54 ?_
      refine V_if_eq 55 62 dX12_tellLine_55 (by decide) (fun c2 => ?_) (fun c2 => ?_)
      · exact J62 T _ FZ.rf (Or.inr ⟨t2, Nat.le_refl _, hg⟩)
      ·
        refine V_aload_0 58 dX12_tellLine_58 ?_
        refine V_callV 59 (ci := 12) [] _ (s_mgoesOn M.2.1 Γ T FT9 hg.2.2.1 hg.2.2.2.1) dX12_tellLine_59 cb_X12_goesOn ml_RX12_255 im_yX12_goesOn se_yX12_goesOn (FT9.m 0 (Nat.le_of_ble_eq_true rfl)) (FT9.k 0 12 rfl) (Nat.le_of_ble_eq_true rfl) ⟨(Nat.le_of_ble_eq_true rfl), (Nat.le_of_ble_eq_true rfl)⟩ rfl rfl (Nat.le_of_ble_eq_true rfl) ⟨(Nat.le_of_ble_eq_true rfl), (Nat.le_of_ble_eq_true rfl)⟩ (RV.go (fun S5 k5 => ?_))
        exact J62 S5 _ k5.1 ((FGX.go hg k5.1 (by simp) (by simp) k5.2).imp id (fun ⟨t3, q1, q2⟩ => ⟨t3, by omega, q2⟩))
    refine V_aload_0 30 dX12_tellLine_30 ?_
    refine V_iconst 31 (1) dX12_tellLine_31 (by decide) ?_
    refine V_callV 32 (ci := 12) [.int _] _ (s_mis M.2.1 Γ T FT9 ett htt _) dX12_tellLine_32 cb_X12_is ml_RX12_252 im_yX12_is se_yX12_is (FT9.m 0 (Nat.le_of_ble_eq_true rfl)) (FT9.k 0 12 rfl) (Nat.le_of_ble_eq_true rfl) ⟨(Nat.le_of_ble_eq_true rfl), (Nat.le_of_ble_eq_true rfl)⟩ rfl rfl (Nat.le_of_ble_eq_true rfl) ⟨(Nat.le_of_ble_eq_true rfl), (Nat.le_of_ble_eq_true rfl)⟩ (RI.go (fun r1 S1 q1 => ?_))
    rw [q1.2]
    refine V_if_ne 35 47 dX12_tellLine_35 (by decide) (fun c2 => ?_) (fun c2 => ?_)
    · exact J47
    ·
      refine V_aload_0 38 dX12_tellLine_38 ?_
      refine V_bipush 39 (31) dX12_tellLine_39 (by decide) ?_
      refine V_callV 41 (ci := 12) [.int _] _ (s_mis M.2.1 Γ T FT9 ett htt _) dX12_tellLine_41 cb_X12_is ml_RX12_252 im_yX12_is se_yX12_is (FT9.m 0 (Nat.le_of_ble_eq_true rfl)) (FT9.k 0 12 rfl) (Nat.le_of_ble_eq_true rfl) ⟨(Nat.le_of_ble_eq_true rfl), (Nat.le_of_ble_eq_true rfl)⟩ rfl rfl (Nat.le_of_ble_eq_true rfl) ⟨(Nat.le_of_ble_eq_true rfl), (Nat.le_of_ble_eq_true rfl)⟩ (RI.go (fun r2 S2 q2 => ?_))
      rw [q2.2]
      refine V_if_eq 44 230 dX12_tellLine_44 (by decide) (fun c3 => ?_) (fun c3 => ?_)
      · exact J230 _ _ _ _ _
      · exact J47

