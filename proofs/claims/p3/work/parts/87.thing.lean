/-! The reference's reading: a sock, a pair of gloves -/
def D12 (m s K : Nat) (S : PS) : Prop := ∀ k, k < K → ∃ p, p < K ∧ sA S (m + 12) (8 * s + k) = nI p
def D14 (m s K : Nat) (S : PS) : Prop := ∀ k, k < K → ∃ p, p < 8 ∧ sA S (m + 14) (8 * s + k) = nI p
def D13 (m s K : Nat) (S : PS) : Prop := sI S m 15 = 0 → ∃ N : Nat → Nat, (∀ k, k < K → sA S (m + 13) (8 * s + k) = nI (N k) ∧ N k ≤ 9) ∧ sA S (m + 15) s = nI (sumN N K) ∧ sumN N K ≤ 18
def ptr (p K k : Nat) : Nat := if p = 1 then K else K + 1 - k
def THG (m s K u p c t : Nat) (S : PS) : Prop := ∃ t2, t < t2 ∧ GD m c t2 S ∧ sA S (m + 11) s = nI (K + p) ∧ sA S (m + 8) s = nI (u + 1) ∧ D12 m s (K + p) S ∧ D14 m s (K + p) S ∧ D10 m s (K + p) (u + 1) S ∧ D13 m s (K + p) S
theorem sumN_cat (f g : Nat → Nat) (n : Nat) : ∀ k, sumN (fun i => if i < n then f i else g (i - n)) (n + k) = sumN f n + sumN g k
  | 0 => by
    show sumN _ n = sumN f n + 0
    exact sumN_eq n (fun k hk => by rw [if_pos hk])
  | k + 1 => by
    show sumN _ (n + k) + _ = sumN f n + (sumN g k + g k)
    rw [sumN_cat f g n k]
    have q : (fun i => if i < n then f i else g (i - n)) (n + k) = g k := by
      show (if n + k < n then f (n + k) else g (n + k - n)) = g k
      rw [if_neg (by omega), Nat.add_sub_cancel_left]
    have q2 : (fun i => if i < n then f i else g (i - n)) (n.add k) = g k := q
    rw [q2]
    omega
/-- what a thing's parts have left behind: k of p parts, the sum y of x0 and theirs -/
def PRT (m s K u p k : Nat) (x0 y : Int32) (S : PS) : Prop := (∀ i, i < k → sA S (m + 12) (8 * s + K + i) = nI (ptr p K i) ∧ sA S (m + 14) (8 * s + K + i) = nI u) ∧ (sI S m 13 = 0 → sI S m 15 = 0 → ∃ N : Nat → Nat, (∀ i, i < k → sA S (m + 13) (8 * s + K + i) = nI (N i) ∧ N i ≤ 9) ∧ y = x0 + nI (sumN N k) ∧ (k = p → y ≤ 18))
def NBR (m a b : Nat) (S S2 : PS) : Prop := ∀ o, 12 ≤ o → o ≤ 14 → ∀ j, (j < a ∨ b ≤ j) → sA S2 (m + o) j = sA S (m + o) j
theorem NBR.fz {m a b : Nat} {S S2 : PS} {Y : List (Nat × Nat)} (e : FZ [] Y S S2) : NBR m a b S S2 := fun o _ _ j _ => by rw [e.2.1 _ (by simp)]
theorem NBR.tr {m a b : Nat} {S S2 S3 : PS} (h : NBR m a b S S2) (g : NBR m a b S2 S3) : NBR m a b S S3 := fun o h1 h2 j q => (g o h1 h2 j q).trans (h o h1 h2 j q)
set_option maxRecDepth 100000 in
set_option maxHeartbeats 8000000 in
theorem s_mtellThing (l : Launch) (Γ : GC) (S : PS) {m s K u p c t : Nat} (F : isL lyModel Γ.2.2.2.2.1 S m) (es : sI S m 19 = nI s) (hs : s < 2) (eK : sA S (m + 11) s = nI K) (eM : sA S (m + 8) s = nI u) (hu : u ≤ K) (hp : p = 1 ∨ p = 2) (hK : K + p ≤ 8) (h : GD m c t S) (d12 : D12 m s K S) (d14 : D14 m s K S) (d10 : D10 m s K u S) (d13 : D13 m s K S) : CT l Γ yX12_tellThing cX12_tellThing 8 none (4) (0) (0) [.ref m, .int (nI p)] S (RV (fun S' => FZ [m + 8, m + 10, m + 11, m + 12, m + 13, m + 14, m + 15] [(m, 11), (m, 13), (m, 14), (m, 15), (m, 16)] S S' ∧ WMN m S S' ∧ OUT m s S S' ∧ (FLT m S' ∨ THG m s K u p c t S'))) := by
  refine CT.of RX12 "tellThing" [some (.ref m), some (.int (nI p)), none, none, none, none, none, none] (by decide +kernel) rfl rfl (Nat.le_of_ble_eq_true rfl) rfl (fun M hM => ?_)
  subst hM
  refine V_aload_0 0 dX12_tellThing_0 ?_
  refine V_callV 1 (ci := 12) [] _ (s_mgoesOn M.2.1 Γ S F h.2.2.1 h.2.2.2.1) dX12_tellThing_1 cb_X12_goesOn ml_RX12_255 im_yX12_goesOn se_yX12_goesOn (F.m 0 (Nat.le_of_ble_eq_true rfl)) (F.k 0 12 rfl) (Nat.le_of_ble_eq_true rfl) ⟨(Nat.le_of_ble_eq_true rfl), (Nat.le_of_ble_eq_true rfl)⟩ rfl rfl (Nat.le_of_ble_eq_true rfl) ⟨(Nat.le_of_ble_eq_true rfl), (Nat.le_of_ble_eq_true rfl)⟩ (RV.go (fun S1 k1 => ?_))
  have F1 := F.ss k1.1.1
  have g1 : FGX m c t S1 := FGX.go h k1.1 (by simp) (by simp) k1.2
  obtain ⟨t1, ht1, et1⟩ := g1.tt
  refine V_aload_0 4 dX12_tellThing_4 ?_
  refine V_getI 5 (c := 12) 11 dX12_tellThing_5 fl_RX12_237 (F1.m 0 (Nat.le_of_ble_eq_true rfl)) (F1.k 0 12 rfl) (Nat.le_of_ble_eq_true rfl) (Nat.le_of_ble_eq_true rfl) rfl ?_
  rw [et1]
  refine V_istore_2 8 dX12_tellThing_8 rfl (Nat.le_of_ble_eq_true rfl) ?_
  refine V_aload_0 9 dX12_tellThing_9 ?_
  refine V_iconst 10 (1) dX12_tellThing_10 (by decide) ?_
  refine V_callV 11 (ci := 12) [.int _] _ (s_mmust M.2.1 Γ S1 F1 et1 ht1 _) dX12_tellThing_11 cb_X12_must ml_RX12_295 im_yX12_must se_yX12_must (F1.m 0 (Nat.le_of_ble_eq_true rfl)) (F1.k 0 12 rfl) (Nat.le_of_ble_eq_true rfl) ⟨(Nat.le_of_ble_eq_true rfl), (Nat.le_of_ble_eq_true rfl)⟩ rfl rfl (Nat.le_of_ble_eq_true rfl) ⟨(Nat.le_of_ble_eq_true rfl), (Nat.le_of_ble_eq_true rfl)⟩ (RV.go (fun S2 k2 => ?_))
  have F2 := F1.ss k2.1.1
  have g2 := g1.adv k2.2 ht1 et1 k2.1 (by simp) (by simp)
  have e2 : FZ [] [(m, 11), (m, 13), (m, 14), (m, 15), (m, 16)] S S2 := (k1.1.sub (by simp) (by simp)).tr (k2.1.sub (by simp) (by simp))
  have w2 : WMN m S S2 := (WMN.fz k1.1 (by simp)).tr (WMN.fz k2.1 (by simp))
  refine V_iconst 14 (0) dX12_tellThing_14 (by decide) ?_
  refine V_istore_3 15 dX12_tellThing_15 rfl (Nat.le_of_ble_eq_true rfl) ?_
  refine V_lvw (lv2 := [some (.ref m), some (.int (nI p)), some (.int (nI t1)), some (.int (nI 0)), none, none, none, none]) (by repeat (first | exact trivial | refine ⟨rfl, ?_⟩)) ?_
  refine V_while (α := Nat × PS) (fun z => u - z.1) (fun z => z.1 ≤ u ∧ FZ [] [(m, 15), (m, 16)] S2 z.2 ∧ WMN m S2 z.2) (fun z => z.2) (fun z => [some (.ref m), some (.int (nI p)), some (.int (nI t1)), some (.int (nI z.1)), none, none, none, none]) (0, S2) ⟨Nat.zero_le _, FZ.rf, WMN.rf⟩ (fun z hz ih => ?_)
  obtain ⟨k, S3⟩ := z
  obtain ⟨hk, e3, w3⟩ := hz
  dsimp only at hk e3 w3 ih ⊢
  have F3 := F2.ss e3.1
  have g3 : FGX m c t S3 := g2.mv e3 (by simp) (by simp) (by simp) (by simp)
  have e03 : FZ [] [(m, 11), (m, 13), (m, 14), (m, 15), (m, 16)] S S3 := e2.tr (e3.sub (by simp) (by simp))
  have w03 : WMN m S S3 := w2.tr w3
  have es3 : sI S3 m 19 = nI s := (e03.2.2 m 19 (by simp)).trans es
  have eM3 : sA S3 (m + 8) s = nI u := by rw [e03.2.1 (m + 8) (by simp)]; exact eM
  have eK3 : sA S3 (m + 11) s = nI K := by rw [e03.2.1 (m + 11) (by simp)]; exact eK
  have J64 : ∀ (v3 : Option Value), V M Γ (8, RX12, "tellThing", none, RM (4) (0) (0)) cX12_tellThing (RQ M Γ (RV (fun S' => FZ [m + 8, m + 10, m + 11, m + 12, m + 13, m + 14, m + 15] [(m, 11), (m, 13), (m, 14), (m, 15), (m, 16)] S S' ∧ WMN m S S' ∧ OUT m s S S' ∧ (FLT m S' ∨ THG m s K u p c t S'))) (0) (0)) 0 0 S3 64 [some (.ref m), some (.int (nI p)), some (.int (nI t1)), v3, none, none, none, none] [] := by
    intro v3
    clear ih
    have J235 : ∀ (T : PS) (y : Int32) (v5 v6 v7 : Option Value), FZ [m + 12, m + 13, m + 14] [(m, 11), (m, 13), (m, 14), (m, 15), (m, 16)] S3 T → OUT m s S3 T → NBR m (8 * s + K) (8 * s + K + p) S3 T → WMN m S3 T → FGX m c t T → PRT m s K u p p (sA S3 (m + 15) s) y T → V M Γ (8, RX12, "tellThing", none, RM (4) (0) (0)) cX12_tellThing (RQ M Γ (RV (fun S' => FZ [m + 8, m + 10, m + 11, m + 12, m + 13, m + 14, m + 15] [(m, 11), (m, 13), (m, 14), (m, 15), (m, 16)] S S' ∧ WMN m S S' ∧ OUT m s S S' ∧ (FLT m S' ∨ THG m s K u p c t S'))) (0) (0)) 0 0 T 235 [some (.ref m), some (.int (nI p)), some (.int (nI t1)), some (.int (nI K)), some (.int y), v5, v6, v7] [] := by
      intro T y v5 v6 v7 e o nb w g prt
      have FT9 := F3.ss e.1
      obtain ⟨tt, htt, ett⟩ := g.tt
      refine V_aload_0 235 dX12_tellThing_235 ?_
      refine V_iconst 236 (4) dX12_tellThing_236 (by decide) ?_
      refine V_callV 237 (ci := 12) [.int _] _ (s_mmust M.2.1 Γ T FT9 ett htt _) dX12_tellThing_237 cb_X12_must ml_RX12_295 im_yX12_must se_yX12_must (FT9.m 0 (Nat.le_of_ble_eq_true rfl)) (FT9.k 0 12 rfl) (Nat.le_of_ble_eq_true rfl) ⟨(Nat.le_of_ble_eq_true rfl), (Nat.le_of_ble_eq_true rfl)⟩ rfl rfl (Nat.le_of_ble_eq_true rfl) ⟨(Nat.le_of_ble_eq_true rfl), (Nat.le_of_ble_eq_true rfl)⟩ (RV.go (fun S5 k5 => ?_))
      have F5 := FT9.ss k5.1.1
      have g5 := g.adv k5.2 htt ett k5.1 (by simp) (by simp)
      have e5 : FZ [m + 12, m + 13, m + 14] [(m, 11), (m, 13), (m, 14), (m, 15), (m, 16)] S S5 := ((e03.sub (by simp) (by simp)).tr e).tr (k5.1.sub (by simp) (by simp))
      have o5 : OUT m s S S5 := ((OUT.fz e03 (by simp) (fun _ _ => by simp)).tr o).tr (OUT.fz k5.1 (by simp) (fun _ _ => by simp))
      have w5 : WMN m S S5 := (w03.tr w).tr (WMN.fz k5.1 (by simp))
      have nb5 : NBR m (8 * s + K) (8 * s + K + p) S S5 := (NBR.tr (NBR.fz e03) nb).tr (NBR.fz k5.1)
      refine V_aload_0 240 dX12_tellThing_240 ?_
      refine V_getI 241 (c := 12) 13 dX12_tellThing_241 fl_RX12_234 (F5.m 0 (Nat.le_of_ble_eq_true rfl)) (F5.k 0 12 rfl) (Nat.le_of_ble_eq_true rfl) (Nat.le_of_ble_eq_true rfl) rfl ?_
      rcases g5 with qq | ⟨t6, ht6, g6⟩
      ·
        refine V_if_le 244 248 dX12_tellThing_244 (by decide) (fun q => absurd q (Int32.not_le.mpr qq.1)) (fun _ => ?_)
        refine V_vret 247 dX12_tellThing_247 rfl (Nat.le_of_ble_eq_true rfl) (Nat.le_of_ble_eq_true rfl) (RV.mk ⟨e5.sub (by simp) (by simp), w5, o5, Or.inl qq⟩)
      · have es5 : sI S5 m 19 = nI s := (e5.2.2 m 19 (by simp)).trans es
        have eM5 : sA S5 (m + 8) s = nI u := by rw [e5.2.1 (m + 8) (by simp)]; exact eM
        have eK5 : sA S5 (m + 11) s = nI K := by rw [e5.2.1 (m + 11) (by simp)]; exact eK
        have ht1' : t1 ≤ 400 := ht1
        rw [g6.1]
        refine V_if_le 244 248 dX12_tellThing_244 (by decide) (fun _ => ?_) (fun q => absurd (by decide) q)
        refine V_aload_0 248 dX12_tellThing_248 ?_
        refine V_getR 249 (c := 12) 21 (F5.r 0 21 9 rfl) dX12_tellThing_249 fl_RX12_43 (F5.m 0 (Nat.le_of_ble_eq_true rfl)) (F5.k 0 12 rfl) (Nat.le_of_ble_eq_true rfl) (Nat.le_of_ble_eq_true rfl) rfl ?_
        refine V_aload_0 252 dX12_tellThing_252 ?_
        refine V_getR 253 (c := 12) 20 (F5.r 0 20 8 rfl) dX12_tellThing_253 fl_RX12_40 (F5.m 0 (Nat.le_of_ble_eq_true rfl)) (F5.k 0 12 rfl) (Nat.le_of_ble_eq_true rfl) (Nat.le_of_ble_eq_true rfl) rfl ?_
        refine V_aload_0 256 dX12_tellThing_256 ?_
        refine V_getI 257 (c := 12) 19 dX12_tellThing_257 fl_RX12_267 (F5.m 0 (Nat.le_of_ble_eq_true rfl)) (F5.k 0 12 rfl) (Nat.le_of_ble_eq_true rfl) (Nat.le_of_ble_eq_true rfl) rfl ?_
        rw [es5]
        refine V_iaload2 260 dX12_tellThing_260 (F5.m 8 (Nat.le_of_ble_eq_true rfl)) (F5.k 8 14 rfl) (F5.l 8 2 rfl) ?_ ?_
        · exact vp_in_nI (by omega) (by decide)
        rw [nI_clamp (by omega), eM5]
        refine V_aload_0 261 dX12_tellThing_261 ?_
        refine V_getR 262 (c := 12) 8 (F5.r 0 8 6 rfl) dX12_tellThing_262 fl_RX12_30 (F5.m 0 (Nat.le_of_ble_eq_true rfl)) (F5.k 0 12 rfl) (Nat.le_of_ble_eq_true rfl) (Nat.le_of_ble_eq_true rfl) rfl ?_
        refine V_iload_2 265 dX12_tellThing_265 ?_
        refine V_laload2 266 dX12_tellThing_266 (F5.m 6 (Nat.le_of_ble_eq_true rfl)) (F5.k 6 15 rfl) (F5.l 6 403 rfl) ?_ ?_
        · exact vp_in_nI (by omega) (by decide)
        refine V_lastore2 267 dX12_tellThing_267 (F5.m 9 (Nat.le_of_ble_eq_true rfl)) (F5.k 9 15 rfl) (F5.l 9 8 rfl) ?_ ?_
        · exact vp_in_nI (by omega) (by decide)
        have eJ : FZ [] [] S5 (uJ S5 (m + 9) (nI u).toNatClampNeg (sJ S5 (m + 6) (nI t1).toNatClampNeg)) := FZ.rf.uJ
        generalize uJ S5 (m + 9) (nI u).toNatClampNeg (sJ S5 (m + 6) (nI t1).toNatClampNeg) = S6 at eJ ⊢
        have F6 := F5.ss eJ.1
        have es6 : sI S6 m 19 = nI s := (eJ.2.2 m 19 (by simp)).trans es5
        have eM6 : sA S6 (m + 8) s = nI u := by rw [eJ.2.1 (m + 8) (by simp)]; exact eM5
        have eK6 : sA S6 (m + 11) s = nI K := by rw [eJ.2.1 (m + 11) (by simp)]; exact eK5
        refine V_aload_0 268 dX12_tellThing_268 ?_
        refine V_getR 269 (c := 12) 22 (F6.r 0 22 10 rfl) dX12_tellThing_269 fl_RX12_46 (F6.m 0 (Nat.le_of_ble_eq_true rfl)) (F6.k 0 12 rfl) (Nat.le_of_ble_eq_true rfl) (Nat.le_of_ble_eq_true rfl) rfl ?_
        refine V_bipush 272 (8) dX12_tellThing_272 (by decide) ?_
        refine V_aload_0 274 dX12_tellThing_274 ?_
        refine V_getI 275 (c := 12) 19 dX12_tellThing_275 fl_RX12_267 (F6.m 0 (Nat.le_of_ble_eq_true rfl)) (F6.k 0 12 rfl) (Nat.le_of_ble_eq_true rfl) (Nat.le_of_ble_eq_true rfl) rfl ?_
        rw [es6]
        refine V_imul 278 dX12_tellThing_278 ?_
        rw [show (8 : Int32) * nI s = nI (8 * s) from nI_mul 8 s]
        refine V_aload_0 279 dX12_tellThing_279 ?_
        refine V_getR 280 (c := 12) 20 (F6.r 0 20 8 rfl) dX12_tellThing_280 fl_RX12_40 (F6.m 0 (Nat.le_of_ble_eq_true rfl)) (F6.k 0 12 rfl) (Nat.le_of_ble_eq_true rfl) (Nat.le_of_ble_eq_true rfl) rfl ?_
        refine V_aload_0 283 dX12_tellThing_283 ?_
        refine V_getI 284 (c := 12) 19 dX12_tellThing_284 fl_RX12_267 (F6.m 0 (Nat.le_of_ble_eq_true rfl)) (F6.k 0 12 rfl) (Nat.le_of_ble_eq_true rfl) (Nat.le_of_ble_eq_true rfl) rfl ?_
        rw [es6]
        refine V_iaload2 287 dX12_tellThing_287 (F6.m 8 (Nat.le_of_ble_eq_true rfl)) (F6.k 8 14 rfl) (F6.l 8 2 rfl) ?_ ?_
        · exact vp_in_nI (by omega) (by decide)
        rw [nI_clamp (by omega), eM6]
        refine V_iadd 288 dX12_tellThing_288 ?_
        rw [nI_add]
        refine V_iload_3 289 dX12_tellThing_289 ?_
        refine V_iastore2 290 dX12_tellThing_290 (F6.m 10 (Nat.le_of_ble_eq_true rfl)) (F6.k 10 14 rfl) (F6.l 10 16 rfl) ?_ ?_
        · exact vp_in_nI (by omega) (by decide)
        rw [nI_clamp (by omega)]
        refine V_aload_0 291 dX12_tellThing_291 ?_
        refine V_getR 292 (c := 12) 20 (F6.r 0 20 8 rfl) dX12_tellThing_292 fl_RX12_40 (F6.m 0 (Nat.le_of_ble_eq_true rfl)) (F6.k 0 12 rfl) (Nat.le_of_ble_eq_true rfl) (Nat.le_of_ble_eq_true rfl) rfl ?_
        refine V_aload_0 295 dX12_tellThing_295 ?_
        refine V_getI 296 (c := 12) 19 dX12_tellThing_296 fl_RX12_267 (F6.m 0 (Nat.le_of_ble_eq_true rfl)) (F6.k 0 12 rfl) (Nat.le_of_ble_eq_true rfl) (Nat.le_of_ble_eq_true rfl) rfl ?_
        rw [show sI (uA S6 (m + 10) (8 * s + u) (nI K)) m 19 = nI s from es6]
        refine V_dup2 299 dX12_tellThing_299 rfl rfl ?_
        refine V_iaload2 300 dX12_tellThing_300 (F6.m 8 (Nat.le_of_ble_eq_true rfl)) (F6.k 8 14 rfl) (F6.l 8 2 rfl) ?_ ?_
        · exact vp_in_nI (by omega) (by decide)
        rw [nI_clamp (by omega), show sA (uA S6 (m + 10) (8 * s + u) (nI K)) (m + 8) s = nI u from (up2_a _ _ (by omega)).trans eM6]
        refine V_iconst 301 (1) dX12_tellThing_301 (by decide) ?_
        refine V_iadd 302 dX12_tellThing_302 ?_
        rw [nI_1]
        refine V_iastore2 303 dX12_tellThing_303 (F6.m 8 (Nat.le_of_ble_eq_true rfl)) (F6.k 8 14 rfl) (F6.l 8 2 rfl) ?_ ?_
        · exact vp_in_nI (by omega) (by decide)
        rw [nI_clamp (by omega)]
        refine V_aload_0 304 dX12_tellThing_304 ?_
        refine V_getR 305 (c := 12) 23 (F6.r 0 23 11 rfl) dX12_tellThing_305 fl_RX12_49 (F6.m 0 (Nat.le_of_ble_eq_true rfl)) (F6.k 0 12 rfl) (Nat.le_of_ble_eq_true rfl) (Nat.le_of_ble_eq_true rfl) rfl ?_
        refine V_aload_0 308 dX12_tellThing_308 ?_
        refine V_getI 309 (c := 12) 19 dX12_tellThing_309 fl_RX12_267 (F6.m 0 (Nat.le_of_ble_eq_true rfl)) (F6.k 0 12 rfl) (Nat.le_of_ble_eq_true rfl) (Nat.le_of_ble_eq_true rfl) rfl ?_
        rw [show sI (uA (uA S6 (m + 10) (8 * s + u) (nI K)) (m + 8) s (nI (u + 1))) m 19 = nI s from es6]
        refine V_dup2 312 dX12_tellThing_312 rfl rfl ?_
        refine V_iaload2 313 dX12_tellThing_313 (F6.m 11 (Nat.le_of_ble_eq_true rfl)) (F6.k 11 14 rfl) (F6.l 11 2 rfl) ?_ ?_
        · exact vp_in_nI (by omega) (by decide)
        rw [nI_clamp (by omega), show sA (uA (uA S6 (m + 10) (8 * s + u) (nI K)) (m + 8) s (nI (u + 1))) (m + 11) s = nI K from (up2_a _ _ (by omega)).trans ((up2_a _ _ (by omega)).trans eK6)]
        refine V_iload_1 314 dX12_tellThing_314 ?_
        refine V_iadd 315 dX12_tellThing_315 ?_
        rw [nI_add]
        refine V_iastore2 316 dX12_tellThing_316 (F6.m 11 (Nat.le_of_ble_eq_true rfl)) (F6.k 11 14 rfl) (F6.l 11 2 rfl) ?_ ?_
        · exact vp_in_nI (by omega) (by decide)
        rw [nI_clamp (by omega)]
        refine V_aload_0 317 dX12_tellThing_317 ?_
        refine V_getR 318 (c := 12) 27 (F6.r 0 27 15 rfl) dX12_tellThing_318 fl_RX12_61 (F6.m 0 (Nat.le_of_ble_eq_true rfl)) (F6.k 0 12 rfl) (Nat.le_of_ble_eq_true rfl) (Nat.le_of_ble_eq_true rfl) rfl ?_
        refine V_aload_0 321 dX12_tellThing_321 ?_
        refine V_getI 322 (c := 12) 19 dX12_tellThing_322 fl_RX12_267 (F6.m 0 (Nat.le_of_ble_eq_true rfl)) (F6.k 0 12 rfl) (Nat.le_of_ble_eq_true rfl) (Nat.le_of_ble_eq_true rfl) rfl ?_
        rw [show sI (uA (uA (uA S6 (m + 10) (8 * s + u) (nI K)) (m + 8) s (nI (u + 1))) (m + 11) s (nI (K + p))) m 19 = nI s from es6]
        refine V_iload_4 325 dX12_tellThing_325 ?_
        refine V_iastore2 327 dX12_tellThing_327 (F6.m 15 (Nat.le_of_ble_eq_true rfl)) (F6.k 15 14 rfl) (F6.l 15 2 rfl) ?_ ?_
        · exact vp_in_nI (by omega) (by decide)
        rw [nI_clamp (by omega)]
        have eU : FZ [m + 8, m + 10, m + 11, m + 15] [] S6 (uA (uA (uA (uA S6 (m + 10) (8 * s + u) (nI K)) (m + 8) s (nI (u + 1))) (m + 11) s (nI (K + p))) (m + 15) s y) := (((FZ.rf.uA (by simp)).uA (by simp)).uA (by simp)).uA (by simp)
        have oU : OUT m s S6 (uA (uA (uA (uA S6 (m + 10) (8 * s + u) (nI K)) (m + 8) s (nI (u + 1))) (m + 11) s (nI (K + p))) (m + 15) s y) := (((OUT.wr0 rfl).tr (OUT.wr (w := 1) rfl (by omega) (by omega))).tr (OUT.wr (w := 1) rfl (by omega) (by omega))).tr (OUT.wr0 rfl)
        have u15 : sA (uA (uA (uA (uA S6 (m + 10) (8 * s + u) (nI K)) (m + 8) s (nI (u + 1))) (m + 11) s (nI (K + p))) (m + 15) s y) (m + 15) s = y := up2_s _ _ _ _
        have u11 : sA (uA (uA (uA (uA S6 (m + 10) (8 * s + u) (nI K)) (m + 8) s (nI (u + 1))) (m + 11) s (nI (K + p))) (m + 15) s y) (m + 11) s = nI (K + p) := (up2_a _ _ (by omega)).trans (up2_s _ _ _ _)
        have u8 : sA (uA (uA (uA (uA S6 (m + 10) (8 * s + u) (nI K)) (m + 8) s (nI (u + 1))) (m + 11) s (nI (K + p))) (m + 15) s y) (m + 8) s = nI (u + 1) := (up2_a _ _ (by omega)).trans ((up2_a _ _ (by omega)).trans (up2_s _ _ _ _))
        have u10 : sA (uA (uA (uA (uA S6 (m + 10) (8 * s + u) (nI K)) (m + 8) s (nI (u + 1))) (m + 11) s (nI (K + p))) (m + 15) s y) (m + 10) (8 * s + u) = nI K := (up2_a _ _ (by omega)).trans ((up2_a _ _ (by omega)).trans ((up2_a _ _ (by omega)).trans (up2_s _ _ _ _)))
        have u10b : ∀ j, j ≠ 8 * s + u → sA (uA (uA (uA (uA S6 (m + 10) (8 * s + u) (nI K)) (m + 8) s (nI (u + 1))) (m + 11) s (nI (K + p))) (m + 15) s y) (m + 10) j = sA S6 (m + 10) j := fun j hj => (up2_a _ _ (by omega)).trans ((up2_a _ _ (by omega)).trans ((up2_a _ _ (by omega)).trans (up2_k _ _ hj)))
        generalize uA (uA (uA (uA S6 (m + 10) (8 * s + u) (nI K)) (m + 8) s (nI (u + 1))) (m + 11) s (nI (K + p))) (m + 15) s y = S7 at eU oU u15 u11 u8 u10 u10b ⊢
        have e57 : FZ [m + 8, m + 10, m + 11, m + 15] [] S5 S7 := (eJ.sub (by simp) (by simp)).tr eU
        have wU : WMN m S5 S7 := WMN.fz e57 (by simp)
        have g7 : GD m c t6 S7 := g6.mv e57 (by simp) (by simp) (by simp) (by simp)
        have ptK : ∀ i, i < p → ptr p K i < K + p := fun i hi => by
          unfold ptr; rcases hp with rfl | rfl
          · rw [if_pos rfl]; omega
          · rw [if_neg (by omega)]; omega
        have n12 : ∀ i, i < p → sA S7 (m + 12) (8 * s + K + i) = nI (ptr p K i) ∧ sA S7 (m + 14) (8 * s + K + i) = nI u := fun i hi => by
          rw [e57.2.1 (m + 12) (by simp), e57.2.1 (m + 14) (by simp), k5.1.2.1 (m + 12) (by simp), k5.1.2.1 (m + 14) (by simp)]
          exact prt.1 i hi
        have o12 : ∀ o, 12 ≤ o → o ≤ 14 → ∀ k, k < K → sA S7 (m + o) (8 * s + k) = sA S (m + o) (8 * s + k) := fun o h1 h2 k hk => by
          rw [e57.2.1 (m + o) (by simp; omega)]; exact nb5 o h1 h2 _ (by omega)
        refine V_vret 328 dX12_tellThing_328 rfl (Nat.le_of_ble_eq_true rfl) (Nat.le_of_ble_eq_true rfl) (RV.mk ⟨(e5.sub (by simp) (by simp)).tr (e57.sub (by simp) (by simp)), w5.tr wU, (o5.tr (OUT.fz eJ (by simp) (fun _ _ => by simp))).tr oU, Or.inr ⟨t6, ht6, g7, u11, u8, fun k hk => ?_, fun k hk => ?_, fun i hi => ?_, fun z15 => ?_⟩⟩)
        · by_cases c8 : k < K
          · obtain ⟨p2, q1, q2⟩ := d12 k c8
            exact ⟨p2, by omega, (o12 12 (by omega) (by omega) k c8).trans q2⟩
          · obtain ⟨i, rfl⟩ : ∃ i, k = K + i := ⟨k - K, by omega⟩
            exact ⟨_, ptK i (by omega), by rw [← Nat.add_assoc]; exact (n12 i (by omega)).1⟩
        · by_cases c8 : k < K
          · obtain ⟨p2, q1, q2⟩ := d14 k c8
            exact ⟨p2, q1, (o12 14 (by omega) (by omega) k c8).trans q2⟩
          · obtain ⟨i, rfl⟩ : ∃ i, k = K + i := ⟨k - K, by omega⟩
            exact ⟨u, by omega, by rw [← Nat.add_assoc]; exact (n12 i (by omega)).2⟩
        · by_cases c8 : i < u
          · obtain ⟨q, p2, q1, q2, q3, q4, q5⟩ := d10 i c8
            refine ⟨q, p2, by omega, by omega, ?_, (o12 12 (by omega) (by omega) q q1).trans q4, fun y9 => by have := q5 y9; omega⟩
            rw [u10b _ (by omega), eJ.2.1 (m + 10) (by simp), e5.2.1 (m + 10) (by simp)]
            exact q3
          · have c9 : i = u := by omega
            subst c9
            refine ⟨K, ptr p K 0, by omega, ptK 0 (by omega), u10, (n12 0 (by omega)).1, fun y9 => ?_⟩
            unfold ptr at y9
            rcases hp with rfl | rfl
            · rw [if_pos rfl] at y9; exact absurd rfl y9
            · omega
        · have z5 : sI S5 m 15 = 0 := (e57.2.2 m 15 (by simp)).symm.trans z15
          have zT : sI T m 15 = 0 := (k5.1.2.2 m 15 (by simp)).symm.trans z5
          have zS : sI S m 15 = 0 := Classical.byContradiction (fun q => w5.1 q z5)
          have f13 : sI T m 13 = 0 := by
            rcases k5.2 with q | q
            · exact absurd (g6.1 ▸ q.1) (by decide)
            · exact q.1
          obtain ⟨N, n1, n2, n3⟩ := d13 zS
          obtain ⟨N2, v1, v2, v3⟩ := prt.2 f13 zT
          have x0 : sA S3 (m + 15) s = nI (sumN N K) := by rw [e03.2.1 (m + 15) (by simp)]; exact n2
          have hs2 : sumN N2 p ≤ 18 := by
            have a : sumN N2 p ≤ sumN (fun _ => 9) p := sumN_le p (fun k hk => (v1 k hk).2)
            rcases hp with rfl | rfl
            · have b : sumN (fun _ => 9) 1 = 9 := rfl
              omega
            · have b : sumN (fun _ => 9) 2 = 18 := rfl
              omega
          have ey : y = nI (sumN N K + sumN N2 p) := by rw [v2, x0, nI_add]
          have hy : sumN N K + sumN N2 p ≤ 18 := (nI_leE ey (show (18 : Int32) = nI 18 from rfl) (by omega) (by omega)).mp (v3 rfl)
          refine ⟨fun i => if i < K then N i else N2 (i - K), fun k hk => ?_, ?_, ?_⟩
          · dsimp only
            by_cases c8 : k < K
            · rw [if_pos c8, o12 13 (by omega) (by omega) k c8]
              exact n1 k c8
            · obtain ⟨i, rfl⟩ : ∃ i, k = K + i := ⟨k - K, by omega⟩
              rw [if_neg c8, Nat.add_sub_cancel_left, ← Nat.add_assoc, e57.2.1 (m + 13) (by simp), k5.1.2.1 (m + 13) (by simp)]
              exact v1 i (by omega)
          · rw [sumN_cat, u15]; exact ey
          · rw [sumN_cat]; exact hy
    refine V_aload_0 64 dX12_tellThing_64 ?_
    refine V_getR 65 (c := 12) 23 (F3.r 0 23 11 rfl) dX12_tellThing_65 fl_RX12_49 (F3.m 0 (Nat.le_of_ble_eq_true rfl)) (F3.k 0 12 rfl) (Nat.le_of_ble_eq_true rfl) (Nat.le_of_ble_eq_true rfl) rfl ?_
    refine V_aload_0 68 dX12_tellThing_68 ?_
    refine V_getI 69 (c := 12) 19 dX12_tellThing_69 fl_RX12_267 (F3.m 0 (Nat.le_of_ble_eq_true rfl)) (F3.k 0 12 rfl) (Nat.le_of_ble_eq_true rfl) (Nat.le_of_ble_eq_true rfl) rfl ?_
    rw [es3]
    refine V_iaload2 72 dX12_tellThing_72 (F3.m 11 (Nat.le_of_ble_eq_true rfl)) (F3.k 11 14 rfl) (F3.l 11 2 rfl) ?_ ?_
    · exact vp_in_nI (by omega) (by decide)
    rw [nI_clamp (by omega), eK3]
    refine V_istore_3 73 dX12_tellThing_73 rfl (Nat.le_of_ble_eq_true rfl) ?_
    refine V_aload_0 74 dX12_tellThing_74 ?_
    refine V_getR 75 (c := 12) 27 (F3.r 0 27 15 rfl) dX12_tellThing_75 fl_RX12_61 (F3.m 0 (Nat.le_of_ble_eq_true rfl)) (F3.k 0 12 rfl) (Nat.le_of_ble_eq_true rfl) (Nat.le_of_ble_eq_true rfl) rfl ?_
    refine V_aload_0 78 dX12_tellThing_78 ?_
    refine V_getI 79 (c := 12) 19 dX12_tellThing_79 fl_RX12_267 (F3.m 0 (Nat.le_of_ble_eq_true rfl)) (F3.k 0 12 rfl) (Nat.le_of_ble_eq_true rfl) (Nat.le_of_ble_eq_true rfl) rfl ?_
    rw [es3]
    refine V_iaload2 82 dX12_tellThing_82 (F3.m 15 (Nat.le_of_ble_eq_true rfl)) (F3.k 15 14 rfl) (F3.l 15 2 rfl) ?_ ?_
    · exact vp_in_nI (by omega) (by decide)
    rw [nI_clamp (by omega)]
    refine V_istore_4 83 dX12_tellThing_83 rfl (Nat.le_of_ble_eq_true rfl) ?_
    refine V_iconst 85 (0) dX12_tellThing_85 (by decide) ?_
    refine V_istore_5 86 dX12_tellThing_86 rfl (Nat.le_of_ble_eq_true rfl) ?_
    refine V_while (α := Nat × Int32 × PS × Option Value × Option Value) (fun z => p - z.1) (fun z => z.1 ≤ p ∧ FZ [m + 12, m + 13, m + 14] [(m, 11), (m, 13), (m, 14), (m, 15), (m, 16)] S3 z.2.2.1 ∧ OUT m s S3 z.2.2.1 ∧ NBR m (8 * s + K) (8 * s + K + p) S3 z.2.2.1 ∧ WMN m S3 z.2.2.1 ∧ FGX m c t z.2.2.1 ∧ PRT m s K u p z.1 (sA S3 (m + 15) s) z.2.1 z.2.2.1) (fun z => z.2.2.1) (fun z => [some (.ref m), some (.int (nI p)), some (.int (nI t1)), some (.int (nI K)), some (.int z.2.1), some (.int (nI z.1)), z.2.2.2.1, z.2.2.2.2]) (0, sA S3 (m + 15) s, S3, none, none) ⟨Nat.zero_le _, FZ.rf, OUT.rf, fun _ _ _ _ _ => rfl, WMN.rf, g3, fun i q => absurd q (Nat.not_lt_zero _), fun _ _ => ⟨fun _ => 0, fun i q => absurd q (Nat.not_lt_zero _), (Int32.add_zero _).symm, fun q => by omega⟩⟩ (fun z hz ih => ?_)
    obtain ⟨k, y, T, v6, v7⟩ := z
    obtain ⟨hk, e, o, nb, w, g, prt⟩ := hz
    dsimp only at hk e o nb w g prt ih ⊢
    have FT9 := F3.ss e.1
    obtain ⟨tt, htt, ett⟩ := g.tt
    refine V_iload_5 88 dX12_tellThing_88 ?_
    refine V_iload_1 90 dX12_tellThing_90 ?_
    refine V_icmp_ge 91 235 dX12_tellThing_91 (by decide) (fun c1 => ?_) (fun c1 => ?_)
    · have c2 := (nI_leE (Eq.refl (nI p)) (Eq.refl (nI k)) (by omega) (by omega)).mp (by first | exact c1 | exact Int32.not_lt.mp c1)
      have c3 : k = p := by omega
      subst c3
      exact J235 T y _ _ _ e o nb w g prt
    · have c2 := mt (nI_leE (Eq.refl (nI p)) (Eq.refl (nI k)) (by omega) (by omega)).mpr (fun q => c1 (by first | exact q | exact Int32.not_lt.mpr q))
      refine V_aload_0 94 dX12_tellThing_94 ?_
      refine V_getI 95 (c := 12) 11 dX12_tellThing_95 fl_RX12_237 (FT9.m 0 (Nat.le_of_ble_eq_true rfl)) (FT9.k 0 12 rfl) (Nat.le_of_ble_eq_true rfl) (Nat.le_of_ble_eq_true rfl) rfl ?_
      rw [ett]
      refine V_istore_6 98 dX12_tellThing_98 rfl (Nat.le_of_ble_eq_true rfl) ?_
      refine V_aload_0 100 dX12_tellThing_100 ?_
      refine V_iconst 101 (0) dX12_tellThing_101 (by decide) ?_
      refine V_bipush 102 (9) dX12_tellThing_102 (by decide) ?_
      refine V_callV 104 (ci := 12) [.int _, .int _] _ (s_mbounded M.2.1 Γ T FT9 ett htt _ _) dX12_tellThing_104 cb_X12_bounded ml_RX12_291 im_yX12_bounded se_yX12_bounded (FT9.m 0 (Nat.le_of_ble_eq_true rfl)) (FT9.k 0 12 rfl) (Nat.le_of_ble_eq_true rfl) ⟨(Nat.le_of_ble_eq_true rfl), (Nat.le_of_ble_eq_true rfl)⟩ rfl rfl (Nat.le_of_ble_eq_true rfl) ⟨(Nat.le_of_ble_eq_true rfl), (Nat.le_of_ble_eq_true rfl)⟩ (RI.go (fun v B1 k4 => ?_))
      refine V_istore_7 107 dX12_tellThing_107 rfl (Nat.le_of_ble_eq_true rfl) ?_
      have FB := FT9.ss k4.1.1
      have gB := g.adv k4.2.2 htt ett k4.1 (by simp) (by simp)
      have esB : sI B1 m 19 = nI s := (k4.1.2.2 m 19 (by simp)).trans ((e.2.2 m 19 (by simp)).trans es3)
      have eMB : sA B1 (m + 8) s = nI u := by rw [k4.1.2.1 (m + 8) (by simp), e.2.1 (m + 8) (by simp)]; exact eM3
      refine V_iload_4 109 dX12_tellThing_109 ?_
      refine V_iload_7 111 dX12_tellThing_111 ?_
      refine V_iadd 113 dX12_tellThing_113 ?_
      refine V_istore_4 114 dX12_tellThing_114 rfl (Nat.le_of_ble_eq_true rfl) ?_
      refine V_aload_0 116 dX12_tellThing_116 ?_
      refine V_getR 117 (c := 12) 25 (FB.r 0 25 13 rfl) dX12_tellThing_117 fl_RX12_55 (FB.m 0 (Nat.le_of_ble_eq_true rfl)) (FB.k 0 12 rfl) (Nat.le_of_ble_eq_true rfl) (Nat.le_of_ble_eq_true rfl) rfl ?_
      refine V_bipush 120 (8) dX12_tellThing_120 (by decide) ?_
      refine V_aload_0 122 dX12_tellThing_122 ?_
      refine V_getI 123 (c := 12) 19 dX12_tellThing_123 fl_RX12_267 (FB.m 0 (Nat.le_of_ble_eq_true rfl)) (FB.k 0 12 rfl) (Nat.le_of_ble_eq_true rfl) (Nat.le_of_ble_eq_true rfl) rfl ?_
      rw [esB]
      refine V_imul 126 dX12_tellThing_126 ?_
      rw [show (8 : Int32) * nI s = nI (8 * s) from nI_mul 8 s]
      refine V_iload_3 127 dX12_tellThing_127 ?_
      refine V_iadd 128 dX12_tellThing_128 ?_
      rw [nI_add]
      refine V_iload_5 129 dX12_tellThing_129 ?_
      refine V_iadd 131 dX12_tellThing_131 ?_
      rw [nI_add]
      refine V_iload_7 132 dX12_tellThing_132 ?_
      refine V_iastore2 134 dX12_tellThing_134 (FB.m 13 (Nat.le_of_ble_eq_true rfl)) (FB.k 13 14 rfl) (FB.l 13 16 rfl) ?_ ?_
      · exact vp_in_nI (by omega) (by decide)
      rw [nI_clamp (by omega)]
      have J166 : ∀ (x : Nat), x = ptr p K k → V M Γ (8, RX12, "tellThing", none, RM (4) (0) (0)) cX12_tellThing (RQ M Γ (RV (fun S' => FZ [m + 8, m + 10, m + 11, m + 12, m + 13, m + 14, m + 15] [(m, 11), (m, 13), (m, 14), (m, 15), (m, 16)] S S' ∧ WMN m S S' ∧ OUT m s S S' ∧ (FLT m S' ∨ THG m s K u p c t S'))) (0) (0)) 0 0 (uA B1 (m + 13) (8 * s + K + k) v) 166 [some (.ref m), some (.int (nI p)), some (.int (nI t1)), some (.int (nI K)), some (.int (y + v)), some (.int (nI k)), some (.int (nI tt)), some (.int v)] [.int (nI x), .int (nI (8 * s + K + k)), .ref (m + 12)] := by
        intro x hx
        have F9 := FB.ss (show FZ [m + 13] [] B1 (uA B1 (m + 13) (8 * s + K + k) v) from FZ.rf.uA (by simp)).1
        refine V_iastore2 166 dX12_tellThing_166 (F9.m 12 (Nat.le_of_ble_eq_true rfl)) (F9.k 12 14 rfl) (F9.l 12 16 rfl) ?_ ?_
        · exact vp_in_nI (by omega) (by decide)
        rw [nI_clamp (by omega)]
        refine V_aload_0 167 dX12_tellThing_167 ?_
        refine V_getR 168 (c := 12) 26 (F9.r 0 26 14 rfl) dX12_tellThing_168 fl_RX12_58 (F9.m 0 (Nat.le_of_ble_eq_true rfl)) (F9.k 0 12 rfl) (Nat.le_of_ble_eq_true rfl) (Nat.le_of_ble_eq_true rfl) rfl ?_
        refine V_bipush 171 (8) dX12_tellThing_171 (by decide) ?_
        refine V_aload_0 173 dX12_tellThing_173 ?_
        refine V_getI 174 (c := 12) 19 dX12_tellThing_174 fl_RX12_267 (F9.m 0 (Nat.le_of_ble_eq_true rfl)) (F9.k 0 12 rfl) (Nat.le_of_ble_eq_true rfl) (Nat.le_of_ble_eq_true rfl) rfl ?_
        rw [show sI (uA (uA B1 (m + 13) (8 * s + K + k) v) (m + 12) (8 * s + K + k) (nI x)) m 19 = nI s from esB]
        refine V_imul 177 dX12_tellThing_177 ?_
        rw [show (8 : Int32) * nI s = nI (8 * s) from nI_mul 8 s]
        refine V_iload_3 178 dX12_tellThing_178 ?_
        refine V_iadd 179 dX12_tellThing_179 ?_
        rw [nI_add]
        refine V_iload_5 180 dX12_tellThing_180 ?_
        refine V_iadd 182 dX12_tellThing_182 ?_
        rw [nI_add]
        refine V_aload_0 183 dX12_tellThing_183 ?_
        refine V_getR 184 (c := 12) 20 (F9.r 0 20 8 rfl) dX12_tellThing_184 fl_RX12_40 (F9.m 0 (Nat.le_of_ble_eq_true rfl)) (F9.k 0 12 rfl) (Nat.le_of_ble_eq_true rfl) (Nat.le_of_ble_eq_true rfl) rfl ?_
        refine V_aload_0 187 dX12_tellThing_187 ?_
        refine V_getI 188 (c := 12) 19 dX12_tellThing_188 fl_RX12_267 (F9.m 0 (Nat.le_of_ble_eq_true rfl)) (F9.k 0 12 rfl) (Nat.le_of_ble_eq_true rfl) (Nat.le_of_ble_eq_true rfl) rfl ?_
        rw [show sI (uA (uA B1 (m + 13) (8 * s + K + k) v) (m + 12) (8 * s + K + k) (nI x)) m 19 = nI s from esB]
        refine V_iaload2 191 dX12_tellThing_191 (F9.m 8 (Nat.le_of_ble_eq_true rfl)) (F9.k 8 14 rfl) (F9.l 8 2 rfl) ?_ ?_
        · exact vp_in_nI (by omega) (by decide)
        rw [nI_clamp (by omega), show sA (uA (uA B1 (m + 13) (8 * s + K + k) v) (m + 12) (8 * s + K + k) (nI x)) (m + 8) s = nI u from (up2_a _ _ (by omega)).trans ((up2_a _ _ (by omega)).trans eMB)]
        refine V_iastore2 192 dX12_tellThing_192 (F9.m 14 (Nat.le_of_ble_eq_true rfl)) (F9.k 14 14 rfl) (F9.l 14 16 rfl) ?_ ?_
        · exact vp_in_nI (by omega) (by decide)
        rw [nI_clamp (by omega)]
        have eU : FZ [m + 12, m + 13, m + 14] [] B1 (uA (uA (uA B1 (m + 13) (8 * s + K + k) v) (m + 12) (8 * s + K + k) (nI x)) (m + 14) (8 * s + K + k) (nI u)) := ((FZ.rf.uA (by simp)).uA (by simp)).uA (by simp)
        have oU : OUT m s B1 (uA (uA (uA B1 (m + 13) (8 * s + K + k) v) (m + 12) (8 * s + K + k) (nI x)) (m + 14) (8 * s + K + k) (nI u)) := ((OUT.wr (w := 8) rfl (by omega) (by omega)).tr (OUT.wr (w := 8) rfl (by omega) (by omega))).tr (OUT.wr (w := 8) rfl (by omega) (by omega))
        have u13 : sA (uA (uA (uA B1 (m + 13) (8 * s + K + k) v) (m + 12) (8 * s + K + k) (nI x)) (m + 14) (8 * s + K + k) (nI u)) (m + 13) (8 * s + K + k) = v := (up2_a _ _ (by omega)).trans ((up2_a _ _ (by omega)).trans (up2_s _ _ _ _))
        have u12 : sA (uA (uA (uA B1 (m + 13) (8 * s + K + k) v) (m + 12) (8 * s + K + k) (nI x)) (m + 14) (8 * s + K + k) (nI u)) (m + 12) (8 * s + K + k) = nI x := (up2_a _ _ (by omega)).trans (up2_s _ _ _ _)
        have u14 : sA (uA (uA (uA B1 (m + 13) (8 * s + K + k) v) (m + 12) (8 * s + K + k) (nI x)) (m + 14) (8 * s + K + k) (nI u)) (m + 14) (8 * s + K + k) = nI u := up2_s _ _ _ _
        have ub : ∀ a j, j ≠ 8 * s + K + k → sA (uA (uA (uA B1 (m + 13) (8 * s + K + k) v) (m + 12) (8 * s + K + k) (nI x)) (m + 14) (8 * s + K + k) (nI u)) a j = sA B1 a j := fun a j hj => (up2_k _ _ hj).trans ((up2_k _ _ hj).trans (up2_k _ _ hj))
        generalize uA (uA (uA B1 (m + 13) (8 * s + K + k) v) (m + 12) (8 * s + K + k) (nI x)) (m + 14) (8 * s + K + k) (nI u) = B4 at eU oU u13 u12 u14 ub ⊢
        have F4 := FB.ss eU.1
        have gB4 : FGX m c t B4 := gB.mv eU (by simp) (by simp) (by simp) (by simp)
        have P4 : ∀ i, i < k + 1 → sA B4 (m + 12) (8 * s + K + i) = nI (ptr p K i) ∧ sA B4 (m + 14) (8 * s + K + i) = nI u := fun i hi => by
          by_cases c8 : i = k
          · subst c8; exact ⟨u12.trans (by rw [hx]), u14⟩
          · rw [ub _ _ (by omega), ub _ _ (by omega), k4.1.2.1 (m + 12) (by simp), k4.1.2.1 (m + 14) (by simp)]
            exact prt.1 i (by omega)
        have Q4 : sI B4 m 13 = 0 → sI B4 m 15 = 0 → ∃ N : Nat → Nat, (∀ i, i < k + 1 → sA B4 (m + 13) (8 * s + K + i) = nI (N i) ∧ N i ≤ 9) ∧ y + v = sA S3 (m + 15) s + nI (sumN N (k + 1)) := fun z13 z15 => by
          have y13 : sI B1 m 13 = 0 := (eU.2.2 m 13 (by simp)).symm.trans z13
          have y15 : sI B1 m 15 = 0 := (eU.2.2 m 15 (by simp)).symm.trans z15
          have x15 : sI T m 15 = 0 := Classical.byContradiction (fun q => k4.2.1.1 q y15)
          rcases k4.2.2 with q | ⟨q1, q2, q3, q4, q5⟩
          · exact absurd (y13 ▸ q.1) (by decide)
          · have hv := q5.resolve_right (fun q => q y15)
            obtain ⟨n, hn, rfl⟩ := nI_of2 (M := 9) (n := 9) (by decide) (Int32.not_lt.mpr hv.1) hv.2
            obtain ⟨N, n1, n2, n3⟩ := prt.2 q1 x15
            refine ⟨fun i => if i = k then n else N i, fun i hi => ?_, ?_⟩
            · by_cases c8 : i = k
              · subst c8; dsimp only; rw [if_pos rfl]; exact ⟨u13, hn⟩
              · dsimp only; rw [if_neg c8, ub _ _ (by omega), k4.1.2.1 (m + 13) (by simp)]
                exact n1 i (by omega)
            · have a : sumN (fun i => if i = k then n else N i) (k + 1) = sumN N k + n := by
                show sumN (fun i => if i = k then n else N i) k + (if k = k then n else N k) = _
                rw [if_pos rfl, sumN_eq k (fun i hi => if_neg (by omega))]
              rw [a, n2, ← nI_add, Int32.add_assoc]
        have N4 : NBR m (8 * s + K) (8 * s + K + p) S3 B4 := (nb.tr (NBR.fz k4.1)).tr (fun o _ _ j hj => ub _ _ (by omega))
        have E4 : FZ [m + 12, m + 13, m + 14] [(m, 11), (m, 13), (m, 14), (m, 15), (m, 16)] S3 B4 := (e.tr (k4.1.sub (by simp) (by simp))).tr (eU.sub (by simp) (by simp))
        have O4 : OUT m s S3 B4 := (o.tr (OUT.fz k4.1 (by simp) (fun _ _ => by simp))).tr oU
        have W4 : WMN m S3 B4 := (w.tr k4.2.1).tr (WMN.fz eU (by simp))
        have J229 : ∀ (U : PS), FZ [] [(m, 15), (m, 16)] B4 U → WMN m B4 U → (sI U m 13 = 0 → sI U m 15 = 0 → k + 1 = p → y + v ≤ 18) → V M Γ (8, RX12, "tellThing", none, RM (4) (0) (0)) cX12_tellThing (RQ M Γ (RV (fun S' => FZ [m + 8, m + 10, m + 11, m + 12, m + 13, m + 14, m + 15] [(m, 11), (m, 13), (m, 14), (m, 15), (m, 16)] S S' ∧ WMN m S S' ∧ OUT m s S S' ∧ (FLT m S' ∨ THG m s K u p c t S'))) (0) (0)) 0 0 U 229 [some (.ref m), some (.int (nI p)), some (.int (nI t1)), some (.int (nI K)), some (.int (y + v)), some (.int (nI k)), some (.int (nI tt)), some (.int v)] [] := by
          intro U f1 f2 f3
          refine V_iinc_5 229 (1) dX12_tellThing_229 (by decide) rfl (Nat.le_of_ble_eq_true rfl) ?_
          refine V_goto 232 88 dX12_tellThing_232 (by decide) ?_
          rw [nI_1]
          refine ih (k + 1, y + v, U, _, _) ⟨by dsimp only; omega, E4.tr (f1.sub (by simp) (by simp)), O4.tr (OUT.fz f1 (by simp) (fun _ _ => by simp)), N4.tr (NBR.fz f1), W4.tr f2, gB4.mv f1 (by simp) (by simp) (by simp) (by simp), fun i hi => ?_, fun z13 z15 => ?_⟩ (by dsimp only; omega)
          · rw [f1.2.1 (m + 12) (by simp), f1.2.1 (m + 14) (by simp)]; exact P4 i hi
          · obtain ⟨N, n1, n2⟩ := Q4 ((f1.2.2 m 13 (by simp)).symm.trans z13) (Classical.byContradiction (fun q => f2.1 q z15))
            exact ⟨N, fun i hi => by rw [f1.2.1 (m + 13) (by simp)]; exact n1 i hi, n2, f3 z13 z15⟩
        refine V_aload_0 193 dX12_tellThing_193 ?_
        refine V_getI 194 (c := 12) 13 dX12_tellThing_194 fl_RX12_234 (F4.m 0 (Nat.le_of_ble_eq_true rfl)) (F4.k 0 12 rfl) (Nat.le_of_ble_eq_true rfl) (Nat.le_of_ble_eq_true rfl) rfl ?_
        refine V_if_ne 197 229 dX12_tellThing_197 (by decide) (fun b1 => ?_) (fun b1 => ?_)
        · exact J229 B4 FZ.rf WMN.rf (fun q => absurd q b1)
        ·
          refine V_iload_5 200 dX12_tellThing_200 ?_
          refine V_iload_1 202 dX12_tellThing_202 ?_
          refine V_iconst 203 (1) dX12_tellThing_203 (by decide) ?_
          refine V_isub 204 dX12_tellThing_204 ?_
          rw [m1 (show 0 < p by omega)]
          refine V_icmp_ne 205 229 dX12_tellThing_205 (by decide) (fun b2 => ?_) (fun b2 => ?_)
          · exact J229 B4 FZ.rf WMN.rf (fun _ _ q => absurd (by rw [← q, Nat.add_sub_cancel]) b2)
          ·
            refine V_iload_7 208 dX12_tellThing_208 ?_
            refine V_bipush 210 (10) dX12_tellThing_210 (by decide) ?_
            refine V_icmp_ge 212 229 dX12_tellThing_212 (by decide) (fun b3 => ?_) (fun b3 => ?_)
            · refine J229 B4 FZ.rf WMN.rf (fun z13 z15 q => ?_)
              obtain ⟨N, n1, n2⟩ := Q4 z13 z15
              have n3 := n1 k (by omega)
              rw [u13] at n3
              exact absurd ((nI_ltE n3.1 (show (10 : Int32) = nI 10 from rfl) (by omega) (by omega)).mpr (by omega)) (by first | exact b3 | exact Int32.not_lt.mpr b3)
            ·
              refine V_iload_4 215 dX12_tellThing_215 ?_
              refine V_bipush 217 (18) dX12_tellThing_217 (by decide) ?_
              refine V_icmp_le 219 229 dX12_tellThing_219 (by decide) (fun b4 => ?_) (fun b4 => ?_)
              · exact J229 B4 FZ.rf WMN.rf (fun _ _ _ => b4)
              ·
                refine V_aload_0 222 dX12_tellThing_222 ?_
                refine V_iconst 223 (5) dX12_tellThing_223 (by decide) ?_
                refine V_iload_6 224 dX12_tellThing_224 ?_
                refine V_callV 226 (ci := 12) [.int _, .int _] _ (s_mwrong M.2.1 Γ B4 F4 (k := tt) (by omega) _ (by decide)) dX12_tellThing_226 cb_X12_wrong ml_RX12_304 im_yX12_wrong se_yX12_wrong (F4.m 0 (Nat.le_of_ble_eq_true rfl)) (F4.k 0 12 rfl) (Nat.le_of_ble_eq_true rfl) ⟨(Nat.le_of_ble_eq_true rfl), (Nat.le_of_ble_eq_true rfl)⟩ rfl rfl (Nat.le_of_ble_eq_true rfl) ⟨(Nat.le_of_ble_eq_true rfl), (Nat.le_of_ble_eq_true rfl)⟩ (RV.go (fun S8 k8 => ?_))
                refine J229 S8 k8.1 k8.2.2 (fun z13 z15 _ => ?_)
                rcases k8.2.1 with q | q
                · exact absurd z15 q
                · rw [(k8.1.2.2 m 13 (by simp)).symm.trans z13] at q
                  exact absurd q (by decide)
      have F9 := FB.ss (show FZ [m + 13] [] B1 (uA B1 (m + 13) (8 * s + K + k) v) from FZ.rf.uA (by simp)).1
      refine V_aload_0 135 dX12_tellThing_135 ?_
      refine V_getR 136 (c := 12) 24 (F9.r 0 24 12 rfl) dX12_tellThing_136 fl_RX12_52 (F9.m 0 (Nat.le_of_ble_eq_true rfl)) (F9.k 0 12 rfl) (Nat.le_of_ble_eq_true rfl) (Nat.le_of_ble_eq_true rfl) rfl ?_
      refine V_bipush 139 (8) dX12_tellThing_139 (by decide) ?_
      refine V_aload_0 141 dX12_tellThing_141 ?_
      refine V_getI 142 (c := 12) 19 dX12_tellThing_142 fl_RX12_267 (F9.m 0 (Nat.le_of_ble_eq_true rfl)) (F9.k 0 12 rfl) (Nat.le_of_ble_eq_true rfl) (Nat.le_of_ble_eq_true rfl) rfl ?_
      rw [show sI (uA B1 (m + 13) (8 * s + K + k) v) m 19 = nI s from esB]
      refine V_imul 145 dX12_tellThing_145 ?_
      rw [show (8 : Int32) * nI s = nI (8 * s) from nI_mul 8 s]
      refine V_iload_3 146 dX12_tellThing_146 ?_
      refine V_iadd 147 dX12_tellThing_147 ?_
      rw [nI_add]
      refine V_iload_5 148 dX12_tellThing_148 ?_
      refine V_iadd 150 dX12_tellThing_150 ?_
      rw [nI_add]
      refine V_iload_1 151 dX12_tellThing_151 ?_
      refine V_iconst 152 (1) dX12_tellThing_152 (by decide) ?_
      refine V_icmp_ne 153 160 dX12_tellThing_153 (by decide) (fun c3 => ?_) (fun c3 => ?_)
      · have c4 := mt (nI_eqE (Eq.refl (nI p)) (show (1 : Int32) = nI 1 from rfl) (by omega) (by omega)).mpr c3
        refine V_iload_3 160 dX12_tellThing_160 ?_
        refine V_iconst 161 (1) dX12_tellThing_161 (by decide) ?_
        refine V_iadd 162 dX12_tellThing_162 ?_
        rw [nI_1]
        refine V_iload_5 163 dX12_tellThing_163 ?_
        refine V_isub 165 dX12_tellThing_165 ?_
        rw [show nI (K + 1) - nI k = nI (K + 1 - k) from eqSub rfl rfl (by omega)]
        exact J166 _ (by unfold ptr; rw [if_neg c4])
      · have c4 := (nI_eqE (Eq.refl (nI p)) (show (1 : Int32) = nI 1 from rfl) (by omega) (by omega)).mp c3
        refine V_iload_3 156 dX12_tellThing_156 ?_
        refine V_goto 157 166 dX12_tellThing_157 (by decide) ?_
        exact J166 _ (by unfold ptr; rw [if_pos c4])
  refine V_iload_3 16 dX12_tellThing_16 ?_
  refine V_aload_0 17 dX12_tellThing_17 ?_
  refine V_getR 18 (c := 12) 20 (F3.r 0 20 8 rfl) dX12_tellThing_18 fl_RX12_40 (F3.m 0 (Nat.le_of_ble_eq_true rfl)) (F3.k 0 12 rfl) (Nat.le_of_ble_eq_true rfl) (Nat.le_of_ble_eq_true rfl) rfl ?_
  refine V_aload_0 21 dX12_tellThing_21 ?_
  refine V_getI 22 (c := 12) 19 dX12_tellThing_22 fl_RX12_267 (F3.m 0 (Nat.le_of_ble_eq_true rfl)) (F3.k 0 12 rfl) (Nat.le_of_ble_eq_true rfl) (Nat.le_of_ble_eq_true rfl) rfl ?_
  rw [es3]
  refine V_iaload2 25 dX12_tellThing_25 (F3.m 8 (Nat.le_of_ble_eq_true rfl)) (F3.k 8 14 rfl) (F3.l 8 2 rfl) ?_ ?_
  · exact vp_in_nI (by omega) (by decide)
  rw [nI_clamp (by omega), eM3]
  refine V_icmp_ge 26 64 dX12_tellThing_26 (by decide) (fun c1 => ?_) (fun c1 => ?_)
  · exact J64 _
  · have c2 := mt (nI_leE (Eq.refl (nI u)) (Eq.refl (nI k)) (by omega) (by omega)).mpr (fun q => c1 (by first | exact q | exact Int32.not_lt.mpr q))
    refine V_aload_0 29 dX12_tellThing_29 ?_
    refine V_getI 30 (c := 12) 13 dX12_tellThing_30 fl_RX12_234 (F3.m 0 (Nat.le_of_ble_eq_true rfl)) (F3.k 0 12 rfl) (Nat.le_of_ble_eq_true rfl) (Nat.le_of_ble_eq_true rfl) rfl ?_
    refine V_if_ne 33 64 dX12_tellThing_33 (by decide) (fun c3 => ?_) (fun c3 => ?_)
    · exact J64 _
    · have J58 : ∀ (U : PS), FZ [] [(m, 15), (m, 16)] S3 U → WMN m S3 U → V M Γ (8, RX12, "tellThing", none, RM (4) (0) (0)) cX12_tellThing (RQ M Γ (RV (fun S' => FZ [m + 8, m + 10, m + 11, m + 12, m + 13, m + 14, m + 15] [(m, 11), (m, 13), (m, 14), (m, 15), (m, 16)] S S' ∧ WMN m S S' ∧ OUT m s S S' ∧ (FLT m S' ∨ THG m s K u p c t S'))) (0) (0)) 0 0 U 58 [some (.ref m), some (.int (nI p)), some (.int (nI t1)), some (.int (nI k)), none, none, none, none] [] := by
        intro U f1 f2
        refine V_iinc_3 58 (1) dX12_tellThing_58 (by decide) rfl (Nat.le_of_ble_eq_true rfl) ?_
        refine V_goto 61 16 dX12_tellThing_61 (by decide) ?_
        rw [nI_1]
        exact ih (k + 1, U) ⟨by dsimp only; omega, e3.tr f1, w3.tr f2⟩ (by dsimp only; omega)
      refine V_aload_0 36 dX12_tellThing_36 ?_
      refine V_getR 37 (c := 12) 21 (F3.r 0 21 9 rfl) dX12_tellThing_37 fl_RX12_43 (F3.m 0 (Nat.le_of_ble_eq_true rfl)) (F3.k 0 12 rfl) (Nat.le_of_ble_eq_true rfl) (Nat.le_of_ble_eq_true rfl) rfl ?_
      refine V_iload_3 40 dX12_tellThing_40 ?_
      refine V_laload2 41 dX12_tellThing_41 (F3.m 9 (Nat.le_of_ble_eq_true rfl)) (F3.k 9 15 rfl) (F3.l 9 8 rfl) ?_ ?_
      · exact vp_in_nI (by omega) (by decide)
      refine V_aload_0 42 dX12_tellThing_42 ?_
      refine V_getR 43 (c := 12) 8 (F3.r 0 8 6 rfl) dX12_tellThing_43 fl_RX12_30 (F3.m 0 (Nat.le_of_ble_eq_true rfl)) (F3.k 0 12 rfl) (Nat.le_of_ble_eq_true rfl) (Nat.le_of_ble_eq_true rfl) rfl ?_
      refine V_iload_2 46 dX12_tellThing_46 ?_
      refine V_laload2 47 dX12_tellThing_47 (F3.m 6 (Nat.le_of_ble_eq_true rfl)) (F3.k 6 15 rfl) (F3.l 6 403 rfl) ?_ ?_
      · exact vp_in_nI (by omega) (by decide)
      refine V_lcmp 48 dX12_tellThing_48 ?_
      refine V_if_ne 49 58 dX12_tellThing_49 (by decide) (fun c4 => ?_) (fun c4 => ?_)
      · exact J58 S3 FZ.rf WMN.rf
      ·
        refine V_aload_0 52 dX12_tellThing_52 ?_
        refine V_iconst 53 (3) dX12_tellThing_53 (by decide) ?_
        refine V_iload_2 54 dX12_tellThing_54 ?_
        refine V_callV 55 (ci := 12) [.int _, .int _] _ (s_mwrong M.2.1 Γ S3 F3 (k := t1) (by omega) _ (by decide)) dX12_tellThing_55 cb_X12_wrong ml_RX12_304 im_yX12_wrong se_yX12_wrong (F3.m 0 (Nat.le_of_ble_eq_true rfl)) (F3.k 0 12 rfl) (Nat.le_of_ble_eq_true rfl) ⟨(Nat.le_of_ble_eq_true rfl), (Nat.le_of_ble_eq_true rfl)⟩ rfl rfl (Nat.le_of_ble_eq_true rfl) ⟨(Nat.le_of_ble_eq_true rfl), (Nat.le_of_ble_eq_true rfl)⟩ (RV.go (fun S8 k8 => ?_))
        exact J58 S8 k8.1 k8.2.2

