/-! The reference's reading: what is how unlike -/
def FGX (m c t0 : Nat) (S : PS) : Prop := FLT m S ∨ ∃ t, t0 < t ∧ GD m c t S
section FGS
variable {m c t t0 t1 u : Nat} {S S2 : PS} {X : List Nat} {Y : List (Nat × Nat)} {r : Int32}
theorem FGX.tt (h : FGX m c t0 S) : ∃ t, t ≤ 400 ∧ sI S m 11 = nI t := by
  rcases h with h | ⟨t, -, h⟩
  · exact h.2
  · exact ⟨t, h.2.2.2.1, h.2.2.1⟩
theorem FGX.go (h : GD m c t S) (e : FZ X Y S S2) (y1 : (m, 12) ∉ Y) (y2 : (m, 45) ∉ Y) (q : (0 < sI S2 m 13 ∧ sI S2 m 11 = nI t) ∨ (sI S2 m 13 = sI S m 13 ∧ t < 400 ∧ sI S2 m 11 = nI (t + 1))) : FGX m c t S2 := by
  rcases q with q | ⟨q1, q2, q3⟩
  · exact Or.inl ⟨q.1, t, h.2.2.2.1, q.2⟩
  · exact Or.inr ⟨t + 1, by omega, q1.trans h.1, (e.2.2 _ _ y1).trans h.2.1, q3, by omega, (e.2.2 _ _ y2).trans h.2.2.2.2⟩
theorem FGX.adv {Q : Prop} (h : FGX m c t0 S) (a : ADV m t1 S S2 Q) (ht : t1 ≤ 400) (et : sI S m 11 = nI t1) (e : FZ X Y S S2) (y3 : (m, 12) ∉ Y) (y4 : (m, 45) ∉ Y) : FGX m c t0 S2 := by
  rcases h with h | ⟨t, h1, h⟩
  · exact Or.inl (ADV.flt h a ht)
  · rcases ADV.fg (Or.inr h) a ht et e y3 y4 with q | ⟨-, q, -⟩
    · exact Or.inl q
    · exact Or.inr ⟨t + 1, by omega, q⟩
theorem KNW.adv (h : KNW m t1 u r S S2) (ht : t1 ≤ 400) (e11 : FLT m S2 → sI S2 m 11 = nI t1) : ADV m t1 S S2 True := by
  rcases h with ⟨h, -⟩ | ⟨h1, h2, h3, h4, -⟩
  · exact Or.inl ⟨h.1, e11 h⟩
  · exact Or.inr ⟨h1, h2, h3, h4, trivial⟩
theorem FGX.kn (h : FGX m c t0 S) (a : KNW m t1 u r S S2) (et : sI S m 11 = nI t1) (ht : t1 ≤ 400) (e : FZ X Y S S2) (y3 : (m, 12) ∉ Y) (y4 : (m, 45) ∉ Y) : FGX m c t0 S2 ∧ (r = -1 ∨ ∃ i, i < u ∧ r = nI i) := by
  rcases a with ⟨a, a2⟩ | ⟨a1, a2, a3, a4, a5⟩
  · exact ⟨Or.inl a, Or.inl a2⟩
  · refine ⟨?_, a5.imp (fun q => q.1) id⟩
    rcases h with h | ⟨t, h1, h⟩
    · exact absurd a1 h.no
    · have e0 : t1 = t := (nI_eq (by omega) (by have := h.2.2.2.1; omega)).mp (et.symm.trans h.2.2.1)
      subst e0
      exact Or.inr ⟨t1 + 1, by omega, a2, (e.2.2 _ _ y3).trans h.2.1, a4, by omega, (e.2.2 _ _ y4).trans h.2.2.2.2⟩
theorem FGX.mv (h : FGX m c t0 S) (e : FZ X Y S S2) (y1 : (m, 11) ∉ Y) (y2 : (m, 13) ∉ Y) (y3 : (m, 12) ∉ Y) (y4 : (m, 45) ∉ Y) : FGX m c t0 S2 := h.imp (fun q => q.mv e y1 y2) (fun ⟨t, q1, q2⟩ => ⟨t, q1, q2.mv e y1 y2 y3 y4⟩)
end FGS
theorem neg_lt : ((-1 : Int32) < 0) := by decide
theorem nn0 {i : Nat} (h : i < 2147483648) : ¬ nI i < 0 := fun q => absurd ((nI_ltE (Eq.refl (nI i)) (show (0 : Int32) = nI 0 from rfl) h (by omega)).mp q) (Nat.not_lt_zero _)
set_option maxRecDepth 100000 in
set_option maxHeartbeats 8000000 in
theorem s_mtellLike (l : Launch) (Γ : GC) (S : PS) {m s u c t : Nat} (F : isL lyModel Γ.2.2.2.2.1 S m) (es : sI S m 19 = nI s) (hs : s < 2) (eM : sA S (m + 8) s = nI u) (hM : u ≤ 8) (h : GD m c t S) : CT l Γ yX12_tellLike cX12_tellLike 4 none (4) (0) (0) [.ref m] S (RV (fun S' => FZ [m + 16, m + 17] [(m, 11), (m, 13), (m, 14), (m, 15), (m, 16)] S S' ∧ WMN m S S' ∧ FGX m c t S')) := by
  refine CT.of RX12 "tellLike" [some (.ref m), none, none, none] (by decide +kernel) rfl rfl (Nat.le_of_ble_eq_true rfl) rfl (fun M hM => ?_)
  subst hM
  refine V_aload_0 0 dX12_tellLike_0 ?_
  refine V_callV 1 (ci := 12) [] _ (s_mgoesOn M.2.1 Γ S F h.2.2.1 h.2.2.2.1) dX12_tellLike_1 cb_X12_goesOn ml_RX12_255 im_yX12_goesOn se_yX12_goesOn (F.m 0 (Nat.le_of_ble_eq_true rfl)) (F.k 0 12 rfl) (Nat.le_of_ble_eq_true rfl) ⟨(Nat.le_of_ble_eq_true rfl), (Nat.le_of_ble_eq_true rfl)⟩ rfl rfl (Nat.le_of_ble_eq_true rfl) ⟨(Nat.le_of_ble_eq_true rfl), (Nat.le_of_ble_eq_true rfl)⟩ (RV.go (fun S1 k1 => ?_))
  have F1 := F.ss k1.1.1
  have g1 : FGX m c t S1 := FGX.go h k1.1 (by simp) (by simp) k1.2
  obtain ⟨t1, ht1, et1⟩ := g1.tt
  have es1 : sI S1 m 19 = nI s := (k1.1.2.2 m 19 (by simp)).trans es
  have eM1 : sA S1 (m + 8) s = nI u := by rw [k1.1.2.1 (m + 8) (by simp)]; exact eM
  refine V_aload_0 4 dX12_tellLike_4 ?_
  refine V_callV 5 (ci := 12) [] _ (s_mknown M.2.1 Γ S1 F1 es1 hs eM1 hM et1 ht1) dX12_tellLike_5 cb_X12_known ml_RX12_308 im_yX12_known se_yX12_known (F1.m 0 (Nat.le_of_ble_eq_true rfl)) (F1.k 0 12 rfl) (Nat.le_of_ble_eq_true rfl) ⟨(Nat.le_of_ble_eq_true rfl), (Nat.le_of_ble_eq_true rfl)⟩ rfl rfl (Nat.le_of_ble_eq_true rfl) ⟨(Nat.le_of_ble_eq_true rfl), (Nat.le_of_ble_eq_true rfl)⟩ (RI.go (fun r2 S2 k2 => ?_))
  refine V_istore_1 8 dX12_tellLike_8 rfl (Nat.le_of_ble_eq_true rfl) ?_
  have F2 := F1.ss k2.1.1
  have g2 := g1.kn k2.2.2 et1 ht1 k2.1 (by simp) (by simp)
  obtain ⟨t2, ht2, et2⟩ := g2.1.tt
  have es2 : sI S2 m 19 = nI s := (k2.1.2.2 m 19 (by simp)).trans es1
  have eM2 : sA S2 (m + 8) s = nI u := by rw [k2.1.2.1 (m + 8) (by simp)]; exact eM1
  refine V_aload_0 9 dX12_tellLike_9 ?_
  refine V_callV 10 (ci := 12) [] _ (s_mknown M.2.1 Γ S2 F2 es2 hs eM2 hM et2 ht2) dX12_tellLike_10 cb_X12_known ml_RX12_308 im_yX12_known se_yX12_known (F2.m 0 (Nat.le_of_ble_eq_true rfl)) (F2.k 0 12 rfl) (Nat.le_of_ble_eq_true rfl) ⟨(Nat.le_of_ble_eq_true rfl), (Nat.le_of_ble_eq_true rfl)⟩ rfl rfl (Nat.le_of_ble_eq_true rfl) ⟨(Nat.le_of_ble_eq_true rfl), (Nat.le_of_ble_eq_true rfl)⟩ (RI.go (fun r3 S3 k3 => ?_))
  refine V_istore_2 13 dX12_tellLike_13 rfl (Nat.le_of_ble_eq_true rfl) ?_
  have F3 := F2.ss k3.1.1
  have g3 := g2.1.kn k3.2.2 et2 ht2 k3.1 (by simp) (by simp)
  obtain ⟨t3, ht3, et3⟩ := g3.1.tt
  have es3 : sI S3 m 19 = nI s := (k3.1.2.2 m 19 (by simp)).trans es2
  refine V_aload_0 14 dX12_tellLike_14 ?_
  refine V_iconst 15 (0) dX12_tellLike_15 (by decide) ?_
  refine V_bipush 16 (99) dX12_tellLike_16 (by decide) ?_
  refine V_callV 18 (ci := 12) [.int _, .int _] _ (s_mbounded M.2.1 Γ S3 F3 et3 ht3 _ _) dX12_tellLike_18 cb_X12_bounded ml_RX12_291 im_yX12_bounded se_yX12_bounded (F3.m 0 (Nat.le_of_ble_eq_true rfl)) (F3.k 0 12 rfl) (Nat.le_of_ble_eq_true rfl) ⟨(Nat.le_of_ble_eq_true rfl), (Nat.le_of_ble_eq_true rfl)⟩ rfl rfl (Nat.le_of_ble_eq_true rfl) ⟨(Nat.le_of_ble_eq_true rfl), (Nat.le_of_ble_eq_true rfl)⟩ (RI.go (fun r4 S4 k4 => ?_))
  refine V_istore_3 21 dX12_tellLike_21 rfl (Nat.le_of_ble_eq_true rfl) ?_
  have F4 := F3.ss k4.1.1
  have g4 := g3.1.adv k4.2.2 ht3 et3 k4.1 (by simp) (by simp)
  obtain ⟨t4, ht4, et4⟩ := g4.tt
  have es4 : sI S4 m 19 = nI s := (k4.1.2.2 m 19 (by simp)).trans es3
  refine V_aload_0 22 dX12_tellLike_22 ?_
  refine V_iconst 23 (4) dX12_tellLike_23 (by decide) ?_
  refine V_callV 24 (ci := 12) [.int _] _ (s_mmust M.2.1 Γ S4 F4 et4 ht4 _) dX12_tellLike_24 cb_X12_must ml_RX12_295 im_yX12_must se_yX12_must (F4.m 0 (Nat.le_of_ble_eq_true rfl)) (F4.k 0 12 rfl) (Nat.le_of_ble_eq_true rfl) ⟨(Nat.le_of_ble_eq_true rfl), (Nat.le_of_ble_eq_true rfl)⟩ rfl rfl (Nat.le_of_ble_eq_true rfl) ⟨(Nat.le_of_ble_eq_true rfl), (Nat.le_of_ble_eq_true rfl)⟩ (RV.go (fun S5 k5 => ?_))
  have F5 := F4.ss k5.1.1
  have g5 := g4.adv k5.2 ht4 et4 k5.1 (by simp) (by simp)
  have es5 : sI S5 m 19 = nI s := (k5.1.2.2 m 19 (by simp)).trans es4
  have E5 : FZ [m + 16, m + 17] [(m, 11), (m, 13), (m, 14), (m, 15), (m, 16)] S S5 := ((((k1.1.sub (by simp) (by simp)).tr (k2.1.sub (by simp) (by simp))).tr (k3.1.sub (by simp) (by simp))).tr (k4.1.sub (by simp) (by simp))).tr (k5.1.sub (by simp) (by simp))
  have W5 : WMN m S S5 := ((((WMN.fz k1.1 (by simp)).tr k2.2.1).tr k3.2.1).tr k4.2.1).tr (WMN.fz k5.1 (by simp))
  have END : ∀ (U : PS), FZ [m + 16, m + 17] [] S5 U → FZ [m + 16, m + 17] [(m, 11), (m, 13), (m, 14), (m, 15), (m, 16)] S U ∧ WMN m S U ∧ FGX m c t U := fun U e => ⟨E5.tr (e.sub (by simp) (by simp)), W5.tr (WMN.fz e (by simp)), g5.mv e (by simp) (by simp) (by simp) (by simp)⟩
  refine V_aload_0 27 dX12_tellLike_27 ?_
  refine V_getI 28 (c := 12) 13 dX12_tellLike_28 fl_RX12_234 (F5.m 0 (Nat.le_of_ble_eq_true rfl)) (F5.k 0 12 rfl) (Nat.le_of_ble_eq_true rfl) (Nat.le_of_ble_eq_true rfl) rfl ?_
  refine V_if_le 31 35 dX12_tellLike_31 (by decide) (fun c1 => ?_) (fun c1 => ?_)
  ·
    refine V_aload_0 35 dX12_tellLike_35 ?_
    refine V_getR 36 (c := 12) 28 (F5.r 0 28 16 rfl) dX12_tellLike_36 fl_RX12_64 (F5.m 0 (Nat.le_of_ble_eq_true rfl)) (F5.k 0 12 rfl) (Nat.le_of_ble_eq_true rfl) (Nat.le_of_ble_eq_true rfl) rfl ?_
    refine V_aload_0 39 dX12_tellLike_39 ?_
    refine V_getI 40 (c := 12) 19 dX12_tellLike_40 fl_RX12_267 (F5.m 0 (Nat.le_of_ble_eq_true rfl)) (F5.k 0 12 rfl) (Nat.le_of_ble_eq_true rfl) (Nat.le_of_ble_eq_true rfl) rfl ?_
    rw [es5]
    refine V_dup2 43 dX12_tellLike_43 rfl rfl ?_
    refine V_iaload2 44 dX12_tellLike_44 (F5.m 16 (Nat.le_of_ble_eq_true rfl)) (F5.k 16 14 rfl) (F5.l 16 2 rfl) ?_ ?_
    · exact vp_in_nI (by omega) (by decide)
    rw [nI_clamp (by omega)]
    refine V_iconst 45 (1) dX12_tellLike_45 (by decide) ?_
    refine V_iadd 46 dX12_tellLike_46 ?_
    refine V_iastore2 47 dX12_tellLike_47 (F5.m 16 (Nat.le_of_ble_eq_true rfl)) (F5.k 16 14 rfl) (F5.l 16 2 rfl) ?_ ?_
    · exact vp_in_nI (by omega) (by decide)
    rw [nI_clamp (by omega)]
    have eU : FZ [m + 16, m + 17] [] S5 (uA S5 (m + 16) s (sA S5 (m + 16) s + 1)) := FZ.rf.uA (by simp)
    have es6 : sI (uA S5 (m + 16) s (sA S5 (m + 16) s + 1)) m 19 = nI s := es5
    generalize uA S5 (m + 16) s (sA S5 (m + 16) s + 1) = S6 at eU es6 ⊢
    have F6 := F5.ss eU.1
    have J61 : V M Γ (4, RX12, "tellLike", none, RM (4) (0) (0)) cX12_tellLike (RQ M Γ (RV (fun S' => FZ [m + 16, m + 17] [(m, 11), (m, 13), (m, 14), (m, 15), (m, 16)] S S' ∧ WMN m S S' ∧ FGX m c t S')) (0) (0)) 0 0 S6 61 [some (.ref m), some (.int r2), some (.int r3), some (.int r4)] [] := by
      refine V_vret 61 dX12_tellLike_61 rfl (Nat.le_of_ble_eq_true rfl) (Nat.le_of_ble_eq_true rfl) (RV.mk (END S6 eU))
    refine V_iload_1 48 dX12_tellLike_48 ?_
    rcases g2.2 with rfl | ⟨i, hi, rfl⟩
    ·
      refine V_if_lt 49 61 dX12_tellLike_49 (by decide) (fun _ => ?_) (fun q => absurd neg_lt q)
      exact J61
    ·
      refine V_if_lt 49 61 dX12_tellLike_49 (by decide) (fun q => absurd q (nn0 (by omega))) (fun _ => ?_)
      refine V_iload_2 52 dX12_tellLike_52 ?_
      rcases g3.2 with rfl | ⟨j, hj, rfl⟩
      ·
        refine V_if_lt 53 61 dX12_tellLike_53 (by decide) (fun _ => ?_) (fun q => absurd neg_lt q)
        exact J61
      ·
        refine V_if_lt 53 61 dX12_tellLike_53 (by decide) (fun q => absurd q (nn0 (by omega))) (fun _ => ?_)
        refine V_iload_1 56 dX12_tellLike_56 ?_
        refine V_iload_2 57 dX12_tellLike_57 ?_
        refine V_icmp_ne 58 62 dX12_tellLike_58 (by decide) (fun c2 => ?_) (fun c2 => ?_)
        ·
          refine V_aload_0 62 dX12_tellLike_62 ?_
          refine V_getR 63 (c := 12) 29 (F6.r 0 29 17 rfl) dX12_tellLike_63 fl_RX12_67 (F6.m 0 (Nat.le_of_ble_eq_true rfl)) (F6.k 0 12 rfl) (Nat.le_of_ble_eq_true rfl) (Nat.le_of_ble_eq_true rfl) rfl ?_
          refine V_bipush 66 (64) dX12_tellLike_66 (by decide) ?_
          refine V_aload_0 68 dX12_tellLike_68 ?_
          refine V_getI 69 (c := 12) 19 dX12_tellLike_69 fl_RX12_267 (F6.m 0 (Nat.le_of_ble_eq_true rfl)) (F6.k 0 12 rfl) (Nat.le_of_ble_eq_true rfl) (Nat.le_of_ble_eq_true rfl) rfl ?_
          rw [es6]
          refine V_imul 72 dX12_tellLike_72 ?_
          refine V_bipush 73 (8) dX12_tellLike_73 (by decide) ?_
          refine V_iload_1 75 dX12_tellLike_75 ?_
          refine V_imul 76 dX12_tellLike_76 ?_
          rw [show (64 : Int32) * nI s = nI (64 * s) from nI_mul 64 s, show (8 : Int32) * nI i = nI (8 * i) from nI_mul 8 i]
          refine V_iadd 77 dX12_tellLike_77 ?_
          rw [nI_add]
          refine V_iload_2 78 dX12_tellLike_78 ?_
          refine V_iadd 79 dX12_tellLike_79 ?_
          rw [nI_add]
          refine V_iload_3 80 dX12_tellLike_80 ?_
          refine V_iastore2 81 dX12_tellLike_81 (F6.m 17 (Nat.le_of_ble_eq_true rfl)) (F6.k 17 14 rfl) (F6.l 17 128 rfl) ?_ ?_
          · exact vp_in_nI (by omega) (by decide)
          rw [nI_clamp (by omega)]
          refine V_aload_0 82 dX12_tellLike_82 ?_
          refine V_getR 83 (c := 12) 29 (F6.r 0 29 17 rfl) dX12_tellLike_83 fl_RX12_67 (F6.m 0 (Nat.le_of_ble_eq_true rfl)) (F6.k 0 12 rfl) (Nat.le_of_ble_eq_true rfl) (Nat.le_of_ble_eq_true rfl) rfl ?_
          refine V_bipush 86 (64) dX12_tellLike_86 (by decide) ?_
          refine V_aload_0 88 dX12_tellLike_88 ?_
          refine V_getI 89 (c := 12) 19 dX12_tellLike_89 fl_RX12_267 (F6.m 0 (Nat.le_of_ble_eq_true rfl)) (F6.k 0 12 rfl) (Nat.le_of_ble_eq_true rfl) (Nat.le_of_ble_eq_true rfl) rfl ?_
          rw [show sI (uA S6 (m + 17) (64 * s + 8 * i + j) r4) m 19 = nI s from es6]
          refine V_imul 92 dX12_tellLike_92 ?_
          refine V_bipush 93 (8) dX12_tellLike_93 (by decide) ?_
          refine V_iload_2 95 dX12_tellLike_95 ?_
          refine V_imul 96 dX12_tellLike_96 ?_
          rw [show (64 : Int32) * nI s = nI (64 * s) from nI_mul 64 s, show (8 : Int32) * nI j = nI (8 * j) from nI_mul 8 j]
          refine V_iadd 97 dX12_tellLike_97 ?_
          rw [nI_add]
          refine V_iload_1 98 dX12_tellLike_98 ?_
          refine V_iadd 99 dX12_tellLike_99 ?_
          rw [nI_add]
          refine V_iload_3 100 dX12_tellLike_100 ?_
          refine V_iastore2 101 dX12_tellLike_101 (F6.m 17 (Nat.le_of_ble_eq_true rfl)) (F6.k 17 14 rfl) (F6.l 17 128 rfl) ?_ ?_
          · exact vp_in_nI (by omega) (by decide)
          rw [nI_clamp (by omega)]
          refine V_vret 102 dX12_tellLike_102 rfl (Nat.le_of_ble_eq_true rfl) (Nat.le_of_ble_eq_true rfl) (RV.mk (END _ ((eU.uA (by simp)).uA (by simp))))
        · exact J61
  ·
    refine V_vret 34 dX12_tellLike_34 rfl (Nat.le_of_ble_eq_true rfl) (Nat.le_of_ble_eq_true rfl) (RV.mk (END S5 FZ.rf))

