/-! The reference's reading: codes and what waits -/
/-- outside a .. b the codes stand -/
def CW (m a b : Nat) (S S2 : PS) : Prop := ∀ i, (i < a ∨ b ≤ i) → sA S2 (m + 32) i = sA S (m + 32) i ∧ sA S2 (m + 33) i = sA S (m + 33) i
def PUSH (m : Nat) (S : PS) (c : Nat) : Prop := sA S (m + 32) c = nI 0 ∨ (sA S (m + 32) c = nI 1 ∧ ∃ v, v < 5 ∧ sA S (m + 33) c = nI v)
/-- a fault, its token in sight -/
def FLT (m : Nat) (S : PS) : Prop := 0 < sI S m 13 ∧ ∃ t, t ≤ 400 ∧ sI S m 11 = nI t
/-- n wait, o of them open, the last of rank r -/
def STK (m : Nat) (S : PS) : Nat → Nat → Nat → Prop
  | 0, o, r => o = 0 ∧ r = 0
  | n + 1, o, r => (sA S (m + 34) n = nI 6 ∧ r = 0 ∧ ∃ o2 r2, o = o2 + 1 ∧ STK m S n o2 r2) ∨ ((sA S (m + 34) n = nI 8 ∨ sA S (m + 34) n = nI 9) ∧ r = 1 ∧ STK m S n o 0) ∨ ((sA S (m + 34) n = nI 10 ∨ sA S (m + 34) n = nI 15) ∧ r = 2 ∧ ∃ r2, r2 ≤ 1 ∧ STK m S n o r2)
section CDS
variable {m a b c d : Nat} {S S2 S3 : PS}
theorem CW.rf : CW m a b S S := fun _ _ => ⟨rfl, rfl⟩
theorem CW.tr {a2 b2 : Nat} (h : CW m a b S S2) (g : CW m a2 b2 S2 S3) (l : a ≤ a2) (l2 : b ≤ b2) : CW m a b2 S S3 := fun i q => ⟨(g i (by omega)).1.trans (h i (by omega)).1, (g i (by omega)).2.trans (h i (by omega)).2⟩
theorem CW.wide {b2 : Nat} (h : CW m a b S S2) (l : b ≤ b2) : CW m a b2 S S2 := fun i q => h i (by omega)
theorem CW.fz {X : List Nat} {Y : List (Nat × Nat)} (e : FZ X Y S S2) (h1 : (m + 32) ∉ X) (h2 : (m + 33) ∉ X) : CW m a b S S2 := fun i _ => ⟨by rw [e.2.1 _ h1], by rw [e.2.1 _ h2]⟩
theorem RP.cw : ∀ n h, RP m c S n h → CW m (c + n) d S S2 → RP m c S2 n h
  | 0, h, q, _ => q
  | n + 1, h, q, e => by
    obtain ⟨k, q1, q2⟩ := q
    refine ⟨k, RP.cw n k q1 (fun i hi => e i (by omega)), ?_⟩
    rw [(e (c + n) (by omega)).1, (e (c + n) (by omega)).2]; exact q2
theorem STK.eq : ∀ n o r, STK m S n o r → (∀ i, i < n → sA S2 (m + 34) i = sA S (m + 34) i) → STK m S2 n o r
  | 0, _, _, q, _ => q
  | n + 1, o, r, q, e => by
    unfold STK at q ⊢
    rw [e n (by omega)]
    have f : ∀ o r, STK m S n o r → STK m S2 n o r := fun o r p => STK.eq n o r p (fun i hi => e i (by omega))
    rcases q with ⟨q1, q2, o2, r2, q3, q4⟩ | ⟨q1, q2, q3⟩ | ⟨q1, q2, r2, q3, q4⟩
    · exact Or.inl ⟨q1, q2, o2, r2, q3, f _ _ q4⟩
    · exact Or.inr (Or.inl ⟨q1, q2, f _ _ q3⟩)
    · exact Or.inr (Or.inr ⟨q1, q2, r2, q3, f _ _ q4⟩)
theorem STK.le : ∀ n o r, STK m S n o r → o ≤ n ∧ r ≤ 2 ∧ n ≤ 3 * o + r ∧ (0 < r → o < n)
  | 0, o, r, q => by have a := q.1; have b := q.2; omega
  | n + 1, o, r, q => by
    unfold STK at q
    rcases q with ⟨q1, q2, o2, r2, q3, q4⟩ | ⟨q1, q2, q3⟩ | ⟨q1, q2, r2, q3, q4⟩
    · have := STK.le n o2 r2 q4; omega
    · have := STK.le n o 0 q3; omega
    · have := STK.le n o r2 q4; omega
end CDS
set_option maxRecDepth 100000 in
set_option maxHeartbeats 8000000 in
theorem s_memit (l : Launch) (Γ : GC) (S : PS) {m c : Nat} (F : isL lyModel Γ.2.2.2.2.1 S m) (ec : sI S m 45 = nI c) (hc : c < 840) (x y : Int32) : CT l Γ yX12_emit cX12_emit 3 none (0) (0) (0) [.ref m, .int x, .int y] S (RV (fun S' => FZ [m + 32, m + 33] [(m, 45)] S S' ∧ sI S' m 45 = nI (c + 1) ∧ sA S' (m + 32) c = x ∧ sA S' (m + 33) c = y ∧ CW m c (c + 1) S S')) := by
  refine CT.of RX12 "emit" [some (.ref m), some (.int x), some (.int y)] (by decide +kernel) rfl rfl (Nat.le_of_ble_eq_true rfl) rfl (fun M hM => ?_)
  subst hM
  refine V_aload_0 0 dX12_emit_0 ?_
  refine V_getR 1 (c := 12) 46 (F.r 0 46 32 rfl) dX12_emit_1 fl_RX12_113 (F.m 0 (Nat.le_of_ble_eq_true rfl)) (F.k 0 12 rfl) (Nat.le_of_ble_eq_true rfl) (Nat.le_of_ble_eq_true rfl) rfl ?_
  refine V_aload_0 4 dX12_emit_4 ?_
  refine V_getI 5 (c := 12) 45 dX12_emit_5 fl_RX12_273 (F.m 0 (Nat.le_of_ble_eq_true rfl)) (F.k 0 12 rfl) (Nat.le_of_ble_eq_true rfl) (Nat.le_of_ble_eq_true rfl) rfl ?_
  rw [ec]
  refine V_iload_1 8 dX12_emit_8 ?_
  refine V_iastore2 9 dX12_emit_9 (F.m 32 (Nat.le_of_ble_eq_true rfl)) (F.k 32 14 rfl) (F.l 32 840 rfl) ?_ ?_
  · exact vp_in_nI (by omega) (by decide)
  refine V_aload_0 10 dX12_emit_10 ?_
  refine V_getR 11 (c := 12) 47 (F.r 0 47 33 rfl) dX12_emit_11 fl_RX12_116 (F.m 0 (Nat.le_of_ble_eq_true rfl)) (F.k 0 12 rfl) (Nat.le_of_ble_eq_true rfl) (Nat.le_of_ble_eq_true rfl) rfl ?_
  refine V_aload_0 14 dX12_emit_14 ?_
  refine V_getI 15 (c := 12) 45 dX12_emit_15 fl_RX12_273 (F.m 0 (Nat.le_of_ble_eq_true rfl)) (F.k 0 12 rfl) (Nat.le_of_ble_eq_true rfl) (Nat.le_of_ble_eq_true rfl) rfl ?_
  rw [show sI (uA S (m + 32) (nI c).toNatClampNeg x) m 45 = nI c from ec]
  refine V_iload_2 18 dX12_emit_18 ?_
  refine V_iastore2 19 dX12_emit_19 (F.m 33 (Nat.le_of_ble_eq_true rfl)) (F.k 33 14 rfl) (F.l 33 840 rfl) ?_ ?_
  · exact vp_in_nI (by omega) (by decide)
  refine V_aload_0 20 dX12_emit_20 ?_
  refine V_dup 21 dX12_emit_21 rfl ?_
  refine V_getI 22 (c := 12) 45 dX12_emit_22 fl_RX12_273 (F.m 0 (Nat.le_of_ble_eq_true rfl)) (F.k 0 12 rfl) (Nat.le_of_ble_eq_true rfl) (Nat.le_of_ble_eq_true rfl) rfl ?_
  rw [show sI (uA (uA S (m + 32) (nI c).toNatClampNeg x) (m + 33) (nI c).toNatClampNeg y) m 45 = nI c from ec]
  refine V_iconst 25 (1) dX12_emit_25 (by decide) ?_
  refine V_iadd 26 dX12_emit_26 ?_
  refine V_putI 27 (c := 12) 45 dX12_emit_27 fl_RX12_273 (F.m 0 (Nat.le_of_ble_eq_true rfl)) (F.k 0 12 rfl) (Nat.le_of_ble_eq_true rfl) (Nat.le_of_ble_eq_true rfl) rfl (Or.inl rfl) ?_
  rw [nI_clamp (by omega)]
  refine V_vret 30 dX12_emit_30 rfl (Nat.le_of_ble_eq_true rfl) (Nat.le_of_ble_eq_true rfl) (RV.mk ⟨((FZ.rf.uA (by simp)).uA (by simp)).uI (by simp), (up2_s _ _ _ _).trans (nI_1 c), ?_, ?_, fun i hi => ⟨?_, ?_⟩⟩)
  · show up2 (up2 (sA S) (m + 32) c x) (m + 33) c y (m + 32) c = x
    rw [up2_a _ _ (by omega), up2_s]
  · show up2 (up2 (sA S) (m + 32) c x) (m + 33) c y (m + 33) c = y
    rw [up2_s]
  · show up2 (up2 (sA S) (m + 32) c x) (m + 33) c y (m + 32) i = _
    rw [up2_a _ _ (by omega), up2_k _ _ (by omega)]
  · show up2 (up2 (sA S) (m + 32) c x) (m + 33) c y (m + 33) i = _
    rw [up2_k _ _ (by omega), up2_a _ _ (by omega)]
set_option maxRecDepth 100000 in
set_option maxHeartbeats 8000000 in
theorem s_munit (l : Launch) (Γ : GC) (S : PS) {m c t : Nat} (F : isL lyModel Γ.2.2.2.2.1 S m) (ec : sI S m 45 = nI c) (hc : c < 840) (et : sI S m 11 = nI t) (ht : t ≤ 400) : CT l Γ yX12_unit cX12_unit 1 none (2) (0) (0) [.ref m] S (RV (fun S' => FZ [m + 32, m + 33] [(m, 11), (m, 13), (m, 14), (m, 45)] S S' ∧ CW m c (c + 1) S S' ∧ (FLT m S' ∨ (sI S m 13 = 0 ∧ sI S' m 13 = 0 ∧ t < 400 ∧ sI S' m 11 = nI (t + 1) ∧ sI S' m 45 = nI (c + 1) ∧ PUSH m S' c)))) := by
  refine CT.of RX12 "unit" [some (.ref m)] (by decide +kernel) rfl rfl (Nat.le_of_ble_eq_true rfl) rfl (fun M hM => ?_)
  subst hM
  have J88 : V M Γ (1, RX12, "unit", none, RM (2) (0) (0)) cX12_unit (RQ M Γ (RV (fun S' => FZ [m + 32, m + 33] [(m, 11), (m, 13), (m, 14), (m, 45)] S S' ∧ CW m c (c + 1) S S' ∧ (FLT m S' ∨ (sI S m 13 = 0 ∧ sI S' m 13 = 0 ∧ t < 400 ∧ sI S' m 11 = nI (t + 1) ∧ sI S' m 45 = nI (c + 1) ∧ PUSH m S' c)))) (0) (0)) 0 0 S 88 [some (.ref m)] [] := by
    refine V_aload_0 88 dX12_unit_88 ?_
    refine V_iconst 89 (1) dX12_unit_89 (by decide) ?_
    refine V_callV 90 (ci := 12) [.int _] _ (s_mfail M.2.1 Γ S F et ht _ (by decide)) dX12_unit_90 cb_X12_fail ml_RX12_249 im_yX12_fail se_yX12_fail (F.m 0 (Nat.le_of_ble_eq_true rfl)) (F.k 0 12 rfl) (Nat.le_of_ble_eq_true rfl) ⟨(Nat.le_of_ble_eq_true rfl), (Nat.le_of_ble_eq_true rfl)⟩ rfl rfl (Nat.le_of_ble_eq_true rfl) ⟨(Nat.le_of_ble_eq_true rfl), (Nat.le_of_ble_eq_true rfl)⟩ (RV.go (fun S2 h2 => ?_))
    refine V_vret 93 dX12_unit_93 rfl (Nat.le_of_ble_eq_true rfl) (Nat.le_of_ble_eq_true rfl) (RV.mk ⟨h2.1.sub (by simp) (by simp), CW.fz h2.1 (by simp) (by simp), Or.inl ⟨h2.2, t, ht, (h2.1.2.2 m 11 (by simp)).trans et⟩⟩)
  have EN : ∀ (T T2 : PS), sI S m 13 = 0 → FZ [m + 32, m + 33] [(m, 45)] S T → sI T m 45 = nI (c + 1) → PUSH m T c → CW m c (c + 1) S T → FZ [] [(m, 11), (m, 13), (m, 14)] T T2 → ((0 < sI T2 m 13 ∧ sI T2 m 11 = nI t) ∨ (sI T2 m 13 = sI T m 13 ∧ t < 400 ∧ sI T2 m 11 = nI (t + 1))) → FZ [m + 32, m + 33] [(m, 11), (m, 13), (m, 14), (m, 45)] S T2 ∧ CW m c (c + 1) S T2 ∧ (FLT m T2 ∨ (sI S m 13 = 0 ∧ sI T2 m 13 = 0 ∧ t < 400 ∧ sI T2 m 11 = nI (t + 1) ∧ sI T2 m 45 = nI (c + 1) ∧ PUSH m T2 c)) := by
    intro T T2 z e e45 p cw e2 q
    refine ⟨(e.sub (by simp) (by simp)).tr (e2.sub (by simp) (by simp)), (CW.tr cw (CW.fz (a := c) (b := c + 1) e2 (by simp) (by simp)) (Nat.le_refl _) (Nat.le_refl _)), ?_⟩
    rcases q with ⟨q1, q2⟩ | ⟨q1, q2, q3⟩
    · exact Or.inl ⟨q1, t, ht, q2⟩
    · refine Or.inr ⟨z, (q1.trans (e.2.2 m 13 (by simp))).trans z, q2, q3, (e2.2.2 m 45 (by simp)).trans e45, ?_⟩
      unfold PUSH at p ⊢
      rw [e2.2.1 (m + 32) (by simp), e2.2.1 (m + 33) (by simp)]
      exact p
  refine V_aload_0 0 dX12_unit_0 ?_
  refine V_iconst 1 (2) dX12_unit_1 (by decide) ?_
  refine V_callV 2 (ci := 12) [.int _] _ (s_mis M.2.1 Γ S F et ht _) dX12_unit_2 cb_X12_is ml_RX12_252 im_yX12_is se_yX12_is (F.m 0 (Nat.le_of_ble_eq_true rfl)) (F.k 0 12 rfl) (Nat.le_of_ble_eq_true rfl) ⟨(Nat.le_of_ble_eq_true rfl), (Nat.le_of_ble_eq_true rfl)⟩ rfl rfl (Nat.le_of_ble_eq_true rfl) ⟨(Nat.le_of_ble_eq_true rfl), (Nat.le_of_ble_eq_true rfl)⟩ (RI.go (fun r1 S1 q1 => ?_))
  rw [q1.2]
  have q1 := q1.1
  refine V_if_eq 5 29 dX12_unit_5 (by decide) (fun k1 => ?_) (fun k1 => ?_)
  ·
    refine V_aload_0 29 dX12_unit_29 ?_
    refine V_getI 30 (c := 12) 13 dX12_unit_30 fl_RX12_234 (F.m 0 (Nat.le_of_ble_eq_true rfl)) (F.k 0 12 rfl) (Nat.le_of_ble_eq_true rfl) (Nat.le_of_ble_eq_true rfl) rfl ?_
    refine V_if_ne 33 88 dX12_unit_33 (by decide) (fun k2 => ?_) (fun k2 => ?_)
    · exact J88
    ·
      refine V_aload_0 36 dX12_unit_36 ?_
      refine V_getR 37 (c := 12) 5 (F.r 0 5 3 rfl) dX12_unit_37 fl_RX12_20 (F.m 0 (Nat.le_of_ble_eq_true rfl)) (F.k 0 12 rfl) (Nat.le_of_ble_eq_true rfl) (Nat.le_of_ble_eq_true rfl) rfl ?_
      refine V_aload_0 40 dX12_unit_40 ?_
      refine V_getI 41 (c := 12) 11 dX12_unit_41 fl_RX12_237 (F.m 0 (Nat.le_of_ble_eq_true rfl)) (F.k 0 12 rfl) (Nat.le_of_ble_eq_true rfl) (Nat.le_of_ble_eq_true rfl) rfl ?_
      rw [et]
      refine V_iaload2 44 dX12_unit_44 (F.m 3 (Nat.le_of_ble_eq_true rfl)) (F.k 3 14 rfl) (F.l 3 403 rfl) ?_ ?_
      · exact vp_in_nI (by omega) (by decide)
      refine V_bipush 45 (37) dX12_unit_45 (by decide) ?_
      rw [nI_clamp (by omega)]
      refine V_icmp_lt 47 88 dX12_unit_47 (by decide) (fun k3 => ?_) (fun k3 => ?_)
      · exact J88
      ·
        refine V_aload_0 50 dX12_unit_50 ?_
        refine V_getR 51 (c := 12) 5 (F.r 0 5 3 rfl) dX12_unit_51 fl_RX12_20 (F.m 0 (Nat.le_of_ble_eq_true rfl)) (F.k 0 12 rfl) (Nat.le_of_ble_eq_true rfl) (Nat.le_of_ble_eq_true rfl) rfl ?_
        refine V_aload_0 54 dX12_unit_54 ?_
        refine V_getI 55 (c := 12) 11 dX12_unit_55 fl_RX12_237 (F.m 0 (Nat.le_of_ble_eq_true rfl)) (F.k 0 12 rfl) (Nat.le_of_ble_eq_true rfl) (Nat.le_of_ble_eq_true rfl) rfl ?_
        rw [et]
        refine V_iaload2 58 dX12_unit_58 (F.m 3 (Nat.le_of_ble_eq_true rfl)) (F.k 3 14 rfl) (F.l 3 403 rfl) ?_ ?_
        · exact vp_in_nI (by omega) (by decide)
        refine V_bipush 59 (41) dX12_unit_59 (by decide) ?_
        rw [nI_clamp (by omega)]
        refine V_icmp_gt 61 88 dX12_unit_61 (by decide) (fun k4 => ?_) (fun k4 => ?_)
        · exact J88
        · obtain ⟨v, hv, ev⟩ : ∃ v, v < 5 ∧ sA S (m + 3) t - 37 = nI v := by
            have a1 := Int32.not_lt.mp k3
            have a2 := Int32.not_lt.mp k4
            refine ⟨(sA S (m + 3) t).toInt.toNat - 37, ?_, ?_⟩
            · have b1 := Int32.le_iff_toInt_le.mp a1
              have b2 := Int32.le_iff_toInt_le.mp a2
              have c1 : (37 : Int32).toInt = 37 := by decide
              have c2 : (41 : Int32).toInt = 41 := by decide
              omega
            · have b1 := Int32.le_iff_toInt_le.mp a1
              have b2 := Int32.le_iff_toInt_le.mp a2
              have c1 : (37 : Int32).toInt = 37 := by decide
              have c2 : (41 : Int32).toInt = 41 := by decide
              have e : sA S (m + 3) t = nI (sA S (m + 3) t).toInt.toNat := by
                apply Int32.toInt_inj.mp
                rw [nI_toInt (by omega)]
                omega
              exact eqSub e (show (37 : Int32) = nI 37 from rfl) (by omega)
          refine V_aload_0 64 dX12_unit_64 ?_
          refine V_iconst 65 (1) dX12_unit_65 (by decide) ?_
          refine V_aload_0 66 dX12_unit_66 ?_
          refine V_getR 67 (c := 12) 5 (F.r 0 5 3 rfl) dX12_unit_67 fl_RX12_20 (F.m 0 (Nat.le_of_ble_eq_true rfl)) (F.k 0 12 rfl) (Nat.le_of_ble_eq_true rfl) (Nat.le_of_ble_eq_true rfl) rfl ?_
          refine V_aload_0 70 dX12_unit_70 ?_
          refine V_getI 71 (c := 12) 11 dX12_unit_71 fl_RX12_237 (F.m 0 (Nat.le_of_ble_eq_true rfl)) (F.k 0 12 rfl) (Nat.le_of_ble_eq_true rfl) (Nat.le_of_ble_eq_true rfl) rfl ?_
          rw [et]
          refine V_iaload2 74 dX12_unit_74 (F.m 3 (Nat.le_of_ble_eq_true rfl)) (F.k 3 14 rfl) (F.l 3 403 rfl) ?_ ?_
          · exact vp_in_nI (by omega) (by decide)
          rw [nI_clamp (by omega)]
          refine V_bipush 75 (37) dX12_unit_75 (by decide) ?_
          refine V_isub 77 dX12_unit_77 ?_
          rw [ev]
          refine V_callV 78 (ci := 12) [.int _, .int _] _ (s_memit M.2.1 Γ S F ec hc _ _) dX12_unit_78 cb_X12_emit ml_RX12_321 im_yX12_emit se_yX12_emit (F.m 0 (Nat.le_of_ble_eq_true rfl)) (F.k 0 12 rfl) (Nat.le_of_ble_eq_true rfl) ⟨(Nat.le_of_ble_eq_true rfl), (Nat.le_of_ble_eq_true rfl)⟩ rfl rfl (Nat.le_of_ble_eq_true rfl) ⟨(Nat.le_of_ble_eq_true rfl), (Nat.le_of_ble_eq_true rfl)⟩ (RV.go (fun S2 h2 => ?_))
          have FT9 := F.ss h2.1.1
          refine V_aload_0 81 dX12_unit_81 ?_
          refine V_callV 82 (ci := 12) [] _ (s_mgoesOn M.2.1 Γ S2 FT9 ((h2.1.2.2 m 11 (by simp)).trans et) ht) dX12_unit_82 cb_X12_goesOn ml_RX12_255 im_yX12_goesOn se_yX12_goesOn (FT9.m 0 (Nat.le_of_ble_eq_true rfl)) (FT9.k 0 12 rfl) (Nat.le_of_ble_eq_true rfl) ⟨(Nat.le_of_ble_eq_true rfl), (Nat.le_of_ble_eq_true rfl)⟩ rfl rfl (Nat.le_of_ble_eq_true rfl) ⟨(Nat.le_of_ble_eq_true rfl), (Nat.le_of_ble_eq_true rfl)⟩ (RV.go (fun S3 h3 => ?_))
          refine V_goto 85 93 dX12_unit_85 (by decide) ?_
          refine V_vret 93 dX12_unit_93 rfl (Nat.le_of_ble_eq_true rfl) (Nat.le_of_ble_eq_true rfl) (RV.mk (EN S2 S3 k2 h2.1 h2.2.1 (Or.inr ⟨h2.2.2.1, v, hv, h2.2.2.2.1⟩) h2.2.2.2.2 h3.1 h3.2))
  · have q2 := q1.resolve_left (fun q => k1 q.1)
    refine V_aload_0 8 dX12_unit_8 ?_
    refine V_iconst 9 (0) dX12_unit_9 (by decide) ?_
    refine V_aload_0 10 dX12_unit_10 ?_
    refine V_getR 11 (c := 12) 7 (F.r 0 7 5 rfl) dX12_unit_11 fl_RX12_27 (F.m 0 (Nat.le_of_ble_eq_true rfl)) (F.k 0 12 rfl) (Nat.le_of_ble_eq_true rfl) (Nat.le_of_ble_eq_true rfl) rfl ?_
    refine V_aload_0 14 dX12_unit_14 ?_
    refine V_getI 15 (c := 12) 11 dX12_unit_15 fl_RX12_237 (F.m 0 (Nat.le_of_ble_eq_true rfl)) (F.k 0 12 rfl) (Nat.le_of_ble_eq_true rfl) (Nat.le_of_ble_eq_true rfl) rfl ?_
    rw [et]
    refine V_iaload2 18 dX12_unit_18 (F.m 5 (Nat.le_of_ble_eq_true rfl)) (F.k 5 14 rfl) (F.l 5 403 rfl) ?_ ?_
    · exact vp_in_nI (by omega) (by decide)
    refine V_callV 19 (ci := 12) [.int _, .int _] _ (s_memit M.2.1 Γ S F ec hc _ _) dX12_unit_19 cb_X12_emit ml_RX12_321 im_yX12_emit se_yX12_emit (F.m 0 (Nat.le_of_ble_eq_true rfl)) (F.k 0 12 rfl) (Nat.le_of_ble_eq_true rfl) ⟨(Nat.le_of_ble_eq_true rfl), (Nat.le_of_ble_eq_true rfl)⟩ rfl rfl (Nat.le_of_ble_eq_true rfl) ⟨(Nat.le_of_ble_eq_true rfl), (Nat.le_of_ble_eq_true rfl)⟩ (RV.go (fun S2 h2 => ?_))
    have FT9 := F.ss h2.1.1
    refine V_aload_0 22 dX12_unit_22 ?_
    refine V_callV 23 (ci := 12) [] _ (s_mgoesOn M.2.1 Γ S2 FT9 ((h2.1.2.2 m 11 (by simp)).trans et) ht) dX12_unit_23 cb_X12_goesOn ml_RX12_255 im_yX12_goesOn se_yX12_goesOn (FT9.m 0 (Nat.le_of_ble_eq_true rfl)) (FT9.k 0 12 rfl) (Nat.le_of_ble_eq_true rfl) ⟨(Nat.le_of_ble_eq_true rfl), (Nat.le_of_ble_eq_true rfl)⟩ rfl rfl (Nat.le_of_ble_eq_true rfl) ⟨(Nat.le_of_ble_eq_true rfl), (Nat.le_of_ble_eq_true rfl)⟩ (RV.go (fun S3 h3 => ?_))
    refine V_goto 26 93 dX12_unit_26 (by decide) ?_
    refine V_vret 93 dX12_unit_93 rfl (Nat.le_of_ble_eq_true rfl) (Nat.le_of_ble_eq_true rfl) (RV.mk (EN S2 S3 q2.2.1 h2.1 h2.2.1 (Or.inl h2.2.2.1) h2.2.2.2.2 h3.1 h3.2))

