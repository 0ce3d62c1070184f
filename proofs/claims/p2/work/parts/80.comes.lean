/-! The reference's reading: what waits comes out -/
theorem nI_eqs {n j : Nat} (hn : n < 64) (hj : j < 64) : nI n = nI j ↔ n = j := nI_eq (by omega) (by omega)
def CO (m c0 c w o : Nat) (x : Int32) (S S2 : PS) : Prop := ∃ v r, v ≤ w ∧ o ≤ v ∧ sI S2 m 49 = nI v ∧ sI S2 m 45 = nI (c + (w - v)) ∧ STK m S2 v o r ∧ r ≤ 1 ∧ (x = 0 → r = 0) ∧ RP m c0 S2 (c + (w - v) - c0) (v - o + 1) ∧ CW m c (c + (w - v)) S S2
set_option maxRecDepth 100000 in
set_option maxHeartbeats 8000000 in
theorem s_mcomesOut (l : Launch) (Γ : GC) (S : PS) {m c0 c w o r : Nat} (F : isL lyModel Γ.2.2.2.2.1 S m) (ec : sI S m 45 = nI c) (hc0 : c0 ≤ c) (hc : c + (w - o) ≤ 840) (ew : sI S m 49 = nI w) (hw : w ≤ 64) (hs : STK m S w o r) (hp : RP m c0 S (c - c0) (w - o + 1)) (x : Int32) : CT l Γ yX12_comesOut cX12_comesOut 3 none (2) (0) (0) [.ref m, .int x] S (RV (fun S' => FZ [m + 32, m + 33] [(m, 45), (m, 49)] S S' ∧ CO m c0 c w o x S S')) := by
  refine CT.of RX12 "comesOut" [some (.ref m), some (.int x), none] (by decide +kernel) rfl rfl (Nat.le_of_ble_eq_true rfl) rfl (fun M hM => ?_)
  subst hM
  refine V_lvw (lv2 := [some (.ref m), some (.int x), none]) (by repeat (first | exact trivial | refine ⟨rfl, ?_⟩)) ?_
  have hle := STK.le w o r hs
  refine V_while (α := Nat × Nat × PS × Option Value) (fun z => z.1) (fun z => z.1 ≤ w ∧ FZ [m + 32, m + 33] [(m, 45), (m, 49)] S z.2.2.1 ∧ sI z.2.2.1 m 49 = nI z.1 ∧ sI z.2.2.1 m 45 = nI (c + (w - z.1)) ∧ STK m S z.1 o z.2.1 ∧ RP m c0 z.2.2.1 (c + (w - z.1) - c0) (z.1 - o + 1) ∧ CW m c (c + (w - z.1)) S z.2.2.1) (fun z => z.2.2.1) (fun z => [some (.ref m), some (.int x), z.2.2.2]) (w, r, S, none) ⟨Nat.le_refl _, FZ.rf, ew, by rw [Nat.sub_self]; exact ec, hs, by dsimp only; rw [Nat.sub_self]; exact hp, CW.rf⟩ (fun z hz ih => ?_)
  obtain ⟨v, r2, T, o2⟩ := z
  obtain ⟨hv, e, e49, e45, hs2, hp2, hcw⟩ := hz
  dsimp only at hv e e49 e45 hs2 hp2 hcw ih ⊢
  have hle2 := STK.le v o r2 hs2
  have FT9 := F.ss e.1
  have eSTK : STK m T v o r2 := STK.eq v o r2 hs2 (fun i _ => by rw [e.2.1 (m + 34) (by simp)])
  have e34 : sA T (m + 34) = sA S (m + 34) := e.2.1 _ (by simp)
  have END : r2 ≤ 1 → (x = 0 → r2 = 0) → FZ [m + 32, m + 33] [(m, 45), (m, 49)] S T ∧ CO m c0 c w o x S T := fun q1 q2 => ⟨e, v, r2, hv, hle2.1, e49, e45, eSTK, q1, q2, hp2, hcw⟩
  refine V_aload_0 0 dX12_comesOut_0 ?_
  refine V_getI 1 (c := 12) 49 dX12_comesOut_1 fl_RX12_318 (FT9.m 0 (Nat.le_of_ble_eq_true rfl)) (FT9.k 0 12 rfl) (Nat.le_of_ble_eq_true rfl) (Nat.le_of_ble_eq_true rfl) rfl ?_
  rw [e49]
  refine V_if_le 4 91 dX12_comesOut_4 (by decide) (fun k1 => ?_) (fun k1 => ?_)
  · have k2 := (nI_leE (Eq.refl (nI v)) (show (0 : Int32) = nI 0 from rfl) (by omega) (by omega)).mp k1
    have k3 : v = 0 := by omega
    subst k3
    have k4 : o = 0 ∧ r2 = 0 := hs2
    refine V_vret 91 dX12_comesOut_91 rfl (Nat.le_of_ble_eq_true rfl) (Nat.le_of_ble_eq_true rfl) (RV.mk (END (by omega) (fun _ => k4.2)))
  · have k2 := mt (nI_leE (Eq.refl (nI v)) (show (0 : Int32) = nI 0 from rfl) (by omega) (by omega)).mpr k1
    obtain ⟨u, hu⟩ : ∃ u, v = u + 1 := ⟨v - 1, by omega⟩
    subst hu
    have J41 : ∀ (y : Int32), r2 ≤ 1 → (x = 0 → r2 = 0) → V M Γ (3, RX12, "comesOut", none, RM (2) (0) (0)) cX12_comesOut (RQ M Γ (RV (fun S' => FZ [m + 32, m + 33] [(m, 45), (m, 49)] S S' ∧ CO m c0 c w o x S S')) (0) (0)) 0 0 T 41 [some (.ref m), some (.int x), some (.int y)] [] := by
      intro y q1 q2
      refine V_vret 41 dX12_comesOut_41 rfl (Nat.le_of_ble_eq_true rfl) (Nat.le_of_ble_eq_true rfl) (RV.mk (END q1 q2))
    have J42 : ∀ (q r3 : Nat), (q = 8 ∨ q = 9 ∨ q = 10 ∨ q = 15) → STK m S u o r3 → o ≤ u → V M Γ (3, RX12, "comesOut", none, RM (2) (0) (0)) cX12_comesOut (RQ M Γ (RV (fun S' => FZ [m + 32, m + 33] [(m, 45), (m, 49)] S S' ∧ CO m c0 c w o x S S')) (0) (0)) 0 0 T 42 [some (.ref m), some (.int x), some (.int (nI q))] [] := by
      intro q r3 hq hs3 hou
      have J85 : ∀ (j : Nat), 2 ≤ j → j ≤ 5 → V M Γ (3, RX12, "comesOut", none, RM (2) (0) (0)) cX12_comesOut (RQ M Γ (RV (fun S' => FZ [m + 32, m + 33] [(m, 45), (m, 49)] S S' ∧ CO m c0 c w o x S S')) (0) (0)) 0 0 (uI T m 49 (nI u)) 85 [some (.ref m), some (.int x), some (.int (nI q))] [.int 0, .int (nI j), .ref m] := by
        intro j j1 j2
        have eU : FZ [] [(m, 49)] T (uI T m 49 (nI u)) := FZ.rf.uI (by simp)
        have FU9 := FT9.ss eU.1
        refine V_callV 85 (ci := 12) [.int _, .int _] _ (s_memit M.2.1 Γ _ FU9 ((up2_k _ _ (by decide)).trans e45) (by omega) _ _) dX12_comesOut_85 cb_X12_emit ml_RX12_321 im_yX12_emit se_yX12_emit (FU9.m 0 (Nat.le_of_ble_eq_true rfl)) (FU9.k 0 12 rfl) (Nat.le_of_ble_eq_true rfl) ⟨(Nat.le_of_ble_eq_true rfl), (Nat.le_of_ble_eq_true rfl)⟩ rfl rfl (Nat.le_of_ble_eq_true rfl) ⟨(Nat.le_of_ble_eq_true rfl), (Nat.le_of_ble_eq_true rfl)⟩ (RV.go (fun S3 h3 => ?_))
        have FS9 := FU9.ss h3.1.1
        refine V_goto 88 0 dX12_comesOut_88 (by decide) ?_
        refine ih (u, r3, S3, _) ⟨by dsimp only; omega, (e.tr (eU.sub (by simp) (by simp))).tr (h3.1.sub (by simp) (by simp)), ?_, ?_, hs3, ?_, ?_⟩ (by dsimp only; omega)
        · exact (h3.1.2.2 m 49 (by simp)).trans (up2_s _ _ _ _)
        · have := h3.2.1
          rw [this]
          congr 1
          dsimp only
          omega
        · have cwT : CW m c (c + (w - (u + 1))) T (uI T m 49 (nI u)) := CW.fz eU (by simp) (by simp)
          have hp3 : RP m c0 S3 (c + (w - (u + 1)) - c0) (u + 1 - o + 1) := RP.cw (d := c + (w - (u + 1)) + 1) _ _ hp2 (fun i hi => h3.2.2.2.2 i (by omega))
          have en : c + (w - u) - c0 = (c + (w - (u + 1)) - c0) + 1 := by omega
          dsimp only
          rw [en]
          refine ⟨u + 1 - o + 1, hp3, Or.inr ⟨⟨j, j1, j2, ?_⟩, by omega, by omega⟩⟩
          rw [show c0 + (c + (w - (u + 1)) - c0) = c + (w - (u + 1)) by omega]
          exact h3.2.2.1
        · refine CW.tr hcw (b2 := c + (w - u)) (a2 := c + (w - (u + 1))) (fun i hi => ?_) (by omega) (by omega)
          exact h3.2.2.2.2 i (by omega)
      refine V_aload_0 42 dX12_comesOut_42 ?_
      refine V_dup 43 dX12_comesOut_43 rfl ?_
      refine V_getI 44 (c := 12) 49 dX12_comesOut_44 fl_RX12_318 (FT9.m 0 (Nat.le_of_ble_eq_true rfl)) (FT9.k 0 12 rfl) (Nat.le_of_ble_eq_true rfl) (Nat.le_of_ble_eq_true rfl) rfl ?_
      rw [e49]
      refine V_iconst 47 (1) dX12_comesOut_47 (by decide) ?_
      refine V_isub 48 dX12_comesOut_48 ?_
      rw [m1 (show 0 < u + 1 by omega), Nat.add_sub_cancel]
      refine V_putI 49 (c := 12) 49 dX12_comesOut_49 fl_RX12_318 (FT9.m 0 (Nat.le_of_ble_eq_true rfl)) (FT9.k 0 12 rfl) (Nat.le_of_ble_eq_true rfl) (Nat.le_of_ble_eq_true rfl) rfl (Or.inl rfl) ?_
      rcases hq with rfl | rfl | rfl | rfl
      ·
        refine V_aload_0 52 dX12_comesOut_52 ?_
        refine V_iload_2 53 dX12_comesOut_53 ?_
        refine V_bipush 54 (8) dX12_comesOut_54 (by decide) ?_
        refine V_icmp_ne 56 63 dX12_comesOut_56 (by decide) (fun q => absurd (by decide) q) (fun _ => ?_)
        refine V_iconst 59 (2) dX12_comesOut_59 (by decide) ?_
        refine V_goto 60 84 dX12_comesOut_60 (by decide) ?_
        refine V_iconst 84 (0) dX12_comesOut_84 (by decide) ?_
        exact J85 2 (by omega) (by omega)
      ·
        refine V_aload_0 52 dX12_comesOut_52 ?_
        refine V_iload_2 53 dX12_comesOut_53 ?_
        refine V_bipush 54 (8) dX12_comesOut_54 (by decide) ?_
        refine V_icmp_ne 56 63 dX12_comesOut_56 (by decide) (fun _ => ?_) (fun q => absurd q (by decide))
        refine V_iload_2 63 dX12_comesOut_63 ?_
        refine V_bipush 64 (9) dX12_comesOut_64 (by decide) ?_
        refine V_icmp_ne 66 73 dX12_comesOut_66 (by decide) (fun q => absurd (by decide) q) (fun _ => ?_)
        refine V_iconst 69 (3) dX12_comesOut_69 (by decide) ?_
        refine V_goto 70 84 dX12_comesOut_70 (by decide) ?_
        refine V_iconst 84 (0) dX12_comesOut_84 (by decide) ?_
        exact J85 3 (by omega) (by omega)
      ·
        refine V_aload_0 52 dX12_comesOut_52 ?_
        refine V_iload_2 53 dX12_comesOut_53 ?_
        refine V_bipush 54 (8) dX12_comesOut_54 (by decide) ?_
        refine V_icmp_ne 56 63 dX12_comesOut_56 (by decide) (fun _ => ?_) (fun q => absurd q (by decide))
        refine V_iload_2 63 dX12_comesOut_63 ?_
        refine V_bipush 64 (9) dX12_comesOut_64 (by decide) ?_
        refine V_icmp_ne 66 73 dX12_comesOut_66 (by decide) (fun _ => ?_) (fun q => absurd q (by decide))
        refine V_iload_2 73 dX12_comesOut_73 ?_
        refine V_bipush 74 (10) dX12_comesOut_74 (by decide) ?_
        refine V_icmp_ne 76 83 dX12_comesOut_76 (by decide) (fun q => absurd (by decide) q) (fun _ => ?_)
        refine V_iconst 79 (4) dX12_comesOut_79 (by decide) ?_
        refine V_goto 80 84 dX12_comesOut_80 (by decide) ?_
        refine V_iconst 84 (0) dX12_comesOut_84 (by decide) ?_
        exact J85 4 (by omega) (by omega)
      ·
        refine V_aload_0 52 dX12_comesOut_52 ?_
        refine V_iload_2 53 dX12_comesOut_53 ?_
        refine V_bipush 54 (8) dX12_comesOut_54 (by decide) ?_
        refine V_icmp_ne 56 63 dX12_comesOut_56 (by decide) (fun _ => ?_) (fun q => absurd q (by decide))
        refine V_iload_2 63 dX12_comesOut_63 ?_
        refine V_bipush 64 (9) dX12_comesOut_64 (by decide) ?_
        refine V_icmp_ne 66 73 dX12_comesOut_66 (by decide) (fun _ => ?_) (fun q => absurd q (by decide))
        refine V_iload_2 73 dX12_comesOut_73 ?_
        refine V_bipush 74 (10) dX12_comesOut_74 (by decide) ?_
        refine V_icmp_ne 76 83 dX12_comesOut_76 (by decide) (fun _ => ?_) (fun q => absurd q (by decide))
        refine V_iconst 83 (5) dX12_comesOut_83 (by decide) ?_
        refine V_iconst 84 (0) dX12_comesOut_84 (by decide) ?_
        exact J85 5 (by omega) (by omega)
    refine V_aload_0 7 dX12_comesOut_7 ?_
    refine V_getR 8 (c := 12) 48 (FT9.r 0 48 34 rfl) dX12_comesOut_8 fl_RX12_119 (FT9.m 0 (Nat.le_of_ble_eq_true rfl)) (FT9.k 0 12 rfl) (Nat.le_of_ble_eq_true rfl) (Nat.le_of_ble_eq_true rfl) rfl ?_
    refine V_aload_0 11 dX12_comesOut_11 ?_
    refine V_getI 12 (c := 12) 49 dX12_comesOut_12 fl_RX12_318 (FT9.m 0 (Nat.le_of_ble_eq_true rfl)) (FT9.k 0 12 rfl) (Nat.le_of_ble_eq_true rfl) (Nat.le_of_ble_eq_true rfl) rfl ?_
    rw [e49]
    refine V_iconst 15 (1) dX12_comesOut_15 (by decide) ?_
    refine V_isub 16 dX12_comesOut_16 ?_
    rw [m1 (show 0 < u + 1 by omega), Nat.add_sub_cancel]
    refine V_iaload2 17 dX12_comesOut_17 (FT9.m 34 (Nat.le_of_ble_eq_true rfl)) (FT9.k 34 14 rfl) (FT9.l 34 64 rfl) ?_ ?_
    · exact vp_in_nI (by omega) (by decide)
    rw [nI_clamp (by omega), e34]
    have J19 : ∀ (q : Nat), (q = 8 ∨ q = 9) → r2 = 1 → STK m S u o 0 → o ≤ u → V M Γ (3, RX12, "comesOut", none, RM (2) (0) (0)) cX12_comesOut (RQ M Γ (RV (fun S' => FZ [m + 32, m + 33] [(m, 45), (m, 49)] S S' ∧ CO m c0 c w o x S S')) (0) (0)) 0 0 T 25 [some (.ref m), some (.int x), some (.int (nI q))] [] := by
      intro q hq q2 hs3 hou
      refine V_iload_1 25 dX12_comesOut_25 ?_
      refine V_if_eq 26 42 dX12_comesOut_26 (by decide) (fun k3 => ?_) (fun k3 => ?_)
      · exact J42 q 0 (by omega) hs3 hou
      ·
        rcases hq with rfl | rfl
        ·
          refine V_iload_2 29 dX12_comesOut_29 ?_
          refine V_bipush 30 (8) dX12_comesOut_30 (by decide) ?_
          refine V_icmp_eq 32 41 dX12_comesOut_32 (by decide) (fun _ => ?_) (fun q => absurd (by decide) q)
          exact J41 _ (by omega) (fun q => absurd q k3)
        ·
          refine V_iload_2 29 dX12_comesOut_29 ?_
          refine V_bipush 30 (8) dX12_comesOut_30 (by decide) ?_
          refine V_icmp_eq 32 41 dX12_comesOut_32 (by decide) (fun q => absurd q (by decide)) (fun _ => ?_)
          refine V_iload_2 35 dX12_comesOut_35 ?_
          refine V_bipush 36 (9) dX12_comesOut_36 (by decide) ?_
          refine V_icmp_ne 38 42 dX12_comesOut_38 (by decide) (fun q => absurd (by decide) q) (fun _ => ?_)
          exact J41 _ (by omega) (fun q => absurd q k3)
    have J20 : ∀ (q r3 : Nat), (q = 10 ∨ q = 15) → STK m S u o r3 → o ≤ u → V M Γ (3, RX12, "comesOut", none, RM (2) (0) (0)) cX12_comesOut (RQ M Γ (RV (fun S' => FZ [m + 32, m + 33] [(m, 45), (m, 49)] S S' ∧ CO m c0 c w o x S S')) (0) (0)) 0 0 T 25 [some (.ref m), some (.int x), some (.int (nI q))] [] := by
      intro q r3 hq hs3 hou
      refine V_iload_1 25 dX12_comesOut_25 ?_
      refine V_if_eq 26 42 dX12_comesOut_26 (by decide) (fun k3 => ?_) (fun k3 => ?_)
      · exact J42 q r3 (by omega) hs3 hou
      ·
        rcases hq with rfl | rfl
        ·
          refine V_iload_2 29 dX12_comesOut_29 ?_
          refine V_bipush 30 (8) dX12_comesOut_30 (by decide) ?_
          refine V_icmp_eq 32 41 dX12_comesOut_32 (by decide) (fun q => absurd q (by decide)) (fun _ => ?_)
          refine V_iload_2 35 dX12_comesOut_35 ?_
          refine V_bipush 36 (9) dX12_comesOut_36 (by decide) ?_
          refine V_icmp_ne 38 42 dX12_comesOut_38 (by decide) (fun _ => ?_) (fun q => absurd q (by decide))
          exact J42 10 r3 (by omega) hs3 hou
        ·
          refine V_iload_2 29 dX12_comesOut_29 ?_
          refine V_bipush 30 (8) dX12_comesOut_30 (by decide) ?_
          refine V_icmp_eq 32 41 dX12_comesOut_32 (by decide) (fun q => absurd q (by decide)) (fun _ => ?_)
          refine V_iload_2 35 dX12_comesOut_35 ?_
          refine V_bipush 36 (9) dX12_comesOut_36 (by decide) ?_
          refine V_icmp_ne 38 42 dX12_comesOut_38 (by decide) (fun _ => ?_) (fun q => absurd q (by decide))
          exact J42 15 r3 (by omega) hs3 hou
    have hs4 := hs2
    unfold STK at hs4
    rcases hs4 with ⟨q1, q2, -⟩ | ⟨q1 | q1, q2, q3⟩ | ⟨q1 | q1, q2, r3, q4, q3⟩
    · rw [q1]
      refine V_istore_2 18 dX12_comesOut_18 rfl (Nat.le_of_ble_eq_true rfl) ?_
      refine V_iload_2 19 dX12_comesOut_19 ?_
      refine V_bipush 20 (6) dX12_comesOut_20 (by decide) ?_
      refine V_icmp_eq 22 41 dX12_comesOut_22 (by decide) (fun _ => ?_) (fun q => absurd (by decide) q)
      exact J41 _ (by omega) (fun _ => q2)
    · rw [q1]
      refine V_istore_2 18 dX12_comesOut_18 rfl (Nat.le_of_ble_eq_true rfl) ?_
      refine V_iload_2 19 dX12_comesOut_19 ?_
      refine V_bipush 20 (6) dX12_comesOut_20 (by decide) ?_
      refine V_icmp_eq 22 41 dX12_comesOut_22 (by decide) (fun q => absurd q (by decide)) (fun _ => ?_)
      exact J19 8 (by omega) q2 q3 (STK.le _ _ _ q3).1
    · rw [q1]
      refine V_istore_2 18 dX12_comesOut_18 rfl (Nat.le_of_ble_eq_true rfl) ?_
      refine V_iload_2 19 dX12_comesOut_19 ?_
      refine V_bipush 20 (6) dX12_comesOut_20 (by decide) ?_
      refine V_icmp_eq 22 41 dX12_comesOut_22 (by decide) (fun q => absurd q (by decide)) (fun _ => ?_)
      exact J19 9 (by omega) q2 q3 (STK.le _ _ _ q3).1
    · rw [q1]
      refine V_istore_2 18 dX12_comesOut_18 rfl (Nat.le_of_ble_eq_true rfl) ?_
      refine V_iload_2 19 dX12_comesOut_19 ?_
      refine V_bipush 20 (6) dX12_comesOut_20 (by decide) ?_
      refine V_icmp_eq 22 41 dX12_comesOut_22 (by decide) (fun q => absurd q (by decide)) (fun _ => ?_)
      exact J20 10 r3 (by omega) q3 (STK.le _ _ _ q3).1
    · rw [q1]
      refine V_istore_2 18 dX12_comesOut_18 rfl (Nat.le_of_ble_eq_true rfl) ?_
      refine V_iload_2 19 dX12_comesOut_19 ?_
      refine V_bipush 20 (6) dX12_comesOut_20 (by decide) ?_
      refine V_icmp_eq 22 41 dX12_comesOut_22 (by decide) (fun q => absurd q (by decide)) (fun _ => ?_)
      exact J20 15 r3 (by omega) q3 (STK.le _ _ _ q3).1

