/-! The reference's law: terms done one by one -/
section RPS
variable {m c : Nat} {S S2 : PS}
theorem RP.le : ∀ n h, RP m c S n h → h ≤ n
  | 0, h, q => by have : h = 0 := q; omega
  | n + 1, h, q => by
    obtain ⟨k, q1, q2⟩ := q
    have := RP.le n k q1
    rcases q2 with ⟨_, e⟩ | ⟨_, _, e⟩ <;> omega
theorem RP.pre : ∀ N H, RP m c S N H → ∀ n, n ≤ N → ∃ h, RP m c S n h
  | 0, H, q, n, hn => ⟨H, by have : n = 0 := by omega
                             subst this; exact q⟩
  | N + 1, H, q, n, hn => by
    by_cases e : n = N + 1
    · subst e; exact ⟨H, q⟩
    · obtain ⟨k, q1, -⟩ := q
      exact RP.pre N k q1 n (by omega)
theorem RP.one : ∀ n h h2, RP m c S n h → RP m c S n h2 → h = h2
  | 0, h, h2, q, q2 => by have a : h = 0 := q; have b : h2 = 0 := q2; omega
  | n + 1, h, h2, q, q2 => by
    obtain ⟨k, a1, a2⟩ := q
    obtain ⟨k2, b1, b2⟩ := q2
    have e := RP.one n k k2 a1 b1
    subst e
    rcases a2 with ⟨a2, a3⟩ | ⟨⟨j, j1, j2, j3⟩, a3, a4⟩ <;> rcases b2 with ⟨b2, b3⟩ | ⟨⟨i, i1, i2, i3⟩, b3, b4⟩
    · omega
    · rcases a2 with a2 | ⟨a2, -⟩ <;> rw [a2, nI_eq (by omega) (by omega)] at i3 <;> omega
    · rcases b2 with b2 | ⟨b2, -⟩ <;> rw [b2, nI_eq (by omega) (by omega)] at j3 <;> omega
    · omega
theorem RP.step {N H n h : Nat} (q : RP m c S N H) (hn : n < N) (p : RP m c S n h) : ((sA S (m + 32) (c + n) = nI 0 ∨ (sA S (m + 32) (c + n) = nI 1 ∧ ∃ v, v < 5 ∧ sA S (m + 33) (c + n) = nI v)) ∧ RP m c S (n + 1) (h + 1)) ∨ ((∃ j, 2 ≤ j ∧ j ≤ 5 ∧ sA S (m + 32) (c + n) = nI j) ∧ 2 ≤ h ∧ RP m c S (n + 1) (h - 1)) := by
  obtain ⟨h2, k, a1, a2⟩ := RP.pre N H q (n + 1) (by omega)
  have e := RP.one n k h a1 p
  subst e
  rcases a2 with ⟨a2, a3⟩ | ⟨a2, a3, a4⟩
  · exact Or.inl ⟨a2, k, a1, Or.inl ⟨a2, rfl⟩⟩
  · exact Or.inr ⟨a2, a3, k, a1, Or.inr ⟨a2, a3, by omega⟩⟩
theorem RPN.eq {l d : Nat} (q : RPN m l S c d) (e1 : sA S2 (m + 32) = sA S (m + 32)) (e2 : sA S2 (m + 33) = sA S (m + 33)) : RPN m l S2 c d := ⟨q.1, q.2.1, q.2.2.1, q.2.2.2.1, RP.eq _ _ q.2.2.2.2 (fun i => by rw [e1]) (fun i => by rw [e2])⟩
end RPS
theorem neg1 {h : Nat} (q : 0 < h) : nI h + (-1) = nI (h - 1) := by
  rw [← Int32.sub_eq_add_neg]; exact m1 q
set_option maxRecDepth 100000 in
set_option maxHeartbeats 8000000 in
theorem s_mtermOf (l : Launch) (Γ : GC) (S : PS) {m : Nat} (F : isL lyModel Γ.2.2.2.2.1 S m) {l0 c d : Nat} (hl0 : l0 < 2) (hr : RPN m l0 S c d) : CT l Γ yX12_termOf cX12_termOf 8 (some .int) (0) (0) (0) [.ref m, .int (nI c), .int (nI d)] S (RI (fun r S' => FZ [m + 36] [(m, 52)] S S')) := by
  refine CT.of RX12 "termOf" [some (.ref m), some (.int (nI c)), some (.int (nI d)), none, none, none, none, none] (by decide +kernel) rfl rfl (Nat.le_of_ble_eq_true rfl) rfl (fun M hM => ?_)
  subst hM
  obtain ⟨h0, h1, h2', h3, hq⟩ := hr
  have h2 : d ≤ 840 := by omega
  refine V_iconst 0 (0) dX12_termOf_0 (by decide) ?_
  refine V_istore_3 1 dX12_termOf_1 rfl (Nat.le_of_ble_eq_true rfl) ?_
  refine V_iload_1 2 dX12_termOf_2 ?_
  refine V_istore_4 3 dX12_termOf_3 rfl (Nat.le_of_ble_eq_true rfl) ?_
  refine V_lvw (lv2 := [some (.ref m), some (.int (nI c)), some (.int (nI d)), some (.int (nI 0)), some (.int (nI (c + 0))), none, none, none]) (by repeat (first | exact trivial | refine ⟨rfl, ?_⟩)) ?_
  refine V_while (α := Nat × Nat × PS × Option Value × Option Value × Option Value) (fun z => d - c - z.1) (fun z => z.1 ≤ d - c ∧ FZ [m + 36] [(m, 52)] S z.2.2.1 ∧ RP m c S z.1 z.2.1) (fun z => z.2.2.1) (fun z => [some (.ref m), some (.int (nI c)), some (.int (nI d)), some (.int (nI z.2.1)), some (.int (nI (c + z.1))), z.2.2.2.1, z.2.2.2.2.1, z.2.2.2.2.2]) (0, 0, S, none, none, none) ⟨Nat.zero_le _, FZ.rf, rfl⟩ (fun z hz ih => ?_)
  obtain ⟨n, h, T, w5, w6, w7⟩ := z
  obtain ⟨hn, e, hp⟩ := hz
  dsimp only at hn e hp ih ⊢
  have hle := RP.le n h hp
  have FT9 := F.ss e.1
  refine V_iload_4 5 dX12_termOf_5 ?_
  refine V_iload_2 7 dX12_termOf_7 ?_
  refine V_icmp_ge 8 165 dX12_termOf_8 (by decide) (fun c1 => ?_) (fun c1 => ?_)
  ·
    refine V_aload_0 165 dX12_termOf_165 ?_
    refine V_getR 166 (c := 12) 51 (FT9.r 0 51 36 rfl) dX12_termOf_166 fl_RX12_125 (FT9.m 0 (Nat.le_of_ble_eq_true rfl)) (FT9.k 0 12 rfl) (Nat.le_of_ble_eq_true rfl) (Nat.le_of_ble_eq_true rfl) rfl ?_
    refine V_iconst 169 (0) dX12_termOf_169 (by decide) ?_
    refine V_iaload2 170 dX12_termOf_170 (FT9.m 36 (Nat.le_of_ble_eq_true rfl)) (FT9.k 36 14 rfl) (FT9.l 36 400 rfl) ?_ ?_
    · exact (by unfold vp_in; decide)
    refine V_iret 171 .int dX12_termOf_171 rfl rfl (Nat.le_of_ble_eq_true rfl) (Nat.le_of_ble_eq_true rfl) (RI.mk e)
  · have c2 := mt (nI_leI (by omega) (by omega)).mpr c1
    have hn2 : n < d - c := by omega
    have e32 : sA T (m + 32) = sA S (m + 32) := e.2.1 _ (by simp)
    have e33 : sA T (m + 33) = sA S (m + 33) := e.2.1 _ (by simp)
    have J159 : ∀ (T : PS) (w5 w6 w7 : Option Value) (h2 : Nat), FZ [m + 36] [(m, 52)] S T → RP m c S (n + 1) h2 → V M Γ (8, RX12, "termOf", (some .int), RM (0) (0) (0)) cX12_termOf (RQ M Γ (RI (fun r S' => FZ [m + 36] [(m, 52)] S S')) (0) (0)) 0 0 T 159 [some (.ref m), some (.int (nI c)), some (.int (nI d)), some (.int (nI h2)), some (.int (nI (c + n))), w5, w6, w7] [] := by
      intro T w5 w6 w7 h2 e hp
      refine V_iinc_4 159 (1) dX12_termOf_159 (by decide) rfl (Nat.le_of_ble_eq_true rfl) ?_
      refine V_goto 162 5 dX12_termOf_162 (by decide) ?_
      rw [nI_1, Nat.add_assoc]
      exact ih (n + 1, h2, T, w5, w6, w7) ⟨by dsimp only; omega, e, hp⟩ (by dsimp only; omega)
    refine V_aload_0 11 dX12_termOf_11 ?_
    refine V_getR 12 (c := 12) 46 (FT9.r 0 46 32 rfl) dX12_termOf_12 fl_RX12_113 (FT9.m 0 (Nat.le_of_ble_eq_true rfl)) (FT9.k 0 12 rfl) (Nat.le_of_ble_eq_true rfl) (Nat.le_of_ble_eq_true rfl) rfl ?_
    refine V_iload_4 15 dX12_termOf_15 ?_
    refine V_iaload2 17 dX12_termOf_17 (FT9.m 32 (Nat.le_of_ble_eq_true rfl)) (FT9.k 32 14 rfl) (FT9.l 32 840 rfl) ?_ ?_
    · exact vp_in_nI (by omega) (by decide)
    rw [nI_clamp (by omega), e32]
    rcases RP.step hq hn2 hp with ⟨hc, hp2⟩ | ⟨⟨j, hj1, hj2, hc⟩, hh, hp2⟩
    · have J58 : ∀ (v w : Int32) , V M Γ (8, RX12, "termOf", (some .int), RM (0) (0) (0)) cX12_termOf (RQ M Γ (RI (fun r S' => FZ [m + 36] [(m, 52)] S S')) (0) (0)) 0 0 T 58 [some (.ref m), some (.int (nI c)), some (.int (nI d)), some (.int (nI h)), some (.int (nI (c + n))), some (.int w), w6, w7] [.int v, .int (nI h), .ref (m + 36)] := by
        intro v w
        refine V_iastore2 58 dX12_termOf_58 (FT9.m 36 (Nat.le_of_ble_eq_true rfl)) (FT9.k 36 14 rfl) (FT9.l 36 400 rfl) ?_ ?_
        · exact vp_in_nI (by omega) (by decide)
        refine V_iinc_3 59 (1) dX12_termOf_59 (by decide) rfl (Nat.le_of_ble_eq_true rfl) ?_
        refine V_goto 62 159 dX12_termOf_62 (by decide) ?_
        rw [nI_1]
        exact J159 _ _ _ _ _ (e.uA (by simp)) hp2
      rcases hc with hc | ⟨hc, v, hv, hcv⟩
      · rw [hc]
        refine V_istore_5 18 dX12_termOf_18 rfl (Nat.le_of_ble_eq_true rfl) ?_
        refine V_iload_5 20 dX12_termOf_20 ?_
        refine V_iconst 22 (2) dX12_termOf_22 (by decide) ?_
        refine V_icmp_ge 23 65 dX12_termOf_23 (by decide) (fun q => absurd q (by decide)) (fun _ => ?_)
        refine V_aload_0 26 dX12_termOf_26 ?_
        refine V_getR 27 (c := 12) 51 (FT9.r 0 51 36 rfl) dX12_termOf_27 fl_RX12_125 (FT9.m 0 (Nat.le_of_ble_eq_true rfl)) (FT9.k 0 12 rfl) (Nat.le_of_ble_eq_true rfl) (Nat.le_of_ble_eq_true rfl) rfl ?_
        refine V_iload_3 30 dX12_termOf_30 ?_
        refine V_iload_5 31 dX12_termOf_31 ?_
        refine V_if_ne 33 46 dX12_termOf_33 (by decide) (fun q => absurd (by decide) q) (fun _ => ?_)
        refine V_aload_0 36 dX12_termOf_36 ?_
        refine V_getR 37 (c := 12) 47 (FT9.r 0 47 33 rfl) dX12_termOf_37 fl_RX12_116 (FT9.m 0 (Nat.le_of_ble_eq_true rfl)) (FT9.k 0 12 rfl) (Nat.le_of_ble_eq_true rfl) (Nat.le_of_ble_eq_true rfl) rfl ?_
        refine V_iload_4 40 dX12_termOf_40 ?_
        refine V_iaload2 42 dX12_termOf_42 (FT9.m 33 (Nat.le_of_ble_eq_true rfl)) (FT9.k 33 14 rfl) (FT9.l 33 840 rfl) ?_ ?_
        · exact vp_in_nI (by omega) (by decide)
        refine V_goto 43 58 dX12_termOf_43 (by decide) ?_
        exact J58 _ _
      · rw [hc]
        refine V_istore_5 18 dX12_termOf_18 rfl (Nat.le_of_ble_eq_true rfl) ?_
        refine V_iload_5 20 dX12_termOf_20 ?_
        refine V_iconst 22 (2) dX12_termOf_22 (by decide) ?_
        refine V_icmp_ge 23 65 dX12_termOf_23 (by decide) (fun q => absurd q (by decide)) (fun _ => ?_)
        refine V_aload_0 26 dX12_termOf_26 ?_
        refine V_getR 27 (c := 12) 51 (FT9.r 0 51 36 rfl) dX12_termOf_27 fl_RX12_125 (FT9.m 0 (Nat.le_of_ble_eq_true rfl)) (FT9.k 0 12 rfl) (Nat.le_of_ble_eq_true rfl) (Nat.le_of_ble_eq_true rfl) rfl ?_
        refine V_iload_3 30 dX12_termOf_30 ?_
        refine V_iload_5 31 dX12_termOf_31 ?_
        refine V_if_ne 33 46 dX12_termOf_33 (by decide) (fun _ => ?_) (fun q => absurd q (by decide))
        refine V_aload_0 46 dX12_termOf_46 ?_
        refine V_getR 47 (c := 12) 50 (FT9.r 0 50 35 rfl) dX12_termOf_47 fl_RX12_122 (FT9.m 0 (Nat.le_of_ble_eq_true rfl)) (FT9.k 0 12 rfl) (Nat.le_of_ble_eq_true rfl) (Nat.le_of_ble_eq_true rfl) rfl ?_
        refine V_aload_0 50 dX12_termOf_50 ?_
        refine V_getR 51 (c := 12) 47 (FT9.r 0 47 33 rfl) dX12_termOf_51 fl_RX12_116 (FT9.m 0 (Nat.le_of_ble_eq_true rfl)) (FT9.k 0 12 rfl) (Nat.le_of_ble_eq_true rfl) (Nat.le_of_ble_eq_true rfl) rfl ?_
        refine V_iload_4 54 dX12_termOf_54 ?_
        refine V_iaload2 56 dX12_termOf_56 (FT9.m 33 (Nat.le_of_ble_eq_true rfl)) (FT9.k 33 14 rfl) (FT9.l 33 840 rfl) ?_ ?_
        · exact vp_in_nI (by omega) (by decide)
        rw [nI_clamp (by omega), e33, hcv]
        refine V_iaload2 57 dX12_termOf_57 (FT9.m 35 (Nat.le_of_ble_eq_true rfl)) (FT9.k 35 14 rfl) (FT9.l 35 5 rfl) ?_ ?_
        · exact vp_in_nI (by omega) (by decide)
        exact J58 _ _
    · have J158 : ∀ (v : Int32) (w5 w6 w7 : Option Value), V M Γ (8, RX12, "termOf", (some .int), RM (0) (0) (0)) cX12_termOf (RQ M Γ (RI (fun r S' => FZ [m + 36] [(m, 52)] S S')) (0) (0)) 0 0 T 158 [some (.ref m), some (.int (nI c)), some (.int (nI d)), some (.int (nI (h - 1))), some (.int (nI (c + n))), w5, w6, w7] [.int v, .int (nI (h - 1) - 1), .ref (m + 36)] := by
        intro v w5 w6 w7
        rw [m1 (show 0 < h - 1 by omega)]
        refine V_iastore2 158 dX12_termOf_158 (FT9.m 36 (Nat.le_of_ble_eq_true rfl)) (FT9.k 36 14 rfl) (FT9.l 36 400 rfl) ?_ ?_
        · exact vp_in_nI (by omega) (by decide)
        exact J159 _ _ _ _ _ (e.uA (by simp)) hp2
      rw [hc]
      refine V_istore_5 18 dX12_termOf_18 rfl (Nat.le_of_ble_eq_true rfl) ?_
      refine V_iload_5 20 dX12_termOf_20 ?_
      refine V_iconst 22 (2) dX12_termOf_22 (by decide) ?_
      refine V_icmp_ge 23 65 dX12_termOf_23 (by decide) (fun _ => ?_) (fun q => absurd ((nI_leE (show (2 : Int32) = nI 2 from rfl) (Eq.refl (nI j)) (by omega) (by omega)).mpr hj1) q)
      refine V_iinc_3 65 (-1) dX12_termOf_65 (by decide) rfl (Nat.le_of_ble_eq_true rfl) ?_
      rw [neg1 (by omega)]
      refine V_aload_0 68 dX12_termOf_68 ?_
      refine V_getR 69 (c := 12) 51 (FT9.r 0 51 36 rfl) dX12_termOf_69 fl_RX12_125 (FT9.m 0 (Nat.le_of_ble_eq_true rfl)) (FT9.k 0 12 rfl) (Nat.le_of_ble_eq_true rfl) (Nat.le_of_ble_eq_true rfl) rfl ?_
      refine V_iload_3 72 dX12_termOf_72 ?_
      refine V_iconst 73 (1) dX12_termOf_73 (by decide) ?_
      refine V_isub 74 dX12_termOf_74 ?_
      refine V_iaload2 75 dX12_termOf_75 (FT9.m 36 (Nat.le_of_ble_eq_true rfl)) (FT9.k 36 14 rfl) (FT9.l 36 400 rfl) ?_ ?_
      · exact vpN (m1 (by omega)) (by omega) (by decide)
      refine V_istore_6 76 dX12_termOf_76 rfl (Nat.le_of_ble_eq_true rfl) ?_
      refine V_aload_0 78 dX12_termOf_78 ?_
      refine V_getR 79 (c := 12) 51 (FT9.r 0 51 36 rfl) dX12_termOf_79 fl_RX12_125 (FT9.m 0 (Nat.le_of_ble_eq_true rfl)) (FT9.k 0 12 rfl) (Nat.le_of_ble_eq_true rfl) (Nat.le_of_ble_eq_true rfl) rfl ?_
      refine V_iload_3 82 dX12_termOf_82 ?_
      refine V_iaload2 83 dX12_termOf_83 (FT9.m 36 (Nat.le_of_ble_eq_true rfl)) (FT9.k 36 14 rfl) (FT9.l 36 400 rfl) ?_ ?_
      · exact vp_in_nI (by omega) (by decide)
      refine V_istore_7 84 dX12_termOf_84 rfl (Nat.le_of_ble_eq_true rfl) ?_
      refine V_iload_5 86 dX12_termOf_86 ?_
      refine V_iconst 88 (5) dX12_termOf_88 (by decide) ?_
      have J104 : ∀ (x y : Int32), (j = 5 → ¬ y = 0) → V M Γ (8, RX12, "termOf", (some .int), RM (0) (0) (0)) cX12_termOf (RQ M Γ (RI (fun r S' => FZ [m + 36] [(m, 52)] S S')) (0) (0)) 0 0 T 104 [some (.ref m), some (.int (nI c)), some (.int (nI d)), some (.int (nI (h - 1))), some (.int (nI (c + n))), some (.int (nI j)), some (.int x), some (.int y)] [] := by
        intro x y hy
        rcases (show j = 2 ∨ j = 3 ∨ j = 4 ∨ j = 5 by omega) with rfl | rfl | rfl | rfl
        ·
          refine V_aload_0 104 dX12_termOf_104 ?_
          refine V_getR 105 (c := 12) 51 (FT9.r 0 51 36 rfl) dX12_termOf_105 fl_RX12_125 (FT9.m 0 (Nat.le_of_ble_eq_true rfl)) (FT9.k 0 12 rfl) (Nat.le_of_ble_eq_true rfl) (Nat.le_of_ble_eq_true rfl) rfl ?_
          refine V_iload_3 108 dX12_termOf_108 ?_
          refine V_iconst 109 (1) dX12_termOf_109 (by decide) ?_
          refine V_isub 110 dX12_termOf_110 ?_
          refine V_iload_5 111 dX12_termOf_111 ?_
          refine V_iconst 113 (2) dX12_termOf_113 (by decide) ?_
          refine V_icmp_ne 114 125 dX12_termOf_114 (by decide) (fun q => absurd (by decide) q) (fun _ => ?_)
          refine V_iload_6 117 dX12_termOf_117 ?_
          refine V_iload_7 119 dX12_termOf_119 ?_
          refine V_iadd 121 dX12_termOf_121 ?_
          refine V_goto 122 158 dX12_termOf_122 (by decide) ?_
          exact J158 _ _ _ _
        ·
          refine V_aload_0 104 dX12_termOf_104 ?_
          refine V_getR 105 (c := 12) 51 (FT9.r 0 51 36 rfl) dX12_termOf_105 fl_RX12_125 (FT9.m 0 (Nat.le_of_ble_eq_true rfl)) (FT9.k 0 12 rfl) (Nat.le_of_ble_eq_true rfl) (Nat.le_of_ble_eq_true rfl) rfl ?_
          refine V_iload_3 108 dX12_termOf_108 ?_
          refine V_iconst 109 (1) dX12_termOf_109 (by decide) ?_
          refine V_isub 110 dX12_termOf_110 ?_
          refine V_iload_5 111 dX12_termOf_111 ?_
          refine V_iconst 113 (2) dX12_termOf_113 (by decide) ?_
          refine V_icmp_ne 114 125 dX12_termOf_114 (by decide) (fun _ => ?_) (fun q => absurd q (by decide))
          refine V_iload_5 125 dX12_termOf_125 ?_
          refine V_iconst 127 (3) dX12_termOf_127 (by decide) ?_
          refine V_icmp_ne 128 139 dX12_termOf_128 (by decide) (fun q => absurd (by decide) q) (fun _ => ?_)
          refine V_iload_6 131 dX12_termOf_131 ?_
          refine V_iload_7 133 dX12_termOf_133 ?_
          refine V_isub 135 dX12_termOf_135 ?_
          refine V_goto 136 158 dX12_termOf_136 (by decide) ?_
          exact J158 _ _ _ _
        ·
          refine V_aload_0 104 dX12_termOf_104 ?_
          refine V_getR 105 (c := 12) 51 (FT9.r 0 51 36 rfl) dX12_termOf_105 fl_RX12_125 (FT9.m 0 (Nat.le_of_ble_eq_true rfl)) (FT9.k 0 12 rfl) (Nat.le_of_ble_eq_true rfl) (Nat.le_of_ble_eq_true rfl) rfl ?_
          refine V_iload_3 108 dX12_termOf_108 ?_
          refine V_iconst 109 (1) dX12_termOf_109 (by decide) ?_
          refine V_isub 110 dX12_termOf_110 ?_
          refine V_iload_5 111 dX12_termOf_111 ?_
          refine V_iconst 113 (2) dX12_termOf_113 (by decide) ?_
          refine V_icmp_ne 114 125 dX12_termOf_114 (by decide) (fun _ => ?_) (fun q => absurd q (by decide))
          refine V_iload_5 125 dX12_termOf_125 ?_
          refine V_iconst 127 (3) dX12_termOf_127 (by decide) ?_
          refine V_icmp_ne 128 139 dX12_termOf_128 (by decide) (fun _ => ?_) (fun q => absurd q (by decide))
          refine V_iload_5 139 dX12_termOf_139 ?_
          refine V_iconst 141 (4) dX12_termOf_141 (by decide) ?_
          refine V_icmp_ne 142 153 dX12_termOf_142 (by decide) (fun q => absurd (by decide) q) (fun _ => ?_)
          refine V_iload_6 145 dX12_termOf_145 ?_
          refine V_iload_7 147 dX12_termOf_147 ?_
          refine V_imul 149 dX12_termOf_149 ?_
          refine V_goto 150 158 dX12_termOf_150 (by decide) ?_
          exact J158 _ _ _ _
        ·
          refine V_aload_0 104 dX12_termOf_104 ?_
          refine V_getR 105 (c := 12) 51 (FT9.r 0 51 36 rfl) dX12_termOf_105 fl_RX12_125 (FT9.m 0 (Nat.le_of_ble_eq_true rfl)) (FT9.k 0 12 rfl) (Nat.le_of_ble_eq_true rfl) (Nat.le_of_ble_eq_true rfl) rfl ?_
          refine V_iload_3 108 dX12_termOf_108 ?_
          refine V_iconst 109 (1) dX12_termOf_109 (by decide) ?_
          refine V_isub 110 dX12_termOf_110 ?_
          refine V_iload_5 111 dX12_termOf_111 ?_
          refine V_iconst 113 (2) dX12_termOf_113 (by decide) ?_
          refine V_icmp_ne 114 125 dX12_termOf_114 (by decide) (fun _ => ?_) (fun q => absurd q (by decide))
          refine V_iload_5 125 dX12_termOf_125 ?_
          refine V_iconst 127 (3) dX12_termOf_127 (by decide) ?_
          refine V_icmp_ne 128 139 dX12_termOf_128 (by decide) (fun _ => ?_) (fun q => absurd q (by decide))
          refine V_iload_5 139 dX12_termOf_139 ?_
          refine V_iconst 141 (4) dX12_termOf_141 (by decide) ?_
          refine V_icmp_ne 142 153 dX12_termOf_142 (by decide) (fun _ => ?_) (fun q => absurd q (by decide))
          refine V_iload_6 153 dX12_termOf_153 ?_
          refine V_iload_7 155 dX12_termOf_155 ?_
          refine V_idiv 157 dX12_termOf_157 (hy rfl) ?_
          exact J158 _ _ _ _
      refine V_icmp_ne 89 104 dX12_termOf_89 (by decide) (fun c3 => ?_) (fun c3 => ?_)
      · refine J104 _ _ (fun q => ?_)
        subst q
        exact absurd rfl c3
      ·
        refine V_iload_7 92 dX12_termOf_92 ?_
        refine V_if_ne 94 104 dX12_termOf_94 (by decide) (fun c4 => ?_) (fun c4 => ?_)
        · exact J104 _ _ (fun _ => c4)
        ·
          refine V_aload_0 97 dX12_termOf_97 ?_
          refine V_iconst 98 (1) dX12_termOf_98 (by decide) ?_
          refine V_putI 99 (c := 12) 52 dX12_termOf_99 fl_RX12_331 (FT9.m 0 (Nat.le_of_ble_eq_true rfl)) (FT9.k 0 12 rfl) (Nat.le_of_ble_eq_true rfl) (Nat.le_of_ble_eq_true rfl) rfl (Or.inr ⟨rfl, (Or.inr rfl)⟩) ?_
          refine V_iconst 102 (0) dX12_termOf_102 (by decide) ?_
          refine V_iret 103 .int dX12_termOf_103 rfl rfl (Nat.le_of_ble_eq_true rfl) (Nat.le_of_ble_eq_true rfl) (RI.mk (e.uI (by simp)))

