/-! The reference's rows: sums, lots, draws -/
set_option maxRecDepth 100000 in
set_option maxHeartbeats 8000000 in
theorem s_msumOn (l : Launch) (Γ : GC) (S : PS) {m : Nat} (F : isL lyModel Γ.2.2.2.2.1 S m) (f : Nat → Nat) (o : Nat) (ho : o ≤ 22) (hf : ∀ k, k < 8 → sA S (m + 38) (o + k) = nI (f k)) : CT l Γ yX12_sumOn cX12_sumOn 4 (some .int) (0) (0) (0) [.ref m, .int (nI o)] S (RI (fun r S' => r = nI (sumN f 8) ∧ S' = S)) := by
  refine CT.of RX12 "sumOn" [some (.ref m), some (.int (nI o)), none, none] (by decide +kernel) rfl rfl (Nat.le_of_ble_eq_true rfl) rfl (fun M hM => ?_)
  subst hM
  refine V_iconst 0 (0) dX12_sumOn_0 (by decide) ?_
  refine V_istore_2 1 dX12_sumOn_1 rfl (Nat.le_of_ble_eq_true rfl) ?_
  refine V_iconst 2 (0) dX12_sumOn_2 (by decide) ?_
  refine V_istore_3 3 dX12_sumOn_3 rfl (Nat.le_of_ble_eq_true rfl) ?_
  refine V_while (α := Nat) (fun i => 8 - i) (fun i => i ≤ 8) (fun _ => S) (fun i => [some (.ref m), some (.int (nI o)), some (.int (nI (sumN f i))), some (.int (nI i))]) 0 (Nat.zero_le _) (fun i hi ih => ?_)
  refine V_iload_3 4 dX12_sumOn_4 ?_
  refine V_bipush 5 (8) dX12_sumOn_5 (by decide) ?_
  refine V_icmp_ge 7 27 dX12_sumOn_7 (by decide) (fun c => ?_) (fun c => ?_)
  · have hi2 := nI_ge8 (by decide) hi c
    subst hi2
    refine V_iload_2 27 dX12_sumOn_27 ?_
    refine V_iret 28 .int dX12_sumOn_28 rfl rfl (Nat.le_of_ble_eq_true rfl) (Nat.le_of_ble_eq_true rfl) (RI.mk ⟨rfl, rfl⟩)
  · have hi2 := nI_lt8 (by decide) hi c
    refine V_iload_2 10 dX12_sumOn_10 ?_
    refine V_aload_0 11 dX12_sumOn_11 ?_
    refine V_getR 12 (c := 12) 54 (F.r 0 54 38 rfl) dX12_sumOn_12 fl_RX12_131 (F.m 0 (Nat.le_of_ble_eq_true rfl)) (F.k 0 12 rfl) (Nat.le_of_ble_eq_true rfl) (Nat.le_of_ble_eq_true rfl) rfl ?_
    refine V_iload_1 15 dX12_sumOn_15 ?_
    refine V_iload_3 16 dX12_sumOn_16 ?_
    refine V_iadd 17 dX12_sumOn_17 ?_
    refine V_iaload2 18 dX12_sumOn_18 (F.m 38 (Nat.le_of_ble_eq_true rfl)) (F.k 38 14 rfl) (F.l 38 30 rfl) ?_ ?_
    · exact vpN (nI_add o i) (by omega) (by decide)
    rw [clN (nI_add o i) (by omega), hf i hi2]
    refine V_iadd 19 dX12_sumOn_19 ?_
    rw [nI_add]
    refine V_istore_2 20 dX12_sumOn_20 rfl (Nat.le_of_ble_eq_true rfl) ?_
    refine V_iinc_3 21 (1) dX12_sumOn_21 (by decide) rfl (Nat.le_of_ble_eq_true rfl) ?_
    refine V_goto 24 4 dX12_sumOn_24 (by decide) ?_
    rw [← nI_succ]
    exact ih (i + 1) (by omega) (by omega)
theorem ROW.fx {a : Nat} {x y : Nat → Nat} {S : PS} (h : ROW a 0 x y S) : ∀ k, k < 8 → sA S a (0 + k) = nI (x k) := fun k hk => by rw [Nat.zero_add]; exact h.gx hk
theorem ROW.fy {a : Nat} {x y : Nat → Nat} {S : PS} (h : ROW a 0 x y S) : ∀ k, k < 8 → sA S a (8 + k) = nI (y k) := fun k hk => h.gy hk
set_option maxRecDepth 100000 in
set_option maxHeartbeats 8000000 in
theorem s_mkindByLot (l : Launch) (Γ : GC) (S : PS) {m : Nat} (F : isL lyModel Γ.2.2.2.2.1 S m) (x y : Nat → Nat) (hr : ROW (m + 38) 0 x y S) (h1 : 1 ≤ sumN x 8) (h2 : sumN x 8 ≤ 18) : CT l Γ yX12_kindByLot cX12_kindByLot 3 (some .int) (2) (0) (0) [.ref m] S (RI (fun r S' => (∃ k, k < 8 ∧ 0 < x k ∧ r = nI k) ∧ S' = S)) := by
  refine CT.of RX12 "kindByLot" [some (.ref m), none, none] (by decide +kernel) rfl rfl (Nat.le_of_ble_eq_true rfl) rfl (fun M hM => ?_)
  subst hM
  refine V_aload_0 0 dX12_kindByLot_0 ?_
  refine V_getI 1 (c := 12) 56 dX12_kindByLot_1 fl_RX12_342 (F.m 0 (Nat.le_of_ble_eq_true rfl)) (F.k 0 12 rfl) (Nat.le_of_ble_eq_true rfl) (Nat.le_of_ble_eq_true rfl) rfl ?_
  refine V_aload_0 4 dX12_kindByLot_4 ?_
  refine V_getR 5 (c := 12) 54 (F.r 0 54 38 rfl) dX12_kindByLot_5 fl_RX12_131 (F.m 0 (Nat.le_of_ble_eq_true rfl)) (F.k 0 12 rfl) (Nat.le_of_ble_eq_true rfl) (Nat.le_of_ble_eq_true rfl) rfl ?_
  refine V_bipush 8 (24) dX12_kindByLot_8 (by decide) ?_
  refine V_iaload2 10 dX12_kindByLot_10 (F.m 38 (Nat.le_of_ble_eq_true rfl)) (F.k 38 14 rfl) (F.l 38 30 rfl) ?_ ?_
  · exact (by unfold vp_in; decide)
  refine V_aload_0 11 dX12_kindByLot_11 ?_
  refine V_iconst 12 (0) dX12_kindByLot_12 (by decide) ?_
  refine V_callV 13 (ci := 12) [.int _] _ (s_msumOn M.2.1 Γ _ F x 0 (by decide) hr.fx) dX12_kindByLot_13 cb_X12_sumOn ml_RX12_352 im_yX12_sumOn se_yX12_sumOn (F.m 0 (Nat.le_of_ble_eq_true rfl)) (F.k 0 12 rfl) (Nat.le_of_ble_eq_true rfl) ⟨(Nat.le_of_ble_eq_true rfl), (Nat.le_of_ble_eq_true rfl)⟩ rfl rfl (Nat.le_of_ble_eq_true rfl) ⟨(Nat.le_of_ble_eq_true rfl), (Nat.le_of_ble_eq_true rfl)⟩ (RI.go (fun r1 S1 q1 => ?_))
  rw [q1.2, q1.1]
  refine V_callS 16 [.int _, .int _, .int _] _ (s_mlotOf M.2.1 Γ _ _ _ (sumN x 8) h1 (by omega)) dX12_kindByLot_16 cb_X12_lotOf ml_RX12_358 sm_yX12_lotOf ⟨(Nat.le_of_ble_eq_true rfl), (Nat.le_of_ble_eq_true rfl)⟩ rfl rfl (Nat.le_of_ble_eq_true rfl) ⟨(Nat.le_of_ble_eq_true rfl), (Nat.le_of_ble_eq_true rfl)⟩ (RI.go (fun r2 S2 q2 => ?_))
  rw [q2.2]
  obtain ⟨⟨l0, hl0, e2⟩, -⟩ := q2
  rw [e2]
  refine V_istore_1 19 dX12_kindByLot_19 rfl (Nat.le_of_ble_eq_true rfl) ?_
  refine V_iconst 20 (0) dX12_kindByLot_20 (by decide) ?_
  refine V_istore_2 21 dX12_kindByLot_21 rfl (Nat.le_of_ble_eq_true rfl) ?_
  refine V_while (α := Nat × Nat) (fun z => 8 - z.1) (fun z => z.1 ≤ 8 ∧ z.2 + sumN x z.1 = l0) (fun _ => S) (fun z => [some (.ref m), some (.int (nI z.2)), some (.int (nI z.1))]) (0, l0) ⟨Nat.zero_le _, rfl⟩ (fun z hz ih => ?_)
  obtain ⟨k, w⟩ := z
  obtain ⟨hk, hw⟩ := hz
  dsimp only at hk hw ih ⊢
  have hk8 : k < 8 := by
    rcases Nat.lt_or_ge k 8 with q | q
    · exact q
    · have : k = 8 := by omega
      subst this
      omega
  have hxk := sumN_mem (f := x) 8 k hk8
  refine V_iload_1 22 dX12_kindByLot_22 ?_
  refine V_aload_0 23 dX12_kindByLot_23 ?_
  refine V_getR 24 (c := 12) 54 (F.r 0 54 38 rfl) dX12_kindByLot_24 fl_RX12_131 (F.m 0 (Nat.le_of_ble_eq_true rfl)) (F.k 0 12 rfl) (Nat.le_of_ble_eq_true rfl) (Nat.le_of_ble_eq_true rfl) rfl ?_
  refine V_iload_2 27 dX12_kindByLot_27 ?_
  refine V_iaload2 28 dX12_kindByLot_28 (F.m 38 (Nat.le_of_ble_eq_true rfl)) (F.k 38 14 rfl) (F.l 38 30 rfl) ?_ ?_
  · exact vp_in_nI (by omega) (by decide)
  rw [nI_clamp (by omega), hr.gx hk8]
  refine V_icmp_lt 29 47 dX12_kindByLot_29 (by decide) (fun c => ?_) (fun c => ?_)
  · have c2 := (nI_ltI (by omega) (by omega)).mp c
    refine V_iload_2 47 dX12_kindByLot_47 ?_
    refine V_iret 48 .int dX12_kindByLot_48 rfl rfl (Nat.le_of_ble_eq_true rfl) (Nat.le_of_ble_eq_true rfl) (RI.mk ⟨⟨k, hk8, by omega, rfl⟩, rfl⟩)
  · have c2 := mt (nI_ltI (by omega) (by omega)).mpr c
    refine V_iload_1 32 dX12_kindByLot_32 ?_
    refine V_aload_0 33 dX12_kindByLot_33 ?_
    refine V_getR 34 (c := 12) 54 (F.r 0 54 38 rfl) dX12_kindByLot_34 fl_RX12_131 (F.m 0 (Nat.le_of_ble_eq_true rfl)) (F.k 0 12 rfl) (Nat.le_of_ble_eq_true rfl) (Nat.le_of_ble_eq_true rfl) rfl ?_
    refine V_iload_2 37 dX12_kindByLot_37 ?_
    refine V_iaload2 38 dX12_kindByLot_38 (F.m 38 (Nat.le_of_ble_eq_true rfl)) (F.k 38 14 rfl) (F.l 38 30 rfl) ?_ ?_
    · exact vp_in_nI (by omega) (by decide)
    rw [nI_clamp (by omega), hr.gx hk8]
    refine V_isub 39 dX12_kindByLot_39 ?_
    rw [eqSub (Eq.refl (nI w)) (Eq.refl (nI (x k))) (by omega)]
    refine V_istore_1 40 dX12_kindByLot_40 rfl (Nat.le_of_ble_eq_true rfl) ?_
    refine V_iinc_2 41 (1) dX12_kindByLot_41 (by decide) rfl (Nat.le_of_ble_eq_true rfl) ?_
    refine V_goto 44 22 dX12_kindByLot_44 (by decide) ?_
    rw [← nI_succ]
    exact ih (k + 1, w - x k) ⟨by dsimp only; omega, by dsimp only; show w - x k + (sumN x k + x k) = l0; omega⟩ (by dsimp only; omega)
theorem ROW.sx {a k w idx : Nat} {v : Int32} {x y : Nat → Nat} {S : PS} (h : ROW a 0 x y S) (hk : k < 8) (ei : idx = k) (ev : v = nI w) : ROW a 0 (fU x k w) y (uA S a idx v) := by rw [ei, ev]; exact ROW_x h hk
theorem ROW.sy {a k w idx : Nat} {v : Int32} {x y : Nat → Nat} {S : PS} (h : ROW a 0 x y S) (hk : k < 8) (ei : idx = 8 + k) (ev : v = nI w) : ROW a 0 x (fU y k w) (uA S a idx v) := by rw [ei, ev]; exact ROW_y h hk
theorem ROW.so {a i idx : Nat} {v : Int32} {x y : Nat → Nat} {S : PS} (h : ROW a 0 x y S) (ei : idx = i) (hi : 16 ≤ i) : ROW a 0 x y (uA S a idx v) := by rw [ei]; exact h.oth hi
theorem c8 (k : Nat) : (8 : Int32) + nI k = nI (8 + k) := eqAdd (show (8 : Int32) = nI 8 from rfl) (Eq.refl (nI k))
theorem c16 (k : Nat) : (16 : Int32) + nI k = nI (16 + k) := eqAdd (show (16 : Int32) = nI 16 from rfl) (Eq.refl (nI k))
theorem p1 (k : Nat) : nI k + 1 = nI (k + 1) := nI_1 k
theorem m1 {k : Nat} (h : 0 < k) : nI k - 1 = nI (k - 1) := eqSub (Eq.refl (nI k)) (show (1 : Int32) = nI 1 from rfl) h
set_option maxRecDepth 100000 in
set_option maxHeartbeats 8000000 in
theorem s_mgoesBack (l : Launch) (Γ : GC) (S : PS) {m : Nat} {g : MG} (F : isL lyModel Γ.2.2.2.2.1 S m) (h : TXT m g S) (x y : Nat → Nat) (hr : ROW (m + 38) 0 x y S) (hz : ∀ k, k < 8 → 0 < y k → k < gK g) (h18 : ∀ k, k < 8 → y k ≤ 18) (hy : 0 < sumN y 8) : CT l Γ yX12_goesBack cX12_goesBack 4 (some .int) (1) (0) (0) [.ref m] S (RI (fun r S' => (∃ k, k < gK g ∧ 0 < y k ∧ r = nI k) ∧ S' = S)) := by
  refine CT.of RX12 "goesBack" [some (.ref m), none, none, none] (by decide +kernel) rfl rfl (Nat.le_of_ble_eq_true rfl) rfl (fun M hM => ?_)
  subst hM
  have hl := h.l2
  have hK := h.k8
  refine V_iconst 0 (-1) dX12_goesBack_0 (by decide) ?_
  refine V_istore_1 1 dX12_goesBack_1 rfl (Nat.le_of_ble_eq_true rfl) ?_
  refine V_iconst 2 (0) dX12_goesBack_2 (by decide) ?_
  refine V_istore_2 3 dX12_goesBack_3 rfl (Nat.le_of_ble_eq_true rfl) ?_
  refine V_while (α := Nat × Int32 × Option Value) (fun z => gK g - z.1) (fun z => z.1 ≤ gK g ∧ ((z.2.1 = -1 ∧ ∀ j, j < z.1 → y j = 0) ∨ ∃ j, j < gK g ∧ 0 < y j ∧ z.2.1 = nI j)) (fun _ => S) (fun z => [some (.ref m), some (.int z.2.1), some (.int (nI z.1)), z.2.2]) (0, -1, none) ⟨Nat.zero_le _, Or.inl ⟨rfl, fun j hj => absurd hj (Nat.not_lt_zero _)⟩⟩ (fun z hz2 ih => ?_)
  obtain ⟨i, b, w⟩ := z
  obtain ⟨hi, hb⟩ := hz2
  dsimp only at hi hb ih ⊢
  refine V_iload_2 4 dX12_goesBack_4 ?_
  refine V_aload_0 5 dX12_goesBack_5 ?_
  refine V_getR 6 (c := 12) 23 (F.r 0 23 11 rfl) dX12_goesBack_6 fl_RX12_49 (F.m 0 (Nat.le_of_ble_eq_true rfl)) (F.k 0 12 rfl) (Nat.le_of_ble_eq_true rfl) (Nat.le_of_ble_eq_true rfl) rfl ?_
  refine V_aload_0 9 dX12_goesBack_9 ?_
  refine V_getI 10 (c := 12) 18 dX12_goesBack_10 fl_RX12_264 (F.m 0 (Nat.le_of_ble_eq_true rfl)) (F.k 0 12 rfl) (Nat.le_of_ble_eq_true rfl) (Nat.le_of_ble_eq_true rfl) rfl ?_
  rw [h.lv]
  refine V_iaload2 13 dX12_goesBack_13 (F.m 11 (Nat.le_of_ble_eq_true rfl)) (F.k 11 14 rfl) (F.l 11 2 rfl) ?_ ?_
  · exact vp_in_nI hl (by decide)
  rw [nI_clamp (by omega), h.ki]
  refine V_icmp_ge 14 94 dX12_goesBack_14 (by decide) (fun c => ?_) (fun c => ?_)
  · have c2 := (nI_leI (by omega) (by omega)).mp c
    have hi2 : i = gK g := by omega
    subst hi2
    rcases hb with ⟨-, hb⟩ | ⟨j, hj, hj2, rfl⟩
    · obtain ⟨k, hk, hk2⟩ := sumN_pos 8 hy
      have := hb k (hz k hk hk2)
      omega
    ·
      refine V_iload_1 94 dX12_goesBack_94 ?_
      refine V_iret 95 .int dX12_goesBack_95 rfl rfl (Nat.le_of_ble_eq_true rfl) (Nat.le_of_ble_eq_true rfl) (RI.mk ⟨⟨j, hj, hj2, rfl⟩, rfl⟩)
  · have hi2 : i < gK g := by have := mt (nI_leI (by omega) (by omega)).mpr c; omega
    have hp := h.paK hi2
    refine V_aload_0 17 dX12_goesBack_17 ?_
    refine V_getR 18 (c := 12) 54 (F.r 0 54 38 rfl) dX12_goesBack_18 fl_RX12_131 (F.m 0 (Nat.le_of_ble_eq_true rfl)) (F.k 0 12 rfl) (Nat.le_of_ble_eq_true rfl) (Nat.le_of_ble_eq_true rfl) rfl ?_
    refine V_bipush 21 (8) dX12_goesBack_21 (by decide) ?_
    refine V_iload_2 23 dX12_goesBack_23 ?_
    refine V_iadd 24 dX12_goesBack_24 ?_
    rw [c8 i]
    refine V_iaload2 25 dX12_goesBack_25 (F.m 38 (Nat.le_of_ble_eq_true rfl)) (F.k 38 14 rfl) (F.l 38 30 rfl) ?_ ?_
    · exact vp_in_nI (by omega) (by decide)
    rw [nI_clamp (by omega), hr.gy (by omega)]
    have J88 : ∀ (b : Int32) (w : Option Value), ((b = -1 ∧ ∀ j, j < i + 1 → y j = 0) ∨ ∃ j, j < gK g ∧ 0 < y j ∧ b = nI j) → V M Γ (4, RX12, "goesBack", (some .int), RM (1) (0) (0)) cX12_goesBack (RQ M Γ (RI (fun r S' => (∃ k, k < gK g ∧ 0 < y k ∧ r = nI k) ∧ S' = S)) (0) (0)) 0 0 S 88 [some (.ref m), some (.int b), some (.int (nI i)), w] [] := by
      intro b w hb
      refine V_iinc_2 88 (1) dX12_goesBack_88 (by decide) rfl (Nat.le_of_ble_eq_true rfl) ?_
      refine V_goto 91 4 dX12_goesBack_91 (by decide) ?_
      rw [← nI_succ]
      exact ih (i + 1, b, w) ⟨by dsimp only; omega, hb⟩ (by dsimp only; omega)
    refine V_if_ne 26 32 dX12_goesBack_26 (by decide) (fun c3 => ?_) (fun c3 => ?_)
    · have c4 := mt (nI_eqE (Eq.refl (nI (y i))) (show (0 : Int32) = nI 0 from rfl) (by have := h18 i (by omega); omega) (by omega)).mpr c3
      have hyi : 0 < y i := by omega
      have J86 : ∀ (w : Option Value), V M Γ (4, RX12, "goesBack", (some .int), RM (1) (0) (0)) cX12_goesBack (RQ M Γ (RI (fun r S' => (∃ k, k < gK g ∧ 0 < y k ∧ r = nI k) ∧ S' = S)) (0) (0)) 0 0 S 86 [some (.ref m), some (.int b), some (.int (nI i)), w] [] := by
        intro w
        refine V_iload_2 86 dX12_goesBack_86 ?_
        refine V_istore_1 87 dX12_goesBack_87 rfl (Nat.le_of_ble_eq_true rfl) ?_
        exact J88 _ _ (Or.inr ⟨i, hi2, hyi, rfl⟩)
      refine V_aload_0 32 dX12_goesBack_32 ?_
      refine V_getR 33 (c := 12) 54 (F.r 0 54 38 rfl) dX12_goesBack_33 fl_RX12_131 (F.m 0 (Nat.le_of_ble_eq_true rfl)) (F.k 0 12 rfl) (Nat.le_of_ble_eq_true rfl) (Nat.le_of_ble_eq_true rfl) rfl ?_
      refine V_aload_0 36 dX12_goesBack_36 ?_
      refine V_iload_2 37 dX12_goesBack_37 ?_
      refine V_callV 38 (ci := 12) [.int _] _ (s_mpartner M.2.1 Γ S F h hi2) dX12_goesBack_38 cb_X12_partner ml_RX12_349 im_yX12_partner se_yX12_partner (F.m 0 (Nat.le_of_ble_eq_true rfl)) (F.k 0 12 rfl) (Nat.le_of_ble_eq_true rfl) ⟨(Nat.le_of_ble_eq_true rfl), (Nat.le_of_ble_eq_true rfl)⟩ rfl rfl (Nat.le_of_ble_eq_true rfl) ⟨(Nat.le_of_ble_eq_true rfl), (Nat.le_of_ble_eq_true rfl)⟩ (RI.go (fun r1 S1 q1 => ?_))
      rw [q1.2, q1.1]
      refine V_iaload2 41 dX12_goesBack_41 (F.m 38 (Nat.le_of_ble_eq_true rfl)) (F.k 38 14 rfl) (F.l 38 30 rfl) ?_ ?_
      · exact vp_in_nI (by omega) (by decide)
      refine V_istore_3 42 dX12_goesBack_42 rfl (Nat.le_of_ble_eq_true rfl) ?_
      refine V_iload_1 43 dX12_goesBack_43 ?_
      rcases hb with ⟨rfl, hb⟩ | ⟨j, hj, hj2, rfl⟩
      · refine V_if_lt 44 86 dX12_goesBack_44 (by decide) (fun _ => J86 _) (fun q => absurd (by decide) q)
      · have hpj := h.paK hj
        refine V_if_lt 44 86 dX12_goesBack_44 (by decide) (fun q => absurd q (nI_pos (by omega))) (fun _ => ?_)
        refine V_aload_0 47 dX12_goesBack_47 ?_
        refine V_getI 48 (c := 12) 55 dX12_goesBack_48 fl_RX12_339 (F.m 0 (Nat.le_of_ble_eq_true rfl)) (F.k 0 12 rfl) (Nat.le_of_ble_eq_true rfl) (Nat.le_of_ble_eq_true rfl) rfl ?_
        refine V_iconst 51 (2) dX12_goesBack_51 (by decide) ?_
        refine V_icmp_ne 52 72 dX12_goesBack_52 (by decide) (fun c5 => ?_) (fun c5 => ?_)
        ·
          refine V_iload_3 72 dX12_goesBack_72 ?_
          refine V_aload_0 73 dX12_goesBack_73 ?_
          refine V_getR 74 (c := 12) 54 (F.r 0 54 38 rfl) dX12_goesBack_74 fl_RX12_131 (F.m 0 (Nat.le_of_ble_eq_true rfl)) (F.k 0 12 rfl) (Nat.le_of_ble_eq_true rfl) (Nat.le_of_ble_eq_true rfl) rfl ?_
          refine V_aload_0 77 dX12_goesBack_77 ?_
          refine V_iload_1 78 dX12_goesBack_78 ?_
          refine V_callV 79 (ci := 12) [.int _] _ (s_mpartner M.2.1 Γ S F h hj) dX12_goesBack_79 cb_X12_partner ml_RX12_349 im_yX12_partner se_yX12_partner (F.m 0 (Nat.le_of_ble_eq_true rfl)) (F.k 0 12 rfl) (Nat.le_of_ble_eq_true rfl) ⟨(Nat.le_of_ble_eq_true rfl), (Nat.le_of_ble_eq_true rfl)⟩ rfl rfl (Nat.le_of_ble_eq_true rfl) ⟨(Nat.le_of_ble_eq_true rfl), (Nat.le_of_ble_eq_true rfl)⟩ (RI.go (fun r2 S2 q2 => ?_))
          rw [q2.2, q2.1]
          refine V_iaload2 82 dX12_goesBack_82 (F.m 38 (Nat.le_of_ble_eq_true rfl)) (F.k 38 14 rfl) (F.l 38 30 rfl) ?_ ?_
          · exact vp_in_nI (by omega) (by decide)
          refine V_icmp_le 83 88 dX12_goesBack_83 (by decide) (fun c6 => ?_) (fun c6 => ?_)
          · exact J88 _ _ (Or.inr ⟨j, hj, hj2, rfl⟩)
          · exact J86 _
        ·
          refine V_iload_3 55 dX12_goesBack_55 ?_
          refine V_aload_0 56 dX12_goesBack_56 ?_
          refine V_getR 57 (c := 12) 54 (F.r 0 54 38 rfl) dX12_goesBack_57 fl_RX12_131 (F.m 0 (Nat.le_of_ble_eq_true rfl)) (F.k 0 12 rfl) (Nat.le_of_ble_eq_true rfl) (Nat.le_of_ble_eq_true rfl) rfl ?_
          refine V_aload_0 60 dX12_goesBack_60 ?_
          refine V_iload_1 61 dX12_goesBack_61 ?_
          refine V_callV 62 (ci := 12) [.int _] _ (s_mpartner M.2.1 Γ S F h hj) dX12_goesBack_62 cb_X12_partner ml_RX12_349 im_yX12_partner se_yX12_partner (F.m 0 (Nat.le_of_ble_eq_true rfl)) (F.k 0 12 rfl) (Nat.le_of_ble_eq_true rfl) ⟨(Nat.le_of_ble_eq_true rfl), (Nat.le_of_ble_eq_true rfl)⟩ rfl rfl (Nat.le_of_ble_eq_true rfl) ⟨(Nat.le_of_ble_eq_true rfl), (Nat.le_of_ble_eq_true rfl)⟩ (RI.go (fun r2 S2 q2 => ?_))
          rw [q2.2, q2.1]
          refine V_iaload2 65 dX12_goesBack_65 (F.m 38 (Nat.le_of_ble_eq_true rfl)) (F.k 38 14 rfl) (F.l 38 30 rfl) ?_ ?_
          · exact vp_in_nI (by omega) (by decide)
          refine V_icmp_ge 66 88 dX12_goesBack_66 (by decide) (fun c6 => ?_) (fun c6 => ?_)
          · exact J88 _ _ (Or.inr ⟨j, hj, hj2, rfl⟩)
          · refine V_goto 69 86 dX12_goesBack_69 (by decide) ?_
            exact J86 _
    · have c4 := (nI_eqE (Eq.refl (nI (y i))) (show (0 : Int32) = nI 0 from rfl) (by have := h18 i (by omega); omega) (by omega)).mp c3
      refine V_goto 29 88 dX12_goesBack_29 (by decide) ?_
      refine J88 _ _ ?_
      rcases hb with ⟨rfl, hb⟩ | hb
      · refine Or.inl ⟨rfl, fun j hj => ?_⟩
        by_cases q : j = i
        · subst q; exact c4
        · exact hb j (by omega)
      · exact Or.inr hb
theorem okz {g : MG} {x y : Nat → Nat} (ok : OKR g x y) : ∀ k, k < 8 → 0 < y k → k < gK g := fun _ hj q => OKR.K ok hj (by omega)
theorem oky {m : Nat} {g : MG} {S : PS} {x y : Nat → Nat} (h : TXT m g S) (ok : OKR g x y) : ∀ k, k < 8 → y k ≤ 18 := fun _ hj => by have := OKR.k18 h ok hj; omega
theorem okDraw {g : MG} {x y : Nat → Nat} {k p : Nat} (ok : OKR g x y) (hk : k < 8) (hp : p < 8) : OKR g (fU x k (x k - 1)) (fU y p (y p - 1)) := fun j hj => by
  have h := ok j hj
  unfold fU
  split <;> split <;> (try subst_vars) <;> omega
theorem okLies {g : MG} {x y : Nat → Nat} {k : Nat} (ok : OKR g x y) (hx : 0 < x k) : OKR g (fU x k (x k - 1)) (fU y k (y k + 1)) := fun j hj => by
  have h := ok j hj
  unfold fU
  by_cases q : j = k
  · subst q; rw [if_pos rfl, if_pos rfl]; omega
  · rw [if_neg q, if_neg q]; exact h
theorem okFull {g : MG} {x y : Nat → Nat} {k : Nat} (ok : OKR g x y) (hx : 0 < x k) : OKR g (fU (fU x k (x k - 1)) k (x k - 1 + 1)) y := fun j hj => by
  have h := ok j hj
  unfold fU
  by_cases q : j = k
  · subst q; rw [if_pos rfl]; omega
  · rw [if_neg q, if_neg q]; exact h
theorem okGoes {g : MG} {x y : Nat → Nat} {k q : Nat} (ok : OKR g x y) (hx : 0 < x k) (hy : 0 < y q) : OKR g (fU (fU x k (x k - 1)) q (fU x k (x k - 1) q + 1)) (fU (fU y q (y q - 1)) k (fU y q (y q - 1) k + 1)) := fun j hj => by
  have h := ok j hj
  by_cases e1 : j = k <;> by_cases e2 : j = q
  · subst e1; subst e2; unfold fU; simp only [if_true]; omega
  · subst e1; unfold fU; simp only [if_true, if_neg e2]; omega
  · subst e2; unfold fU; simp only [if_true, if_neg e1]; omega
  · unfold fU; simp only [if_neg e1, if_neg e2]; exact h
set_option maxRecDepth 100000 in
set_option maxHeartbeats 8000000 in
theorem s_mdraws (l : Launch) (Γ : GC) (S : PS) {m : Nat} {g : MG} (F : isL lyModel Γ.2.2.2.2.1 S m) (h : TXT m g S) (x y : Nat → Nat) (hr : ROW (m + 38) 0 x y S) (ok : OKR g x y) {k : Nat} (hk : k < gK g) (hx : 0 < x k) : CT l Γ yX12_draws cX12_draws 4 (some .int) (2) (0) (0) [.ref m, .int (nI k)] S (RI (fun r S' => FZ [m + 38] [] S S' ∧ SR g (m + 38) 0 S')) := by
  refine CT.of RX12 "draws" [some (.ref m), some (.int (nI k)), none, none] (by decide +kernel) rfl rfl (Nat.le_of_ble_eq_true rfl) rfl (fun M hM => ?_)
  subst hM
  have hl := h.l2
  have hK := h.k8
  have hk8 : k < 8 := by omega
  have hp := h.paK hk
  have hp8 : gP g k < 8 := by omega
  have hk18 := OKR.k18 h ok hk8
  have hp18 := OKR.k18 h ok hp8
  have hs18 := OKR.s18 h ok
  have hr18 := h.r18
  have hr1 := h.r1
  refine V_aload_0 0 dX12_draws_0 ?_
  refine V_getR 1 (c := 12) 54 (F.r 0 54 38 rfl) dX12_draws_1 fl_RX12_131 (F.m 0 (Nat.le_of_ble_eq_true rfl)) (F.k 0 12 rfl) (Nat.le_of_ble_eq_true rfl) (Nat.le_of_ble_eq_true rfl) rfl ?_
  refine V_bipush 4 (24) dX12_draws_4 (by decide) ?_
  refine V_dup2 6 dX12_draws_6 rfl rfl ?_
  refine V_iaload2 7 dX12_draws_7 (F.m 38 (Nat.le_of_ble_eq_true rfl)) (F.k 38 14 rfl) (F.l 38 30 rfl) ?_ ?_
  · exact (by unfold vp_in; decide)
  refine V_iconst 8 (1) dX12_draws_8 (by decide) ?_
  refine V_iadd 9 dX12_draws_9 ?_
  refine V_iastore2 10 dX12_draws_10 (F.m 38 (Nat.le_of_ble_eq_true rfl)) (F.k 38 14 rfl) (F.l 38 30 rfl) ?_ ?_
  · exact (by unfold vp_in; decide)
  refine V_abs (fun T9 => FZ [m + 38] [] S T9 ∧ ((fun T => ROW (m + 38) 0 x y T) T9)) ⟨(FZ.rf (X := [m + 38]) (Y := []) (S := S)).uA (by simp), by exact hr.oth (by decide)⟩ (fun S1 hh4 => ?_)
  obtain ⟨h2, p3⟩ := hh4
  refine V_aload_0 11 dX12_draws_11 ?_
  refine V_iload_1 12 dX12_draws_12 ?_
  refine V_callV 13 (ci := 12) [.int _] _ (s_mpartner M.2.1 Γ S1 (F.ss h2.1) (h.z [38] [] h2 rfl rfl rfl rfl) hk) dX12_draws_13 cb_X12_partner ml_RX12_349 im_yX12_partner se_yX12_partner ((F.ss h2.1).m 0 (Nat.le_of_ble_eq_true rfl)) ((F.ss h2.1).k 0 12 rfl) (Nat.le_of_ble_eq_true rfl) ⟨(Nat.le_of_ble_eq_true rfl), (Nat.le_of_ble_eq_true rfl)⟩ rfl rfl (Nat.le_of_ble_eq_true rfl) ⟨(Nat.le_of_ble_eq_true rfl), (Nat.le_of_ble_eq_true rfl)⟩ (RI.go (fun r7 S5 q6 => ?_))
  obtain ⟨e9, s9⟩ := q6
  rw [s9]
  subst e9
  refine V_istore_2 16 dX12_draws_16 rfl (Nat.le_of_ble_eq_true rfl) ?_
  refine V_aload_0 17 dX12_draws_17 ?_
  refine V_getR 18 (c := 12) 54 ((F.ss h2.1).r 0 54 38 rfl) dX12_draws_18 fl_RX12_131 ((F.ss h2.1).m 0 (Nat.le_of_ble_eq_true rfl)) ((F.ss h2.1).k 0 12 rfl) (Nat.le_of_ble_eq_true rfl) (Nat.le_of_ble_eq_true rfl) rfl ?_
  refine V_iload_1 21 dX12_draws_21 ?_
  refine V_dup2 22 dX12_draws_22 rfl rfl ?_
  refine V_iaload2 23 dX12_draws_23 ((F.ss h2.1).m 38 (Nat.le_of_ble_eq_true rfl)) ((F.ss h2.1).k 38 14 rfl) ((F.ss h2.1).l 38 30 rfl) ?_ ?_
  · exact vpN (Eq.refl (nI k)) (by omega) (by decide)
  rw [clN (Eq.refl (nI k)) (by omega)]
  rw [p3.gx hk8]
  refine V_iconst 24 (1) dX12_draws_24 (by decide) ?_
  refine V_isub 25 dX12_draws_25 ?_
  refine V_iastore2 26 dX12_draws_26 ((F.ss h2.1).m 38 (Nat.le_of_ble_eq_true rfl)) ((F.ss h2.1).k 38 14 rfl) ((F.ss h2.1).l 38 30 rfl) ?_ ?_
  · exact vpN (Eq.refl (nI k)) (by omega) (by decide)
  refine V_abs (fun T9 => FZ [m + 38] [] S T9 ∧ ((fun T => ROW (m + 38) 0 (fU x k (x k - 1)) y T) T9)) ⟨h2.uA (by simp), by exact p3.sx hk8 (nI_clamp (by omega)) (m1 hx)⟩ (fun S8 hh11 => ?_)
  obtain ⟨h9, p10⟩ := hh11
  refine V_aload_0 27 dX12_draws_27 ?_
  refine V_getR 28 (c := 12) 54 ((F.ss h9.1).r 0 54 38 rfl) dX12_draws_28 fl_RX12_131 ((F.ss h9.1).m 0 (Nat.le_of_ble_eq_true rfl)) ((F.ss h9.1).k 0 12 rfl) (Nat.le_of_ble_eq_true rfl) (Nat.le_of_ble_eq_true rfl) rfl ?_
  refine V_bipush 31 (8) dX12_draws_31 (by decide) ?_
  refine V_iload_2 33 dX12_draws_33 ?_
  refine V_iadd 34 dX12_draws_34 ?_
  refine V_iaload2 35 dX12_draws_35 ((F.ss h9.1).m 38 (Nat.le_of_ble_eq_true rfl)) ((F.ss h9.1).k 38 14 rfl) ((F.ss h9.1).l 38 30 rfl) ?_ ?_
  · exact vpN (eqAdd (show (8 : Int32) = nI 8 from rfl) (Eq.refl (nI (gP g k)))) (by omega) (by decide)
  rw [clN (eqAdd (show (8 : Int32) = nI 8 from rfl) (Eq.refl (nI (gP g k)))) (by omega)]
  rw [p10.gy hp8]
  refine V_if_le 36 85 dX12_draws_36 (by decide) (fun c12 => ?_) (fun c12 => ?_)
  ·
    try have nf13 := (nI_leE (Eq.refl (nI (y (gP g k)))) (show (0 : Int32) = nI 0 from rfl) (by omega) (by omega)).mp c12
    refine V_aload_0 85 dX12_draws_85 ?_
    refine V_bipush 86 (8) dX12_draws_86 (by decide) ?_
    refine V_callV 88 (ci := 12) [.int _] _ (s_msumOn M.2.1 Γ S8 (F.ss h9.1) y 8 (by decide) (ROW.fy p10)) dX12_draws_88 cb_X12_sumOn ml_RX12_352 im_yX12_sumOn se_yX12_sumOn ((F.ss h9.1).m 0 (Nat.le_of_ble_eq_true rfl)) ((F.ss h9.1).k 0 12 rfl) (Nat.le_of_ble_eq_true rfl) ⟨(Nat.le_of_ble_eq_true rfl), (Nat.le_of_ble_eq_true rfl)⟩ rfl rfl (Nat.le_of_ble_eq_true rfl) ⟨(Nat.le_of_ble_eq_true rfl), (Nat.le_of_ble_eq_true rfl)⟩ (RI.go (fun r16 S14 q15 => ?_))
    obtain ⟨e9, s9⟩ := q15
    rw [s9]
    subst e9
    refine V_aload_0 91 dX12_draws_91 ?_
    refine V_getR 92 (c := 12) 31 ((F.ss h9.1).r 0 31 19 rfl) dX12_draws_92 fl_RX12_73 ((F.ss h9.1).m 0 (Nat.le_of_ble_eq_true rfl)) ((F.ss h9.1).k 0 12 rfl) (Nat.le_of_ble_eq_true rfl) (Nat.le_of_ble_eq_true rfl) rfl ?_
    refine V_aload_0 95 dX12_draws_95 ?_
    refine V_getI 96 (c := 12) 18 dX12_draws_96 fl_RX12_264 ((F.ss h9.1).m 0 (Nat.le_of_ble_eq_true rfl)) ((F.ss h9.1).k 0 12 rfl) (Nat.le_of_ble_eq_true rfl) (Nat.le_of_ble_eq_true rfl) rfl ?_
    rw [(h.z [38] [] h9 rfl rfl rfl rfl).lv]
    refine V_iaload2 99 dX12_draws_99 ((F.ss h9.1).m 19 (Nat.le_of_ble_eq_true rfl)) ((F.ss h9.1).k 19 14 rfl) ((F.ss h9.1).l 19 2 rfl) ?_ ?_
    · exact vpN (Eq.refl (nI (gl g))) (by omega) (by decide)
    rw [clN (Eq.refl (nI (gl g))) (by omega)]
    rw [(h.z [38] [] h9 rfl rfl rfl rfl).ro]
    refine V_icmp_ge 100 118 dX12_draws_100 (by decide) (fun c17 => ?_) (fun c17 => ?_)
    ·
      try have nf18 := (nI_leE (Eq.refl (nI (gR g))) (Eq.refl (nI (sumN y 8))) (by omega) (by omega)).mp c17
      refine V_aload_0 118 dX12_draws_118 ?_
      refine V_getI 119 (c := 12) 55 dX12_draws_119 fl_RX12_339 ((F.ss h9.1).m 0 (Nat.le_of_ble_eq_true rfl)) ((F.ss h9.1).k 0 12 rfl) (Nat.le_of_ble_eq_true rfl) (Nat.le_of_ble_eq_true rfl) rfl ?_
      refine V_iconst 122 (2) dX12_draws_122 (by decide) ?_
      refine V_icmp_ge 123 154 dX12_draws_123 (by decide) (fun c19 => ?_) (fun c19 => ?_)
      ·
        refine V_aload_0 154 dX12_draws_154 ?_
        refine V_callV 155 (ci := 12) [] _ (s_mgoesBack M.2.1 Γ S8 (F.ss h9.1) (h.z [38] [] h9 rfl rfl rfl rfl) _ y p10 (okz ok) (oky h ok) (by omega)) dX12_draws_155 cb_X12_goesBack ml_RX12_355 im_yX12_goesBack se_yX12_goesBack ((F.ss h9.1).m 0 (Nat.le_of_ble_eq_true rfl)) ((F.ss h9.1).k 0 12 rfl) (Nat.le_of_ble_eq_true rfl) ⟨(Nat.le_of_ble_eq_true rfl), (Nat.le_of_ble_eq_true rfl)⟩ rfl rfl (Nat.le_of_ble_eq_true rfl) ⟨(Nat.le_of_ble_eq_true rfl), (Nat.le_of_ble_eq_true rfl)⟩ (RI.go (fun r22 S20 q21 => ?_))
        obtain ⟨⟨q9, hq9, hy9, e9⟩, s9⟩ := q21
        rw [s9]
        subst e9
        have hq8 : q9 < 8 := Nat.lt_of_lt_of_le hq9 hK
        have hq18 := OKR.k18 h ok hq8
        refine V_istore_3 158 dX12_draws_158 rfl (Nat.le_of_ble_eq_true rfl) ?_
        refine V_aload_0 159 dX12_draws_159 ?_
        refine V_getR 160 (c := 12) 54 ((F.ss h9.1).r 0 54 38 rfl) dX12_draws_160 fl_RX12_131 ((F.ss h9.1).m 0 (Nat.le_of_ble_eq_true rfl)) ((F.ss h9.1).k 0 12 rfl) (Nat.le_of_ble_eq_true rfl) (Nat.le_of_ble_eq_true rfl) rfl ?_
        refine V_bipush 163 (8) dX12_draws_163 (by decide) ?_
        refine V_iload_3 165 dX12_draws_165 ?_
        refine V_iadd 166 dX12_draws_166 ?_
        refine V_dup2 167 dX12_draws_167 rfl rfl ?_
        refine V_iaload2 168 dX12_draws_168 ((F.ss h9.1).m 38 (Nat.le_of_ble_eq_true rfl)) ((F.ss h9.1).k 38 14 rfl) ((F.ss h9.1).l 38 30 rfl) ?_ ?_
        · exact vpN (eqAdd (show (8 : Int32) = nI 8 from rfl) (Eq.refl (nI (q9)))) (by omega) (by decide)
        rw [clN (eqAdd (show (8 : Int32) = nI 8 from rfl) (Eq.refl (nI (q9)))) (by omega)]
        rw [p10.gy hq8]
        refine V_iconst 169 (1) dX12_draws_169 (by decide) ?_
        refine V_isub 170 dX12_draws_170 ?_
        refine V_iastore2 171 dX12_draws_171 ((F.ss h9.1).m 38 (Nat.le_of_ble_eq_true rfl)) ((F.ss h9.1).k 38 14 rfl) ((F.ss h9.1).l 38 30 rfl) ?_ ?_
        · exact vpN (eqAdd (show (8 : Int32) = nI 8 from rfl) (Eq.refl (nI (q9)))) (by omega) (by decide)
        refine V_abs (fun T9 => FZ [m + 38] [] S T9 ∧ ((fun T => ROW (m + 38) 0 (fU x k (x k - 1)) (fU y q9 (y q9 - 1)) T) T9)) ⟨h9.uA (by simp), by exact p10.sy hq8 (clN (c8 _) (by omega)) (m1 hy9)⟩ (fun S23 hh26 => ?_)
        obtain ⟨h24, p25⟩ := hh26
        refine V_aload_0 172 dX12_draws_172 ?_
        refine V_getR 173 (c := 12) 54 ((F.ss h24.1).r 0 54 38 rfl) dX12_draws_173 fl_RX12_131 ((F.ss h24.1).m 0 (Nat.le_of_ble_eq_true rfl)) ((F.ss h24.1).k 0 12 rfl) (Nat.le_of_ble_eq_true rfl) (Nat.le_of_ble_eq_true rfl) rfl ?_
        refine V_iload_3 176 dX12_draws_176 ?_
        refine V_dup2 177 dX12_draws_177 rfl rfl ?_
        refine V_iaload2 178 dX12_draws_178 ((F.ss h24.1).m 38 (Nat.le_of_ble_eq_true rfl)) ((F.ss h24.1).k 38 14 rfl) ((F.ss h24.1).l 38 30 rfl) ?_ ?_
        · exact vpN (Eq.refl (nI (q9))) (by omega) (by decide)
        rw [clN (Eq.refl (nI (q9))) (by omega)]
        rw [p25.gx hq8]
        refine V_iconst 179 (1) dX12_draws_179 (by decide) ?_
        refine V_iadd 180 dX12_draws_180 ?_
        refine V_iastore2 181 dX12_draws_181 ((F.ss h24.1).m 38 (Nat.le_of_ble_eq_true rfl)) ((F.ss h24.1).k 38 14 rfl) ((F.ss h24.1).l 38 30 rfl) ?_ ?_
        · exact vpN (Eq.refl (nI (q9))) (by omega) (by decide)
        refine V_abs (fun T9 => FZ [m + 38] [] S T9 ∧ ((fun T => ROW (m + 38) 0 (fU (fU x k (x k - 1)) q9 (fU x k (x k - 1) q9 + 1)) (fU y q9 (y q9 - 1)) T) T9)) ⟨h24.uA (by simp), by exact p25.sx hq8 (nI_clamp (by omega)) (p1 _)⟩ (fun S27 hh30 => ?_)
        obtain ⟨h28, p29⟩ := hh30
        refine V_aload_0 182 dX12_draws_182 ?_
        refine V_getR 183 (c := 12) 54 ((F.ss h28.1).r 0 54 38 rfl) dX12_draws_183 fl_RX12_131 ((F.ss h28.1).m 0 (Nat.le_of_ble_eq_true rfl)) ((F.ss h28.1).k 0 12 rfl) (Nat.le_of_ble_eq_true rfl) (Nat.le_of_ble_eq_true rfl) rfl ?_
        refine V_bipush 186 (8) dX12_draws_186 (by decide) ?_
        refine V_iload_1 188 dX12_draws_188 ?_
        refine V_iadd 189 dX12_draws_189 ?_
        refine V_dup2 190 dX12_draws_190 rfl rfl ?_
        refine V_iaload2 191 dX12_draws_191 ((F.ss h28.1).m 38 (Nat.le_of_ble_eq_true rfl)) ((F.ss h28.1).k 38 14 rfl) ((F.ss h28.1).l 38 30 rfl) ?_ ?_
        · exact vpN (eqAdd (show (8 : Int32) = nI 8 from rfl) (Eq.refl (nI k))) (by omega) (by decide)
        rw [clN (eqAdd (show (8 : Int32) = nI 8 from rfl) (Eq.refl (nI k))) (by omega)]
        rw [p29.gy hk8]
        refine V_iconst 192 (1) dX12_draws_192 (by decide) ?_
        refine V_iadd 193 dX12_draws_193 ?_
        refine V_iastore2 194 dX12_draws_194 ((F.ss h28.1).m 38 (Nat.le_of_ble_eq_true rfl)) ((F.ss h28.1).k 38 14 rfl) ((F.ss h28.1).l 38 30 rfl) ?_ ?_
        · exact vpN (eqAdd (show (8 : Int32) = nI 8 from rfl) (Eq.refl (nI k))) (by omega) (by decide)
        refine V_abs (fun T9 => FZ [m + 38] [] S T9 ∧ ((fun T => ROW (m + 38) 0 (fU (fU x k (x k - 1)) q9 (fU x k (x k - 1) q9 + 1)) (fU (fU y q9 (y q9 - 1)) k (fU y q9 (y q9 - 1) k + 1)) T) T9)) ⟨h28.uA (by simp), by exact p29.sy hk8 (clN (c8 _) (by omega)) (p1 _)⟩ (fun S31 hh34 => ?_)
        obtain ⟨h32, p33⟩ := hh34
        refine V_iconst 195 (2) dX12_draws_195 (by decide) ?_
        refine V_iret 196 .int dX12_draws_196 rfl rfl (Nat.le_of_ble_eq_true rfl) (Nat.le_of_ble_eq_true rfl) (RI.mk ⟨h32, _, _, p33, by first | exact okDraw ok hk8 hp8 | exact okLies ok hx | exact okFull ok hx | exact okGoes ok hx (by assumption)⟩)
      ·
        refine V_aload_0 126 dX12_draws_126 ?_
        refine V_getR 127 (c := 12) 54 ((F.ss h9.1).r 0 54 38 rfl) dX12_draws_127 fl_RX12_131 ((F.ss h9.1).m 0 (Nat.le_of_ble_eq_true rfl)) ((F.ss h9.1).k 0 12 rfl) (Nat.le_of_ble_eq_true rfl) (Nat.le_of_ble_eq_true rfl) rfl ?_
        refine V_iload_1 130 dX12_draws_130 ?_
        refine V_dup2 131 dX12_draws_131 rfl rfl ?_
        refine V_iaload2 132 dX12_draws_132 ((F.ss h9.1).m 38 (Nat.le_of_ble_eq_true rfl)) ((F.ss h9.1).k 38 14 rfl) ((F.ss h9.1).l 38 30 rfl) ?_ ?_
        · exact vpN (Eq.refl (nI k)) (by omega) (by decide)
        rw [clN (Eq.refl (nI k)) (by omega)]
        rw [(p10.gx hk8).trans (congrArg nI fU_s)]
        refine V_iconst 133 (1) dX12_draws_133 (by decide) ?_
        refine V_iadd 134 dX12_draws_134 ?_
        refine V_iastore2 135 dX12_draws_135 ((F.ss h9.1).m 38 (Nat.le_of_ble_eq_true rfl)) ((F.ss h9.1).k 38 14 rfl) ((F.ss h9.1).l 38 30 rfl) ?_ ?_
        · exact vpN (Eq.refl (nI k)) (by omega) (by decide)
        refine V_abs (fun T9 => FZ [m + 38] [] S T9 ∧ ((fun T => ROW (m + 38) 0 (fU (fU x k (x k - 1)) k (x k - 1 + 1)) y T) T9)) ⟨h9.uA (by simp), by exact p10.sx hk8 (nI_clamp (by omega)) (p1 _)⟩ (fun S35 hh38 => ?_)
        obtain ⟨h36, p37⟩ := hh38
        refine V_aload_0 136 dX12_draws_136 ?_
        refine V_getI 137 (c := 12) 55 dX12_draws_137 fl_RX12_339 ((F.ss h36.1).m 0 (Nat.le_of_ble_eq_true rfl)) ((F.ss h36.1).k 0 12 rfl) (Nat.le_of_ble_eq_true rfl) (Nat.le_of_ble_eq_true rfl) rfl ?_
        refine V_iconst 140 (1) dX12_draws_140 (by decide) ?_
        refine V_icmp_ne 141 152 dX12_draws_141 (by decide) (fun c39 => ?_) (fun c39 => ?_)
        ·
          refine V_iconst 152 (2) dX12_draws_152 (by decide) ?_
          refine V_iret 153 .int dX12_draws_153 rfl rfl (Nat.le_of_ble_eq_true rfl) (Nat.le_of_ble_eq_true rfl) (RI.mk ⟨h36, _, _, p37, by first | exact okDraw ok hk8 hp8 | exact okLies ok hx | exact okFull ok hx | exact okGoes ok hx (by assumption)⟩)
        ·
          refine V_aload_0 144 dX12_draws_144 ?_
          refine V_getR 145 (c := 12) 54 ((F.ss h36.1).r 0 54 38 rfl) dX12_draws_145 fl_RX12_131 ((F.ss h36.1).m 0 (Nat.le_of_ble_eq_true rfl)) ((F.ss h36.1).k 0 12 rfl) (Nat.le_of_ble_eq_true rfl) (Nat.le_of_ble_eq_true rfl) rfl ?_
          refine V_bipush 148 (25) dX12_draws_148 (by decide) ?_
          refine V_iconst 150 (1) dX12_draws_150 (by decide) ?_
          refine V_iastore2 151 dX12_draws_151 ((F.ss h36.1).m 38 (Nat.le_of_ble_eq_true rfl)) ((F.ss h36.1).k 38 14 rfl) ((F.ss h36.1).l 38 30 rfl) ?_ ?_
          · exact (by unfold vp_in; decide)
          refine V_abs (fun T9 => FZ [m + 38] [] S T9 ∧ ((fun T => ROW (m + 38) 0 (fU (fU x k (x k - 1)) k (x k - 1 + 1)) y T) T9)) ⟨h36.uA (by simp), by exact p37.oth (by decide)⟩ (fun S40 hh43 => ?_)
          obtain ⟨h41, p42⟩ := hh43
          refine V_iconst 152 (2) dX12_draws_152 (by decide) ?_
          refine V_iret 153 .int dX12_draws_153 rfl rfl (Nat.le_of_ble_eq_true rfl) (Nat.le_of_ble_eq_true rfl) (RI.mk ⟨h41, _, _, p42, by first | exact okDraw ok hk8 hp8 | exact okLies ok hx | exact okFull ok hx | exact okGoes ok hx (by assumption)⟩)
    ·
      try have nf44 := mt (nI_leE (Eq.refl (nI (gR g))) (Eq.refl (nI (sumN y 8))) (by omega) (by omega)).mpr c17
      refine V_aload_0 103 dX12_draws_103 ?_
      refine V_getR 104 (c := 12) 54 ((F.ss h9.1).r 0 54 38 rfl) dX12_draws_104 fl_RX12_131 ((F.ss h9.1).m 0 (Nat.le_of_ble_eq_true rfl)) ((F.ss h9.1).k 0 12 rfl) (Nat.le_of_ble_eq_true rfl) (Nat.le_of_ble_eq_true rfl) rfl ?_
      refine V_bipush 107 (8) dX12_draws_107 (by decide) ?_
      refine V_iload_1 109 dX12_draws_109 ?_
      refine V_iadd 110 dX12_draws_110 ?_
      refine V_dup2 111 dX12_draws_111 rfl rfl ?_
      refine V_iaload2 112 dX12_draws_112 ((F.ss h9.1).m 38 (Nat.le_of_ble_eq_true rfl)) ((F.ss h9.1).k 38 14 rfl) ((F.ss h9.1).l 38 30 rfl) ?_ ?_
      · exact vpN (eqAdd (show (8 : Int32) = nI 8 from rfl) (Eq.refl (nI k))) (by omega) (by decide)
      rw [clN (eqAdd (show (8 : Int32) = nI 8 from rfl) (Eq.refl (nI k))) (by omega)]
      rw [p10.gy hk8]
      refine V_iconst 113 (1) dX12_draws_113 (by decide) ?_
      refine V_iadd 114 dX12_draws_114 ?_
      refine V_iastore2 115 dX12_draws_115 ((F.ss h9.1).m 38 (Nat.le_of_ble_eq_true rfl)) ((F.ss h9.1).k 38 14 rfl) ((F.ss h9.1).l 38 30 rfl) ?_ ?_
      · exact vpN (eqAdd (show (8 : Int32) = nI 8 from rfl) (Eq.refl (nI k))) (by omega) (by decide)
      refine V_abs (fun T9 => FZ [m + 38] [] S T9 ∧ ((fun T => ROW (m + 38) 0 (fU x k (x k - 1)) (fU y k (y k + 1)) T) T9)) ⟨h9.uA (by simp), by exact p10.sy hk8 (clN (c8 _) (by omega)) (p1 _)⟩ (fun S45 hh48 => ?_)
      obtain ⟨h46, p47⟩ := hh48
      refine V_iconst 116 (0) dX12_draws_116 (by decide) ?_
      refine V_iret 117 .int dX12_draws_117 rfl rfl (Nat.le_of_ble_eq_true rfl) (Nat.le_of_ble_eq_true rfl) (RI.mk ⟨h46, _, _, p47, by first | exact okDraw ok hk8 hp8 | exact okLies ok hx | exact okFull ok hx | exact okGoes ok hx (by assumption)⟩)
  ·
    try have nf49 := mt (nI_leE (Eq.refl (nI (y (gP g k)))) (show (0 : Int32) = nI 0 from rfl) (by omega) (by omega)).mpr c12
    refine V_aload_0 39 dX12_draws_39 ?_
    refine V_getR 40 (c := 12) 54 ((F.ss h9.1).r 0 54 38 rfl) dX12_draws_40 fl_RX12_131 ((F.ss h9.1).m 0 (Nat.le_of_ble_eq_true rfl)) ((F.ss h9.1).k 0 12 rfl) (Nat.le_of_ble_eq_true rfl) (Nat.le_of_ble_eq_true rfl) rfl ?_
    refine V_bipush 43 (8) dX12_draws_43 (by decide) ?_
    refine V_iload_2 45 dX12_draws_45 ?_
    refine V_iadd 46 dX12_draws_46 ?_
    refine V_dup2 47 dX12_draws_47 rfl rfl ?_
    refine V_iaload2 48 dX12_draws_48 ((F.ss h9.1).m 38 (Nat.le_of_ble_eq_true rfl)) ((F.ss h9.1).k 38 14 rfl) ((F.ss h9.1).l 38 30 rfl) ?_ ?_
    · exact vpN (eqAdd (show (8 : Int32) = nI 8 from rfl) (Eq.refl (nI (gP g k)))) (by omega) (by decide)
    rw [clN (eqAdd (show (8 : Int32) = nI 8 from rfl) (Eq.refl (nI (gP g k)))) (by omega)]
    rw [p10.gy hp8]
    refine V_iconst 49 (1) dX12_draws_49 (by decide) ?_
    refine V_isub 50 dX12_draws_50 ?_
    refine V_iastore2 51 dX12_draws_51 ((F.ss h9.1).m 38 (Nat.le_of_ble_eq_true rfl)) ((F.ss h9.1).k 38 14 rfl) ((F.ss h9.1).l 38 30 rfl) ?_ ?_
    · exact vpN (eqAdd (show (8 : Int32) = nI 8 from rfl) (Eq.refl (nI (gP g k)))) (by omega) (by decide)
    refine V_abs (fun T9 => FZ [m + 38] [] S T9 ∧ ((fun T => ROW (m + 38) 0 (fU x k (x k - 1)) (fU y (gP g k) (y (gP g k) - 1)) T) T9)) ⟨h9.uA (by simp), by exact p10.sy hp8 (clN (c8 _) (by omega)) (m1 (by omega))⟩ (fun S50 hh53 => ?_)
    obtain ⟨h51, p52⟩ := hh53
    refine V_aload_0 52 dX12_draws_52 ?_
    refine V_getR 53 (c := 12) 54 ((F.ss h51.1).r 0 54 38 rfl) dX12_draws_53 fl_RX12_131 ((F.ss h51.1).m 0 (Nat.le_of_ble_eq_true rfl)) ((F.ss h51.1).k 0 12 rfl) (Nat.le_of_ble_eq_true rfl) (Nat.le_of_ble_eq_true rfl) rfl ?_
    refine V_bipush 56 (16) dX12_draws_56 (by decide) ?_
    refine V_iload_1 58 dX12_draws_58 ?_
    refine V_iadd 59 dX12_draws_59 ?_
    refine V_dup2 60 dX12_draws_60 rfl rfl ?_
    refine V_iaload2 61 dX12_draws_61 ((F.ss h51.1).m 38 (Nat.le_of_ble_eq_true rfl)) ((F.ss h51.1).k 38 14 rfl) ((F.ss h51.1).l 38 30 rfl) ?_ ?_
    · exact vpN (eqAdd (show (16 : Int32) = nI 16 from rfl) (Eq.refl (nI k))) (by omega) (by decide)
    refine V_iconst 62 (1) dX12_draws_62 (by decide) ?_
    refine V_iadd 63 dX12_draws_63 ?_
    refine V_iastore2 64 dX12_draws_64 ((F.ss h51.1).m 38 (Nat.le_of_ble_eq_true rfl)) ((F.ss h51.1).k 38 14 rfl) ((F.ss h51.1).l 38 30 rfl) ?_ ?_
    · exact vpN (eqAdd (show (16 : Int32) = nI 16 from rfl) (Eq.refl (nI k))) (by omega) (by decide)
    refine V_abs (fun T9 => FZ [m + 38] [] S T9 ∧ ((fun T => ROW (m + 38) 0 (fU x k (x k - 1)) (fU y (gP g k) (y (gP g k) - 1)) T) T9)) ⟨h51.uA (by simp), by exact p52.so (clN (c16 _) (by omega)) (by omega)⟩ (fun S54 hh57 => ?_)
    obtain ⟨h55, p56⟩ := hh57
    refine V_iload_2 65 dX12_draws_65 ?_
    refine V_iload_1 66 dX12_draws_66 ?_
    refine V_icmp_eq 67 83 dX12_draws_67 (by decide) (fun c58 => ?_) (fun c58 => ?_)
    ·
      try have nf59 := (nI_eqE (Eq.refl (nI (gP g k))) (Eq.refl (nI k)) (by omega) (by omega)).mp c58
      refine V_iconst 83 (1) dX12_draws_83 (by decide) ?_
      refine V_iret 84 .int dX12_draws_84 rfl rfl (Nat.le_of_ble_eq_true rfl) (Nat.le_of_ble_eq_true rfl) (RI.mk ⟨h55, _, _, p56, by first | exact okDraw ok hk8 hp8 | exact okLies ok hx | exact okFull ok hx | exact okGoes ok hx (by assumption)⟩)
    ·
      try have nf60 := mt (nI_eqE (Eq.refl (nI (gP g k))) (Eq.refl (nI k)) (by omega) (by omega)).mpr c58
      refine V_aload_0 70 dX12_draws_70 ?_
      refine V_getR 71 (c := 12) 54 ((F.ss h55.1).r 0 54 38 rfl) dX12_draws_71 fl_RX12_131 ((F.ss h55.1).m 0 (Nat.le_of_ble_eq_true rfl)) ((F.ss h55.1).k 0 12 rfl) (Nat.le_of_ble_eq_true rfl) (Nat.le_of_ble_eq_true rfl) rfl ?_
      refine V_bipush 74 (16) dX12_draws_74 (by decide) ?_
      refine V_iload_2 76 dX12_draws_76 ?_
      refine V_iadd 77 dX12_draws_77 ?_
      refine V_dup2 78 dX12_draws_78 rfl rfl ?_
      refine V_iaload2 79 dX12_draws_79 ((F.ss h55.1).m 38 (Nat.le_of_ble_eq_true rfl)) ((F.ss h55.1).k 38 14 rfl) ((F.ss h55.1).l 38 30 rfl) ?_ ?_
      · exact vpN (eqAdd (show (16 : Int32) = nI 16 from rfl) (Eq.refl (nI (gP g k)))) (by omega) (by decide)
      refine V_iconst 80 (1) dX12_draws_80 (by decide) ?_
      refine V_iadd 81 dX12_draws_81 ?_
      refine V_iastore2 82 dX12_draws_82 ((F.ss h55.1).m 38 (Nat.le_of_ble_eq_true rfl)) ((F.ss h55.1).k 38 14 rfl) ((F.ss h55.1).l 38 30 rfl) ?_ ?_
      · exact vpN (eqAdd (show (16 : Int32) = nI 16 from rfl) (Eq.refl (nI (gP g k)))) (by omega) (by decide)
      refine V_abs (fun T9 => FZ [m + 38] [] S T9 ∧ ((fun T => ROW (m + 38) 0 (fU x k (x k - 1)) (fU y (gP g k) (y (gP g k) - 1)) T) T9)) ⟨h55.uA (by simp), by exact p56.so (clN (c16 _) (by omega)) (by omega)⟩ (fun S61 hh64 => ?_)
      obtain ⟨h62, p63⟩ := hh64
      refine V_iconst 83 (1) dX12_draws_83 (by decide) ?_
      refine V_iret 84 .int dX12_draws_84 rfl rfl (Nat.le_of_ble_eq_true rfl) (Nat.le_of_ble_eq_true rfl) (RI.mk ⟨h62, _, _, p63, by first | exact okDraw ok hk8 hp8 | exact okLies ok hx | exact okFull ok hx | exact okGoes ok hx (by assumption)⟩)

