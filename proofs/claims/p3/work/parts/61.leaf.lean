/-! The reference's small methods -/
set_option maxRecDepth 100000 in
set_option maxHeartbeats 8000000 in
theorem s_min (l : Launch) (Γ : GC) (S : PS) (x y z : Int32) : CT l Γ yX12_in cX12_in 3 (some .boolean) (0) (0) (0) [.int x, .int y, .int z] S (RI (fun r S' => (r = 0 ∨ (r = 1 ∧ y ≤ x ∧ x ≤ z)) ∧ S' = S)) := by
  refine CT.of RX12 "in" [some (.int x), some (.int y), some (.int z)] (by decide +kernel) rfl rfl (Nat.le_of_ble_eq_true rfl) rfl (fun M hM => ?_)
  subst hM
  refine V_iload_0 0 dX12_in_0 ?_
  refine V_iload_1 1 dX12_in_1 ?_
  refine V_icmp_lt 2 14 dX12_in_2 (by decide) (fun c1 => ?_) (fun c1 => ?_)
  ·
    refine V_iconst 14 (0) dX12_in_14 (by decide) ?_
    refine V_iret 15 .boolean dX12_in_15 rfl (nrwB (Or.inl rfl)) (Nat.le_of_ble_eq_true rfl) (Nat.le_of_ble_eq_true rfl) (RI.mk ⟨by first | exact Or.inl rfl | exact Or.inr ⟨rfl, Int32.not_lt.mp (by assumption), Int32.not_lt.mp (by assumption)⟩, rfl⟩)
  ·
    refine V_iload_0 5 dX12_in_5 ?_
    refine V_iload_2 6 dX12_in_6 ?_
    refine V_icmp_gt 7 14 dX12_in_7 (by decide) (fun c2 => ?_) (fun c2 => ?_)
    ·
      refine V_iconst 14 (0) dX12_in_14 (by decide) ?_
      refine V_iret 15 .boolean dX12_in_15 rfl (nrwB (Or.inl rfl)) (Nat.le_of_ble_eq_true rfl) (Nat.le_of_ble_eq_true rfl) (RI.mk ⟨by first | exact Or.inl rfl | exact Or.inr ⟨rfl, Int32.not_lt.mp (by assumption), Int32.not_lt.mp (by assumption)⟩, rfl⟩)
    ·
      refine V_iconst 10 (1) dX12_in_10 (by decide) ?_
      refine V_goto 11 15 dX12_in_11 (by decide) ?_
      refine V_iret 15 .boolean dX12_in_15 rfl (nrwB (Or.inr rfl)) (Nat.le_of_ble_eq_true rfl) (Nat.le_of_ble_eq_true rfl) (RI.mk ⟨by first | exact Or.inl rfl | exact Or.inr ⟨rfl, Int32.not_lt.mp (by assumption), Int32.not_lt.mp (by assumption)⟩, rfl⟩)
set_option maxRecDepth 100000 in
set_option maxHeartbeats 8000000 in
theorem s_misDigit (l : Launch) (Γ : GC) (S : PS) (x : Int32) : CT l Γ yX12_isDigit cX12_isDigit 1 (some .boolean) (0) (0) (0) [.int x] S (RI (fun r S' => (r = 0 ∨ (r = 1 ∧ 48 ≤ x ∧ x ≤ 57)) ∧ S' = S)) := by
  refine CT.of RX12 "isDigit" [some (.int x)] (by decide +kernel) rfl rfl (Nat.le_of_ble_eq_true rfl) rfl (fun M hM => ?_)
  subst hM
  refine V_iload_0 0 dX12_isDigit_0 ?_
  refine V_bipush 1 (48) dX12_isDigit_1 (by decide) ?_
  refine V_icmp_lt 3 16 dX12_isDigit_3 (by decide) (fun c1 => ?_) (fun c1 => ?_)
  ·
    refine V_iconst 16 (0) dX12_isDigit_16 (by decide) ?_
    refine V_iret 17 .boolean dX12_isDigit_17 rfl (nrwB (Or.inl rfl)) (Nat.le_of_ble_eq_true rfl) (Nat.le_of_ble_eq_true rfl) (RI.mk ⟨by first | exact Or.inl rfl | exact Or.inr ⟨rfl, Int32.not_lt.mp (by assumption), Int32.not_lt.mp (by assumption)⟩, rfl⟩)
  ·
    refine V_iload_0 6 dX12_isDigit_6 ?_
    refine V_bipush 7 (57) dX12_isDigit_7 (by decide) ?_
    refine V_icmp_gt 9 16 dX12_isDigit_9 (by decide) (fun c2 => ?_) (fun c2 => ?_)
    ·
      refine V_iconst 16 (0) dX12_isDigit_16 (by decide) ?_
      refine V_iret 17 .boolean dX12_isDigit_17 rfl (nrwB (Or.inl rfl)) (Nat.le_of_ble_eq_true rfl) (Nat.le_of_ble_eq_true rfl) (RI.mk ⟨by first | exact Or.inl rfl | exact Or.inr ⟨rfl, Int32.not_lt.mp (by assumption), Int32.not_lt.mp (by assumption)⟩, rfl⟩)
    ·
      refine V_iconst 12 (1) dX12_isDigit_12 (by decide) ?_
      refine V_goto 13 17 dX12_isDigit_13 (by decide) ?_
      refine V_iret 17 .boolean dX12_isDigit_17 rfl (nrwB (Or.inr rfl)) (Nat.le_of_ble_eq_true rfl) (Nat.le_of_ble_eq_true rfl) (RI.mk ⟨by first | exact Or.inl rfl | exact Or.inr ⟨rfl, Int32.not_lt.mp (by assumption), Int32.not_lt.mp (by assumption)⟩, rfl⟩)
set_option maxRecDepth 100000 in
set_option maxHeartbeats 8000000 in
theorem s_misLetter (l : Launch) (Γ : GC) (S : PS) (x : Int32) : CT l Γ yX12_isLetter cX12_isLetter 1 (some .boolean) (0) (0) (0) [.int x] S (RI (fun r S' => (r = 0 ∨ (r = 1 ∧ 97 ≤ x ∧ x ≤ 122)) ∧ S' = S)) := by
  refine CT.of RX12 "isLetter" [some (.int x)] (by decide +kernel) rfl rfl (Nat.le_of_ble_eq_true rfl) rfl (fun M hM => ?_)
  subst hM
  refine V_iload_0 0 dX12_isLetter_0 ?_
  refine V_bipush 1 (97) dX12_isLetter_1 (by decide) ?_
  refine V_icmp_lt 3 16 dX12_isLetter_3 (by decide) (fun c1 => ?_) (fun c1 => ?_)
  ·
    refine V_iconst 16 (0) dX12_isLetter_16 (by decide) ?_
    refine V_iret 17 .boolean dX12_isLetter_17 rfl (nrwB (Or.inl rfl)) (Nat.le_of_ble_eq_true rfl) (Nat.le_of_ble_eq_true rfl) (RI.mk ⟨by first | exact Or.inl rfl | exact Or.inr ⟨rfl, Int32.not_lt.mp (by assumption), Int32.not_lt.mp (by assumption)⟩, rfl⟩)
  ·
    refine V_iload_0 6 dX12_isLetter_6 ?_
    refine V_bipush 7 (122) dX12_isLetter_7 (by decide) ?_
    refine V_icmp_gt 9 16 dX12_isLetter_9 (by decide) (fun c2 => ?_) (fun c2 => ?_)
    ·
      refine V_iconst 16 (0) dX12_isLetter_16 (by decide) ?_
      refine V_iret 17 .boolean dX12_isLetter_17 rfl (nrwB (Or.inl rfl)) (Nat.le_of_ble_eq_true rfl) (Nat.le_of_ble_eq_true rfl) (RI.mk ⟨by first | exact Or.inl rfl | exact Or.inr ⟨rfl, Int32.not_lt.mp (by assumption), Int32.not_lt.mp (by assumption)⟩, rfl⟩)
    ·
      refine V_iconst 12 (1) dX12_isLetter_12 (by decide) ?_
      refine V_goto 13 17 dX12_isLetter_13 (by decide) ?_
      refine V_iret 17 .boolean dX12_isLetter_17 rfl (nrwB (Or.inr rfl)) (Nat.le_of_ble_eq_true rfl) (Nat.le_of_ble_eq_true rfl) (RI.mk ⟨by first | exact Or.inl rfl | exact Or.inr ⟨rfl, Int32.not_lt.mp (by assumption), Int32.not_lt.mp (by assumption)⟩, rfl⟩)
set_option maxRecDepth 100000 in
set_option maxHeartbeats 8000000 in
theorem s_mappends (l : Launch) (Γ : GC) (S : PS) (x : Int64) (y : Int32) : CT l Γ yX12_appends cX12_appends 3 (some .long) (0) (0) (0) [.long x, .int y] S (RLg (fun r S' => S' = S)) := by
  refine CT.of RX12 "appends" [some (.long x), none, some (.int y)] (by decide +kernel) rfl rfl (Nat.le_of_ble_eq_true rfl) rfl (fun M hM => ?_)
  subst hM
  refine V_iload_2 0 dX12_appends_0 ?_
  refine V_if_ne 1 8 dX12_appends_1 (by decide) (fun c1 => ?_) (fun c1 => ?_)
  ·
    refine V_ldc2_w 8 dX12_appends_8 kL_RX12_206 ?_
    refine V_lload_0 11 dX12_appends_11 ?_
    refine V_lmul 12 dX12_appends_12 ?_
    refine V_iload_2 13 dX12_appends_13 ?_
    refine V_bipush 14 (97) dX12_appends_14 (by decide) ?_
    refine V_isub 16 dX12_appends_16 ?_
    refine V_iconst 17 (1) dX12_appends_17 (by decide) ?_
    refine V_iadd 18 dX12_appends_18 ?_
    refine V_i2l 19 dX12_appends_19 ?_
    refine V_ladd 20 dX12_appends_20 ?_
    refine V_lret 21 dX12_appends_21 rfl (Nat.le_of_ble_eq_true rfl) (Nat.le_of_ble_eq_true rfl) (RLg.mk rfl)
  ·
    refine V_lload_0 4 dX12_appends_4 ?_
    refine V_goto 5 21 dX12_appends_5 (by decide) ?_
    refine V_lret 21 dX12_appends_21 rfl (Nat.le_of_ble_eq_true rfl) (Nat.le_of_ble_eq_true rfl) (RLg.mk rfl)
set_option maxRecDepth 100000 in
set_option maxHeartbeats 8000000 in
theorem s_mmixed (l : Launch) (Γ : GC) (S : PS) (x y : Int32) : CT l Γ yX12_mixed cX12_mixed 3 (some .int) (0) (0) (0) [.int x, .int y] S (RI (fun r S' => S' = S)) := by
  refine CT.of RX12 "mixed" [some (.int x), some (.int y), none] (by decide +kernel) rfl rfl (Nat.le_of_ble_eq_true rfl) rfl (fun M hM => ?_)
  subst hM
  refine V_iload_0 0 dX12_mixed_0 ?_
  refine V_iload_1 1 dX12_mixed_1 ?_
  refine V_ixor 2 dX12_mixed_2 ?_
  refine V_ldc_w 3 dX12_mixed_3 kc_RX12_345 ?_
  refine V_imul 6 dX12_mixed_6 ?_
  refine V_sipush 7 (12345) dX12_mixed_7 (by decide) ?_
  refine V_iadd 10 dX12_mixed_10 ?_
  refine V_istore_2 11 dX12_mixed_11 rfl (Nat.le_of_ble_eq_true rfl) ?_
  refine V_iload_2 12 dX12_mixed_12 ?_
  refine V_iload_2 13 dX12_mixed_13 ?_
  refine V_bipush 14 (15) dX12_mixed_14 (by decide) ?_
  refine V_iushr 16 dX12_mixed_16 ?_
  refine V_ixor 17 dX12_mixed_17 ?_
  refine V_iret 18 .int dX12_mixed_18 rfl rfl (Nat.le_of_ble_eq_true rfl) (Nat.le_of_ble_eq_true rfl) (RI.mk rfl)
theorem half {x : Int32} : ∃ j, j < 2 ^ 31 ∧ (x.toUInt32 >>> ((1 : Int32).toUInt32 &&& Int32.toUInt32 31)).toInt32 = nI j := by
  have e : (1 : Int32).toUInt32 &&& Int32.toUInt32 31 = 1 := by decide
  rw [e]
  have hb : (x.toUInt32 >>> 1).toNat < 2 ^ 31 := by
    rw [UInt32.toNat_shiftRight, show (1 : UInt32).toNat % 32 = 1 from by decide, Nat.shiftRight_eq_div_pow]
    have := x.toUInt32.toNat_lt
    omega
  refine ⟨(x.toUInt32 >>> 1).toNat, hb, ?_⟩
  generalize x.toUInt32 >>> 1 = u
  apply Int32.toBitVec_inj.mp
  show u.toBitVec = (Int32.ofNat u.toNat).toBitVec
  rw [Int32.toBitVec_ofNat']
  rw [show u.toNat = u.toBitVec.toNat from rfl, BitVec.ofNat_toNat, BitVec.setWidth_eq]
set_option maxRecDepth 100000 in
set_option maxHeartbeats 8000000 in
theorem s_mlotOf (l : Launch) (Γ : GC) (S : PS) (x y : Int32) (n : Nat) (h1 : 1 ≤ n) (h2 : n < 2 ^ 31) : CT l Γ yX12_lotOf cX12_lotOf 3 (some .int) (1) (0) (0) [.int x, .int y, .int (nI n)] S (RI (fun r S' => (∃ i, i < n ∧ r = nI i) ∧ S' = S)) := by
  refine CT.of RX12 "lotOf" [some (.int x), some (.int y), some (.int (nI n))] (by decide +kernel) rfl rfl (Nat.le_of_ble_eq_true rfl) rfl (fun M hM => ?_)
  subst hM
  refine V_iload_0 0 dX12_lotOf_0 ?_
  refine V_bipush 1 (26) dX12_lotOf_1 (by decide) ?_
  refine V_callS 3 [.int _, .int _] _ (s_mmixed M.2.1 Γ _ _ _) dX12_lotOf_3 cb_X12_mixed ml_RX12_346 sm_yX12_mixed ⟨(Nat.le_of_ble_eq_true rfl), (Nat.le_of_ble_eq_true rfl)⟩ rfl rfl (Nat.le_of_ble_eq_true rfl) ⟨(Nat.le_of_ble_eq_true rfl), (Nat.le_of_ble_eq_true rfl)⟩ (RI.go (fun r1 S1 q1 => ?_))
  rw [q1]
  refine V_iload_1 6 dX12_lotOf_6 ?_
  refine V_callS 7 [.int _, .int _] _ (s_mmixed M.2.1 Γ _ _ _) dX12_lotOf_7 cb_X12_mixed ml_RX12_346 sm_yX12_mixed ⟨(Nat.le_of_ble_eq_true rfl), (Nat.le_of_ble_eq_true rfl)⟩ rfl rfl (Nat.le_of_ble_eq_true rfl) ⟨(Nat.le_of_ble_eq_true rfl), (Nat.le_of_ble_eq_true rfl)⟩ (RI.go (fun r2 S2 q2 => ?_))
  rw [q2]
  refine V_iconst 10 (1) dX12_lotOf_10 (by decide) ?_
  refine V_iushr 11 dX12_lotOf_11 ?_
  obtain ⟨j, hj, ej⟩ := half (x := r2)
  rw [ej]
  refine V_iload_2 12 dX12_lotOf_12 ?_
  refine V_irem 13 dX12_lotOf_13 (nI_ne0 (by omega) h2) ?_
  rw [eqRem (Eq.refl (nI j)) (Eq.refl (nI n)) hj h2 (by omega)]
  refine V_iret 14 .int dX12_lotOf_14 rfl rfl (Nat.le_of_ble_eq_true rfl) (Nat.le_of_ble_eq_true rfl) (RI.mk ⟨⟨j % n, Nat.mod_lt _ (by omega), rfl⟩, rfl⟩)
set_option maxRecDepth 100000 in
set_option maxHeartbeats 8000000 in
theorem s_morders (l : Launch) (Γ : GC) (S : PS) (x : Int32) (hx : x.toInt < 2147483647) : CT l Γ yX12_orders cX12_orders 4 (some .long) (0) (0) (0) [.int x] S (RLg (fun r S' => FZ [] [] S S')) := by
  refine CT.of RX12 "orders" [some (.int x), none, none, none] (by decide +kernel) rfl rfl (Nat.le_of_ble_eq_true rfl) rfl (fun M hM => ?_)
  subst hM
  refine V_lconst 0 1 dX12_orders_0 (by decide) ?_
  refine V_lstore_1 1 dX12_orders_1 rfl (Nat.le_of_ble_eq_true rfl) ?_
  refine V_iconst 2 (2) dX12_orders_2 (by decide) ?_
  refine V_istore_3 3 dX12_orders_3 rfl (Nat.le_of_ble_eq_true rfl) ?_
  refine V_lvw (by repeat (first | exact trivial | refine ⟨rfl, ?_⟩)) (V_while (α := Int32 × PS × Int64) (fun z1 => ((x).toInt + 1 - z1.1.toInt).toNat) (fun z1 => FZ [] [] S z1.2.1) (fun z1 => z1.2.1) (fun z1 => [some (.int x), some (.long z1.2.2), none, some (.int z1.1)]) (_, _, _) (FZ.rf) (fun z1 h5 ih6 => ?b9))
  obtain ⟨i2, S3, w7⟩ := z1
  dsimp only at h5 ih6 ⊢
  refine V_iload_3 4 dX12_orders_4 ?_
  refine V_iload_0 5 dX12_orders_5 ?_
  refine V_icmp_gt 6 20 dX12_orders_6 (by decide) (fun c11 => ?_) (fun c11 => ?_)
  ·
    refine V_lload_1 20 dX12_orders_20 ?_
    refine V_lret 21 dX12_orders_21 rfl (Nat.le_of_ble_eq_true rfl) (Nat.le_of_ble_eq_true rfl) (RLg.mk h5)
  ·
    refine V_lload_1 9 dX12_orders_9 ?_
    refine V_iload_3 10 dX12_orders_10 ?_
    refine V_i2l 11 dX12_orders_11 ?_
    refine V_lmul 12 dX12_orders_12 ?_
    refine V_lstore_1 13 dX12_orders_13 rfl (Nat.le_of_ble_eq_true rfl) ?_
    refine V_iinc_3 14 (1) dX12_orders_14 (by decide) rfl (Nat.le_of_ble_eq_true rfl) ?_
    refine V_goto 17 4 dX12_orders_17 (by decide) ?_
    refine V_lvw (by repeat (first | exact trivial | refine ⟨rfl, ?_⟩)) (ih6 (_, _, _) (h5) (le32 (by first | assumption | (assumption)) (hx)))
theorem ne_i {i n : Nat} (h0 : 1 ≤ i) (h : i ≤ n) (hn : n < 2 ^ 31) : ¬ (nI i).toInt64 = 0 := fun q => by
  have h1 : (nI i).toInt64.toInt = (0 : Int64).toInt := by rw [q]
  rw [Int32.toInt_toInt64, nI_toInt (by omega)] at h1
  have h2 : (0 : Int64).toInt = 0 := by decide
  omega
set_option maxRecDepth 100000 in
set_option maxHeartbeats 8000000 in
theorem s_mchoose (l : Launch) (Γ : GC) (S : PS) (x : Int32) (k : Nat) (hk : k < 1000) : CT l Γ yX12_choose cX12_choose 5 (some .long) (0) (0) (0) [.int x, .int (nI k)] S (RLg (fun r S' => FZ [] [] S S')) := by
  refine CT.of RX12 "choose" [some (.int x), some (.int (nI k)), none, none, none] (by decide +kernel) rfl rfl (Nat.le_of_ble_eq_true rfl) rfl (fun M hM => ?_)
  subst hM
  refine V_lconst 0 1 dX12_choose_0 (by decide) ?_
  refine V_lstore_2 1 dX12_choose_1 rfl (Nat.le_of_ble_eq_true rfl) ?_
  refine V_iconst 2 (1) dX12_choose_2 (by decide) ?_
  refine V_istore_4 3 dX12_choose_3 rfl (Nat.le_of_ble_eq_true rfl) ?_
  refine V_lvw (by repeat (first | exact trivial | refine ⟨rfl, ?_⟩)) (V_while (α := Nat × PS × Int64) (fun z1 => k + 1 - z1.1) (fun z1 => z1.1 ≤ k + 1 ∧ FZ [] [] S z1.2.1 ∧ ((fun _ => 1 ≤ z1.1) z1.2.1)) (fun z1 => z1.2.1) (fun z1 => [some (.int x), some (.int (nI k)), some (.long z1.2.2), none, some (.int (nI z1.1))]) (1, _, _) ⟨(by dsimp only; omega), FZ.rf, (Nat.le_refl 1)⟩ (fun z1 hx8 ih6 => ?b9))
  obtain ⟨i2, S3, w7⟩ := z1
  obtain ⟨hi4, h5, p11⟩ := hx8
  dsimp only at hi4 h5 p11 ih6 ⊢
  refine V_iload_4 5 dX12_choose_5 ?_
  refine V_iload_1 7 dX12_choose_7 ?_
  refine V_icmp_gt 8 31 dX12_choose_8 (by decide) (fun c12 => ?_) (fun c12 => ?_)
  ·
    try have nf13 := (nI_ltE (Eq.refl (nI k)) (Eq.refl (nI i2)) (by omega) (by omega)).mp c12
    refine V_lload_2 31 dX12_choose_31 ?_
    refine V_lret 32 dX12_choose_32 rfl (Nat.le_of_ble_eq_true rfl) (Nat.le_of_ble_eq_true rfl) (RLg.mk h5)
  ·
    try have nf14 := mt (nI_ltE (Eq.refl (nI k)) (Eq.refl (nI i2)) (by omega) (by omega)).mpr c12
    refine V_lload_2 11 dX12_choose_11 ?_
    refine V_iload_0 12 dX12_choose_12 ?_
    refine V_iload_1 13 dX12_choose_13 ?_
    refine V_isub 14 dX12_choose_14 ?_
    refine V_iload_4 15 dX12_choose_15 ?_
    refine V_iadd 17 dX12_choose_17 ?_
    refine V_i2l 18 dX12_choose_18 ?_
    refine V_lmul 19 dX12_choose_19 ?_
    refine V_iload_4 20 dX12_choose_20 ?_
    refine V_i2l 22 dX12_choose_22 ?_
    refine V_ldiv 23 dX12_choose_23 (ne_i (n := k) (by assumption) (by omega) (by omega)) ?_
    refine V_lstore_2 24 dX12_choose_24 rfl (Nat.le_of_ble_eq_true rfl) ?_
    have p15 : ((fun _ => 1 ≤ i2 + 1) S3) := by omega
    refine V_iinc_4 25 (1) dX12_choose_25 (by decide) rfl (Nat.le_of_ble_eq_true rfl) ?_
    refine V_goto 28 5 dX12_choose_28 (by decide) ?_
    rw [← nI_succ]
    refine V_lvw (by repeat (first | exact trivial | refine ⟨rfl, ?_⟩)) (ih6 (i2 + 1, _, _) ⟨by dsimp only; omega, h5, p15⟩ (by dsimp only; omega))
set_option maxRecDepth 100000 in
set_option maxHeartbeats 8000000 in
theorem s_mleft (l : Launch) (Γ : GC) (S : PS) (x z w : Int32) (k : Nat) (hk : k < 1000) : CT l Γ yX12_left cX12_left 7 (some .long) (1) (0) (0) [.int x, .int (nI k), .int z, .int w] S (RLg (fun r S' => FZ [] [] S S')) := by
  refine CT.of RX12 "left" [some (.int x), some (.int (nI k)), some (.int z), some (.int w), none, none, none] (by decide +kernel) rfl rfl (Nat.le_of_ble_eq_true rfl) rfl (fun M hM => ?_)
  subst hM
  refine V_iload_0 0 dX12_left_0 ?_
  refine V_iload_1 1 dX12_left_1 ?_
  refine V_callS 2 [.int _, .int _] _ (s_mchoose M.2.1 Γ S _ k hk) dX12_left_2 cb_X12_choose ml_RX12_416 sm_yX12_choose ⟨(Nat.le_of_ble_eq_true rfl), (Nat.le_of_ble_eq_true rfl)⟩ rfl rfl (Nat.le_of_ble_eq_true rfl) ⟨(Nat.le_of_ble_eq_true rfl), (Nat.le_of_ble_eq_true rfl)⟩ (RLg.go (fun r3 S1 q2 => ?_))
  have h4 : FZ [] [] S S1 := (FZ.rf (X := []) (Y := []) (S := S)).tr (q2.sub (by simp) (by simp))
  refine V_lstore_4 5 dX12_left_5 rfl (Nat.le_of_ble_eq_true rfl) ?_
  refine V_iconst 7 (0) dX12_left_7 (by decide) ?_
  refine V_istore_6 8 dX12_left_8 rfl (Nat.le_of_ble_eq_true rfl) ?_
  refine V_lvw (by repeat (first | exact trivial | refine ⟨rfl, ?_⟩)) (V_while (α := Int32 × PS × Int64) (fun z5 => ((x).toInt - z5.1.toInt).toNat) (fun z5 => FZ [] [] S z5.2.1) (fun z5 => z5.2.1) (fun z5 => [some (.int x), some (.int (nI k)), some (.int z), some (.int w), some (.long z5.2.2), none, some (.int z5.1)]) (_, _, _) (h4) (fun z5 h9 ih10 => ?b13))
  obtain ⟨i6, S7, w11⟩ := z5
  dsimp only at h9 ih10 ⊢
  have J17 : ∀ (S15 : PS) (y18 : Int64) (x19 : Int64) (x20 : Int64), FZ [] [] S S15 → ¬ x ≤ i6 → V M Γ (7, RX12, "left", (some .long), RM (1) (0) (0)) cX12_left (RQ M Γ (RLg (fun r S' => FZ [] [] S S')) (0) (0)) 0 0 S15 33 [some (.int x), some (.int (nI k)), some (.int z), some (.int w), some (.long y18), none, some (.int i6)] [.long x20, .long x19] := by
    intro S15 y18 x19 x20 h16 lt21
    refine V_lmul 33 dX12_left_33 ?_
    refine V_lstore_4 34 dX12_left_34 rfl (Nat.le_of_ble_eq_true rfl) ?_
    refine V_iinc_6 36 (1) dX12_left_36 (by decide) rfl (Nat.le_of_ble_eq_true rfl) ?_
    refine V_goto 39 10 dX12_left_39 (by decide) ?_
    refine V_lvw (by repeat (first | exact trivial | refine ⟨rfl, ?_⟩)) (ih10 (_, _, _) (h16) (up32 (by first | assumption | (assumption))))
  refine V_iload_6 10 dX12_left_10 ?_
  refine V_iload_0 12 dX12_left_12 ?_
  refine V_icmp_ge 13 42 dX12_left_13 (by decide) (fun c22 => ?_) (fun c22 => ?_)
  ·
    refine V_lload_4 42 dX12_left_42 ?_
    refine V_lret 44 dX12_left_44 rfl (Nat.le_of_ble_eq_true rfl) (Nat.le_of_ble_eq_true rfl) (RLg.mk h9)
  ·
    refine V_lload_4 16 dX12_left_16 ?_
    refine V_iload_6 18 dX12_left_18 ?_
    refine V_iload_1 20 dX12_left_20 ?_
    refine V_icmp_ge 21 31 dX12_left_21 (by decide) (fun c23 => ?_) (fun c23 => ?_)
    ·
      refine V_iload_2 31 dX12_left_31 ?_
      refine V_i2l 32 dX12_left_32 ?_
      refine V_lvw (by repeat (first | exact trivial | refine ⟨rfl, ?_⟩)) (J17 _ _ _ _ h9 (by first | omega | assumption))
    ·
      refine V_iload_3 24 dX12_left_24 ?_
      refine V_iload_2 25 dX12_left_25 ?_
      refine V_isub 26 dX12_left_26 ?_
      refine V_i2l 27 dX12_left_27 ?_
      refine V_goto 28 33 dX12_left_28 (by decide) ?_
      refine V_lvw (by repeat (first | exact trivial | refine ⟨rfl, ?_⟩)) (J17 _ _ _ _ h9 (by first | omega | assumption))
set_option maxRecDepth 100000 in
set_option maxHeartbeats 8000000 in
theorem s_mpartner (l : Launch) (Γ : GC) (S : PS) {m : Nat} {g : MG} (F : isL lyModel Γ.2.2.2.2.1 S m) (h : TXT m g S) {k : Nat} (hk : k < gK g) : CT l Γ yX12_partner cX12_partner 2 (some .int) (0) (0) (0) [.ref m, .int (nI k)] S (RI (fun r S' => r = nI (gP g k) ∧ S' = S)) := by
  refine CT.of RX12 "partner" [some (.ref m), some (.int (nI k))] (by decide +kernel) rfl rfl (Nat.le_of_ble_eq_true rfl) rfl (fun M hM => ?_)
  subst hM
  have hl := h.l2
  have hK := h.k8
  refine V_aload_0 0 dX12_partner_0 ?_
  refine V_getR 1 (c := 12) 24 (F.r 0 24 12 rfl) dX12_partner_1 fl_RX12_52 (F.m 0 (Nat.le_of_ble_eq_true rfl)) (F.k 0 12 rfl) (Nat.le_of_ble_eq_true rfl) (Nat.le_of_ble_eq_true rfl) rfl ?_
  refine V_bipush 4 (8) dX12_partner_4 (by decide) ?_
  refine V_aload_0 6 dX12_partner_6 ?_
  refine V_getI 7 (c := 12) 18 dX12_partner_7 fl_RX12_264 (F.m 0 (Nat.le_of_ble_eq_true rfl)) (F.k 0 12 rfl) (Nat.le_of_ble_eq_true rfl) (Nat.le_of_ble_eq_true rfl) rfl ?_
  rw [h.lv]
  refine V_imul 10 dX12_partner_10 ?_
  refine V_iload_1 11 dX12_partner_11 ?_
  refine V_iadd 12 dX12_partner_12 ?_
  refine V_iaload2 13 dX12_partner_13 (F.m 12 (Nat.le_of_ble_eq_true rfl)) (F.k 12 14 rfl) (F.l 12 16 rfl) ?_ ?_
  · exact vpN (eqAdd (eqMul (show (8 : Int32) = nI 8 from rfl) (Eq.refl (nI (gl g)))) (Eq.refl (nI k))) (by omega) (by decide)
  rw [clN (eqAdd (eqMul (show (8 : Int32) = nI 8 from rfl) (Eq.refl (nI (gl g)))) (Eq.refl (nI k))) (by omega)]
  rw [h.pa hk]
  refine V_iret 14 .int dX12_partner_14 rfl rfl (Nat.le_of_ble_eq_true rfl) (Nat.le_of_ble_eq_true rfl) (RI.mk ⟨rfl, rfl⟩)
theorem kindN {K : Nat} {x : Int32} (hK : K ≤ 8) (h0 : 0 ≤ x) (h1 : x ≤ nI K - 1) : ∃ k, k < K ∧ x = nI k := by
  have a0 := Int32.le_iff_toInt_le.mp h0
  have a1 := Int32.le_iff_toInt_le.mp h1
  rw [show (0 : Int32).toInt = 0 from by decide] at a0
  rw [Int32.toInt_sub, nI_toInt (by omega), show (1 : Int32).toInt = 1 from by decide, Int.bmod_eq_of_le (by omega) (by omega)] at a1
  obtain ⟨j, hj, rfl⟩ := nI_of (x := x) (fun q => by
    have := Int32.lt_iff_toInt_lt.mp q
    rw [show (0 : Int32).toInt = 0 from by decide] at this
    omega)
  rw [nI_toInt hj] at a1
  exact ⟨j, by omega, rfl⟩
theorem inN {n : Nat} {x z : Int32} (hz : z.toInt = n) (h0 : 0 ≤ x) (h1 : x ≤ z) : ∃ k, k ≤ n ∧ x = nI k := by
  have a0 := Int32.le_iff_toInt_le.mp h0
  have a1 := Int32.le_iff_toInt_le.mp h1
  rw [show (0 : Int32).toInt = 0 from by decide] at a0
  obtain ⟨j, hj, rfl⟩ := nI_of (x := x) (fun q => by
    have := Int32.lt_iff_toInt_lt.mp q
    rw [show (0 : Int32).toInt = 0 from by decide] at this
    omega)
  rw [nI_toInt hj] at a1
  exact ⟨j, by omega, rfl⟩
theorem bool01 {r : Int32} {Q : Prop} (h : r = 0 ∨ (r = 1 ∧ Q)) : r = 0 ∨ r = 1 := h.imp id And.left
set_option maxRecDepth 100000 in
set_option maxHeartbeats 8000000 in
theorem s_misKind (l : Launch) (Γ : GC) (S : PS) {m : Nat} {g : MG} (F : isL lyModel Γ.2.2.2.2.1 S m) (h : TXT m g S) (x : Int32) : CT l Γ yX12_isKind cX12_isKind 2 (some .boolean) (1) (0) (0) [.ref m, .int x] S (RI (fun r S' => (r = 0 ∨ (r = 1 ∧ ∃ k, k < gK g ∧ x = nI k)) ∧ S' = S)) := by
  refine CT.of RX12 "isKind" [some (.ref m), some (.int x)] (by decide +kernel) rfl rfl (Nat.le_of_ble_eq_true rfl) rfl (fun M hM => ?_)
  subst hM
  have hl := h.l2
  have hK := h.k8
  refine V_iload_1 0 dX12_isKind_0 ?_
  refine V_iconst 1 (0) dX12_isKind_1 (by decide) ?_
  refine V_aload_0 2 dX12_isKind_2 ?_
  refine V_getR 3 (c := 12) 23 (F.r 0 23 11 rfl) dX12_isKind_3 fl_RX12_49 (F.m 0 (Nat.le_of_ble_eq_true rfl)) (F.k 0 12 rfl) (Nat.le_of_ble_eq_true rfl) (Nat.le_of_ble_eq_true rfl) rfl ?_
  refine V_aload_0 6 dX12_isKind_6 ?_
  refine V_getI 7 (c := 12) 18 dX12_isKind_7 fl_RX12_264 (F.m 0 (Nat.le_of_ble_eq_true rfl)) (F.k 0 12 rfl) (Nat.le_of_ble_eq_true rfl) (Nat.le_of_ble_eq_true rfl) rfl ?_
  rw [h.lv]
  refine V_iaload2 10 dX12_isKind_10 (F.m 11 (Nat.le_of_ble_eq_true rfl)) (F.k 11 14 rfl) (F.l 11 2 rfl) ?_ ?_
  · exact vp_in_nI hl (by decide)
  rw [nI_clamp (by omega), h.ki]
  refine V_iconst 11 (1) dX12_isKind_11 (by decide) ?_
  refine V_isub 12 dX12_isKind_12 ?_
  refine V_callS 13 [.int _, .int _, .int _] _ (s_min M.2.1 Γ _ _ _ _) dX12_isKind_13 cb_X12_in ml_RX12_335 sm_yX12_in ⟨(Nat.le_of_ble_eq_true rfl), (Nat.le_of_ble_eq_true rfl)⟩ rfl rfl (Nat.le_of_ble_eq_true rfl) ⟨(Nat.le_of_ble_eq_true rfl), (Nat.le_of_ble_eq_true rfl)⟩ (RI.go (fun r1 S1 q1 => ?_))
  rw [q1.2]
  have hb := bool01 q1.1
  refine V_iret 16 .boolean dX12_isKind_16 rfl (nrwB hb) (Nat.le_of_ble_eq_true rfl) (Nat.le_of_ble_eq_true rfl) (RI.mk ⟨q1.1.imp id (fun q => ⟨q.1, kindN hK q.2.1 q.2.2⟩), rfl⟩)
/-- one more place is copied -/
theorem cpStep {a b i : Nat} {S T : PS} (h : ∀ j, j < i → sA T a j = sA S b j) (hb : sA T b = sA S b) (hi : (nI i).toNatClampNeg = i) : ∀ j, j < i + 1 → sA (uA T a (nI i).toNatClampNeg (sA T b i)) a j = sA S b j := fun j hj => by
  rw [hi, sA_uA]; unfold up2
  by_cases q : j = i
  · subst q; rw [if_pos ⟨rfl, rfl⟩, hb]
  · rw [if_neg (fun z => q z.2)]; exact h j (by omega)
set_option maxRecDepth 100000 in
set_option maxHeartbeats 8000000 in
theorem s_mcopies (l : Launch) (Γ : GC) (S : PS) {m : Nat} {g : MG} (F : isL lyModel Γ.2.2.2.2.1 S m) (h : TXT m g S) : CT l Γ yX12_copies cX12_copies 2 none (0) (0) (0) [.ref m] S (RV (fun S' => FZ [m + 38] [(m, 55), (m, 56)] S S' ∧ ∀ j, j < 30 → sA S' (m + 38) j = sA S (m + 37) j)) := by
  refine CT.of RX12 "copies" [some (.ref m), none] (by decide +kernel) rfl rfl (Nat.le_of_ble_eq_true rfl) rfl (fun M hM => ?_)
  subst hM
  have hl := h.l2
  refine V_iconst 0 (0) dX12_copies_0 (by decide) ?_
  refine V_istore_1 1 dX12_copies_1 rfl (Nat.le_of_ble_eq_true rfl) ?_
  refine V_lvw (by repeat (first | exact trivial | refine ⟨rfl, ?_⟩)) (V_while (α := Nat × PS) (fun z1 => 30 - z1.1) (fun z1 => z1.1 ≤ 30 ∧ FZ [m + 38] [(m, 55), (m, 56)] S z1.2 ∧ ((fun T => ∀ j, j < z1.1 → sA T (m + 38) j = sA S (m + 37) j) z1.2)) (fun z1 => z1.2) (fun z1 => [some (.ref m), some (.int (nI z1.1))]) (0, _) ⟨Nat.zero_le _, FZ.rf, (fun j hj => absurd hj (Nat.not_lt_zero _))⟩ (fun z1 hx7 ih6 => ?b8))
  obtain ⟨i2, S3⟩ := z1
  obtain ⟨hi4, h5, p10⟩ := hx7
  dsimp only at hi4 h5 p10 ih6 ⊢
  refine V_iload_1 2 dX12_copies_2 ?_
  refine V_bipush 3 (30) dX12_copies_3 (by decide) ?_
  refine V_icmp_ge 5 26 dX12_copies_5 (by decide) (fun c11 => ?_) (fun c11 => ?_)
  ·
    try have nf12 := (nI_leE (show (30 : Int32) = nI 30 from rfl) (Eq.refl (nI i2)) (by omega) (by omega)).mp c11
    refine V_aload_0 26 dX12_copies_26 ?_
    refine V_aload_0 27 dX12_copies_27 ?_
    refine V_getR 28 (c := 12) 32 ((F.ss h5.1).r 0 32 20 rfl) dX12_copies_28 fl_RX12_76 ((F.ss h5.1).m 0 (Nat.le_of_ble_eq_true rfl)) ((F.ss h5.1).k 0 12 rfl) (Nat.le_of_ble_eq_true rfl) (Nat.le_of_ble_eq_true rfl) rfl ?_
    refine V_aload_0 31 dX12_copies_31 ?_
    refine V_getI 32 (c := 12) 18 dX12_copies_32 fl_RX12_264 ((F.ss h5.1).m 0 (Nat.le_of_ble_eq_true rfl)) ((F.ss h5.1).k 0 12 rfl) (Nat.le_of_ble_eq_true rfl) (Nat.le_of_ble_eq_true rfl) rfl ?_
    rw [(TXT.z h [38] [(0, 55), (0, 56)] h5 rfl rfl rfl rfl).lv]
    refine V_iaload2 35 dX12_copies_35 ((F.ss h5.1).m 20 (Nat.le_of_ble_eq_true rfl)) ((F.ss h5.1).k 20 14 rfl) ((F.ss h5.1).l 20 2 rfl) ?_ ?_
    · exact vpN (Eq.refl (nI (gl g))) (by omega) (by decide)
    rw [clN (Eq.refl (nI (gl g))) (by omega)]
    refine V_putI 36 (c := 12) 55 dX12_copies_36 fl_RX12_339 ((F.ss h5.1).m 0 (Nat.le_of_ble_eq_true rfl)) ((F.ss h5.1).k 0 12 rfl) (Nat.le_of_ble_eq_true rfl) (Nat.le_of_ble_eq_true rfl) rfl (Or.inl rfl) ?_
    refine V_abs (fun T9 => FZ [m + 38] [(m, 55), (m, 56)] S T9 ∧ ((fun T => ∀ j, j < i2 → sA T (m + 38) j = sA S (m + 37) j) T9)) ⟨h5.uI (by simp), by exact p10⟩ (fun S13 hh16 => ?_)
    obtain ⟨h14, p15⟩ := hh16
    refine V_aload_0 39 dX12_copies_39 ?_
    refine V_aload_0 40 dX12_copies_40 ?_
    refine V_getR 41 (c := 12) 36 ((F.ss h14.1).r 0 36 24 rfl) dX12_copies_41 fl_RX12_88 ((F.ss h14.1).m 0 (Nat.le_of_ble_eq_true rfl)) ((F.ss h14.1).k 0 12 rfl) (Nat.le_of_ble_eq_true rfl) (Nat.le_of_ble_eq_true rfl) rfl ?_
    refine V_aload_0 44 dX12_copies_44 ?_
    refine V_getI 45 (c := 12) 18 dX12_copies_45 fl_RX12_264 ((F.ss h14.1).m 0 (Nat.le_of_ble_eq_true rfl)) ((F.ss h14.1).k 0 12 rfl) (Nat.le_of_ble_eq_true rfl) (Nat.le_of_ble_eq_true rfl) rfl ?_
    rw [(TXT.z h [38] [(0, 55), (0, 56)] h14 rfl rfl rfl rfl).lv]
    refine V_iaload2 48 dX12_copies_48 ((F.ss h14.1).m 24 (Nat.le_of_ble_eq_true rfl)) ((F.ss h14.1).k 24 14 rfl) ((F.ss h14.1).l 24 2 rfl) ?_ ?_
    · exact vpN (Eq.refl (nI (gl g))) (by omega) (by decide)
    rw [clN (Eq.refl (nI (gl g))) (by omega)]
    refine V_putI 49 (c := 12) 56 dX12_copies_49 fl_RX12_342 ((F.ss h14.1).m 0 (Nat.le_of_ble_eq_true rfl)) ((F.ss h14.1).k 0 12 rfl) (Nat.le_of_ble_eq_true rfl) (Nat.le_of_ble_eq_true rfl) rfl (Or.inl rfl) ?_
    refine V_abs (fun T9 => FZ [m + 38] [(m, 55), (m, 56)] S T9 ∧ ((fun T => ∀ j, j < i2 → sA T (m + 38) j = sA S (m + 37) j) T9)) ⟨h14.uI (by simp), by exact p15⟩ (fun S17 hh20 => ?_)
    obtain ⟨h18, p19⟩ := hh20
    refine V_vret 52 dX12_copies_52 rfl (Nat.le_of_ble_eq_true rfl) (Nat.le_of_ble_eq_true rfl) (RV.mk ⟨h18, fun j hj => p19 j (by omega)⟩)
  ·
    try have nf21 := mt (nI_leE (show (30 : Int32) = nI 30 from rfl) (Eq.refl (nI i2)) (by omega) (by omega)).mpr c11
    have lt22 := nI_lt8 (by decide) hi4 c11
    refine V_aload_0 8 dX12_copies_8 ?_
    refine V_getR 9 (c := 12) 54 ((F.ss h5.1).r 0 54 38 rfl) dX12_copies_9 fl_RX12_131 ((F.ss h5.1).m 0 (Nat.le_of_ble_eq_true rfl)) ((F.ss h5.1).k 0 12 rfl) (Nat.le_of_ble_eq_true rfl) (Nat.le_of_ble_eq_true rfl) rfl ?_
    refine V_iload_1 12 dX12_copies_12 ?_
    refine V_aload_0 13 dX12_copies_13 ?_
    refine V_getR 14 (c := 12) 53 ((F.ss h5.1).r 0 53 37 rfl) dX12_copies_14 fl_RX12_128 ((F.ss h5.1).m 0 (Nat.le_of_ble_eq_true rfl)) ((F.ss h5.1).k 0 12 rfl) (Nat.le_of_ble_eq_true rfl) (Nat.le_of_ble_eq_true rfl) rfl ?_
    refine V_iload_1 17 dX12_copies_17 ?_
    refine V_iaload2 18 dX12_copies_18 ((F.ss h5.1).m 37 (Nat.le_of_ble_eq_true rfl)) ((F.ss h5.1).k 37 14 rfl) ((F.ss h5.1).l 37 30 rfl) ?_ ?_
    · exact vp_in_nI (by omega) (by decide)
    rw [clN (Eq.refl (nI i2)) (by omega)]
    refine V_iastore2 19 dX12_copies_19 ((F.ss h5.1).m 38 (Nat.le_of_ble_eq_true rfl)) ((F.ss h5.1).k 38 14 rfl) ((F.ss h5.1).l 38 30 rfl) ?_ ?_
    · exact vp_in_nI (by omega) (by decide)
    refine V_abs (fun T9 => FZ [m + 38] [(m, 55), (m, 56)] S T9 ∧ ((fun T => ∀ j, j < i2 + 1 → sA T (m + 38) j = sA S (m + 37) j) T9)) ⟨h5.uA (by simp), by exact cpStep p10 (h5.2.1 (m + 37) (by simp)) (nI_clamp (by omega))⟩ (fun S23 hh26 => ?_)
    obtain ⟨h24, p25⟩ := hh26
    refine V_iinc_1 20 (1) dX12_copies_20 (by decide) rfl (Nat.le_of_ble_eq_true rfl) ?_
    refine V_goto 23 2 dX12_copies_23 (by decide) ?_
    rw [← nI_succ]
    refine V_lvw (by repeat (first | exact trivial | refine ⟨rfl, ?_⟩)) (ih6 (i2 + 1, _) ⟨by dsimp only; omega, h24, p25⟩ (by dsimp only; omega))

