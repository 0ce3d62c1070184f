/-! String.indexOf on the second constant, then Tape's isSign, splitOff and split, from any ints -/
set_option maxRecDepth 100000 in
set_option maxHeartbeats 8000000 in
theorem s_canEncode (l : Launch) (Γ : GC) (S : PS) (x : Int32) : CT l Γ yJ1_canEncode_9a6ad cJ1_canEncode_9a6ad 1 (some .boolean) (0) (0) (0) [.int x] S (RI (fun r S' => (r = 0 ∨ r = 1) ∧ S' = S)) := by
  refine CT.of RJ1 "canEncode" [some (.int x)] (by decide +kernel) rfl rfl (Nat.le_of_ble_eq_true rfl) rfl (fun M hM => ?_)
  subst hM
  refine V_iload_0 0 dJ1_canEncode_9a6ad_0 ?_
  refine V_if_lt 1 15 dJ1_canEncode_9a6ad_1 (by decide) (fun c1 => ?_) (fun c1 => ?_)
  ·
    refine V_iconst 15 (0) dJ1_canEncode_9a6ad_15 (by decide) ?_
    refine V_iret 16 .boolean dJ1_canEncode_9a6ad_16 rfl (nrwB (Or.inl rfl)) (Nat.le_of_ble_eq_true rfl) (Nat.le_of_ble_eq_true rfl) (RI.mk ⟨(Or.inl rfl), rfl⟩)
  ·
    refine V_iload_0 4 dJ1_canEncode_9a6ad_4 ?_
    refine V_sipush 5 (255) dJ1_canEncode_9a6ad_5 (by decide) ?_
    refine V_icmp_gt 8 15 dJ1_canEncode_9a6ad_8 (by decide) (fun c2 => ?_) (fun c2 => ?_)
    ·
      refine V_iconst 15 (0) dJ1_canEncode_9a6ad_15 (by decide) ?_
      refine V_iret 16 .boolean dJ1_canEncode_9a6ad_16 rfl (nrwB (Or.inl rfl)) (Nat.le_of_ble_eq_true rfl) (Nat.le_of_ble_eq_true rfl) (RI.mk ⟨(Or.inl rfl), rfl⟩)
    ·
      refine V_iconst 11 (1) dJ1_canEncode_9a6ad_11 (by decide) ?_
      refine V_goto 12 16 dJ1_canEncode_9a6ad_12 (by decide) ?_
      refine V_iret 16 .boolean dJ1_canEncode_9a6ad_16 rfl (nrwB (Or.inr rfl)) (Nat.le_of_ble_eq_true rfl) (Nat.le_of_ble_eq_true rfl) (RI.mk ⟨(Or.inr rfl), rfl⟩)
set_option maxRecDepth 100000 in
set_option maxHeartbeats 8000000 in
theorem s_ixChar (l : Launch) (Γ : GC) (S : PS) (x a b : Int32) (ha : a = 0) (hb : b = nI 9) : CT l Γ yJ1_indexOfChar_4cfef cJ1_indexOfChar_4cfef 6 (some .int) (0) (0) (0) [.ref (sV0 Γ 1), .int x, .int a, .int b] S (RI (fun r S' => S' = S)) := by
  refine CT.of RJ1 "indexOfChar" [some (.ref (sV0 Γ 1)), some (.int x), some (.int a), some (.int b), none, none] (by decide +kernel) rfl rfl (Nat.le_of_ble_eq_true rfl) rfl (fun M hM => ?_)
  subst hM
  subst ha hb
  refine V_iload_1 0 dJ1_indexOfChar_4cfef_0 ?_
  refine V_i2b 1 dJ1_indexOfChar_4cfef_1 ?_
  refine V_istore_4 2 dJ1_indexOfChar_4cfef_2 rfl (Nat.le_of_ble_eq_true rfl) ?_
  refine V_iload_2 4 dJ1_indexOfChar_4cfef_4 ?_
  refine V_istore_5 5 dJ1_indexOfChar_4cfef_5 rfl (Nat.le_of_ble_eq_true rfl) ?_
  refine V_while (α := Nat × PS × Int32) (fun z => 9 - z.1) (fun z => z.1 ≤ 9 ∧ z.2.1 = S) (fun z => z.2.1) (fun z => [some (.ref (sV0 Γ 1)), some (.int x), some (.int 0), some (.int (nI 9)), some (.int z.2.2), some (.int (nI z.1))]) (0, S, _) ⟨Nat.zero_le _, rfl⟩ (fun z hx ih => ?_)
  obtain ⟨i, S1, w⟩ := z
  obtain ⟨hi, h1⟩ := hx
  dsimp only at hi h1 ih ⊢
  subst h1
  refine V_iload_5 7 dJ1_indexOfChar_4cfef_7 ?_
  refine V_iload_3 9 dJ1_indexOfChar_4cfef_9 ?_
  refine V_icmp_ge 10 31 dJ1_indexOfChar_4cfef_10 (by decide) (fun c => ?_) (fun c => ?_)
  ·
    refine V_iconst 31 (-1) dJ1_indexOfChar_4cfef_31 (by decide) ?_
    refine V_iret 32 .int dJ1_indexOfChar_4cfef_32 rfl rfl (Nat.le_of_ble_eq_true rfl) (Nat.le_of_ble_eq_true rfl) (RI.mk rfl)
  ·
    have lt := nI_lt8 (by decide) hi c
    refine V_aload_0 13 dJ1_indexOfChar_4cfef_13 ?_
    refine V_iload_5 14 dJ1_indexOfChar_4cfef_14 ?_
    refine V_kbald 16 (n := 1) (by decide) (vp_in_nI lt (by decide)) dJ1_indexOfChar_4cfef_16 ?_
    refine V_iload_4 17 dJ1_indexOfChar_4cfef_17 ?_
    refine V_icmp_ne 19 25 dJ1_indexOfChar_4cfef_19 (by decide) (fun c => ?_) (fun c => ?_)
    ·
      refine V_iinc_5 25 (1) dJ1_indexOfChar_4cfef_25 (by decide) rfl (Nat.le_of_ble_eq_true rfl) ?_
      refine V_goto 28 7 dJ1_indexOfChar_4cfef_28 (by decide) ?_
      rw [← nI_succ]
      exact ih (i + 1, S1, w) ⟨by dsimp only; omega, rfl⟩ (by dsimp only; omega)
    ·
      refine V_iload_5 22 dJ1_indexOfChar_4cfef_22 ?_
      refine V_iret 24 .int dJ1_indexOfChar_4cfef_24 rfl rfl (Nat.le_of_ble_eq_true rfl) (Nat.le_of_ble_eq_true rfl) (RI.mk rfl)
set_option maxRecDepth 100000 in
set_option maxHeartbeats 8000000 in
theorem s_ix4 (l : Launch) (Γ : GC) (S : PS) (x a b : Int32) (ha : a = 0) (hb : b = nI 9) : CT l Γ yJ1_indexOf_4cfef cJ1_indexOf_4cfef 4 (some .int) (1) (0) (0) [.ref (sV0 Γ 1), .int x, .int a, .int b] S (RI (fun r S' => S' = S)) := by
  refine CT.of RJ1 "indexOf" [some (.ref (sV0 Γ 1)), some (.int x), some (.int a), some (.int b)] (by decide +kernel) rfl rfl (Nat.le_of_ble_eq_true rfl) rfl (fun M hM => ?_)
  subst hM
  subst ha hb
  refine V_iload_1 0 dJ1_indexOf_4cfef_0 ?_
  refine V_callS 1 [.int _] _ (s_canEncode M.2.1 Γ S _) dJ1_indexOf_4cfef_1 cb_J1_canEncode_9a6ad ml_RJ1_88 sm_yJ1_canEncode_9a6ad ⟨Nat.le_of_ble_eq_true rfl, Nat.le_of_ble_eq_true rfl⟩ rfl rfl (Nat.le_of_ble_eq_true rfl) ⟨Nat.le_of_ble_eq_true rfl, Nat.le_of_ble_eq_true rfl⟩ (RI.go (fun r S1 hq => ?_))
  obtain ⟨hr, hf⟩ := hq
  subst hf
  refine V_if_ne 4 9 dJ1_indexOf_4cfef_4 (by decide) (fun c => ?_) (fun c => ?_)
  ·
    refine V_iload_2 9 dJ1_indexOf_4cfef_9 ?_
    refine V_iconst 10 (0) dJ1_indexOf_4cfef_10 (by decide) ?_
    refine V_mmax 11 dJ1_indexOf_4cfef_11 ml_RJ1_92 (Nat.le_of_ble_eq_true rfl) (Nat.le_of_ble_eq_true rfl) (Nat.le_of_ble_eq_true rfl) (Nat.le_of_ble_eq_true rfl) ?_
    refine V_istore_2 14 dJ1_indexOf_4cfef_14 rfl (Nat.le_of_ble_eq_true rfl) ?_
    refine V_iload_3 15 dJ1_indexOf_4cfef_15 ?_
    refine V_aload_0 16 dJ1_indexOf_4cfef_16 ?_
    refine V_kalen 17 (n := 1) (by decide) dJ1_indexOf_4cfef_17 ?_
    refine V_mmin 18 dJ1_indexOf_4cfef_18 ml_RJ1_38 (Nat.le_of_ble_eq_true rfl) (Nat.le_of_ble_eq_true rfl) (Nat.le_of_ble_eq_true rfl) (Nat.le_of_ble_eq_true rfl) ?_
    refine V_istore_3 21 dJ1_indexOf_4cfef_21 rfl (Nat.le_of_ble_eq_true rfl) ?_
    refine V_iload_2 22 dJ1_indexOf_4cfef_22 ?_
    refine V_iload_3 23 dJ1_indexOf_4cfef_23 ?_
    refine V_icmp_lt 24 29 dJ1_indexOf_4cfef_24 (by decide) (fun c => ?_) (fun c => ?_)
    ·
      refine V_aload_0 29 dJ1_indexOf_4cfef_29 ?_
      refine V_iload_1 30 dJ1_indexOf_4cfef_30 ?_
      refine V_iload_2 31 dJ1_indexOf_4cfef_31 ?_
      refine V_iload_3 32 dJ1_indexOf_4cfef_32 ?_
      refine V_callS 33 [.ref _, .int _, .int _, .int _] _ (s_ixChar M.2.1 Γ S1 _ _ _ (by decide) (by decide)) dJ1_indexOf_4cfef_33 cb_J1_indexOfChar_4cfef ml_RJ1_95 sm_yJ1_indexOfChar_4cfef ⟨(Nat.le_of_ble_eq_true rfl), (Nat.le_of_ble_eq_true rfl)⟩ rfl rfl (Nat.le_of_ble_eq_true rfl) ⟨(Nat.le_of_ble_eq_true rfl), (Nat.le_of_ble_eq_true rfl)⟩ (RI.go (fun r S2 hq => ?_))
      refine V_iret 36 .int dJ1_indexOf_4cfef_36 rfl rfl (Nat.le_of_ble_eq_true rfl) (Nat.le_of_ble_eq_true rfl) (RI.mk hq)
    ·
      refine V_iconst 27 (-1) dJ1_indexOf_4cfef_27 (by decide) ?_
      refine V_iret 28 .int dJ1_indexOf_4cfef_28 rfl rfl (Nat.le_of_ble_eq_true rfl) (Nat.le_of_ble_eq_true rfl) (RI.mk rfl)
  ·
    refine V_iconst 7 (-1) dJ1_indexOf_4cfef_7 (by decide) ?_
    refine V_iret 8 .int dJ1_indexOf_4cfef_8 rfl rfl (Nat.le_of_ble_eq_true rfl) (Nat.le_of_ble_eq_true rfl) (RI.mk rfl)
set_option maxRecDepth 100000 in
set_option maxHeartbeats 8000000 in
theorem s_ix2 (l : Launch) (Γ : GC) (S : PS) (x a : Int32) (ha : a = 0) : CT l Γ yJ0_indexOf_7cf53 cJ0_indexOf_7cf53 3 (some .int) (2) (0) (0) [.ref (sK0 Γ 1), .int x, .int a] S (RI (fun r S' => S' = S)) := by
  refine CT.of RJ0 "indexOf" [some (.ref (sK0 Γ 1)), some (.int x), some (.int a)] (by decide +kernel) rfl rfl (Nat.le_of_ble_eq_true rfl) rfl (fun M hM => ?_)
  subst hM
  subst ha
  refine V_aload_0 0 dJ0_indexOf_7cf53_0 ?_
  refine V_callVK 1 (by decide) [] _ (c_J0_isLatin1 M.2.1 Γ S (n := 1) (by decide)) dJ0_indexOf_7cf53_1 cb_J0_isLatin1_aae02 ml_RJ0_492 im_yJ0_isLatin1_aae02 se_yJ0_isLatin1_aae02 ⟨(Nat.le_of_ble_eq_true rfl), (Nat.le_of_ble_eq_true rfl)⟩ rfl rfl (Nat.le_of_ble_eq_true rfl) ⟨(Nat.le_of_ble_eq_true rfl), (Nat.le_of_ble_eq_true rfl)⟩ (RI.go (fun r S1 hq => ?_))
  obtain ⟨rfl, rfl⟩ := hq
  refine V_if_eq 4 23 dJ0_indexOf_7cf53_4 (by decide) (fun q => absurd q (by decide)) (fun _ => ?_)
  refine V_aload_0 7 dJ0_indexOf_7cf53_7 ?_
  refine V_kvalue 8 (by decide) dJ0_indexOf_7cf53_8 fl_RJ0_9 ?_
  refine V_iload_1 11 dJ0_indexOf_7cf53_11 ?_
  refine V_iload_2 12 dJ0_indexOf_7cf53_12 ?_
  refine V_aload_0 13 dJ0_indexOf_7cf53_13 ?_
  refine V_callVK 14 (by decide) [] _ (c_J0_length M.2.1 Γ S1 (n := 1) (by decide)) dJ0_indexOf_7cf53_14 cb_J0_length_8abf5 ml_RJ0_505 im_yJ0_length_8abf5 se_yJ0_length_8abf5 ⟨(Nat.le_of_ble_eq_true rfl), (Nat.le_of_ble_eq_true rfl)⟩ rfl rfl (Nat.le_of_ble_eq_true rfl) ⟨(Nat.le_of_ble_eq_true rfl), (Nat.le_of_ble_eq_true rfl)⟩ (RI.go (fun r S2 hq => ?_))
  obtain ⟨hr, rfl⟩ := hq
  refine V_callS 17 [.ref _, .int _, .int _, .int _] _ (s_ix4 M.2.1 Γ S2 _ _ _ rfl hr) dJ0_indexOf_7cf53_17 cb_J1_indexOf_4cfef ml_RJ0_637 sm_yJ1_indexOf_4cfef ⟨(Nat.le_of_ble_eq_true rfl), (Nat.le_of_ble_eq_true rfl)⟩ rfl rfl (Nat.le_of_ble_eq_true rfl) ⟨(Nat.le_of_ble_eq_true rfl), (Nat.le_of_ble_eq_true rfl)⟩ (RI.go (fun r S3 hq => ?_))
  refine V_goto 20 36 dJ0_indexOf_7cf53_20 (by decide) ?_
  refine V_iret 36 .int dJ0_indexOf_7cf53_36 rfl rfl (Nat.le_of_ble_eq_true rfl) (Nat.le_of_ble_eq_true rfl) (RI.mk hq)
set_option maxRecDepth 100000 in
set_option maxHeartbeats 8000000 in
theorem s_ix1 (l : Launch) (Γ : GC) (S : PS) (x : Int32) : CT l Γ yJ0_indexOf_0f7a4 cJ0_indexOf_0f7a4 2 (some .int) (3) (0) (0) [.ref (sK0 Γ 1), .int x] S (RI (fun r S' => S' = S)) := by
  refine CT.of RJ0 "indexOf" [some (.ref (sK0 Γ 1)), some (.int x)] (by decide +kernel) rfl rfl (Nat.le_of_ble_eq_true rfl) rfl (fun M hM => ?_)
  subst hM
  refine V_aload_0 0 dJ0_indexOf_0f7a4_0 ?_
  refine V_iload_1 1 dJ0_indexOf_0f7a4_1 ?_
  refine V_iconst 2 (0) dJ0_indexOf_0f7a4_2 (by decide) ?_
  refine V_callVK 3 (by decide) [.int _, .int _] _ (s_ix2 M.2.1 Γ S _ _ rfl) dJ0_indexOf_0f7a4_3 cb_J0_indexOf_7cf53 ml_RJ0_633 im_yJ0_indexOf_7cf53 se_yJ0_indexOf_7cf53 ⟨(Nat.le_of_ble_eq_true rfl), (Nat.le_of_ble_eq_true rfl)⟩ rfl rfl (Nat.le_of_ble_eq_true rfl) ⟨(Nat.le_of_ble_eq_true rfl), (Nat.le_of_ble_eq_true rfl)⟩ (RI.go (fun r S1 hq => ?_))
  refine V_iret 6 .int dJ0_indexOf_0f7a4_6 rfl rfl (Nat.le_of_ble_eq_true rfl) (Nat.le_of_ble_eq_true rfl) (RI.mk hq)
set_option maxRecDepth 100000 in
set_option maxHeartbeats 8000000 in
theorem s_isSign (l : Launch) (Γ : GC) (S : PS) (x : Int32) : CT l Γ yX8_isSign cX8_isSign 1 (some .boolean) (4) (0) (0) [.int x] S (RI (fun r S' => (r = 0 ∨ r = 1) ∧ FZ [] [] S S')) := by
  refine CT.of RX8 "isSign" [some (.int x)] (by decide +kernel) rfl rfl (Nat.le_of_ble_eq_true rfl) rfl (fun M hM => ?_)
  subst hM
  refine V_ldcS1 0 dX8_isSign_0 rfl ?_
  refine V_iload_0 2 dX8_isSign_2 ?_
  refine V_i2c 3 dX8_isSign_3 ?_
  refine V_callVK 4 (by decide) [.int _] _ (s_ix1 M.2.1 Γ S _) dX8_isSign_4 cb_J0_indexOf_0f7a4 ml_RX8_102 im_yJ0_indexOf_0f7a4 se_yJ0_indexOf_0f7a4 ⟨(Nat.le_of_ble_eq_true rfl), (Nat.le_of_ble_eq_true rfl)⟩ rfl rfl (Nat.le_of_ble_eq_true rfl) ⟨(Nat.le_of_ble_eq_true rfl), (Nat.le_of_ble_eq_true rfl)⟩ (RI.go (fun r S1 hq => ?_))
  subst hq
  refine V_if_lt 7 14 dX8_isSign_7 (by decide) (fun c => ?_) (fun c => ?_)
  ·
    refine V_iconst 14 (0) dX8_isSign_14 (by decide) ?_
    refine V_iret 15 .boolean dX8_isSign_15 rfl (nrwB (Or.inl rfl)) (Nat.le_of_ble_eq_true rfl) (Nat.le_of_ble_eq_true rfl) (RI.mk ⟨Or.inl rfl, FZ.rf⟩)
  ·
    refine V_iconst 10 (1) dX8_isSign_10 (by decide) ?_
    refine V_goto 11 15 dX8_isSign_11 (by decide) ?_
    refine V_iret 15 .boolean dX8_isSign_15 rfl (nrwB (Or.inr rfl)) (Nat.le_of_ble_eq_true rfl) (Nat.le_of_ble_eq_true rfl) (RI.mk ⟨Or.inr rfl, FZ.rf⟩)

