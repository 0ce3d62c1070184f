/-! counting loops that end: '<=' bounds below the greatest int; choose, power, factorial, waysLeft, sameRow, floorMod by 40 -/
theorem le32 {n i : Int32} (c : ¬ n < i) (hn : n.toInt < 2147483647) : (n.toInt + 1 - (i + 1).toInt).toNat < (n.toInt + 1 - i.toInt).toNat := by
  have h1 : ¬ n.toInt < i.toInt := fun q => c (Int32.lt_iff_toInt_lt.mpr q)
  have h3 := Int32.le_toInt i
  have e : (i + 1).toInt = i.toInt + 1 := by
    rw [Int32.toInt_add, show (1 : Int32).toInt = 1 from by decide]
    exact Int.bmod_eq_of_le (by omega) (by omega)
  rw [e]
  omega
theorem ne_i1 {i n : Nat} (h : i < n) (hn : n < 2 ^ 31) : ¬ (nI i + 1).toInt64 = 0 := fun q => by
  rw [← nI_succ] at q
  have h1 : (nI (i + 1)).toInt64.toInt = (0 : Int64).toInt := by rw [q]
  rw [Int32.toInt_toInt64, nI_toInt (by omega)] at h1
  have h2 : (0 : Int64).toInt = 0 := by decide
  omega
set_option maxRecDepth 100000 in
set_option maxHeartbeats 8000000 in
theorem s_power (l : Launch) (Γ : GC) (S : PS) (x y : Int32) : CT l Γ yX11_power cX11_power 5 (some .long) (0) (0) (0) [.int x, .int y] S (RLg (fun r S' => FZ [] [] S S')) := by
  refine CT.of RX11 "power" [some (.int x), some (.int y), none, none, none] (by decide +kernel) rfl rfl (Nat.le_of_ble_eq_true rfl) rfl (fun M hM => ?_)
  subst hM
  refine V_lconst 0 1 dX11_power_0 (by decide) ?_
  refine V_lstore_2 1 dX11_power_1 rfl (Nat.le_of_ble_eq_true rfl) ?_
  refine V_iconst 2 (0) dX11_power_2 (by decide) ?_
  refine V_istore_4 3 dX11_power_3 rfl (Nat.le_of_ble_eq_true rfl) ?_
  refine V_lvw (by repeat (first | exact trivial | refine ⟨rfl, ?_⟩)) (V_while (α := Int32 × PS × Int64) (fun z1 => ((y).toInt - z1.1.toInt).toNat) (fun z1 => FZ [] [] S z1.2.1) (fun z1 => z1.2.1) (fun z1 => [some (.int x), some (.int y), some (.long z1.2.2), none, some (.int z1.1)]) (_, _, _) (FZ.rf) (fun z1 h5 ih6 => ?b9))
  obtain ⟨i2, S3, w7⟩ := z1
  dsimp only at h5 ih6 ⊢
  refine V_iload_4 5 dX11_power_5 ?_
  refine V_iload_1 7 dX11_power_7 ?_
  refine V_icmp_ge 8 22 dX11_power_8 (by decide) (fun c11 => ?_) (fun c11 => ?_)
  ·
    refine V_lload_2 22 dX11_power_22 ?_
    refine V_lret 23 dX11_power_23 rfl (Nat.le_of_ble_eq_true rfl) (Nat.le_of_ble_eq_true rfl) (RLg.mk h5)
  ·
    refine V_lload_2 11 dX11_power_11 ?_
    refine V_iload_0 12 dX11_power_12 ?_
    refine V_i2l 13 dX11_power_13 ?_
    refine V_lmul 14 dX11_power_14 ?_
    refine V_lstore_2 15 dX11_power_15 rfl (Nat.le_of_ble_eq_true rfl) ?_
    refine V_iinc_4 16 (1) dX11_power_16 (by decide) rfl (Nat.le_of_ble_eq_true rfl) ?_
    refine V_goto 19 5 dX11_power_19 (by decide) ?_
    refine V_lvw (by repeat (first | exact trivial | refine ⟨rfl, ?_⟩)) (ih6 (_, _, _) (h5) (up32 (by first | assumption | (assumption))))
set_option maxRecDepth 100000 in
set_option maxHeartbeats 8000000 in
theorem s_factorial (l : Launch) (Γ : GC) (S : PS) (x : Int32) (hx : x.toInt < 2147483647) : CT l Γ yX11_factorial cX11_factorial 4 (some .long) (0) (0) (0) [.int x] S (RLg (fun r S' => FZ [] [] S S')) := by
  refine CT.of RX11 "factorial" [some (.int x), none, none, none] (by decide +kernel) rfl rfl (Nat.le_of_ble_eq_true rfl) rfl (fun M hM => ?_)
  subst hM
  refine V_lconst 0 1 dX11_factorial_0 (by decide) ?_
  refine V_lstore_1 1 dX11_factorial_1 rfl (Nat.le_of_ble_eq_true rfl) ?_
  refine V_iconst 2 (2) dX11_factorial_2 (by decide) ?_
  refine V_istore_3 3 dX11_factorial_3 rfl (Nat.le_of_ble_eq_true rfl) ?_
  refine V_lvw (by repeat (first | exact trivial | refine ⟨rfl, ?_⟩)) (V_while (α := Int32 × PS × Int64) (fun z1 => ((x).toInt + 1 - z1.1.toInt).toNat) (fun z1 => FZ [] [] S z1.2.1) (fun z1 => z1.2.1) (fun z1 => [some (.int x), some (.long z1.2.2), none, some (.int z1.1)]) (_, _, _) (FZ.rf) (fun z1 h5 ih6 => ?b9))
  obtain ⟨i2, S3, w7⟩ := z1
  dsimp only at h5 ih6 ⊢
  refine V_iload_3 4 dX11_factorial_4 ?_
  refine V_iload_0 5 dX11_factorial_5 ?_
  refine V_icmp_gt 6 20 dX11_factorial_6 (by decide) (fun c11 => ?_) (fun c11 => ?_)
  ·
    refine V_lload_1 20 dX11_factorial_20 ?_
    refine V_lret 21 dX11_factorial_21 rfl (Nat.le_of_ble_eq_true rfl) (Nat.le_of_ble_eq_true rfl) (RLg.mk h5)
  ·
    refine V_lload_1 9 dX11_factorial_9 ?_
    refine V_iload_3 10 dX11_factorial_10 ?_
    refine V_i2l 11 dX11_factorial_11 ?_
    refine V_lmul 12 dX11_factorial_12 ?_
    refine V_lstore_1 13 dX11_factorial_13 rfl (Nat.le_of_ble_eq_true rfl) ?_
    refine V_iinc_3 14 (1) dX11_factorial_14 (by decide) rfl (Nat.le_of_ble_eq_true rfl) ?_
    refine V_goto 17 4 dX11_factorial_17 (by decide) ?_
    refine V_lvw (by repeat (first | exact trivial | refine ⟨rfl, ?_⟩)) (ih6 (_, _, _) (h5) (le32 (by first | assumption | (assumption)) (hx)))
set_option maxRecDepth 100000 in
set_option maxHeartbeats 8000000 in
theorem s_choose (l : Launch) (Γ : GC) (S : PS) (x y : Int32) : CT l Γ yX11_choose cX11_choose 5 (some .long) (0) (0) (0) [.int x, .int y] S (RLg (fun r S' => FZ [] [] S S')) := by
  refine CT.of RX11 "choose" [some (.int x), some (.int y), none, none, none] (by decide +kernel) rfl rfl (Nat.le_of_ble_eq_true rfl) rfl (fun M hM => ?_)
  subst hM
  have J3 : ∀ (S1 : PS) (y4 : Int64) (x5 : Int32), FZ [] [] S S1 → V M Γ (5, RX11, "choose", (some .long), RM (0) (0) (0)) cX11_choose (RQ M Γ (RLg (fun r S' => FZ [] [] S S')) (0) (0)) 0 0 S1 50 [some (.int x), some (.int y), some (.long y4), none, some (.int x5)] [] := by
    intro S1 y4 x5 h2
    refine V_lload_2 50 dX11_choose_50 ?_
    refine V_lret 51 dX11_choose_51 rfl (Nat.le_of_ble_eq_true rfl) (Nat.le_of_ble_eq_true rfl) (RLg.mk h2)
  have J8 : ∀ (S6 : PS) (x9 : Int64), FZ [] [] S S6 → V M Γ (5, RX11, "choose", (some .long), RM (0) (0) (0)) cX11_choose (RQ M Γ (RLg (fun r S' => FZ [] [] S S')) (0) (0)) 0 0 S6 14 [some (.int x), some (.int y), none, none, none] [.long x9] := by
    intro S6 x9 h7
    refine V_lstore_2 14 dX11_choose_14 rfl (Nat.le_of_ble_eq_true rfl) ?_
    refine V_iconst 15 (0) dX11_choose_15 (by decide) ?_
    refine V_istore_4 16 dX11_choose_16 rfl (Nat.le_of_ble_eq_true rfl) ?_
    refine V_lvw (by repeat (first | exact trivial | refine ⟨rfl, ?_⟩)) (V_while (α := Nat × PS × Int64) (fun z10 => y.toNatClampNeg - z10.1) (fun z10 => z10.1 ≤ y.toNatClampNeg ∧ FZ [] [] S z10.2.1) (fun z10 => z10.2.1) (fun z10 => [some (.int x), some (.int y), some (.long z10.2.2), none, some (.int (nI z10.1))]) (0, _, _) ⟨Nat.zero_le _, h7⟩ (fun z10 hx17 ih15 => ?b18))
    obtain ⟨i11, S12, w16⟩ := z10
    obtain ⟨hi13, h14⟩ := hx17
    dsimp only at hi13 h14 ih15 ⊢
    refine V_iload_4 18 dX11_choose_18 ?_
    refine V_iload_1 20 dX11_choose_20 ?_
    refine V_icmp_ge 21 50 dX11_choose_21 (by decide) (fun c20 => ?_) (fun c20 => ?_)
    ·
      refine V_lvw (by repeat (first | exact trivial | refine ⟨rfl, ?_⟩)) (J3 _ _ _ h14)
    ·
      try have lt22 := nI_ltC hi13 c20
      refine V_iload_4 24 dX11_choose_24 ?_
      refine V_iload_0 26 dX11_choose_26 ?_
      refine V_icmp_ge 27 50 dX11_choose_27 (by decide) (fun c23 => ?_) (fun c23 => ?_)
      ·
        refine V_lvw (by repeat (first | exact trivial | refine ⟨rfl, ?_⟩)) (J3 _ _ _ h14)
      ·
        try have lt25 := nI_ltC hi13 c23
        refine V_lload_2 30 dX11_choose_30 ?_
        refine V_iload_0 31 dX11_choose_31 ?_
        refine V_iload_4 32 dX11_choose_32 ?_
        refine V_isub 34 dX11_choose_34 ?_
        refine V_i2l 35 dX11_choose_35 ?_
        refine V_lmul 36 dX11_choose_36 ?_
        refine V_iload_4 37 dX11_choose_37 ?_
        refine V_iconst 39 (1) dX11_choose_39 (by decide) ?_
        refine V_iadd 40 dX11_choose_40 ?_
        refine V_i2l 41 dX11_choose_41 ?_
        refine V_ldiv 42 dX11_choose_42 (ne_i1 (n := y.toNatClampNeg) (by assumption) (clamp_lt y)) ?_
        refine V_lstore_2 43 dX11_choose_43 rfl (Nat.le_of_ble_eq_true rfl) ?_
        refine V_iinc_4 44 (1) dX11_choose_44 (by decide) rfl (Nat.le_of_ble_eq_true rfl) ?_
        refine V_goto 47 18 dX11_choose_47 (by decide) ?_
        rw [← nI_succ]
        refine V_lvw (by repeat (first | exact trivial | refine ⟨rfl, ?_⟩)) (ih15 (i11 + 1, _, _) ⟨by dsimp only; omega, h14⟩ (by dsimp only; omega))
  have J28 : ∀ (S26 : PS) , FZ [] [] S S26 → V M Γ (5, RX11, "choose", (some .long), RM (0) (0) (0)) cX11_choose (RQ M Γ (RLg (fun r S' => FZ [] [] S S')) (0) (0)) 0 0 S26 9 [some (.int x), some (.int y), none, none, none] [] := by
    intro S26  h27
    refine V_lconst 9 0 dX11_choose_9 (by decide) ?_
    refine V_goto 10 14 dX11_choose_10 (by decide) ?_
    refine V_lvw (by repeat (first | exact trivial | refine ⟨rfl, ?_⟩)) (J8 _ _ h27)
  refine V_iload_1 0 dX11_choose_0 ?_
  refine V_if_lt 1 9 dX11_choose_1 (by decide) (fun c30 => ?_) (fun c30 => ?_)
  ·
    refine V_lvw (by repeat (first | exact trivial | refine ⟨rfl, ?_⟩)) (J28 _ FZ.rf)
  ·
    refine V_iload_1 4 dX11_choose_4 ?_
    refine V_iload_0 5 dX11_choose_5 ?_
    refine V_icmp_le 6 13 dX11_choose_6 (by decide) (fun c32 => ?_) (fun c32 => ?_)
    ·
      refine V_lconst 13 1 dX11_choose_13 (by decide) ?_
      refine V_lvw (by repeat (first | exact trivial | refine ⟨rfl, ?_⟩)) (J8 _ _ FZ.rf)
    ·
      refine V_lvw (by repeat (first | exact trivial | refine ⟨rfl, ?_⟩)) (J28 _ FZ.rf)
set_option maxRecDepth 100000 in
set_option maxHeartbeats 8000000 in
theorem s_waysLeft (l : Launch) (Γ : GC) (S : PS) (x y z w : Int32) : CT l Γ yX3_waysLeft cX3_waysLeft 4 (some .long) (1) (0) (0) [.int x, .int y, .int z, .int w] S (RLg (fun r S' => FZ [] [] S S')) := by
  refine CT.of RX3 "waysLeft" [some (.int x), some (.int y), some (.int z), some (.int w)] (by decide +kernel) rfl rfl (Nat.le_of_ble_eq_true rfl) rfl (fun M hM => ?_)
  subst hM
  refine V_iload_0 0 dX3_waysLeft_0 ?_
  refine V_iload_1 1 dX3_waysLeft_1 ?_
  refine V_callSN 2 [.int _, .int _] _ (s_choose M.2.1 Γ S _ _) dX3_waysLeft_2 cb_X11_choose ne_RX3_82 sm_yX11_choose ⟨(Nat.le_of_ble_eq_true rfl), (Nat.le_of_ble_eq_true rfl)⟩ rfl rfl (Nat.le_of_ble_eq_true rfl) ⟨(Nat.le_of_ble_eq_true rfl), (Nat.le_of_ble_eq_true rfl)⟩ (RLg.go (fun r3 S1 q2 => ?_))
  have h4 : FZ [] [] S S1 := (FZ.rf (X := []) (Y := []) (S := S)).tr (q2.sub (by simp) (by simp))
  refine V_iload_3 5 dX3_waysLeft_5 ?_
  refine V_iload_2 6 dX3_waysLeft_6 ?_
  refine V_isub 7 dX3_waysLeft_7 ?_
  refine V_iload_1 8 dX3_waysLeft_8 ?_
  refine V_callSN 9 [.int _, .int _] _ (s_power M.2.1 Γ S1 _ _) dX3_waysLeft_9 cb_X11_power ne_RX3_86 sm_yX11_power ⟨(Nat.le_of_ble_eq_true rfl), (Nat.le_of_ble_eq_true rfl)⟩ rfl rfl (Nat.le_of_ble_eq_true rfl) ⟨(Nat.le_of_ble_eq_true rfl), (Nat.le_of_ble_eq_true rfl)⟩ (RLg.go (fun r7 S5 q6 => ?_))
  have h8 : FZ [] [] S S5 := h4.tr (q6.sub (by simp) (by simp))
  refine V_lmul 12 dX3_waysLeft_12 ?_
  refine V_iload_2 13 dX3_waysLeft_13 ?_
  refine V_iload_0 14 dX3_waysLeft_14 ?_
  refine V_iload_1 15 dX3_waysLeft_15 ?_
  refine V_isub 16 dX3_waysLeft_16 ?_
  refine V_callSN 17 [.int _, .int _] _ (s_power M.2.1 Γ S5 _ _) dX3_waysLeft_17 cb_X11_power ne_RX3_86 sm_yX11_power ⟨(Nat.le_of_ble_eq_true rfl), (Nat.le_of_ble_eq_true rfl)⟩ rfl rfl (Nat.le_of_ble_eq_true rfl) ⟨(Nat.le_of_ble_eq_true rfl), (Nat.le_of_ble_eq_true rfl)⟩ (RLg.go (fun r11 S9 q10 => ?_))
  have h12 : FZ [] [] S S9 := h8.tr (q10.sub (by simp) (by simp))
  refine V_lmul 20 dX3_waysLeft_20 ?_
  refine V_lret 21 dX3_waysLeft_21 rfl (Nat.le_of_ble_eq_true rfl) (Nat.le_of_ble_eq_true rfl) (RLg.mk h12)
set_option maxRecDepth 100000 in
set_option maxHeartbeats 8000000 in
theorem s_sameRow (l : Launch) (Γ : GC) (S : PS) {a b : Nat} (ha : a ∈ PL Γ.2.2.2.2.1 S) (hk : sK S a = 14) (hl : sL S a = 8) (hb : b ∈ PL Γ.2.2.2.2.1 S) (hkb : sK S b = 14) (hlb : sL S b = 8) : CT l Γ yX11_sameRow cX11_sameRow 4 (some .boolean) (0) (0) (0) [.ref a, .ref b] S (RI (fun r S' => (r = 0 ∨ r = 1) ∧ FZ [] [] S S')) := by
  refine CT.of RX11 "sameRow" [some (.ref a), some (.ref b), none, none] (by decide +kernel) rfl rfl (Nat.le_of_ble_eq_true rfl) rfl (fun M hM => ?_)
  subst hM
  have J3 : ∀ (S1 : PS) (x4 : Int32) (x5 : Int32), FZ [] [] S S1 → (x4 = 0 ∨ x4 = 1) → V M Γ (4, RX11, "sameRow", (some .boolean), RM (0) (0) (0)) cX11_sameRow (RQ M Γ (RI (fun r S' => (r = 0 ∨ r = 1) ∧ FZ [] [] S S')) (0) (0)) 0 0 S1 52 [some (.ref a), some (.ref b), some (.int x4), some (.int x5)] [] := by
    intro S1 x4 x5 h2 hb_x4
    refine V_iload_2 52 dX11_sameRow_52 ?_
    refine V_iret 53 .boolean dX11_sameRow_53 rfl (nrwB hb_x4) (Nat.le_of_ble_eq_true rfl) (Nat.le_of_ble_eq_true rfl) (RI.mk ⟨hb_x4, h2⟩)
  refine V_aload_0 0 dX11_sameRow_0 ?_
  refine V_alen2 1 dX11_sameRow_1 ha hk (Nat.le_of_ble_eq_true rfl) (Nat.le_of_ble_eq_true rfl) hl ?_
  refine V_aload_1 2 dX11_sameRow_2 ?_
  refine V_alen2 3 dX11_sameRow_3 hb hkb (Nat.le_of_ble_eq_true rfl) (Nat.le_of_ble_eq_true rfl) hlb ?_
  refine V_icmp_ne 4 11 dX11_sameRow_4 (by decide) (fun c6 => ?_) (fun c6 => ?_)
  ·
    refine V_iconst 11 (0) dX11_sameRow_11 (by decide) ?_
    refine V_istore_2 12 dX11_sameRow_12 rfl (Nat.le_of_ble_eq_true rfl) ?_
    refine V_iconst 13 (0) dX11_sameRow_13 (by decide) ?_
    refine V_istore_3 14 dX11_sameRow_14 rfl (Nat.le_of_ble_eq_true rfl) ?_
    refine V_lvw (by repeat (first | exact trivial | refine ⟨rfl, ?_⟩)) (V_while (α := Nat × PS × Int32) (fun z7 => 8 - z7.1) (fun z7 => z7.1 ≤ 8 ∧ FZ [] [] S z7.2.1 ∧ (z7.2.2 = 0 ∨ z7.2.2 = 1)) (fun z7 => z7.2.1) (fun z7 => [some (.ref a), some (.ref b), some (.int z7.2.2), some (.int (nI z7.1))]) (0, _, _) ⟨Nat.zero_le _, FZ.rf, (Or.inl rfl)⟩ (fun z7 hx14 ih12 => ?b15))
    obtain ⟨i8, S9, w13⟩ := z7
    obtain ⟨hi10, h11, hb17⟩ := hx14
    dsimp only at hi10 h11 hb17 ih12 ⊢
    refine V_iload_2 15 dX11_sameRow_15 ?_
    refine V_if_eq 16 52 dX11_sameRow_16 (by decide) (fun c18 => ?_) (fun c18 => ?_)
    ·
      refine V_lvw (by repeat (first | exact trivial | refine ⟨rfl, ?_⟩)) (J3 _ _ _ h11 hb17)
    ·
      refine V_iload_3 19 dX11_sameRow_19 ?_
      refine V_aload_0 20 dX11_sameRow_20 ?_
      refine V_alen2 21 dX11_sameRow_21 (PL_ss h11.1 ha) (kss h11.1 hk) (Nat.le_of_ble_eq_true rfl) (Nat.le_of_ble_eq_true rfl) (lss h11.1 hl) ?_
      refine V_icmp_ge 22 52 dX11_sameRow_22 (by decide) (fun c20 => ?_) (fun c20 => ?_)
      ·
        refine V_lvw (by repeat (first | exact trivial | refine ⟨rfl, ?_⟩)) (J3 _ _ _ h11 hb17)
      ·
        have lt22 := nI_lt8 (by decide) hi10 c20
        refine V_iload_3 25 dX11_sameRow_25 ?_
        refine V_aload_1 26 dX11_sameRow_26 ?_
        refine V_alen2 27 dX11_sameRow_27 (PL_ss h11.1 hb) (kss h11.1 hkb) (Nat.le_of_ble_eq_true rfl) (Nat.le_of_ble_eq_true rfl) (lss h11.1 hlb) ?_
        refine V_icmp_ge 28 52 dX11_sameRow_28 (by decide) (fun c23 => ?_) (fun c23 => ?_)
        ·
          refine V_lvw (by repeat (first | exact trivial | refine ⟨rfl, ?_⟩)) (J3 _ _ _ h11 hb17)
        ·
          have lt25 := nI_lt8 (by decide) hi10 c23
          refine V_aload_0 31 dX11_sameRow_31 ?_
          refine V_iload_3 32 dX11_sameRow_32 ?_
          refine V_iaload2 33 dX11_sameRow_33 (PL_ss h11.1 ha) (kss h11.1 hk) (lss h11.1 hl) ?_ ?_
          · exact vp_in_nI (by omega) (by decide)
          refine V_aload_1 34 dX11_sameRow_34 ?_
          refine V_iload_3 35 dX11_sameRow_35 ?_
          refine V_iaload2 36 dX11_sameRow_36 (PL_ss h11.1 hb) (kss h11.1 hkb) (lss h11.1 hlb) ?_ ?_
          · exact vp_in_nI (by omega) (by decide)
          refine V_icmp_ne 37 44 dX11_sameRow_37 (by decide) (fun c26 => ?_) (fun c26 => ?_)
          ·
            refine V_iconst 44 (0) dX11_sameRow_44 (by decide) ?_
            refine V_istore_2 45 dX11_sameRow_45 rfl (Nat.le_of_ble_eq_true rfl) ?_
            refine V_iinc_3 46 (1) dX11_sameRow_46 (by decide) rfl (Nat.le_of_ble_eq_true rfl) ?_
            refine V_goto 49 15 dX11_sameRow_49 (by decide) ?_
            rw [← nI_succ]
            refine V_lvw (by repeat (first | exact trivial | refine ⟨rfl, ?_⟩)) (ih12 (i8 + 1, _, _) ⟨by dsimp only; omega, h11, (Or.inl rfl)⟩ (by dsimp only; omega))
          ·
            refine V_iconst 40 (1) dX11_sameRow_40 (by decide) ?_
            refine V_goto 41 45 dX11_sameRow_41 (by decide) ?_
            refine V_istore_2 45 dX11_sameRow_45 rfl (Nat.le_of_ble_eq_true rfl) ?_
            refine V_iinc_3 46 (1) dX11_sameRow_46 (by decide) rfl (Nat.le_of_ble_eq_true rfl) ?_
            refine V_goto 49 15 dX11_sameRow_49 (by decide) ?_
            rw [← nI_succ]
            refine V_lvw (by repeat (first | exact trivial | refine ⟨rfl, ?_⟩)) (ih12 (i8 + 1, _, _) ⟨by dsimp only; omega, h11, (Or.inr rfl)⟩ (by dsimp only; omega))
  ·
    refine V_iconst 7 (1) dX11_sameRow_7 (by decide) ?_
    refine V_goto 8 12 dX11_sameRow_8 (by decide) ?_
    refine V_istore_2 12 dX11_sameRow_12 rfl (Nat.le_of_ble_eq_true rfl) ?_
    refine V_iconst 13 (0) dX11_sameRow_13 (by decide) ?_
    refine V_istore_3 14 dX11_sameRow_14 rfl (Nat.le_of_ble_eq_true rfl) ?_
    refine V_lvw (by repeat (first | exact trivial | refine ⟨rfl, ?_⟩)) (V_while (α := Nat × PS × Int32) (fun z27 => 8 - z27.1) (fun z27 => z27.1 ≤ 8 ∧ FZ [] [] S z27.2.1 ∧ (z27.2.2 = 0 ∨ z27.2.2 = 1)) (fun z27 => z27.2.1) (fun z27 => [some (.ref a), some (.ref b), some (.int z27.2.2), some (.int (nI z27.1))]) (0, _, _) ⟨Nat.zero_le _, FZ.rf, (Or.inr rfl)⟩ (fun z27 hx34 ih32 => ?b35))
    obtain ⟨i28, S29, w33⟩ := z27
    obtain ⟨hi30, h31, hb37⟩ := hx34
    dsimp only at hi30 h31 hb37 ih32 ⊢
    refine V_iload_2 15 dX11_sameRow_15 ?_
    refine V_if_eq 16 52 dX11_sameRow_16 (by decide) (fun c38 => ?_) (fun c38 => ?_)
    ·
      refine V_lvw (by repeat (first | exact trivial | refine ⟨rfl, ?_⟩)) (J3 _ _ _ h31 hb37)
    ·
      refine V_iload_3 19 dX11_sameRow_19 ?_
      refine V_aload_0 20 dX11_sameRow_20 ?_
      refine V_alen2 21 dX11_sameRow_21 (PL_ss h31.1 ha) (kss h31.1 hk) (Nat.le_of_ble_eq_true rfl) (Nat.le_of_ble_eq_true rfl) (lss h31.1 hl) ?_
      refine V_icmp_ge 22 52 dX11_sameRow_22 (by decide) (fun c40 => ?_) (fun c40 => ?_)
      ·
        refine V_lvw (by repeat (first | exact trivial | refine ⟨rfl, ?_⟩)) (J3 _ _ _ h31 hb37)
      ·
        have lt42 := nI_lt8 (by decide) hi30 c40
        refine V_iload_3 25 dX11_sameRow_25 ?_
        refine V_aload_1 26 dX11_sameRow_26 ?_
        refine V_alen2 27 dX11_sameRow_27 (PL_ss h31.1 hb) (kss h31.1 hkb) (Nat.le_of_ble_eq_true rfl) (Nat.le_of_ble_eq_true rfl) (lss h31.1 hlb) ?_
        refine V_icmp_ge 28 52 dX11_sameRow_28 (by decide) (fun c43 => ?_) (fun c43 => ?_)
        ·
          refine V_lvw (by repeat (first | exact trivial | refine ⟨rfl, ?_⟩)) (J3 _ _ _ h31 hb37)
        ·
          have lt45 := nI_lt8 (by decide) hi30 c43
          refine V_aload_0 31 dX11_sameRow_31 ?_
          refine V_iload_3 32 dX11_sameRow_32 ?_
          refine V_iaload2 33 dX11_sameRow_33 (PL_ss h31.1 ha) (kss h31.1 hk) (lss h31.1 hl) ?_ ?_
          · exact vp_in_nI (by omega) (by decide)
          refine V_aload_1 34 dX11_sameRow_34 ?_
          refine V_iload_3 35 dX11_sameRow_35 ?_
          refine V_iaload2 36 dX11_sameRow_36 (PL_ss h31.1 hb) (kss h31.1 hkb) (lss h31.1 hlb) ?_ ?_
          · exact vp_in_nI (by omega) (by decide)
          refine V_icmp_ne 37 44 dX11_sameRow_37 (by decide) (fun c46 => ?_) (fun c46 => ?_)
          ·
            refine V_iconst 44 (0) dX11_sameRow_44 (by decide) ?_
            refine V_istore_2 45 dX11_sameRow_45 rfl (Nat.le_of_ble_eq_true rfl) ?_
            refine V_iinc_3 46 (1) dX11_sameRow_46 (by decide) rfl (Nat.le_of_ble_eq_true rfl) ?_
            refine V_goto 49 15 dX11_sameRow_49 (by decide) ?_
            rw [← nI_succ]
            refine V_lvw (by repeat (first | exact trivial | refine ⟨rfl, ?_⟩)) (ih32 (i28 + 1, _, _) ⟨by dsimp only; omega, h31, (Or.inl rfl)⟩ (by dsimp only; omega))
          ·
            refine V_iconst 40 (1) dX11_sameRow_40 (by decide) ?_
            refine V_goto 41 45 dX11_sameRow_41 (by decide) ?_
            refine V_istore_2 45 dX11_sameRow_45 rfl (Nat.le_of_ble_eq_true rfl) ?_
            refine V_iinc_3 46 (1) dX11_sameRow_46 (by decide) rfl (Nat.le_of_ble_eq_true rfl) ?_
            refine V_goto 49 15 dX11_sameRow_49 (by decide) ?_
            rw [← nI_succ]
            refine V_lvw (by repeat (first | exact trivial | refine ⟨rfl, ?_⟩)) (ih32 (i28 + 1, _, _) ⟨by dsimp only; omega, h31, (Or.inr rfl)⟩ (by dsimp only; omega))
/-- a method whose class has methods of the machine's own, but is none of these -/
theorem Met.ofW2 {l : Launch} {y : MethodName} {ws ws' : List Cond} {rm : Room} {Pc : Array Value → State → Prop} {Qc : Array Value → State → Outcome → State → Prop} {mc ms : Nat} {free : Addr → Prop} {cc : ByteArray} {maxL : Nat} {ret : Option FieldType}
    (hy : plainFor y = true) (hw : ws = Cond.code y cc maxL ret :: ws')
    (body : ∀ p e s m args below meth c s₁, BodyLoose p l y (headSpec ws rm) cc maxL ret e s m args below meth c s₁ → c.maxLocals = maxL → Pc args s →
      W p l e (headSpec ws rm).room s m args below meth c s.heap [] 0 0 (MQ below Qc args s mc ms free) (entryFrame m args maxL)) : Met l y ws rm Pc Qc mc ms free := by
  refine MetFree.of_bodySF (code := cc) (maxLocals := maxL) (ret := ret) hy ?_ ?_
  · intro args s m h hn
    obtain ⟨meth, c, h1, h2, h3, h4, h5, h6, -, -⟩ := Cond.code_spec hn (atoms_spec (ws := ws) h _ (by rw [hw]; exact List.mem_cons_self))
    exact ⟨meth, c, h1, h2, h3, h4, h5, h6⟩
  · intro p e s m args below meth c s₁ B hml hP _
    have hh : s₁.heap = s.heap := by rw [B.state]; rfl
    obtain ⟨t, a1, o, b1, b2, b3⟩ := body p e s m args below meth c s₁ B hml hP s₁ hh (Stand.of_body B)
    exact ⟨t, o, a1, b1, b2, ⟨b3.1, b3.2⟩⟩
theorem CT.of2 {l : Launch} {Γ : GC} {y : MethodName} {cc : ByteArray} {nL : Nat} {ret : Option FieldType} {dp k sl : Nat} {as : List Value} {S : PS} {Qr : Option Value → PS → Prop} (own nm : String) (lv0 : List (Option Value)) (hy : plainFor y = true) (h1 : y.cls = own) (h2 : y.name = nm) (hlen : (lg_sl as).length ≤ nL) (hlv : lvL 0 lv0 = lv_args 0 as)
    (body : ∀ M : MC, M.2.1 = l → V M Γ (nL, own, nm, ret, RM dp k sl) cc (RQ M Γ Qr k sl) 0 0 S 0 lv0 []) : CT l Γ y cc nL ret dp k sl as S Qr := by
  refine Met.ofW2 (cc := cc) (maxL := nL) (ret := ret) hy rfl ?_
  intro p e s m args below meth c s₁ B hml hv
  obtain ⟨rfl, hU⟩ := hv
  have hts := atoms_spec (ws := Cond.code y cc nL ret :: lwG) B.pre
  have hown : s.vm.findClass own = some m.cls := by rw [← h1]; exact findClass_of_methodNamed B.named
  have hl := lv_entry as (n := nL) hlen
  rw [lg_entry_eq]
  generalize (lg_sl as ++ List.replicate (nL - (lg_sl as).length) Slot.unset).toArray = ls at hl ⊢
  exact body (p, l, e, RM dp k sl, s, m, as.toArray, below, meth, c) rfl
    ⟨⟨B.exec, B.bytes, hml, hown, fun w hw => hts w (List.mem_cons_of_mem _ hw)⟩, B.notSynchronized, hU.2.1, hU.2.2.1, hU.1, (name_of_methodNamed B.named B.method).1.trans h2, B.returns, rfl⟩
    s.heap [] ls hU.2.2.2 va_S.rf (show lv_has ls nL (lvL 0 lv0) by rw [hlv]; exact hl)
theorem msb_xor40 (x : Int32) : (0 : Int32) ≤ x ^^^ 40 ↔ 0 ≤ x.toInt := by
  have h1 : (0 : Int32) ≤ x ^^^ 40 ↔ (0 : Int) ≤ (x ^^^ 40).toInt := Int32.le_iff_toInt_le
  have e1 : (x ^^^ 40).toBitVec.msb = x.toBitVec.msb := by
    rw [Int32.toBitVec_xor, BitVec.msb_xor, show (40 : Int32).toBitVec.msb = false from by decide]
    simp
  rw [BitVec.msb_eq_toInt, BitVec.msb_eq_toInt] at e1
  have e2 : (x ^^^ 40).toBitVec.toInt = (x ^^^ 40).toInt := rfl
  have e3 : x.toBitVec.toInt = x.toInt := rfl
  rw [e2, e3] at e1
  rw [h1]
  have e4 := decide_eq_decide.mp e1
  omega
theorem rem40 (x : Int32) : ∃ r : Int, (x - x / 40 * 40).toInt = r ∧ -40 < r ∧ r < 40 ∧ (0 ≤ x.toInt → 0 ≤ r) ∧ (x.toInt ≤ 0 → r ≤ 0) := by
  have hl := Int32.le_toInt x
  have hu := Int32.toInt_lt x
  have e40 : (40 : Int32).toInt = 40 := by decide
  have hq : ∃ q : Int, x.toInt.tdiv 40 = q ∧ -40 < x.toInt - q * 40 ∧ x.toInt - q * 40 < 40 ∧ (0 ≤ x.toInt → 0 ≤ x.toInt - q * 40) ∧ (x.toInt ≤ 0 → x.toInt - q * 40 ≤ 0) ∧ -53687092 < q ∧ q < 53687092 := by
    rcases Int.le_total 0 x.toInt with h | h
    · refine ⟨x.toInt / 40, Int.tdiv_eq_ediv_of_nonneg h, ?_, ?_, ?_, ?_, ?_, ?_⟩ <;> omega
    · have e : x.toInt.tdiv 40 = -((-x.toInt) / 40) := by
        have e2 : x.toInt = -(-x.toInt) := by omega
        rw [e2, Int.neg_tdiv, Int.tdiv_eq_ediv_of_nonneg (by omega)]
        congr 1
        congr 1
        omega
      refine ⟨-((-x.toInt) / 40), e, ?_, ?_, ?_, ?_, ?_, ?_⟩ <;> omega
  obtain ⟨q, e1, h1, h2, h3, h6, h4, h5⟩ := hq
  have d1 : (x / 40).toInt = q := by
    rw [Int32.toInt_div, e40, e1]
    exact Int.bmod_eq_of_le (by omega) (by omega)
  have d2 : (x / 40 * 40).toInt = q * 40 := by
    rw [Int32.toInt_mul, d1, e40]
    exact Int.bmod_eq_of_le (by omega) (by omega)
  refine ⟨x.toInt - q * 40, ?_, h1, h2, h3, h6⟩
  rw [Int32.toInt_sub, d2]
  exact Int.bmod_eq_of_le (by omega) (by omega)
set_option maxRecDepth 100000 in
set_option maxHeartbeats 8000000 in
theorem s_floorMod (l : Launch) (Γ : GC) (S : PS) (x : Int32) : CT l Γ yJ9_floorMod_7cf53 cJ9_floorMod_7cf53 3 (some .int) (0) (0) (0) [.int x, .int 40] S (RI (fun r S' => (¬ r < 0 ∧ ¬ nI 40 ≤ r) ∧ S' = S)) := by
  refine CT.of2 RJ9 "floorMod" [some (.int x), some (.int 40), none] (by decide +kernel) rfl rfl (Nat.le_of_ble_eq_true rfl) rfl (fun M hM => ?_)
  subst hM
  obtain ⟨r0, e0, b1, b2, b3, b4⟩ := rem40 x
  have e40 : (nI 40).toInt = 40 := by decide
  refine V_iload_0 0 dJ9_floorMod_7cf53_0 ?_
  refine V_iload_1 1 dJ9_floorMod_7cf53_1 ?_
  refine V_irem 2 dJ9_floorMod_7cf53_2 (by decide) ?_
  refine V_istore_2 3 dJ9_floorMod_7cf53_3 rfl (Nat.le_of_ble_eq_true rfl) ?_
  refine V_iload_0 4 dJ9_floorMod_7cf53_4 ?_
  refine V_iload_1 5 dJ9_floorMod_7cf53_5 ?_
  refine V_ixor 6 dJ9_floorMod_7cf53_6 ?_
  refine V_if_ge 7 18 dJ9_floorMod_7cf53_7 (by decide) (fun c => ?_) (fun c => ?_)
  ·
    refine V_iload_2 18 dJ9_floorMod_7cf53_18 ?_
    refine V_iret 19 .int dJ9_floorMod_7cf53_19 rfl rfl (Nat.le_of_ble_eq_true rfl) (Nat.le_of_ble_eq_true rfl) (RI.mk ⟨⟨fun q => ?_, fun q => ?_⟩, rfl⟩)
    · have q2 := Int32.lt_iff_toInt_lt.mp q
      rw [e0, show (0 : Int32).toInt = 0 from by decide] at q2
      have := b3 ((msb_xor40 x).mp c)
      omega
    · have q2 := Int32.le_iff_toInt_le.mp q
      rw [e0, e40] at q2
      omega
  ·
    refine V_iload_2 10 dJ9_floorMod_7cf53_10 ?_
    refine V_if_eq 11 18 dJ9_floorMod_7cf53_11 (by decide) (fun c2 => ?_) (fun c2 => ?_)
    ·
      refine V_iload_2 18 dJ9_floorMod_7cf53_18 ?_
      refine V_iret 19 .int dJ9_floorMod_7cf53_19 rfl rfl (Nat.le_of_ble_eq_true rfl) (Nat.le_of_ble_eq_true rfl) (RI.mk ⟨by rw [c2]; decide, rfl⟩)
    ·
      refine V_iload_2 14 dJ9_floorMod_7cf53_14 ?_
      refine V_iload_1 15 dJ9_floorMod_7cf53_15 ?_
      refine V_iadd 16 dJ9_floorMod_7cf53_16 ?_
      have hn : ¬ r0 = 0 := fun q => c2 (by
        rw [q] at e0
        exact Int32.toInt_inj.mp e0)
      have hx : ¬ 0 ≤ x.toInt := fun q => c ((msb_xor40 x).mpr q)
      have := b4 (by omega)
      refine V_iret 17 .int dJ9_floorMod_7cf53_17 rfl rfl (Nat.le_of_ble_eq_true rfl) (Nat.le_of_ble_eq_true rfl) (RI.mk ⟨⟨fun q => ?_, fun q => ?_⟩, rfl⟩)
      · have q2 := Int32.lt_iff_toInt_lt.mp q
        rw [Int32.toInt_add, e0, show (40 : Int32).toInt = 40 from by decide, show (0 : Int32).toInt = 0 from by decide, Int.bmod_eq_of_le (by omega) (by omega)] at q2
        omega
      · have q2 := Int32.le_iff_toInt_le.mp q
        rw [Int32.toInt_add, e0, show (40 : Int32).toInt = 40 from by decide, e40, Int.bmod_eq_of_le (by omega) (by omega)] at q2
        omega

