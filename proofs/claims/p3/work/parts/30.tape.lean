/-! Tape from any ints -/
theorem nI_ltg {i n : Nat} (hn : n + 1 < 2 ^ 31) (hi : i ≤ n + 1) (c : ¬ nI n < nI i) : i < n + 1 := by
  rcases Nat.lt_or_ge i (n + 1) with q | q
  · exact q
  · exact absurd (nI_lt (show n < i by omega) (by omega)) c
theorem up32 {n i : Int32} (c : ¬ n ≤ i) : (n.toInt - (i + 1).toInt).toNat < (n.toInt - i.toInt).toNat := by
  have h1 : ¬ n.toInt ≤ i.toInt := fun q => c (Int32.le_iff_toInt_le.mpr q)
  have h2 := Int32.toInt_lt n
  have h3 := Int32.le_toInt i
  have e : (i + 1).toInt = i.toInt + 1 := by
    rw [Int32.toInt_add, show (1 : Int32).toInt = 1 from by decide]
    exact Int.bmod_eq_of_le (by omega) (by omega)
  rw [e]
  omega
set_option maxRecDepth 100000 in
set_option maxHeartbeats 8000000 in
theorem s_isBlank (l : Launch) (Γ : GC) (S : PS) (x : Int32) : CT l Γ yX8_isBlank cX8_isBlank 1 (some .boolean) (0) (0) (0) [.int x] S (RI (fun r S' => (r = 0 ∨ r = 1) ∧ FZ [] [] S S')) := by
  refine CT.of RX8 "isBlank" [some (.int x)] (by decide +kernel) rfl rfl (Nat.le_of_ble_eq_true rfl) rfl (fun M hM => ?_)
  subst hM
  have J3 : ∀ (S1 : PS) , FZ [] [] S S1 → V M Γ (1, RX8, "isBlank", (some .boolean), RM (0) (0) (0)) cX8_isBlank (RQ M Γ (RI (fun r S' => (r = 0 ∨ r = 1) ∧ FZ [] [] S S')) (0) (0)) 0 0 S1 24 [some (.int x)] [] := by
    intro S1  h2
    refine V_iconst 24 (1) dX8_isBlank_24 (by decide) ?_
    refine V_goto 25 29 dX8_isBlank_25 (by decide) ?_
    refine V_iret 29 .boolean dX8_isBlank_29 rfl (nrwB (Or.inr rfl)) (Nat.le_of_ble_eq_true rfl) (Nat.le_of_ble_eq_true rfl) (RI.mk ⟨by decide, h2⟩)
  refine V_iload_0 0 dX8_isBlank_0 ?_
  refine V_bipush 1 (9) dX8_isBlank_1 (by decide) ?_
  refine V_icmp_eq 3 24 dX8_isBlank_3 (by decide) (fun c4 => ?_) (fun c4 => ?_)
  ·
    refine V_lvw (by repeat (first | exact trivial | refine ⟨rfl, ?_⟩)) (J3 _ FZ.rf)
  ·
    refine V_iload_0 6 dX8_isBlank_6 ?_
    refine V_bipush 7 (10) dX8_isBlank_7 (by decide) ?_
    refine V_icmp_eq 9 24 dX8_isBlank_9 (by decide) (fun c6 => ?_) (fun c6 => ?_)
    ·
      refine V_lvw (by repeat (first | exact trivial | refine ⟨rfl, ?_⟩)) (J3 _ FZ.rf)
    ·
      refine V_iload_0 12 dX8_isBlank_12 ?_
      refine V_bipush 13 (13) dX8_isBlank_13 (by decide) ?_
      refine V_icmp_eq 15 24 dX8_isBlank_15 (by decide) (fun c8 => ?_) (fun c8 => ?_)
      ·
        refine V_lvw (by repeat (first | exact trivial | refine ⟨rfl, ?_⟩)) (J3 _ FZ.rf)
      ·
        refine V_iload_0 18 dX8_isBlank_18 ?_
        refine V_bipush 19 (32) dX8_isBlank_19 (by decide) ?_
        refine V_icmp_ne 21 28 dX8_isBlank_21 (by decide) (fun c10 => ?_) (fun c10 => ?_)
        ·
          refine V_iconst 28 (0) dX8_isBlank_28 (by decide) ?_
          refine V_iret 29 .boolean dX8_isBlank_29 rfl (nrwB (Or.inl rfl)) (Nat.le_of_ble_eq_true rfl) (Nat.le_of_ble_eq_true rfl) (RI.mk ⟨by decide, FZ.rf⟩)
        ·
          refine V_lvw (by repeat (first | exact trivial | refine ⟨rfl, ?_⟩)) (J3 _ FZ.rf)
set_option maxRecDepth 100000 in
set_option maxHeartbeats 8000000 in
theorem s_isLetter (l : Launch) (Γ : GC) (S : PS) (x : Int32) : CT l Γ yX8_isLetter cX8_isLetter 1 (some .boolean) (0) (0) (0) [.int x] S (RI (fun r S' => (r = 0 ∨ r = 1) ∧ FZ [] [] S S')) := by
  refine CT.of RX8 "isLetter" [some (.int x)] (by decide +kernel) rfl rfl (Nat.le_of_ble_eq_true rfl) rfl (fun M hM => ?_)
  subst hM
  have J3 : ∀ (S1 : PS) , FZ [] [] S S1 → V M Γ (1, RX8, "isLetter", (some .boolean), RM (0) (0) (0)) cX8_isLetter (RQ M Γ (RI (fun r S' => (r = 0 ∨ r = 1) ∧ FZ [] [] S S')) (0) (0)) 0 0 S1 16 [some (.int x)] [] := by
    intro S1  h2
    refine V_iconst 16 (0) dX8_isLetter_16 (by decide) ?_
    refine V_iret 17 .boolean dX8_isLetter_17 rfl (nrwB (Or.inl rfl)) (Nat.le_of_ble_eq_true rfl) (Nat.le_of_ble_eq_true rfl) (RI.mk ⟨by decide, h2⟩)
  refine V_iload_0 0 dX8_isLetter_0 ?_
  refine V_bipush 1 (97) dX8_isLetter_1 (by decide) ?_
  refine V_icmp_lt 3 16 dX8_isLetter_3 (by decide) (fun c4 => ?_) (fun c4 => ?_)
  ·
    refine V_lvw (by repeat (first | exact trivial | refine ⟨rfl, ?_⟩)) (J3 _ FZ.rf)
  ·
    refine V_iload_0 6 dX8_isLetter_6 ?_
    refine V_bipush 7 (122) dX8_isLetter_7 (by decide) ?_
    refine V_icmp_gt 9 16 dX8_isLetter_9 (by decide) (fun c6 => ?_) (fun c6 => ?_)
    ·
      refine V_lvw (by repeat (first | exact trivial | refine ⟨rfl, ?_⟩)) (J3 _ FZ.rf)
    ·
      refine V_iconst 12 (1) dX8_isLetter_12 (by decide) ?_
      refine V_goto 13 17 dX8_isLetter_13 (by decide) ?_
      refine V_iret 17 .boolean dX8_isLetter_17 rfl (nrwB (Or.inr rfl)) (Nat.le_of_ble_eq_true rfl) (Nat.le_of_ble_eq_true rfl) (RI.mk ⟨by decide, FZ.rf⟩)
set_option maxRecDepth 100000 in
set_option maxHeartbeats 8000000 in
theorem s_isDigit (l : Launch) (Γ : GC) (S : PS) (x : Int32) : CT l Γ yX8_isDigit cX8_isDigit 1 (some .boolean) (0) (0) (0) [.int x] S (RI (fun r S' => (r = 0 ∨ r = 1) ∧ FZ [] [] S S')) := by
  refine CT.of RX8 "isDigit" [some (.int x)] (by decide +kernel) rfl rfl (Nat.le_of_ble_eq_true rfl) rfl (fun M hM => ?_)
  subst hM
  have J3 : ∀ (S1 : PS) , FZ [] [] S S1 → V M Γ (1, RX8, "isDigit", (some .boolean), RM (0) (0) (0)) cX8_isDigit (RQ M Γ (RI (fun r S' => (r = 0 ∨ r = 1) ∧ FZ [] [] S S')) (0) (0)) 0 0 S1 16 [some (.int x)] [] := by
    intro S1  h2
    refine V_iconst 16 (0) dX8_isDigit_16 (by decide) ?_
    refine V_iret 17 .boolean dX8_isDigit_17 rfl (nrwB (Or.inl rfl)) (Nat.le_of_ble_eq_true rfl) (Nat.le_of_ble_eq_true rfl) (RI.mk ⟨by decide, h2⟩)
  refine V_iload_0 0 dX8_isDigit_0 ?_
  refine V_bipush 1 (48) dX8_isDigit_1 (by decide) ?_
  refine V_icmp_lt 3 16 dX8_isDigit_3 (by decide) (fun c4 => ?_) (fun c4 => ?_)
  ·
    refine V_lvw (by repeat (first | exact trivial | refine ⟨rfl, ?_⟩)) (J3 _ FZ.rf)
  ·
    refine V_iload_0 6 dX8_isDigit_6 ?_
    refine V_bipush 7 (57) dX8_isDigit_7 (by decide) ?_
    refine V_icmp_gt 9 16 dX8_isDigit_9 (by decide) (fun c6 => ?_) (fun c6 => ?_)
    ·
      refine V_lvw (by repeat (first | exact trivial | refine ⟨rfl, ?_⟩)) (J3 _ FZ.rf)
    ·
      refine V_iconst 12 (1) dX8_isDigit_12 (by decide) ?_
      refine V_goto 13 17 dX8_isDigit_13 (by decide) ?_
      refine V_iret 17 .boolean dX8_isDigit_17 rfl (nrwB (Or.inr rfl)) (Nat.le_of_ble_eq_true rfl) (Nat.le_of_ble_eq_true rfl) (RI.mk ⟨by decide, FZ.rf⟩)
set_option maxRecDepth 100000 in
set_option maxHeartbeats 8000000 in
theorem s_typeAt (l : Launch) (Γ : GC) (S : PS) {t : Nat} (F : isL lyTape Γ.2.2.2.2.1 S t) (x : Int32) : CT l Γ yX8_typeAt cX8_typeAt 2 (some .int) (0) (0) (0) [.ref t, .int x] S (RI (fun r S' => FZ [] [] S S')) := by
  refine CT.of RX8 "typeAt" [some (.ref t), some (.int x)] (by decide +kernel) rfl rfl (Nat.le_of_ble_eq_true rfl) rfl (fun M hM => ?_)
  subst hM
  have J3 : ∀ (S1 : PS) (x4 : Int32), FZ [] [] S S1 → V M Γ (2, RX8, "typeAt", (some .int), RM (0) (0) (0)) cX8_typeAt (RQ M Γ (RI (fun r S' => FZ [] [] S S')) (0) (0)) 0 0 S1 31 [some (.ref t), some (.int x)] [.int x4] := by
    intro S1 x4 h2
    refine V_iret 31 .int dX8_typeAt_31 rfl rfl (Nat.le_of_ble_eq_true rfl) (Nat.le_of_ble_eq_true rfl) (RI.mk h2)
  have J7 : ∀ (S5 : PS) , FZ [] [] S S5 → V M Γ (2, RX8, "typeAt", (some .int), RM (0) (0) (0)) cX8_typeAt (RQ M Γ (RI (fun r S' => FZ [] [] S S')) (0) (0)) 0 0 S5 30 [some (.ref t), some (.int x)] [] := by
    intro S5  h6
    refine V_iconst 30 (0) dX8_typeAt_30 (by decide) ?_
    refine V_lvw (by repeat (first | exact trivial | refine ⟨rfl, ?_⟩)) (J3 _ _ h6)
  refine V_iload_1 0 dX8_typeAt_0 ?_
  refine V_if_lt 1 30 dX8_typeAt_1 (by decide) (fun c9 => ?_) (fun c9 => ?_)
  ·
    refine V_lvw (by repeat (first | exact trivial | refine ⟨rfl, ?_⟩)) (J7 _ FZ.rf)
  ·
    refine V_iload_1 4 dX8_typeAt_4 ?_
    refine V_aload_0 5 dX8_typeAt_5 ?_
    refine V_getI 6 (c := 8) 5 dX8_typeAt_6 fl_RX8_51 (F.m 0 (Nat.le_of_ble_eq_true rfl)) (F.k 0 8 rfl) (Nat.le_of_ble_eq_true rfl) (Nat.le_of_ble_eq_true rfl) rfl ?_
    refine V_icmp_ge 9 30 dX8_typeAt_9 (by decide) (fun c11 => ?_) (fun c11 => ?_)
    ·
      refine V_lvw (by repeat (first | exact trivial | refine ⟨rfl, ?_⟩)) (J7 _ FZ.rf)
    ·
      refine V_iload_1 12 dX8_typeAt_12 ?_
      refine V_aload_0 13 dX8_typeAt_13 ?_
      refine V_getR 14 (c := 8) 2 (F.r 0 2 2 rfl) dX8_typeAt_14 fl_RX8_15 (F.m 0 (Nat.le_of_ble_eq_true rfl)) (F.k 0 8 rfl) (Nat.le_of_ble_eq_true rfl) (Nat.le_of_ble_eq_true rfl) rfl ?_
      refine V_alen2 17 dX8_typeAt_17 (F.m 2 (Nat.le_of_ble_eq_true rfl)) (F.k 2 14 rfl) (Nat.le_of_ble_eq_true rfl) (Nat.le_of_ble_eq_true rfl) (F.l 2 402 rfl) ?_
      refine V_icmp_ge 18 30 dX8_typeAt_18 (by decide) (fun c13 => ?_) (fun c13 => ?_)
      ·
        refine V_lvw (by repeat (first | exact trivial | refine ⟨rfl, ?_⟩)) (J7 _ FZ.rf)
      ·
        refine V_aload_0 21 dX8_typeAt_21 ?_
        refine V_getR 22 (c := 8) 2 (F.r 0 2 2 rfl) dX8_typeAt_22 fl_RX8_15 (F.m 0 (Nat.le_of_ble_eq_true rfl)) (F.k 0 8 rfl) (Nat.le_of_ble_eq_true rfl) (Nat.le_of_ble_eq_true rfl) rfl ?_
        refine V_iload_1 25 dX8_typeAt_25 ?_
        refine V_iaload2 26 dX8_typeAt_26 (F.m 2 (Nat.le_of_ble_eq_true rfl)) (F.k 2 14 rfl) (F.l 2 402 rfl) ?_ ?_
        · exact in_of (by decide) (by assumption) (by assumption)
        refine V_goto 27 31 dX8_typeAt_27 (by decide) ?_
        refine V_lvw (by repeat (first | exact trivial | refine ⟨rfl, ?_⟩)) (J3 _ _ FZ.rf)
set_option maxRecDepth 100000 in
set_option maxHeartbeats 8000000 in
theorem s_valueAt (l : Launch) (Γ : GC) (S : PS) {t : Nat} (F : isL lyTape Γ.2.2.2.2.1 S t) (x : Int32) : CT l Γ yX8_valueAt cX8_valueAt 2 (some .long) (1) (0) (0) [.ref t, .int x] S (RLg (fun r S' => FZ [] [] S S')) := by
  refine CT.of RX8 "valueAt" [some (.ref t), some (.int x)] (by decide +kernel) rfl rfl (Nat.le_of_ble_eq_true rfl) rfl (fun M hM => ?_)
  subst hM
  refine V_aload_0 0 dX8_valueAt_0 ?_
  refine V_getR 1 (c := 8) 3 (F.r 0 3 3 rfl) dX8_valueAt_1 fl_RX8_18 (F.m 0 (Nat.le_of_ble_eq_true rfl)) (F.k 0 8 rfl) (Nat.le_of_ble_eq_true rfl) (Nat.le_of_ble_eq_true rfl) rfl ?_
  refine V_iload_1 4 dX8_valueAt_4 ?_
  refine V_callSN 5 [.ref _, .int _] _ (c_longAt M.2.1 Γ S (a := (t + 3)) (F.m 3 (Nat.le_of_ble_eq_true rfl)) (F.k 3 15 rfl) (by rw [(F.l 3 402 rfl)]; decide) _) dX8_valueAt_5 cb_X11_longAt ne_RX8_65 sm_yX11_longAt ⟨(Nat.le_of_ble_eq_true rfl), (Nat.le_of_ble_eq_true rfl)⟩ rfl rfl (Nat.le_of_ble_eq_true rfl) ⟨(Nat.le_of_ble_eq_true rfl), (Nat.le_of_ble_eq_true rfl)⟩ (RLg.go (fun r3 S1 q2 => ?_))
  rw [q2.2]
  refine V_lret 8 dX8_valueAt_8 rfl (Nat.le_of_ble_eq_true rfl) (Nat.le_of_ble_eq_true rfl) (RLg.mk FZ.rf)
set_option maxRecDepth 100000 in
set_option maxHeartbeats 8000000 in
theorem s_intAt (l : Launch) (Γ : GC) (S : PS) {t : Nat} (F : isL lyTape Γ.2.2.2.2.1 S t) (x : Int32) : CT l Γ yX8_intAt cX8_intAt 2 (some .int) (1) (0) (0) [.ref t, .int x] S (RI (fun r S' => FZ [] [] S S')) := by
  refine CT.of RX8 "intAt" [some (.ref t), some (.int x)] (by decide +kernel) rfl rfl (Nat.le_of_ble_eq_true rfl) rfl (fun M hM => ?_)
  subst hM
  refine V_aload_0 0 dX8_intAt_0 ?_
  refine V_getR 1 (c := 8) 3 (F.r 0 3 3 rfl) dX8_intAt_1 fl_RX8_18 (F.m 0 (Nat.le_of_ble_eq_true rfl)) (F.k 0 8 rfl) (Nat.le_of_ble_eq_true rfl) (Nat.le_of_ble_eq_true rfl) rfl ?_
  refine V_iload_1 4 dX8_intAt_4 ?_
  refine V_callSN 5 [.ref _, .int _] _ (c_longAt M.2.1 Γ S (a := (t + 3)) (F.m 3 (Nat.le_of_ble_eq_true rfl)) (F.k 3 15 rfl) (by rw [(F.l 3 402 rfl)]; decide) _) dX8_intAt_5 cb_X11_longAt ne_RX8_65 sm_yX11_longAt ⟨(Nat.le_of_ble_eq_true rfl), (Nat.le_of_ble_eq_true rfl)⟩ rfl rfl (Nat.le_of_ble_eq_true rfl) ⟨(Nat.le_of_ble_eq_true rfl), (Nat.le_of_ble_eq_true rfl)⟩ (RLg.go (fun r3 S1 q2 => ?_))
  rw [q2.2]
  refine V_l2i 8 dX8_intAt_8 ?_
  refine V_iret 9 .int dX8_intAt_9 rfl rfl (Nat.le_of_ble_eq_true rfl) (Nat.le_of_ble_eq_true rfl) (RI.mk FZ.rf)
set_option maxRecDepth 100000 in
set_option maxHeartbeats 8000000 in
theorem s_startAt (l : Launch) (Γ : GC) (S : PS) {t : Nat} (F : isL lyTape Γ.2.2.2.2.1 S t) (x : Int32) : CT l Γ yX8_startAt cX8_startAt 2 (some .int) (1) (0) (0) [.ref t, .int x] S (RI (fun r S' => FZ [] [] S S')) := by
  refine CT.of RX8 "startAt" [some (.ref t), some (.int x)] (by decide +kernel) rfl rfl (Nat.le_of_ble_eq_true rfl) rfl (fun M hM => ?_)
  subst hM
  refine V_aload_0 0 dX8_startAt_0 ?_
  refine V_getR 1 (c := 8) 4 (F.r 0 4 4 rfl) dX8_startAt_1 fl_RX8_22 (F.m 0 (Nat.le_of_ble_eq_true rfl)) (F.k 0 8 rfl) (Nat.le_of_ble_eq_true rfl) (Nat.le_of_ble_eq_true rfl) rfl ?_
  refine V_iload_1 4 dX8_startAt_4 ?_
  refine V_callSN 5 [.ref _, .int _] _ (c_at M.2.1 Γ S (a := (t + 4)) (F.m 4 (Nat.le_of_ble_eq_true rfl)) (F.k 4 14 rfl) (by rw [(F.l 4 402 rfl)]; decide) _) dX8_startAt_5 cb_X11_at ne_RX8_69 sm_yX11_at ⟨(Nat.le_of_ble_eq_true rfl), (Nat.le_of_ble_eq_true rfl)⟩ rfl rfl (Nat.le_of_ble_eq_true rfl) ⟨(Nat.le_of_ble_eq_true rfl), (Nat.le_of_ble_eq_true rfl)⟩ (RI.go (fun r3 S1 q2 => ?_))
  rw [q2.2]
  refine V_iret 8 .int dX8_startAt_8 rfl rfl (Nat.le_of_ble_eq_true rfl) (Nat.le_of_ble_eq_true rfl) (RI.mk FZ.rf)
set_option maxRecDepth 100000 in
set_option maxHeartbeats 8000000 in
theorem s_withLetter (l : Launch) (Γ : GC) (S : PS) (x : Int64) (y : Int32) : CT l Γ yX8_withLetter cX8_withLetter 3 (some .long) (0) (0) (0) [.long x, .int y] S (RLg (fun r S' => FZ [] [] S S')) := by
  refine CT.of RX8 "withLetter" [some (.long x), none, some (.int y)] (by decide +kernel) rfl rfl (Nat.le_of_ble_eq_true rfl) rfl (fun M hM => ?_)
  subst hM
  refine V_ldc2_w 0 dX8_withLetter_0 kL_RX8_96 ?_
  refine V_lload_0 3 dX8_withLetter_3 ?_
  refine V_lmul 4 dX8_withLetter_4 ?_
  refine V_iload_2 5 dX8_withLetter_5 ?_
  refine V_i2l 6 dX8_withLetter_6 ?_
  refine V_ladd 7 dX8_withLetter_7 ?_
  refine V_ldc2_w 8 dX8_withLetter_8 kL_RX8_98 ?_
  refine V_lsub 11 dX8_withLetter_11 ?_
  refine V_lconst 12 1 dX8_withLetter_12 (by decide) ?_
  refine V_ladd 13 dX8_withLetter_13 ?_
  refine V_lret 14 dX8_withLetter_14 rfl (Nat.le_of_ble_eq_true rfl) (Nat.le_of_ble_eq_true rfl) (RLg.mk FZ.rf)
set_option maxRecDepth 100000 in
set_option maxHeartbeats 8000000 in
theorem s_typeOfLetters (l : Launch) (Γ : GC) (S : PS) {t : Nat} (F : isL lyTape Γ.2.2.2.2.1 S t) (x : Int64) : CT l Γ yX8_typeOfLetters cX8_typeOfLetters 4 (some .int) (0) (0) (0) [.ref t, .long x] S (RI (fun r S' => FZ [] [] S S')) := by
  refine CT.of RX8 "typeOfLetters" [some (.ref t), some (.long x), none, none] (by decide +kernel) rfl rfl (Nat.le_of_ble_eq_true rfl) rfl (fun M hM => ?_)
  subst hM
  refine V_iconst 0 (0) dX8_typeOfLetters_0 (by decide) ?_
  refine V_istore_3 1 dX8_typeOfLetters_1 rfl (Nat.le_of_ble_eq_true rfl) ?_
  refine V_lvw (by repeat (first | exact trivial | refine ⟨rfl, ?_⟩)) (V_while (α := Nat × PS) (fun z1 => 22 - z1.1) (fun z1 => z1.1 ≤ 22 ∧ FZ [] [] S z1.2) (fun z1 => z1.2) (fun z1 => [some (.ref t), some (.long x), none, some (.int (nI z1.1))]) (0, _) ⟨Nat.zero_le _, FZ.rf⟩ (fun z1 hx7 ih6 => ?b8))
  obtain ⟨i2, S3⟩ := z1
  obtain ⟨hi4, h5⟩ := hx7
  dsimp only at hi4 h5 ih6 ⊢
  refine V_iload_3 2 dX8_typeOfLetters_2 ?_
  refine V_aload_0 3 dX8_typeOfLetters_3 ?_
  refine V_getR 4 (c := 8) 6 ((F.ss h5.1).r 0 6 5 rfl) dX8_typeOfLetters_4 fl_RX8_25 ((F.ss h5.1).m 0 (Nat.le_of_ble_eq_true rfl)) ((F.ss h5.1).k 0 8 rfl) (Nat.le_of_ble_eq_true rfl) (Nat.le_of_ble_eq_true rfl) rfl ?_
  refine V_alen2 7 dX8_typeOfLetters_7 ((F.ss h5.1).m 5 (Nat.le_of_ble_eq_true rfl)) ((F.ss h5.1).k 5 15 rfl) (Nat.le_of_ble_eq_true rfl) (Nat.le_of_ble_eq_true rfl) ((F.ss h5.1).l 5 22 rfl) ?_
  refine V_icmp_ge 8 34 dX8_typeOfLetters_8 (by decide) (fun c10 => ?_) (fun c10 => ?_)
  ·
    refine V_iconst 34 (1) dX8_typeOfLetters_34 (by decide) ?_
    refine V_iret 35 .int dX8_typeOfLetters_35 rfl rfl (Nat.le_of_ble_eq_true rfl) (Nat.le_of_ble_eq_true rfl) (RI.mk h5)
  ·
    have lt11 := nI_lt8 (by decide) hi4 c10
    refine V_aload_0 11 dX8_typeOfLetters_11 ?_
    refine V_getR 12 (c := 8) 6 ((F.ss h5.1).r 0 6 5 rfl) dX8_typeOfLetters_12 fl_RX8_25 ((F.ss h5.1).m 0 (Nat.le_of_ble_eq_true rfl)) ((F.ss h5.1).k 0 8 rfl) (Nat.le_of_ble_eq_true rfl) (Nat.le_of_ble_eq_true rfl) rfl ?_
    refine V_iload_3 15 dX8_typeOfLetters_15 ?_
    refine V_laload2 16 dX8_typeOfLetters_16 ((F.ss h5.1).m 5 (Nat.le_of_ble_eq_true rfl)) ((F.ss h5.1).k 5 15 rfl) ((F.ss h5.1).l 5 22 rfl) ?_ ?_
    · exact vp_in_nI (by omega) (by decide)
    refine V_lload_1 17 dX8_typeOfLetters_17 ?_
    refine V_lcmp 18 dX8_typeOfLetters_18 ?_
    refine V_if_ne 19 28 dX8_typeOfLetters_19 (by decide) (fun c12 => ?_) (fun c12 => ?_)
    ·
      refine V_iinc_3 28 (1) dX8_typeOfLetters_28 (by decide) rfl (Nat.le_of_ble_eq_true rfl) ?_
      refine V_goto 31 2 dX8_typeOfLetters_31 (by decide) ?_
      rw [← nI_succ]
      refine V_lvw (by repeat (first | exact trivial | refine ⟨rfl, ?_⟩)) (ih6 (i2 + 1, _) ⟨by dsimp only; omega, h5⟩ (by dsimp only; omega))
    ·
      refine V_sipush 22 (128) dX8_typeOfLetters_22 (by decide) ?_
      refine V_iload_3 25 dX8_typeOfLetters_25 ?_
      refine V_iadd 26 dX8_typeOfLetters_26 ?_
      refine V_iret 27 .int dX8_typeOfLetters_27 rfl rfl (Nat.le_of_ble_eq_true rfl) (Nat.le_of_ble_eq_true rfl) (RI.mk h5)
set_option maxRecDepth 100000 in
set_option maxHeartbeats 8000000 in
theorem s_afterBlanks (l : Launch) (Γ : GC) (S : PS) {t : Nat} (F : isL lyTape Γ.2.2.2.2.1 S t) (x : Int32) : CT l Γ yX8_afterBlanks cX8_afterBlanks 3 (some .int) (1) (0) (0) [.ref t, .int x] S (RI (fun r S' => FZ [] [] S S')) := by
  refine CT.of RX8 "afterBlanks" [some (.ref t), some (.int x), none] (by decide +kernel) rfl rfl (Nat.le_of_ble_eq_true rfl) rfl (fun M hM => ?_)
  subst hM
  have J3 : ∀ (S1 : PS) (x4 : Int32), FZ [] [] S S1 → V M Γ (3, RX8, "afterBlanks", (some .int), RM (1) (0) (0)) cX8_afterBlanks (RQ M Γ (RI (fun r S' => FZ [] [] S S')) (0) (0)) 0 0 S1 30 [some (.ref t), some (.int x), some (.int x4)] [] := by
    intro S1 x4 h2
    refine V_iload_2 30 dX8_afterBlanks_30 ?_
    refine V_iret 31 .int dX8_afterBlanks_31 rfl rfl (Nat.le_of_ble_eq_true rfl) (Nat.le_of_ble_eq_true rfl) (RI.mk h2)
  refine V_iload_1 0 dX8_afterBlanks_0 ?_
  refine V_istore_2 1 dX8_afterBlanks_1 rfl (Nat.le_of_ble_eq_true rfl) ?_
  refine V_lvw (by repeat (first | exact trivial | refine ⟨rfl, ?_⟩)) (V_while (α := Int32 × PS) (fun z5 => ((sI S t 1).toInt - z5.1.toInt).toNat) (fun z5 => FZ [] [] S z5.2) (fun z5 => z5.2) (fun z5 => [some (.ref t), some (.int x), some (.int z5.1)]) (_, _) (FZ.rf) (fun z5 h9 ih10 => ?b12))
  obtain ⟨i6, S7⟩ := z5
  dsimp only at h9 ih10 ⊢
  refine V_iload_2 2 dX8_afterBlanks_2 ?_
  refine V_aload_0 3 dX8_afterBlanks_3 ?_
  refine V_getI 4 (c := 8) 1 dX8_afterBlanks_4 fl_RX8_44 ((F.ss h9.1).m 0 (Nat.le_of_ble_eq_true rfl)) ((F.ss h9.1).k 0 8 rfl) (Nat.le_of_ble_eq_true rfl) (Nat.le_of_ble_eq_true rfl) rfl ?_
  refine V_icmp_ge 7 30 dX8_afterBlanks_7 (by decide) (fun c14 => ?_) (fun c14 => ?_)
  ·
    refine V_lvw (by repeat (first | exact trivial | refine ⟨rfl, ?_⟩)) (J3 _ _ h9)
  ·
    refine V_aload_0 10 dX8_afterBlanks_10 ?_
    refine V_getR 11 (c := 8) 0 ((F.ss h9.1).r 0 0 1 rfl) dX8_afterBlanks_11 fl_RX8_9 ((F.ss h9.1).m 0 (Nat.le_of_ble_eq_true rfl)) ((F.ss h9.1).k 0 8 rfl) (Nat.le_of_ble_eq_true rfl) (Nat.le_of_ble_eq_true rfl) rfl ?_
    refine V_iload_2 14 dX8_afterBlanks_14 ?_
    refine V_callSN 15 [.ref _, .int _] _ (c_at M.2.1 Γ S7 (a := (t + 1)) ((F.ss h9.1).m 1 (Nat.le_of_ble_eq_true rfl)) ((F.ss h9.1).k 1 14 rfl) (by rw [((F.ss h9.1).l 1 2000 rfl)]; decide) _) dX8_afterBlanks_15 cb_X11_at ne_RX8_69 sm_yX11_at ⟨(Nat.le_of_ble_eq_true rfl), (Nat.le_of_ble_eq_true rfl)⟩ rfl rfl (Nat.le_of_ble_eq_true rfl) ⟨(Nat.le_of_ble_eq_true rfl), (Nat.le_of_ble_eq_true rfl)⟩ (RI.go (fun r18 S16 q17 => ?_))
    rw [q17.2]
    refine V_callS 18 [.int _] _ (s_isBlank M.2.1 Γ S7 _) dX8_afterBlanks_18 cb_X8_isBlank ml_RX8_73 sm_yX8_isBlank ⟨(Nat.le_of_ble_eq_true rfl), (Nat.le_of_ble_eq_true rfl)⟩ rfl rfl (Nat.le_of_ble_eq_true rfl) ⟨(Nat.le_of_ble_eq_true rfl), (Nat.le_of_ble_eq_true rfl)⟩ (RI.go (fun r21 S19 q20 => ?_))
    have h22 : FZ [] [] S S19 := h9.tr (q20.2.sub (by simp) (by simp))
    refine V_if_eq 21 30 dX8_afterBlanks_21 (by decide) (fun c23 => ?_) (fun c23 => ?_)
    ·
      refine V_lvw (by repeat (first | exact trivial | refine ⟨rfl, ?_⟩)) (J3 _ _ h22)
    ·
      refine V_iinc_2 24 (1) dX8_afterBlanks_24 (by decide) rfl (Nat.le_of_ble_eq_true rfl) ?_
      refine V_goto 27 2 dX8_afterBlanks_27 (by decide) ?_
      refine V_lvw (by repeat (first | exact trivial | refine ⟨rfl, ?_⟩)) (ih10 (_, _) (h22) (up32 (by first | assumption | (rw [← h9.2.2 t 1 (by simp)]; assumption))))

