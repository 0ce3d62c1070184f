def setJ (S : PS) (a : Nat) (g : Nat → Int64) : PS := (sN S, sK S, sR S, sL S, sP S, sI S, sA S, va_up (sJ S) a g)
theorem setJ_id (S : PS) (a : Nat) : setJ S a (sJ S a) = S := by
  have e : va_up (sJ S) a (sJ S a) = sJ S := by
    funext b; by_cases h : b = a
    · subst h; exact va_up_self _ _ _
    · exact va_up_ne _ _ h
  unfold setJ; rw [e]; rfl
theorem uJ_setJ (S : PS) (a : Nat) (g : Nat → Int64) (i : Nat) (v : Int64) : uJ (setJ S a g) a i v = setJ S a (fun j => if j = i then v else g j) := by
  have e : up2 (va_up (sJ S) a g) a i v = va_up (sJ S) a (fun j => if j = i then v else g j) := by
    funext b j
    unfold up2
    by_cases h : b = a
    · subst h; rw [va_up_self, va_up_self]; simp
    · rw [va_up_ne _ _ h, va_up_ne _ _ h]; simp [h]
  show ((sN S, sK S, sR S, sL S, sP S, sI S, sA S, up2 (va_up (sJ S) a g) a i v) : PS) = _
  rw [e]; rfl
theorem eqA_setJ {S : PS} {a b : Nat} {g : Nat → Int64} (h : b ≠ a) : eqA S (setJ S a g) b := ⟨rfl, rfl, rfl, rfl, rfl, rfl, va_up_ne _ _ h⟩
theorem NEWO.setJ {ly : LAY} {lo : Nat} {S : PS} {h : Nat} {S' : PS} {a : Nat} {g : Nat → Int64} (hN : NEWO ly lo S h S') (h1 : h ≤ a) (h2 : a < a + 1) : NEWO ly lo S h (setJ S' a g) := ⟨hN.1, fun b hb => (hN.2.1 b hb).tr (eqA_setJ (by omega)), hN.2.2.1, hN.2.2.2.1, hN.2.2.2.2⟩
set_option maxRecDepth 100000 in
set_option maxHeartbeats 8000000 in
theorem c_X8_withLetter (l : Launch) (Γ : GC) (S : PS) (x : Int64) (y : Int32) : CT l Γ yX8_withLetter cX8_withLetter 3 (some .long) (0) (0) (0) [.long x, .int y] S (RLg (fun r S' => S' = S)) := by
  refine CT.of RX8 "withLetter" [some (.long x), none, some (.int y)] (by decide +kernel) rfl rfl (Nat.le_of_ble_eq_true rfl) rfl (fun M hM => ?_)
  subst hM
  refine V_ldc2_w 0 dX8_withLetter_0 kL_RX8_96 ?_
  refine V_lload_0 3 dX8_withLetter_3 ?_
  refine V_lmul 4 dX8_withLetter_4 ?_
  refine V_iload_2 5 dX8_withLetter_5 ?_
  refine V_i2l 6 dX8_withLetter_6 ?_
  refine V_ladd 7 dX8_withLetter_7 ?_
  refine V_ldc2_w 8 dX8_withLetter_8 kL_RX8_98 ?_
  refine V_lsub 11 dX8_withLetter_11 ?_
  refine V_lconst 12 1 dX8_withLetter_12 (by decide) ?_
  refine V_ladd 13 dX8_withLetter_13 ?_
  refine V_lret 14 dX8_withLetter_14 rfl (Nat.le_of_ble_eq_true rfl) (Nat.le_of_ble_eq_true rfl) (RLg.mk rfl)
/-! constructors of the objects that hold others -/
set_option maxRecDepth 100000 in
set_option maxHeartbeats 8000000 in
theorem c_X8_init (l : Launch) (Γ : GC) (S : PS) {h : Nat} (hw : Γ.2.2.2.2.2.1 = Γ.2.2.2.2.1) (hh : Γ.2.2.2.2.1 + sN S = h + 1) (hlo : Γ.2.2.2.2.1 ≤ h) (hk : sK S h = 8) (h0 : sI S h = fun _ => 0) : CT l Γ yX8_init cX8_init 4 none (4) (5) (3228) [.ref h] S (RV (fun S' => NEWO lyTape Γ.2.2.2.2.1 S h S' ∧ sI S' h = (fun _ => 0))) := by
  refine CT.of RX8 "<init>" [some (.ref h), none, none, none] (by decide +kernel) rfl rfl (Nat.le_of_ble_eq_true rfl) rfl (fun M hM => ?_)
  subst hM
  have B0 : BLD lyTape 1 [] Γ.2.2.2.2.1 S h S := BLD.one hh hlo (by rw [hk]; rfl) (by rw [hk]; decide)
  have hb := hh
  have hI : sI S h = fun _ => 0 := h0
  refine V_aload_0 0 dX8_init_0 ?_
  refine V_objInit 1 dX8_init_1 ml_RX8_3 ⟨(Nat.le_of_ble_eq_true rfl), (Nat.le_of_ble_eq_true rfl)⟩ ?_
  refine V_aload_0 4 dX8_init_4 ?_
  refine V_sipush 5 (2000) dX8_init_5 (by decide) ?_
  refine V_newarray 8 14 2000 (Or.inr (Or.inl ⟨rfl, rfl⟩)) dX8_init_8 ac_int (by decide) (by decide) (Nat.le_of_ble_eq_true rfl) hw (Nat.le_of_ble_eq_true rfl) (Nat.le_of_ble_eq_true rfl) ?_
  refine V_putF 10 (c := 8) 0 dX8_init_10 fl_RX8_9 (by simp only [PL_mem, sN_uI, sN_uR, sN_uA, sN_uJ, sN_uP, sN_nO, sN_nA]; omega) (by simp (disch := omega) only [sN_uI, sN_uR, sN_uA, sN_uJ, sN_uP, sN_nO, sN_nA, sK_uI, sK_uR, sK_uA, sK_uJ, sK_uP, sK_nO, sK_nA, va_up_ne, hk]) (Nat.le_of_ble_eq_true rfl) (Nat.le_of_ble_eq_true rfl) rfl rfl rfl rfl rfl rfl ?_
  refine V_abs (fun T9 => BLD lyTape 2 [0] Γ.2.2.2.2.1 S h T9 ∧ FR h (h + 1) S T9 ∧ sA T9 (h + 1) = (fun _ => 0) ∧ sP T9 (h + 1) = (fun _ => none)) (bld_arr B0 0 14 2000 rfl rfl) (fun S1 hx => ?_)
  obtain ⟨B1, E, Z, P⟩ := hx
  have hk := (show sK S1 h = 8 from by have q := B1.1.2.2.2.2.1; exact (Option.some.inj q).symm)
  have hb := B1.1.2.2.1
  have hIe := E.2
  have hI : sI S1 h = fun _ => 0 := hIe.trans hI
  refine V_aload_0 13 dX8_init_13 ?_
  refine V_sipush 14 (402) dX8_init_14 (by decide) ?_
  refine V_newarray 17 14 402 (Or.inr (Or.inl ⟨rfl, rfl⟩)) dX8_init_17 ac_int (by decide) (by decide) (Nat.le_of_ble_eq_true rfl) hw (Nat.le_of_ble_eq_true rfl) (Nat.le_of_ble_eq_true rfl) ?_
  refine V_putF 19 (c := 8) 2 dX8_init_19 fl_RX8_15 (by simp only [PL_mem, sN_uI, sN_uR, sN_uA, sN_uJ, sN_uP, sN_nO, sN_nA]; omega) (by simp (disch := omega) only [sN_uI, sN_uR, sN_uA, sN_uJ, sN_uP, sN_nO, sN_nA, sK_uI, sK_uR, sK_uA, sK_uJ, sK_uP, sK_nO, sK_nA, va_up_ne, hk]) (Nat.le_of_ble_eq_true rfl) (Nat.le_of_ble_eq_true rfl) rfl rfl rfl rfl rfl rfl ?_
  refine V_abs (fun T9 => BLD lyTape 3 [2, 0] Γ.2.2.2.2.1 S h T9 ∧ FR h (h + 2) S1 T9 ∧ sA T9 (h + 2) = (fun _ => 0) ∧ sP T9 (h + 2) = (fun _ => none)) (bld_arr B1 2 14 402 rfl rfl) (fun S2 hx => ?_)
  obtain ⟨B2, E, Z, P⟩ := hx
  have hk := (show sK S2 h = 8 from by have q := B2.1.2.2.2.2.1; exact (Option.some.inj q).symm)
  have hb := B2.1.2.2.1
  have hIe := E.2
  have hI : sI S2 h = fun _ => 0 := hIe.trans hI
  refine V_aload_0 22 dX8_init_22 ?_
  refine V_sipush 23 (402) dX8_init_23 (by decide) ?_
  refine V_newarray 26 15 402 (Or.inr (Or.inr (Or.inl ⟨rfl, rfl⟩))) dX8_init_26 ac_long (by decide) (by decide) (Nat.le_of_ble_eq_true rfl) hw (Nat.le_of_ble_eq_true rfl) (Nat.le_of_ble_eq_true rfl) ?_
  refine V_putF 28 (c := 8) 3 dX8_init_28 fl_RX8_18 (by simp only [PL_mem, sN_uI, sN_uR, sN_uA, sN_uJ, sN_uP, sN_nO, sN_nA]; omega) (by simp (disch := omega) only [sN_uI, sN_uR, sN_uA, sN_uJ, sN_uP, sN_nO, sN_nA, sK_uI, sK_uR, sK_uA, sK_uJ, sK_uP, sK_nO, sK_nA, va_up_ne, hk]) (Nat.le_of_ble_eq_true rfl) (Nat.le_of_ble_eq_true rfl) rfl rfl rfl rfl rfl rfl ?_
  refine V_abs (fun T9 => BLD lyTape 4 [3, 2, 0] Γ.2.2.2.2.1 S h T9 ∧ FR h (h + 3) S2 T9 ∧ sA T9 (h + 3) = (fun _ => 0) ∧ sP T9 (h + 3) = (fun _ => none)) (bld_arr B2 3 15 402 rfl rfl) (fun S3 hx => ?_)
  obtain ⟨B3, E, Z, P⟩ := hx
  have hk := (show sK S3 h = 8 from by have q := B3.1.2.2.2.2.1; exact (Option.some.inj q).symm)
  have hb := B3.1.2.2.1
  have hIe := E.2
  have hI : sI S3 h = fun _ => 0 := hIe.trans hI
  refine V_aload_0 31 dX8_init_31 ?_
  refine V_sipush 32 (402) dX8_init_32 (by decide) ?_
  refine V_newarray 35 14 402 (Or.inr (Or.inl ⟨rfl, rfl⟩)) dX8_init_35 ac_int (by decide) (by decide) (Nat.le_of_ble_eq_true rfl) hw (Nat.le_of_ble_eq_true rfl) (Nat.le_of_ble_eq_true rfl) ?_
  refine V_putF 37 (c := 8) 4 dX8_init_37 fl_RX8_22 (by simp only [PL_mem, sN_uI, sN_uR, sN_uA, sN_uJ, sN_uP, sN_nO, sN_nA]; omega) (by simp (disch := omega) only [sN_uI, sN_uR, sN_uA, sN_uJ, sN_uP, sN_nO, sN_nA, sK_uI, sK_uR, sK_uA, sK_uJ, sK_uP, sK_nO, sK_nA, va_up_ne, hk]) (Nat.le_of_ble_eq_true rfl) (Nat.le_of_ble_eq_true rfl) rfl rfl rfl rfl rfl rfl ?_
  refine V_abs (fun T9 => BLD lyTape 5 [4, 3, 2, 0] Γ.2.2.2.2.1 S h T9 ∧ FR h (h + 4) S3 T9 ∧ sA T9 (h + 4) = (fun _ => 0) ∧ sP T9 (h + 4) = (fun _ => none)) (bld_arr B3 4 14 402 rfl rfl) (fun S4 hx => ?_)
  obtain ⟨B4, E, Z, P⟩ := hx
  have hk := (show sK S4 h = 8 from by have q := B4.1.2.2.2.2.1; exact (Option.some.inj q).symm)
  have hb := B4.1.2.2.1
  have hIe := E.2
  have hI : sI S4 h = fun _ => 0 := hIe.trans hI
  refine V_aload_0 40 dX8_init_40 ?_
  refine V_bipush 41 (22) dX8_init_41 (by decide) ?_
  refine V_newarray 43 15 22 (Or.inr (Or.inr (Or.inl ⟨rfl, rfl⟩))) dX8_init_43 ac_long (by decide) (by decide) (Nat.le_of_ble_eq_true rfl) hw (Nat.le_of_ble_eq_true rfl) (Nat.le_of_ble_eq_true rfl) ?_
  refine V_putF 45 (c := 8) 6 dX8_init_45 fl_RX8_25 (by simp only [PL_mem, sN_uI, sN_uR, sN_uA, sN_uJ, sN_uP, sN_nO, sN_nA]; omega) (by simp (disch := omega) only [sN_uI, sN_uR, sN_uA, sN_uJ, sN_uP, sN_nO, sN_nA, sK_uI, sK_uR, sK_uA, sK_uJ, sK_uP, sK_nO, sK_nA, va_up_ne, hk]) (Nat.le_of_ble_eq_true rfl) (Nat.le_of_ble_eq_true rfl) rfl rfl rfl rfl rfl rfl ?_
  refine V_abs (fun T9 => BLD lyTape 6 [6, 4, 3, 2, 0] Γ.2.2.2.2.1 S h T9 ∧ FR h (h + 5) S4 T9 ∧ sA T9 (h + 5) = (fun _ => 0) ∧ sP T9 (h + 5) = (fun _ => none)) (bld_arr B4 6 15 22 rfl rfl) (fun S5 hx => ?_)
  obtain ⟨B5, E, Z, P⟩ := hx
  have hk := (show sK S5 h = 8 from by have q := B5.1.2.2.2.2.1; exact (Option.some.inj q).symm)
  have hb := B5.1.2.2.1
  have hIe := E.2
  have hI : sI S5 h = fun _ => 0 := hIe.trans hI
  have hN : NEWO lyTape Γ.2.2.2.2.1 S h S5 := bld_end B5 rfl (by decide)
  clear B0 B1 B2 B3 B4 E Z P
  have F := hN.2.2
  refine V_iconst 48 (0) dX8_init_48 (by decide) ?_
  refine V_istore_1 49 dX8_init_49 rfl (Nat.le_of_ble_eq_true rfl) ?_
  refine V_iconst 50 (0) dX8_init_50 (by decide) ?_
  refine V_istore_2 51 dX8_init_51 rfl (Nat.le_of_ble_eq_true rfl) ?_
  refine V.to (setJ_id S5 (h + 5)).symm ?_
  refine V_while (α := Nat × Nat × (Nat → Int64) × Option Value) (fun x => 109 - x.1) (fun x => x.1 ≤ 109 ∧ x.2.1 ≤ x.1) (fun x => setJ S5 (h + 5) x.2.2.1) (fun x => [some (.ref h), some (.int (nI x.2.1)), some (.int (nI x.1)), x.2.2.2]) (0, 0, sJ S5 (h + 5), none) ⟨Nat.zero_le _, Nat.le_refl _⟩ (fun x hx ih => ?_)
  obtain ⟨i, w, g, c⟩ := x
  obtain ⟨hi, hwi⟩ := hx
  dsimp only at hi hwi ih ⊢
  refine V_iload_2 52 dX8_init_52 ?_
  refine V_ldcS0 53 dX8_init_53 rfl ?_
  refine V_callVK 55 (by decide) [] _ (c_J0_length M.2.1 Γ _ (n := 0) (by decide)) dX8_init_55 cb_J0_length_8abf5 ml_RX8_30 im_yJ0_length_8abf5 se_yJ0_length_8abf5 ⟨(Nat.le_of_ble_eq_true rfl), (Nat.le_of_ble_eq_true rfl)⟩ rfl rfl (Nat.le_of_ble_eq_true rfl) ⟨(Nat.le_of_ble_eq_true rfl), (Nat.le_of_ble_eq_true rfl)⟩ (RI.go (fun r S1 hq => ?_))
  obtain ⟨rfl, rfl⟩ := hq
  refine V_icmp_ge 58 111 dX8_init_58 (by decide) (fun cc => ?_) (fun cc => ?_)
  ·
    refine V_vret 111 dX8_init_111 rfl (Nat.le_of_ble_eq_true rfl) (Nat.le_of_ble_eq_true rfl) (RV.mk ⟨NEWO.setJ hN (by omega) (by omega), hI⟩)
  ·
    have hi2 : i < 109 := Nat.lt_of_not_le (fun q => cc (nI_le q (by omega)))
    refine V_ldcS0 61 dX8_init_61 rfl ?_
    refine V_iload_2 63 dX8_init_63 ?_
    refine V_callVK 64 (by decide) [.int _] _ (c_J0_charAt M.2.1 Γ _ (n := 0) (by decide) (nI i) (vp_in_nI hi2 (by decide))) dX8_init_64 cb_J0_charAt_5068e ml_RX8_36 im_yJ0_charAt_5068e se_yJ0_charAt_5068e ⟨(Nat.le_of_ble_eq_true rfl), (Nat.le_of_ble_eq_true rfl)⟩ rfl rfl (Nat.le_of_ble_eq_true rfl) ⟨(Nat.le_of_ble_eq_true rfl), (Nat.le_of_ble_eq_true rfl)⟩ (RI.go (fun r S1 hq => ?_))
    subst hq
    refine V_istore_3 67 dX8_init_67 rfl (Nat.le_of_ble_eq_true rfl) ?_
    refine V_iload_3 68 dX8_init_68 ?_
    refine V_bipush 69 (32) dX8_init_69 (by decide) ?_
    refine V_icmp_ne 71 80 dX8_init_71 (by decide) (fun ce => ?_) (fun ce => ?_)
    ·
      refine V_iload_1 80 dX8_init_80 ?_
      refine V_aload_0 81 dX8_init_81 ?_
      refine V_getR 82 (c := 8) 6 (F.r 0 6 5 rfl) dX8_init_82 fl_RX8_25 (F.m 0 (Nat.le_of_ble_eq_true rfl)) (F.k 0 8 rfl) (Nat.le_of_ble_eq_true rfl) (Nat.le_of_ble_eq_true rfl) rfl ?_
      refine V_alen2 85 dX8_init_85 (F.m 5 (Nat.le_of_ble_eq_true rfl)) (F.k 5 15 rfl) (Nat.le_of_ble_eq_true rfl) (Nat.le_of_ble_eq_true rfl) (F.l 5 22 rfl) ?_
      refine V_icmp_ge 86 105 dX8_init_86 (by decide) (fun cw => ?_) (fun cw => ?_)
      ·
        refine V_iinc_2 105 (1) dX8_init_105 (by decide) rfl (Nat.le_of_ble_eq_true rfl) ?_
        refine V_goto 108 52 dX8_init_108 (by decide) ?_
        rw [← nI_succ]
        exact ih (i + 1, w, g, some (.int r)) ⟨by dsimp only; omega, by dsimp only; omega⟩ (by dsimp only; omega)
      ·
        have hw2 : w < 22 := Nat.lt_of_not_le (fun q => cw (nI_le q (by omega)))
        refine V_aload_0 89 dX8_init_89 ?_
        refine V_getR 90 (c := 8) 6 (F.r 0 6 5 rfl) dX8_init_90 fl_RX8_25 (F.m 0 (Nat.le_of_ble_eq_true rfl)) (F.k 0 8 rfl) (Nat.le_of_ble_eq_true rfl) (Nat.le_of_ble_eq_true rfl) rfl ?_
        refine V_iload_1 93 dX8_init_93 ?_
        refine V_aload_0 94 dX8_init_94 ?_
        refine V_getR 95 (c := 8) 6 (F.r 0 6 5 rfl) dX8_init_95 fl_RX8_25 (F.m 0 (Nat.le_of_ble_eq_true rfl)) (F.k 0 8 rfl) (Nat.le_of_ble_eq_true rfl) (Nat.le_of_ble_eq_true rfl) rfl ?_
        refine V_iload_1 98 dX8_init_98 ?_
        refine V_laload2 99 dX8_init_99 (F.m 5 (Nat.le_of_ble_eq_true rfl)) (F.k 5 15 rfl) (F.l 5 22 rfl) ?_ ?_
        · exact vp_in_nI hw2 (by decide)
        refine V_iload_3 100 dX8_init_100 ?_
        refine V_callS 101 [.long _, .int _] _ (c_X8_withLetter M.2.1 Γ _ _ _) dX8_init_101 cb_X8_withLetter ml_RX8_40 sm_yX8_withLetter ⟨(Nat.le_of_ble_eq_true rfl), (Nat.le_of_ble_eq_true rfl)⟩ rfl rfl (Nat.le_of_ble_eq_true rfl) ⟨(Nat.le_of_ble_eq_true rfl), (Nat.le_of_ble_eq_true rfl)⟩ (RLg.go (fun r2 S1 hq => ?_))
        subst hq
        refine V_lastore2 104 dX8_init_104 (F.m 5 (Nat.le_of_ble_eq_true rfl)) (F.k 5 15 rfl) (F.l 5 22 rfl) ?_ ?_
        · exact vp_in_nI hw2 (by decide)
        refine V.to (uJ_setJ _ _ _ _ _) ?_
        refine V_iinc_2 105 (1) dX8_init_105 (by decide) rfl (Nat.le_of_ble_eq_true rfl) ?_
        refine V_goto 108 52 dX8_init_108 (by decide) ?_
        rw [← nI_succ]
        exact ih (i + 1, w, _, some (.int r)) ⟨by dsimp only; omega, by dsimp only; omega⟩ (by dsimp only; omega)
    ·
      refine V_iinc_1 74 (1) dX8_init_74 (by decide) rfl (Nat.le_of_ble_eq_true rfl) ?_
      refine V_goto 77 105 dX8_init_77 (by decide) ?_
      refine V_iinc_2 105 (1) dX8_init_105 (by decide) rfl (Nat.le_of_ble_eq_true rfl) ?_
      refine V_goto 108 52 dX8_init_108 (by decide) ?_
      rw [← nI_succ, ← nI_succ]
      exact ih (i + 1, w + 1, g, some (.int r)) ⟨by dsimp only; omega, by dsimp only; omega⟩ (by dsimp only; omega)
set_option maxRecDepth 100000 in
set_option maxHeartbeats 8000000 in
theorem c_X0_init (l : Launch) (Γ : GC) (S : PS) {h : Nat} (hw : Γ.2.2.2.2.2.1 = Γ.2.2.2.2.1) (hh : Γ.2.2.2.2.1 + sN S = h + 1) (hlo : Γ.2.2.2.2.1 ≤ h) (hk : sK S h = 0) (h0 : sI S h = fun _ => 0) : CT l Γ yX0_init cX0_init 1 none (5) (10) (4067) [.ref h] S (RV (fun S' => NEWO lyGrammar Γ.2.2.2.2.1 S h S' ∧ sI S' (h + 1) = (fun _ => 0))) := by
  refine CT.of RX0 "<init>" [some (.ref h)] (by decide +kernel) rfl rfl (Nat.le_of_ble_eq_true rfl) rfl (fun M hM => ?_)
  subst hM
  have B0 : BLD lyGrammar 1 [] Γ.2.2.2.2.1 S h S := BLD.one hh hlo (by rw [hk]; rfl) (by rw [hk]; decide)
  have hb := hh
  have hI : sI S h = fun _ => 0 := h0
  refine V_aload_0 0 dX0_init_0 ?_
  refine V_objInit 1 dX0_init_1 ml_RX0_3 ⟨(Nat.le_of_ble_eq_true rfl), (Nat.le_of_ble_eq_true rfl)⟩ ?_
  refine V_aload_0 4 dX0_init_4 ?_
  refine V_new 5 8 dX0_init_5 kl_RX0_9 ib_RX8 in_RX8 (Nat.le_of_ble_eq_true rfl) hw (Nat.le_of_ble_eq_true rfl) (Nat.le_of_ble_eq_true rfl) ?_
  refine V_dup 8 dX0_init_8 rfl ?_
  refine V_callI 9 [] _ (c_X8_init M.2.1 Γ (nO S (Γ.2.2.2.2.1 + sN S) 8) (h := (Γ.2.2.2.2.1 + sN S)) hw rfl (Nat.le_add_right _ _) (va_up_self _ _ _) (va_up_self _ _ _)) dX0_init_9 cb_X8_init ml_RX0_11 im_yX8_init rfl ⟨(Nat.le_of_ble_eq_true rfl), (Nat.le_of_ble_eq_true rfl)⟩ rfl rfl (Nat.le_of_ble_eq_true rfl) ⟨(Nat.le_of_ble_eq_true rfl), (Nat.le_of_ble_eq_true rfl)⟩ (RV.go (fun Y1 hq => ?_))
  have hb1 := new_n hq.1 hb
  have hkS := hk
  have hk := ((new_e hq.1 (a := h) (by omega)).1.trans hkS)
  have hbS := hb
  have hb : Γ.2.2.2.2.1 + sN Y1 = h + 7 := hb1
  refine V_putF 12 (c := 0) 0 dX0_init_12 fl_RX0_12 (by simp only [PL_mem, sN_uI, sN_uR, sN_uA, sN_uJ, sN_uP, sN_nO, sN_nA]; omega) (by simp (disch := omega) only [sN_uI, sN_uR, sN_uA, sN_uJ, sN_uP, sN_nO, sN_nA, sK_uI, sK_uR, sK_uA, sK_uJ, sK_uP, sK_nO, sK_nA, va_up_ne, hk]) (Nat.le_of_ble_eq_true rfl) (Nat.le_of_ble_eq_true rfl) rfl rfl rfl rfl rfl rfl ?_
  refine V_abs (fun T9 => BLD lyGrammar 7 [0] Γ.2.2.2.2.1 S h T9 ∧ FR h (h + 1) S T9 ∧ ∀ a, a ≠ h → eqA Y1 T9 a) (bld_obj B0 lyTape 0 8 rfl rfl hq.1) (fun S1 hx => ?_)
  obtain ⟨B1, E, E2⟩ := hx
  have hk := (show sK S1 h = 0 from by have q := B1.1.2.2.2.2.1; exact (Option.some.inj q).symm)
  have hb := B1.1.2.2.1
  have d_tape_0 : sI S1 (h + 1) = (fun _ => 0) := (E2 (h + 1) (by omega)).2.2.1.trans (by have q := hq.2; rw [hbS] at q; exact q)
  have hIe := E.2
  have hI : sI S1 h = fun _ => 0 := hIe.trans hI
  refine V_aload_0 15 dX0_init_15 ?_
  refine V_new 16 2 dX0_init_16 kl_RX0_18 ib_RX2 in_RX2 (Nat.le_of_ble_eq_true rfl) hw (Nat.le_of_ble_eq_true rfl) (Nat.le_of_ble_eq_true rfl) ?_
  refine V_dup 19 dX0_init_19 rfl ?_
  refine V_callIN 20 [] _ (c_X2_init M.2.1 Γ (nO S1 (Γ.2.2.2.2.1 + sN S1) 2) (h := (Γ.2.2.2.2.1 + sN S1)) hw rfl (Nat.le_add_right _ _) (va_up_self _ _ _) (va_up_self _ _ _)) dX0_init_20 cb_X2_init ne_RX0_20 im_yX2_init rfl ⟨(Nat.le_of_ble_eq_true rfl), (Nat.le_of_ble_eq_true rfl)⟩ rfl rfl (Nat.le_of_ble_eq_true rfl) ⟨(Nat.le_of_ble_eq_true rfl), (Nat.le_of_ble_eq_true rfl)⟩ (RV.go (fun Y1 hq => ?_))
  have hb1 := new_n hq.1 hb
  have hkS := hk
  have hk := ((new_e hq.1 (a := h) (by omega)).1.trans hkS)
  have hbS := hb
  have hb : Γ.2.2.2.2.1 + sN Y1 = h + 11 := hb1
  refine V_putF 23 (c := 0) 1 dX0_init_23 fl_RX0_21 (by simp only [PL_mem, sN_uI, sN_uR, sN_uA, sN_uJ, sN_uP, sN_nO, sN_nA]; omega) (by simp (disch := omega) only [sN_uI, sN_uR, sN_uA, sN_uJ, sN_uP, sN_nO, sN_nA, sK_uI, sK_uR, sK_uA, sK_uJ, sK_uP, sK_nO, sK_nA, va_up_ne, hk]) (Nat.le_of_ble_eq_true rfl) (Nat.le_of_ble_eq_true rfl) rfl rfl rfl rfl rfl rfl ?_
  refine V_abs (fun T9 => BLD lyGrammar 11 [1, 0] Γ.2.2.2.2.1 S h T9 ∧ FR h (h + 7) S1 T9 ∧ ∀ a, a ≠ h → eqA Y1 T9 a) (bld_obj B1 lyLaw 1 2 rfl rfl hq.1) (fun S2 hx => ?_)
  obtain ⟨B2, E, E2⟩ := hx
  have hk := (show sK S2 h = 0 from by have q := B2.1.2.2.2.2.1; exact (Option.some.inj q).symm)
  have hb := B2.1.2.2.1
  have d_tape_0 : sI S2 (h + 1) = (fun _ => 0) := (E.1 (h + 1) (by omega) (by omega)).2.2.1.trans d_tape_0
  have hIe := E.2
  have hI : sI S2 h = fun _ => 0 := hIe.trans hI
  have hN : NEWO lyGrammar Γ.2.2.2.2.1 S h S2 := bld_end B2 rfl (by decide)
  refine V_vret 26 dX0_init_26 rfl (Nat.le_of_ble_eq_true rfl) (Nat.le_of_ble_eq_true rfl) (RV.mk ⟨hN, d_tape_0⟩)
set_option maxRecDepth 100000 in
set_option maxHeartbeats 8000000 in
theorem c_X4_init (l : Launch) (Γ : GC) (S : PS) {h : Nat} (hw : Γ.2.2.2.2.2.1 = Γ.2.2.2.2.1) (hh : Γ.2.2.2.2.1 + sN S = h + 1) (hlo : Γ.2.2.2.2.1 ≤ h) (hk : sK S h = 4) (h0 : sI S h = fun _ => 0) : CT l Γ yX4_init cX4_init 1 none (2) (5) (1052) [.ref h] S (RV (fun S' => NEWO lyOdds Γ.2.2.2.2.1 S h S' ∧ True)) := by
  refine CT.of RX4 "<init>" [some (.ref h)] (by decide +kernel) rfl rfl (Nat.le_of_ble_eq_true rfl) rfl (fun M hM => ?_)
  subst hM
  have B0 : BLD lyOdds 1 [] Γ.2.2.2.2.1 S h S := BLD.one hh hlo (by rw [hk]; rfl) (by rw [hk]; decide)
  have hb := hh
  have hI : sI S h = fun _ => 0 := h0
  refine V_aload_0 0 dX4_init_0 ?_
  refine V_objInit 1 dX4_init_1 ml_RX4_3 ⟨(Nat.le_of_ble_eq_true rfl), (Nat.le_of_ble_eq_true rfl)⟩ ?_
  refine V_aload_0 4 dX4_init_4 ?_
  refine V_new 5 1 dX4_init_5 kl_RX4_9 ib_RX1 in_RX1 (Nat.le_of_ble_eq_true rfl) hw (Nat.le_of_ble_eq_true rfl) (Nat.le_of_ble_eq_true rfl) ?_
  refine V_dup 8 dX4_init_8 rfl ?_
  refine V_callIN 9 [] _ (c_X1_init M.2.1 Γ (nO S (Γ.2.2.2.2.1 + sN S) 1) (h := (Γ.2.2.2.2.1 + sN S)) hw rfl (Nat.le_add_right _ _) (va_up_self _ _ _) (va_up_self _ _ _)) dX4_init_9 cb_X1_init ne_RX4_11 im_yX1_init rfl ⟨(Nat.le_of_ble_eq_true rfl), (Nat.le_of_ble_eq_true rfl)⟩ rfl rfl (Nat.le_of_ble_eq_true rfl) ⟨(Nat.le_of_ble_eq_true rfl), (Nat.le_of_ble_eq_true rfl)⟩ (RV.go (fun Y1 hq => ?_))
  have hb1 := new_n hq.1 hb
  have hkS := hk
  have hk := ((new_e hq.1 (a := h) (by omega)).1.trans hkS)
  have hbS := hb
  have hb : Γ.2.2.2.2.1 + sN Y1 = h + 5 := hb1
  refine V_putF 12 (c := 4) 0 dX4_init_12 fl_RX4_12 (by simp only [PL_mem, sN_uI, sN_uR, sN_uA, sN_uJ, sN_uP, sN_nO, sN_nA]; omega) (by simp (disch := omega) only [sN_uI, sN_uR, sN_uA, sN_uJ, sN_uP, sN_nO, sN_nA, sK_uI, sK_uR, sK_uA, sK_uJ, sK_uP, sK_nO, sK_nA, va_up_ne, hk]) (Nat.le_of_ble_eq_true rfl) (Nat.le_of_ble_eq_true rfl) rfl rfl rfl rfl rfl rfl ?_
  refine V_abs (fun T9 => BLD lyOdds 5 [0] Γ.2.2.2.2.1 S h T9 ∧ FR h (h + 1) S T9 ∧ ∀ a, a ≠ h → eqA Y1 T9 a) (bld_obj B0 lyGrid 0 1 rfl rfl hq.1) (fun S1 hx => ?_)
  obtain ⟨B1, E, E2⟩ := hx
  have hk := (show sK S1 h = 4 from by have q := B1.1.2.2.2.2.1; exact (Option.some.inj q).symm)
  have hb := B1.1.2.2.1
  have hIe := E.2
  have hI : sI S1 h = fun _ => 0 := hIe.trans hI
  refine V_aload_0 15 dX4_init_15 ?_
  refine V_sipush 16 (1024) dX4_init_16 (by decide) ?_
  refine V_newarray 19 14 1024 (Or.inr (Or.inl ⟨rfl, rfl⟩)) dX4_init_19 ac_int (by decide) (by decide) (Nat.le_of_ble_eq_true rfl) hw (Nat.le_of_ble_eq_true rfl) (Nat.le_of_ble_eq_true rfl) ?_
  refine V_putF 21 (c := 4) 1 dX4_init_21 fl_RX4_18 (by simp only [PL_mem, sN_uI, sN_uR, sN_uA, sN_uJ, sN_uP, sN_nO, sN_nA]; omega) (by simp (disch := omega) only [sN_uI, sN_uR, sN_uA, sN_uJ, sN_uP, sN_nO, sN_nA, sK_uI, sK_uR, sK_uA, sK_uJ, sK_uP, sK_nO, sK_nA, va_up_ne, hk]) (Nat.le_of_ble_eq_true rfl) (Nat.le_of_ble_eq_true rfl) rfl rfl rfl rfl rfl rfl ?_
  refine V_abs (fun T9 => BLD lyOdds 6 [1, 0] Γ.2.2.2.2.1 S h T9 ∧ FR h (h + 5) S1 T9 ∧ sA T9 (h + 5) = (fun _ => 0) ∧ sP T9 (h + 5) = (fun _ => none)) (bld_arr B1 1 14 1024 rfl rfl) (fun S2 hx => ?_)
  obtain ⟨B2, E, Z, P⟩ := hx
  have hk := (show sK S2 h = 4 from by have q := B2.1.2.2.2.2.1; exact (Option.some.inj q).symm)
  have hb := B2.1.2.2.1
  have hIe := E.2
  have hI : sI S2 h = fun _ => 0 := hIe.trans hI
  have hN : NEWO lyOdds Γ.2.2.2.2.1 S h S2 := bld_end B2 rfl (by decide)
  refine V_vret 24 dX4_init_24 rfl (Nat.le_of_ble_eq_true rfl) (Nat.le_of_ble_eq_true rfl) (RV.mk ⟨hN, trivial⟩)
set_option maxRecDepth 100000 in
set_option maxHeartbeats 8000000 in
theorem c_X3_init (l : Launch) (Γ : GC) (S : PS) {h : Nat} (hw : Γ.2.2.2.2.2.1 = Γ.2.2.2.2.1) (hh : Γ.2.2.2.2.1 + sN S = h + 1) (hlo : Γ.2.2.2.2.1 ≤ h) (hk : sK S h = 3) (h0 : sI S h = fun _ => 0) : CT l Γ yX3_init cX3_init 1 none (1) (7) (469) [.ref h] S (RV (fun S' => NEWO lyLosses Γ.2.2.2.2.1 S h S' ∧ sA S' (h + 3) = (fun _ => 0) ∧ sI S' h 6 = (-1) ∧ ∀ i, i ≠ 6 → sI S' h i = 0)) := by
  refine CT.of RX3 "<init>" [some (.ref h)] (by decide +kernel) rfl rfl (Nat.le_of_ble_eq_true rfl) rfl (fun M hM => ?_)
  subst hM
  have B0 : BLD lyLosses 1 [] Γ.2.2.2.2.1 S h S := BLD.one hh hlo (by rw [hk]; rfl) (by rw [hk]; decide)
  have hb := hh
  have hI : sI S h = fun _ => 0 := h0
  refine V_aload_0 0 dX3_init_0 ?_
  refine V_objInit 1 dX3_init_1 ml_RX3_3 ⟨(Nat.le_of_ble_eq_true rfl), (Nat.le_of_ble_eq_true rfl)⟩ ?_
  refine V_aload_0 4 dX3_init_4 ?_
  refine V_bipush 5 (19) dX3_init_5 (by decide) ?_
  refine V_newarray 7 15 19 (Or.inr (Or.inr (Or.inl ⟨rfl, rfl⟩))) dX3_init_7 ac_long (by decide) (by decide) (Nat.le_of_ble_eq_true rfl) hw (Nat.le_of_ble_eq_true rfl) (Nat.le_of_ble_eq_true rfl) ?_
  refine V_putR 9 (c := 3) 0 dX3_init_9 fl_RX3_9 (by simp only [PL_mem, sN_uI, sN_uR, sN_uA, sN_uJ, sN_uP, sN_nO, sN_nA]; omega) (by simp (disch := omega) only [sN_uI, sN_uR, sN_uA, sN_uJ, sN_uP, sN_nO, sN_nA, sK_uI, sK_uR, sK_uA, sK_uJ, sK_uP, sK_nO, sK_nA, va_up_ne, hk]) (Nat.le_of_ble_eq_true rfl) (Nat.le_of_ble_eq_true rfl) rfl rfl rfl rfl ?_
  refine V_abs (fun T9 => BLD lyLosses 2 [0] Γ.2.2.2.2.1 S h T9 ∧ FR h (h + 1) S T9 ∧ sA T9 (h + 1) = (fun _ => 0) ∧ sP T9 (h + 1) = (fun _ => none)) (bld_arr B0 0 15 19 rfl rfl) (fun S1 hx => ?_)
  obtain ⟨B1, E, Z, P⟩ := hx
  have hk := (show sK S1 h = 3 from by have q := B1.1.2.2.2.2.1; exact (Option.some.inj q).symm)
  have hb := B1.1.2.2.1
  have hIe := E.2
  have hI : sI S1 h = fun _ => 0 := hIe.trans hI
  refine V_aload_0 12 dX3_init_12 ?_
  refine V_bipush 13 (19) dX3_init_13 (by decide) ?_
  refine V_newarray 15 15 19 (Or.inr (Or.inr (Or.inl ⟨rfl, rfl⟩))) dX3_init_15 ac_long (by decide) (by decide) (Nat.le_of_ble_eq_true rfl) hw (Nat.le_of_ble_eq_true rfl) (Nat.le_of_ble_eq_true rfl) ?_
  refine V_putR 17 (c := 3) 1 dX3_init_17 fl_RX3_15 (by simp only [PL_mem, sN_uI, sN_uR, sN_uA, sN_uJ, sN_uP, sN_nO, sN_nA]; omega) (by simp (disch := omega) only [sN_uI, sN_uR, sN_uA, sN_uJ, sN_uP, sN_nO, sN_nA, sK_uI, sK_uR, sK_uA, sK_uJ, sK_uP, sK_nO, sK_nA, va_up_ne, hk]) (Nat.le_of_ble_eq_true rfl) (Nat.le_of_ble_eq_true rfl) rfl rfl rfl rfl ?_
  refine V_abs (fun T9 => BLD lyLosses 3 [1, 0] Γ.2.2.2.2.1 S h T9 ∧ FR h (h + 2) S1 T9 ∧ sA T9 (h + 2) = (fun _ => 0) ∧ sP T9 (h + 2) = (fun _ => none)) (bld_arr B1 1 15 19 rfl rfl) (fun S2 hx => ?_)
  obtain ⟨B2, E, Z, P⟩ := hx
  have hk := (show sK S2 h = 3 from by have q := B2.1.2.2.2.2.1; exact (Option.some.inj q).symm)
  have hb := B2.1.2.2.1
  have hIe := E.2
  have hI : sI S2 h = fun _ => 0 := hIe.trans hI
  refine V_aload_0 20 dX3_init_20 ?_
  refine V_bipush 21 (8) dX3_init_21 (by decide) ?_
  refine V_newarray 23 14 8 (Or.inr (Or.inl ⟨rfl, rfl⟩)) dX3_init_23 ac_int (by decide) (by decide) (Nat.le_of_ble_eq_true rfl) hw (Nat.le_of_ble_eq_true rfl) (Nat.le_of_ble_eq_true rfl) ?_
  refine V_putF 25 (c := 3) 2 dX3_init_25 fl_RX3_18 (by simp only [PL_mem, sN_uI, sN_uR, sN_uA, sN_uJ, sN_uP, sN_nO, sN_nA]; omega) (by simp (disch := omega) only [sN_uI, sN_uR, sN_uA, sN_uJ, sN_uP, sN_nO, sN_nA, sK_uI, sK_uR, sK_uA, sK_uJ, sK_uP, sK_nO, sK_nA, va_up_ne, hk]) (Nat.le_of_ble_eq_true rfl) (Nat.le_of_ble_eq_true rfl) rfl rfl rfl rfl rfl rfl ?_
  refine V_abs (fun T9 => BLD lyLosses 4 [2, 1, 0] Γ.2.2.2.2.1 S h T9 ∧ FR h (h + 3) S2 T9 ∧ sA T9 (h + 3) = (fun _ => 0) ∧ sP T9 (h + 3) = (fun _ => none)) (bld_arr B2 2 14 8 rfl rfl) (fun S3 hx => ?_)
  obtain ⟨B3, E, Z, P⟩ := hx
  have hk := (show sK S3 h = 3 from by have q := B3.1.2.2.2.2.1; exact (Option.some.inj q).symm)
  have hb := B3.1.2.2.1
  have z3 : sA S3 (h + 3) = (fun _ => 0) := Z
  have hIe := E.2
  have hI : sI S3 h = fun _ => 0 := hIe.trans hI
  refine V_aload_0 28 dX3_init_28 ?_
  refine V_bipush 29 (18) dX3_init_29 (by decide) ?_
  refine V_newarray 31 16 18 (Or.inr (Or.inr (Or.inr ⟨rfl, rfl⟩))) dX3_init_31 ac_boolean (by decide) (by decide) (Nat.le_of_ble_eq_true rfl) hw (Nat.le_of_ble_eq_true rfl) (Nat.le_of_ble_eq_true rfl) ?_
  refine V_putF 33 (c := 3) 3 dX3_init_33 fl_RX3_22 (by simp only [PL_mem, sN_uI, sN_uR, sN_uA, sN_uJ, sN_uP, sN_nO, sN_nA]; omega) (by simp (disch := omega) only [sN_uI, sN_uR, sN_uA, sN_uJ, sN_uP, sN_nO, sN_nA, sK_uI, sK_uR, sK_uA, sK_uJ, sK_uP, sK_nO, sK_nA, va_up_ne, hk]) (Nat.le_of_ble_eq_true rfl) (Nat.le_of_ble_eq_true rfl) rfl rfl rfl rfl rfl rfl ?_
  refine V_abs (fun T9 => BLD lyLosses 5 [3, 2, 1, 0] Γ.2.2.2.2.1 S h T9 ∧ FR h (h + 4) S3 T9 ∧ sA T9 (h + 4) = (fun _ => 0) ∧ sP T9 (h + 4) = (fun _ => none)) (bld_arr B3 3 16 18 rfl rfl) (fun S4 hx => ?_)
  obtain ⟨B4, E, Z, P⟩ := hx
  have hk := (show sK S4 h = 3 from by have q := B4.1.2.2.2.2.1; exact (Option.some.inj q).symm)
  have hb := B4.1.2.2.1
  have z3 : sA S4 (h + 3) = (fun _ => 0) := (E.1 (h + 3) (by omega) (by omega)).2.2.2.2.2.1.trans z3
  have hIe := E.2
  have hI : sI S4 h = fun _ => 0 := hIe.trans hI
  refine V_aload_0 36 dX3_init_36 ?_
  refine V_iconst 37 (5) dX3_init_37 (by decide) ?_
  refine V_newarray 38 14 5 (Or.inr (Or.inl ⟨rfl, rfl⟩)) dX3_init_38 ac_int (by decide) (by decide) (Nat.le_of_ble_eq_true rfl) hw (Nat.le_of_ble_eq_true rfl) (Nat.le_of_ble_eq_true rfl) ?_
  refine V_putF 40 (c := 3) 4 dX3_init_40 fl_RX3_26 (by simp only [PL_mem, sN_uI, sN_uR, sN_uA, sN_uJ, sN_uP, sN_nO, sN_nA]; omega) (by simp (disch := omega) only [sN_uI, sN_uR, sN_uA, sN_uJ, sN_uP, sN_nO, sN_nA, sK_uI, sK_uR, sK_uA, sK_uJ, sK_uP, sK_nO, sK_nA, va_up_ne, hk]) (Nat.le_of_ble_eq_true rfl) (Nat.le_of_ble_eq_true rfl) rfl rfl rfl rfl rfl rfl ?_
  refine V_abs (fun T9 => BLD lyLosses 6 [4, 3, 2, 1, 0] Γ.2.2.2.2.1 S h T9 ∧ FR h (h + 5) S4 T9 ∧ sA T9 (h + 5) = (fun _ => 0) ∧ sP T9 (h + 5) = (fun _ => none)) (bld_arr B4 4 14 5 rfl rfl) (fun S5 hx => ?_)
  obtain ⟨B5, E, Z, P⟩ := hx
  have hk := (show sK S5 h = 3 from by have q := B5.1.2.2.2.2.1; exact (Option.some.inj q).symm)
  have hb := B5.1.2.2.1
  have z3 : sA S5 (h + 3) = (fun _ => 0) := (E.1 (h + 3) (by omega) (by omega)).2.2.2.2.2.1.trans z3
  have hIe := E.2
  have hI : sI S5 h = fun _ => 0 := hIe.trans hI
  refine V_aload_0 43 dX3_init_43 ?_
  refine V_iconst 44 (-1) dX3_init_44 (by decide) ?_
  refine V_putI 45 (c := 3) 6 dX3_init_45 fl_RX3_29 (by simp only [PL_mem, sN_uI, sN_uR, sN_uA, sN_uJ, sN_uP, sN_nO, sN_nA]; omega) (by simp (disch := omega) only [sN_uI, sN_uR, sN_uA, sN_uJ, sN_uP, sN_nO, sN_nA, sK_uI, sK_uR, sK_uA, sK_uJ, sK_uP, sK_nO, sK_nA, va_up_ne, hk]) (Nat.le_of_ble_eq_true rfl) (Nat.le_of_ble_eq_true rfl) rfl (Or.inl rfl) ?_
  refine V_abs (fun T9 => BLD lyLosses 6 [4, 3, 2, 1, 0] Γ.2.2.2.2.1 S h T9 ∧ (∀ a, a < h + 6 → a ≠ h → eqA S5 T9 a) ∧ sI T9 h 6 = (-1) ∧ ∀ i, i ≠ 6 → sI T9 h i = sI S5 h i) (bld_int B5 6 (-1)) (fun S6 hx => ?_)
  obtain ⟨B6, E, hI1, hI2⟩ := hx
  have hk := (show sK S6 h = 3 from by have q := B6.1.2.2.2.2.1; exact (Option.some.inj q).symm)
  have hb := B6.1.2.2.1
  have z3 : sA S6 (h + 3) = (fun _ => 0) := (E (h + 3) (by omega) (by omega)).2.2.2.2.2.1.trans z3
  have hI3 : ∀ i, i ≠ 6 → sI S6 h i = 0 := fun i hi => by rw [hI2 i hi, hI]
  refine V_aload_0 48 dX3_init_48 ?_
  refine V_sipush 49 (200) dX3_init_49 (by decide) ?_
  refine V_newarray 52 14 200 (Or.inr (Or.inl ⟨rfl, rfl⟩)) dX3_init_52 ac_int (by decide) (by decide) (Nat.le_of_ble_eq_true rfl) hw (Nat.le_of_ble_eq_true rfl) (Nat.le_of_ble_eq_true rfl) ?_
  refine V_putF 54 (c := 3) 7 dX3_init_54 fl_RX3_33 (by simp only [PL_mem, sN_uI, sN_uR, sN_uA, sN_uJ, sN_uP, sN_nO, sN_nA]; omega) (by simp (disch := omega) only [sN_uI, sN_uR, sN_uA, sN_uJ, sN_uP, sN_nO, sN_nA, sK_uI, sK_uR, sK_uA, sK_uJ, sK_uP, sK_nO, sK_nA, va_up_ne, hk]) (Nat.le_of_ble_eq_true rfl) (Nat.le_of_ble_eq_true rfl) rfl rfl rfl rfl rfl rfl ?_
  refine V_abs (fun T9 => BLD lyLosses 7 [7, 4, 3, 2, 1, 0] Γ.2.2.2.2.1 S h T9 ∧ FR h (h + 6) S6 T9 ∧ sA T9 (h + 6) = (fun _ => 0) ∧ sP T9 (h + 6) = (fun _ => none)) (bld_arr B6 7 14 200 rfl rfl) (fun S7 hx => ?_)
  obtain ⟨B7, E, Z, P⟩ := hx
  have hk := (show sK S7 h = 3 from by have q := B7.1.2.2.2.2.1; exact (Option.some.inj q).symm)
  have hb := B7.1.2.2.1
  have z3 : sA S7 (h + 3) = (fun _ => 0) := (E.1 (h + 3) (by omega) (by omega)).2.2.2.2.2.1.trans z3
  have hIe := E.2
  have hI1 : sI S7 h 6 = (-1) := by rw [hIe]; exact hI1
  have hI3 : ∀ i, i ≠ 6 → sI S7 h i = 0 := fun i hi => by rw [hIe]; exact hI3 i hi
  refine V_aload_0 57 dX3_init_57 ?_
  refine V_sipush 58 (200) dX3_init_58 (by decide) ?_
  refine V_newarray 61 14 200 (Or.inr (Or.inl ⟨rfl, rfl⟩)) dX3_init_61 ac_int (by decide) (by decide) (Nat.le_of_ble_eq_true rfl) hw (Nat.le_of_ble_eq_true rfl) (Nat.le_of_ble_eq_true rfl) ?_
  refine V_putF 63 (c := 3) 8 dX3_init_63 fl_RX3_36 (by simp only [PL_mem, sN_uI, sN_uR, sN_uA, sN_uJ, sN_uP, sN_nO, sN_nA]; omega) (by simp (disch := omega) only [sN_uI, sN_uR, sN_uA, sN_uJ, sN_uP, sN_nO, sN_nA, sK_uI, sK_uR, sK_uA, sK_uJ, sK_uP, sK_nO, sK_nA, va_up_ne, hk]) (Nat.le_of_ble_eq_true rfl) (Nat.le_of_ble_eq_true rfl) rfl rfl rfl rfl rfl rfl ?_
  refine V_abs (fun T9 => BLD lyLosses 8 [8, 7, 4, 3, 2, 1, 0] Γ.2.2.2.2.1 S h T9 ∧ FR h (h + 7) S7 T9 ∧ sA T9 (h + 7) = (fun _ => 0) ∧ sP T9 (h + 7) = (fun _ => none)) (bld_arr B7 8 14 200 rfl rfl) (fun S8 hx => ?_)
  obtain ⟨B8, E, Z, P⟩ := hx
  have hk := (show sK S8 h = 3 from by have q := B8.1.2.2.2.2.1; exact (Option.some.inj q).symm)
  have hb := B8.1.2.2.1
  have z3 : sA S8 (h + 3) = (fun _ => 0) := (E.1 (h + 3) (by omega) (by omega)).2.2.2.2.2.1.trans z3
  have hIe := E.2
  have hI1 : sI S8 h 6 = (-1) := by rw [hIe]; exact hI1
  have hI3 : ∀ i, i ≠ 6 → sI S8 h i = 0 := fun i hi => by rw [hIe]; exact hI3 i hi
  have hN : NEWO lyLosses Γ.2.2.2.2.1 S h S8 := bld_end B8 rfl (by decide)
  refine V_vret 66 dX3_init_66 rfl (Nat.le_of_ble_eq_true rfl) (Nat.le_of_ble_eq_true rfl) (RV.mk ⟨hN, z3, hI1, hI3⟩)
set_option maxRecDepth 100000 in
set_option maxHeartbeats 8000000 in
theorem c_X6_init (l : Launch) (Γ : GC) (S : PS) {h : Nat} (hw : Γ.2.2.2.2.2.1 = Γ.2.2.2.2.1) (hh : Γ.2.2.2.2.1 + sN S = h + 1) (hlo : Γ.2.2.2.2.1 ≤ h) (hk : sK S h = 6) (h0 : sI S h = fun _ => 0) : CT l Γ yX6_init cX6_init 1 none (1) (4) (78) [.ref h] S (RV (fun S' => NEWO lySeen Γ.2.2.2.2.1 S h S' ∧ sI S' h = (fun _ => 0))) := by
  refine CT.of RX6 "<init>" [some (.ref h)] (by decide +kernel) rfl rfl (Nat.le_of_ble_eq_true rfl) rfl (fun M hM => ?_)
  subst hM
  have B0 : BLD lySeen 1 [] Γ.2.2.2.2.1 S h S := BLD.one hh hlo (by rw [hk]; rfl) (by rw [hk]; decide)
  have hb := hh
  have hI : sI S h = fun _ => 0 := h0
  refine V_aload_0 0 dX6_init_0 ?_
  refine V_objInit 1 dX6_init_1 ml_RX6_3 ⟨(Nat.le_of_ble_eq_true rfl), (Nat.le_of_ble_eq_true rfl)⟩ ?_
  refine V_aload_0 4 dX6_init_4 ?_
  refine V_bipush 5 (20) dX6_init_5 (by decide) ?_
  refine V_newarray 7 14 20 (Or.inr (Or.inl ⟨rfl, rfl⟩)) dX6_init_7 ac_int (by decide) (by decide) (Nat.le_of_ble_eq_true rfl) hw (Nat.le_of_ble_eq_true rfl) (Nat.le_of_ble_eq_true rfl) ?_
  refine V_putF 9 (c := 6) 0 dX6_init_9 fl_RX6_11 (by simp only [PL_mem, sN_uI, sN_uR, sN_uA, sN_uJ, sN_uP, sN_nO, sN_nA]; omega) (by simp (disch := omega) only [sN_uI, sN_uR, sN_uA, sN_uJ, sN_uP, sN_nO, sN_nA, sK_uI, sK_uR, sK_uA, sK_uJ, sK_uP, sK_nO, sK_nA, va_up_ne, hk]) (Nat.le_of_ble_eq_true rfl) (Nat.le_of_ble_eq_true rfl) rfl rfl rfl rfl rfl rfl ?_
  refine V_abs (fun T9 => BLD lySeen 2 [0] Γ.2.2.2.2.1 S h T9 ∧ FR h (h + 1) S T9 ∧ sA T9 (h + 1) = (fun _ => 0) ∧ sP T9 (h + 1) = (fun _ => none)) (bld_arr B0 0 14 20 rfl rfl) (fun S1 hx => ?_)
  obtain ⟨B1, E, Z, P⟩ := hx
  have hk := (show sK S1 h = 6 from by have q := B1.1.2.2.2.2.1; exact (Option.some.inj q).symm)
  have hb := B1.1.2.2.1
  have hIe := E.2
  have hI : sI S1 h = fun _ => 0 := hIe.trans hI
  refine V_aload_0 12 dX6_init_12 ?_
  refine V_bipush 13 (20) dX6_init_13 (by decide) ?_
  refine V_newarray 15 14 20 (Or.inr (Or.inl ⟨rfl, rfl⟩)) dX6_init_15 ac_int (by decide) (by decide) (Nat.le_of_ble_eq_true rfl) hw (Nat.le_of_ble_eq_true rfl) (Nat.le_of_ble_eq_true rfl) ?_
  refine V_putF 17 (c := 6) 1 dX6_init_17 fl_RX6_15 (by simp only [PL_mem, sN_uI, sN_uR, sN_uA, sN_uJ, sN_uP, sN_nO, sN_nA]; omega) (by simp (disch := omega) only [sN_uI, sN_uR, sN_uA, sN_uJ, sN_uP, sN_nO, sN_nA, sK_uI, sK_uR, sK_uA, sK_uJ, sK_uP, sK_nO, sK_nA, va_up_ne, hk]) (Nat.le_of_ble_eq_true rfl) (Nat.le_of_ble_eq_true rfl) rfl rfl rfl rfl rfl rfl ?_
  refine V_abs (fun T9 => BLD lySeen 3 [1, 0] Γ.2.2.2.2.1 S h T9 ∧ FR h (h + 2) S1 T9 ∧ sA T9 (h + 2) = (fun _ => 0) ∧ sP T9 (h + 2) = (fun _ => none)) (bld_arr B1 1 14 20 rfl rfl) (fun S2 hx => ?_)
  obtain ⟨B2, E, Z, P⟩ := hx
  have hk := (show sK S2 h = 6 from by have q := B2.1.2.2.2.2.1; exact (Option.some.inj q).symm)
  have hb := B2.1.2.2.1
  have hIe := E.2
  have hI : sI S2 h = fun _ => 0 := hIe.trans hI
  refine V_aload_0 20 dX6_init_20 ?_
  refine V_bipush 21 (19) dX6_init_21 (by decide) ?_
  refine V_newarray 23 15 19 (Or.inr (Or.inr (Or.inl ⟨rfl, rfl⟩))) dX6_init_23 ac_long (by decide) (by decide) (Nat.le_of_ble_eq_true rfl) hw (Nat.le_of_ble_eq_true rfl) (Nat.le_of_ble_eq_true rfl) ?_
  refine V_putR 25 (c := 6) 3 dX6_init_25 fl_RX6_18 (by simp only [PL_mem, sN_uI, sN_uR, sN_uA, sN_uJ, sN_uP, sN_nO, sN_nA]; omega) (by simp (disch := omega) only [sN_uI, sN_uR, sN_uA, sN_uJ, sN_uP, sN_nO, sN_nA, sK_uI, sK_uR, sK_uA, sK_uJ, sK_uP, sK_nO, sK_nA, va_up_ne, hk]) (Nat.le_of_ble_eq_true rfl) (Nat.le_of_ble_eq_true rfl) rfl rfl rfl rfl ?_
  refine V_abs (fun T9 => BLD lySeen 4 [3, 1, 0] Γ.2.2.2.2.1 S h T9 ∧ FR h (h + 3) S2 T9 ∧ sA T9 (h + 3) = (fun _ => 0) ∧ sP T9 (h + 3) = (fun _ => none)) (bld_arr B2 3 15 19 rfl rfl) (fun S3 hx => ?_)
  obtain ⟨B3, E, Z, P⟩ := hx
  have hk := (show sK S3 h = 6 from by have q := B3.1.2.2.2.2.1; exact (Option.some.inj q).symm)
  have hb := B3.1.2.2.1
  have hIe := E.2
  have hI : sI S3 h = fun _ => 0 := hIe.trans hI
  refine V_aload_0 28 dX6_init_28 ?_
  refine V_bipush 29 (19) dX6_init_29 (by decide) ?_
  refine V_newarray 31 15 19 (Or.inr (Or.inr (Or.inl ⟨rfl, rfl⟩))) dX6_init_31 ac_long (by decide) (by decide) (Nat.le_of_ble_eq_true rfl) hw (Nat.le_of_ble_eq_true rfl) (Nat.le_of_ble_eq_true rfl) ?_
  refine V_putR 33 (c := 6) 4 dX6_init_33 fl_RX6_22 (by simp only [PL_mem, sN_uI, sN_uR, sN_uA, sN_uJ, sN_uP, sN_nO, sN_nA]; omega) (by simp (disch := omega) only [sN_uI, sN_uR, sN_uA, sN_uJ, sN_uP, sN_nO, sN_nA, sK_uI, sK_uR, sK_uA, sK_uJ, sK_uP, sK_nO, sK_nA, va_up_ne, hk]) (Nat.le_of_ble_eq_true rfl) (Nat.le_of_ble_eq_true rfl) rfl rfl rfl rfl ?_
  refine V_abs (fun T9 => BLD lySeen 5 [4, 3, 1, 0] Γ.2.2.2.2.1 S h T9 ∧ FR h (h + 4) S3 T9 ∧ sA T9 (h + 4) = (fun _ => 0) ∧ sP T9 (h + 4) = (fun _ => none)) (bld_arr B3 4 15 19 rfl rfl) (fun S4 hx => ?_)
  obtain ⟨B4, E, Z, P⟩ := hx
  have hk := (show sK S4 h = 6 from by have q := B4.1.2.2.2.2.1; exact (Option.some.inj q).symm)
  have hb := B4.1.2.2.1
  have hIe := E.2
  have hI : sI S4 h = fun _ => 0 := hIe.trans hI
  have hN : NEWO lySeen Γ.2.2.2.2.1 S h S4 := bld_end B4 rfl (by decide)
  refine V_vret 36 dX6_init_36 rfl (Nat.le_of_ble_eq_true rfl) (Nat.le_of_ble_eq_true rfl) (RV.mk ⟨hN, hI⟩)

