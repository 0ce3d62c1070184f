/-! Grammar's sides from any ints -/
set_option maxRecDepth 100000 in
set_option maxHeartbeats 8000000 in
theorem s_sides (l : Launch) (Γ : GC) (S : PS) {g : Nat} (F : isL lyGrammar Γ.2.2.2.2.1 S g) : CT l Γ yX0_sides cX0_sides 3 (some .boolean) (2) (0) (0) [.ref g] S (RI (fun r S' => (r = 0 ∨ r = 1) ∧ FZ [g + 8, g + 9] [(g, 2), (g, 3), (g, 4), (g, 5), (g, 6), (g, 7), (g + 7, 2)] S S')) := by
  refine CT.of RX0 "sides" [some (.ref g), none, none] (by decide +kernel) rfl rfl (Nat.le_of_ble_eq_true rfl) rfl (fun M hM => ?_)
  subst hM
  have J3 : ∀ (S1 : PS) (x4 : Int32) (x5 : Int32), FZ [g + 8, g + 9] [(g, 2), (g, 3), (g, 4), (g, 5), (g, 6), (g, 7), (g + 7, 2)] S S1 → (x4 = 0 ∨ x4 = 1) → V M Γ (3, RX0, "sides", (some .boolean), RM (2) (0) (0)) cX0_sides (RQ M Γ (RI (fun r S' => (r = 0 ∨ r = 1) ∧ FZ [g + 8, g + 9] [(g, 2), (g, 3), (g, 4), (g, 5), (g, 6), (g, 7), (g + 7, 2)] S S')) (0) (0)) 0 0 S1 79 [some (.ref g), some (.int x4), some (.int x5)] [] := by
    intro S1 x4 x5 h2 hb_x4
    refine V_iload_1 79 dX0_sides_79 ?_
    refine V_iret 80 .boolean dX0_sides_80 rfl (nrwB hb_x4) (Nat.le_of_ble_eq_true rfl) (Nat.le_of_ble_eq_true rfl) (RI.mk ⟨hb_x4, h2⟩)
  refine V_iconst 0 (1) dX0_sides_0 (by decide) ?_
  refine V_istore_1 1 dX0_sides_1 rfl (Nat.le_of_ble_eq_true rfl) ?_
  refine V_iconst 2 (0) dX0_sides_2 (by decide) ?_
  refine V_istore_2 3 dX0_sides_3 rfl (Nat.le_of_ble_eq_true rfl) ?_
  refine V_lvw (by repeat (first | exact trivial | refine ⟨rfl, ?_⟩)) (V_while (α := Nat × PS × Int32) (fun z6 => 401 - z6.1) (fun z6 => z6.1 ≤ 401 ∧ FZ [g + 8, g + 9] [(g, 2), (g, 3), (g, 4), (g, 5), (g, 6), (g, 7), (g + 7, 2)] S z6.2.1 ∧ (z6.2.2 = 0 ∨ z6.2.2 = 1)) (fun z6 => z6.2.1) (fun z6 => [some (.ref g), some (.int z6.2.2), some (.int (nI z6.1))]) (0, _, _) ⟨Nat.zero_le _, FZ.rf, (Or.inr rfl)⟩ (fun z6 hx13 ih11 => ?b14))
  obtain ⟨i7, S8, w12⟩ := z6
  obtain ⟨hi9, h10, hb16⟩ := hx13
  dsimp only at hi9 h10 hb16 ih11 ⊢
  have J19 : ∀ (S17 : PS) (x20 : Int32), FZ [g + 8, g + 9] [(g, 2), (g, 3), (g, 4), (g, 5), (g, 6), (g, 7), (g + 7, 2)] S S17 → i7 < 401 → (x20 = 0 ∨ x20 = 1) → V M Γ (3, RX0, "sides", (some .boolean), RM (2) (0) (0)) cX0_sides (RQ M Γ (RI (fun r S' => (r = 0 ∨ r = 1) ∧ FZ [g + 8, g + 9] [(g, 2), (g, 3), (g, 4), (g, 5), (g, 6), (g, 7), (g + 7, 2)] S S')) (0) (0)) 0 0 S17 71 [some (.ref g), some (.int x20), some (.int (nI i7))] [] := by
    intro S17 x20 h18 lt21 hb_x20
    refine V_iconst 71 (0) dX0_sides_71 (by decide) ?_
    refine V_istore_1 72 dX0_sides_72 rfl (Nat.le_of_ble_eq_true rfl) ?_
    refine V_iinc_2 73 (1) dX0_sides_73 (by decide) rfl (Nat.le_of_ble_eq_true rfl) ?_
    refine V_goto 76 4 dX0_sides_76 (by decide) ?_
    rw [← nI_succ]
    refine V_lvw (by repeat (first | exact trivial | refine ⟨rfl, ?_⟩)) (ih11 (i7 + 1, _, _) ⟨by dsimp only; omega, h18, (Or.inl rfl)⟩ (by dsimp only; omega))
  have J24 : ∀ (S22 : PS) (x25 : Int32), FZ [g + 8, g + 9] [(g, 2), (g, 3), (g, 4), (g, 5), (g, 6), (g, 7), (g + 7, 2)] S S22 → i7 < 401 → (x25 = 0 ∨ x25 = 1) → V M Γ (3, RX0, "sides", (some .boolean), RM (2) (0) (0)) cX0_sides (RQ M Γ (RI (fun r S' => (r = 0 ∨ r = 1) ∧ FZ [g + 8, g + 9] [(g, 2), (g, 3), (g, 4), (g, 5), (g, 6), (g, 7), (g + 7, 2)] S S')) (0) (0)) 0 0 S22 33 [some (.ref g), some (.int x25), some (.int (nI i7))] [] := by
    intro S22 x25 h23 lt26 hb_x25
    refine V_aload_0 33 dX0_sides_33 ?_
    refine V_getI 34 (c := 0) 3 dX0_sides_34 fl_RX0_36 ((F.ss h23.1).m 0 (Nat.le_of_ble_eq_true rfl)) ((F.ss h23.1).k 0 0 rfl) (Nat.le_of_ble_eq_true rfl) (Nat.le_of_ble_eq_true rfl) rfl ?_
    refine V_iconst 37 (1) dX0_sides_37 (by decide) ?_
    refine V_icmp_ne 38 49 dX0_sides_38 (by decide) (fun c27 => ?_) (fun c27 => ?_)
    ·
      refine V_aload_0 49 dX0_sides_49 ?_
      refine V_sipush 50 (139) dX0_sides_50 (by decide) ?_
      refine V_callV 53 (ci := 0) [.int _] _ (s_step M.2.1 Γ S22 (F.ss h23.1) _) dX0_sides_53 cb_X0_step ml_RX0_51 im_yX0_step se_yX0_step ((F.ss h23.1).m 0 (Nat.le_of_ble_eq_true rfl)) ((F.ss h23.1).k 0 0 rfl) (Nat.le_of_ble_eq_true rfl) ⟨(Nat.le_of_ble_eq_true rfl), (Nat.le_of_ble_eq_true rfl)⟩ rfl rfl (Nat.le_of_ble_eq_true rfl) ⟨(Nat.le_of_ble_eq_true rfl), (Nat.le_of_ble_eq_true rfl)⟩ (RI.go (fun r30 S28 q29 => ?_))
      have h31 : FZ [g + 8, g + 9] [(g, 2), (g, 3), (g, 4), (g, 5), (g, 6), (g, 7), (g + 7, 2)] S S28 := h23.tr (q29.2.sub (by simp) (by simp))
      refine V_if_eq 56 71 dX0_sides_56 (by decide) (fun c32 => ?_) (fun c32 => ?_)
      ·
        refine V_lvw (by repeat (first | exact trivial | refine ⟨rfl, ?_⟩)) (J19 _ _ h31 (by first | omega | assumption) hb_x25)
      ·
        refine V_aload_0 59 dX0_sides_59 ?_
        refine V_iconst 60 (1) dX0_sides_60 (by decide) ?_
        refine V_callV 61 (ci := 0) [.int _] _ (s_step M.2.1 Γ S28 (F.ss h31.1) _) dX0_sides_61 cb_X0_step ml_RX0_51 im_yX0_step se_yX0_step ((F.ss h31.1).m 0 (Nat.le_of_ble_eq_true rfl)) ((F.ss h31.1).k 0 0 rfl) (Nat.le_of_ble_eq_true rfl) ⟨(Nat.le_of_ble_eq_true rfl), (Nat.le_of_ble_eq_true rfl)⟩ rfl rfl (Nat.le_of_ble_eq_true rfl) ⟨(Nat.le_of_ble_eq_true rfl), (Nat.le_of_ble_eq_true rfl)⟩ (RI.go (fun r36 S34 q35 => ?_))
        have h37 : FZ [g + 8, g + 9] [(g, 2), (g, 3), (g, 4), (g, 5), (g, 6), (g, 7), (g + 7, 2)] S S34 := h31.tr (q35.2.sub (by simp) (by simp))
        refine V_if_eq 64 71 dX0_sides_64 (by decide) (fun c38 => ?_) (fun c38 => ?_)
        ·
          refine V_lvw (by repeat (first | exact trivial | refine ⟨rfl, ?_⟩)) (J19 _ _ h37 (by first | omega | assumption) hb_x25)
        ·
          refine V_iconst 67 (1) dX0_sides_67 (by decide) ?_
          refine V_goto 68 72 dX0_sides_68 (by decide) ?_
          refine V_istore_1 72 dX0_sides_72 rfl (Nat.le_of_ble_eq_true rfl) ?_
          refine V_iinc_2 73 (1) dX0_sides_73 (by decide) rfl (Nat.le_of_ble_eq_true rfl) ?_
          refine V_goto 76 4 dX0_sides_76 (by decide) ?_
          rw [← nI_succ]
          refine V_lvw (by repeat (first | exact trivial | refine ⟨rfl, ?_⟩)) (ih11 (i7 + 1, _, _) ⟨by dsimp only; omega, h37, (Or.inr rfl)⟩ (by dsimp only; omega))
    ·
      refine V_aload_0 41 dX0_sides_41 ?_
      refine V_iconst 42 (1) dX0_sides_42 (by decide) ?_
      refine V_callV 43 (ci := 0) [.int _] _ (s_step M.2.1 Γ S22 (F.ss h23.1) _) dX0_sides_43 cb_X0_step ml_RX0_51 im_yX0_step se_yX0_step ((F.ss h23.1).m 0 (Nat.le_of_ble_eq_true rfl)) ((F.ss h23.1).k 0 0 rfl) (Nat.le_of_ble_eq_true rfl) ⟨(Nat.le_of_ble_eq_true rfl), (Nat.le_of_ble_eq_true rfl)⟩ rfl rfl (Nat.le_of_ble_eq_true rfl) ⟨(Nat.le_of_ble_eq_true rfl), (Nat.le_of_ble_eq_true rfl)⟩ (RI.go (fun r42 S40 q41 => ?_))
      have h43 : FZ [g + 8, g + 9] [(g, 2), (g, 3), (g, 4), (g, 5), (g, 6), (g, 7), (g + 7, 2)] S S40 := h23.tr (q41.2.sub (by simp) (by simp))
      refine V_goto 46 72 dX0_sides_46 (by decide) ?_
      refine V_istore_1 72 dX0_sides_72 rfl (Nat.le_of_ble_eq_true rfl) ?_
      refine V_iinc_2 73 (1) dX0_sides_73 (by decide) rfl (Nat.le_of_ble_eq_true rfl) ?_
      refine V_goto 76 4 dX0_sides_76 (by decide) ?_
      rw [← nI_succ]
      refine V_lvw (by repeat (first | exact trivial | refine ⟨rfl, ?_⟩)) (ih11 (i7 + 1, _, _) ⟨by dsimp only; omega, h43, q41.1⟩ (by dsimp only; omega))
  refine V_iload_2 4 dX0_sides_4 ?_
  refine V_sipush 5 (400) dX0_sides_5 (by decide) ?_
  refine V_icmp_gt 8 79 dX0_sides_8 (by decide) (fun c44 => ?_) (fun c44 => ?_)
  ·
    refine V_lvw (by repeat (first | exact trivial | refine ⟨rfl, ?_⟩)) (J3 _ _ _ h10 hb16)
  ·
    have lt46 := nI_ltg (n := 400) (by decide) hi9 c44
    refine V_iload_1 11 dX0_sides_11 ?_
    refine V_if_eq 12 79 dX0_sides_12 (by decide) (fun c47 => ?_) (fun c47 => ?_)
    ·
      refine V_lvw (by repeat (first | exact trivial | refine ⟨rfl, ?_⟩)) (J3 _ _ _ h10 hb16)
    ·
      refine V_aload_0 15 dX0_sides_15 ?_
      refine V_getI 16 (c := 0) 3 dX0_sides_16 fl_RX0_36 ((F.ss h10.1).m 0 (Nat.le_of_ble_eq_true rfl)) ((F.ss h10.1).k 0 0 rfl) (Nat.le_of_ble_eq_true rfl) (Nat.le_of_ble_eq_true rfl) rfl ?_
      refine V_iconst 19 (1) dX0_sides_19 (by decide) ?_
      refine V_icmp_eq 20 33 dX0_sides_20 (by decide) (fun c49 => ?_) (fun c49 => ?_)
      ·
        refine V_lvw (by repeat (first | exact trivial | refine ⟨rfl, ?_⟩)) (J24 _ _ h10 (by first | omega | assumption) hb16)
      ·
        refine V_aload_0 23 dX0_sides_23 ?_
        refine V_getI 24 (c := 0) 3 dX0_sides_24 fl_RX0_36 ((F.ss h10.1).m 0 (Nat.le_of_ble_eq_true rfl)) ((F.ss h10.1).k 0 0 rfl) (Nat.le_of_ble_eq_true rfl) (Nat.le_of_ble_eq_true rfl) rfl ?_
        refine V_sipush 27 (139) dX0_sides_27 (by decide) ?_
        refine V_icmp_ne 30 79 dX0_sides_30 (by decide) (fun c51 => ?_) (fun c51 => ?_)
        ·
          refine V_lvw (by repeat (first | exact trivial | refine ⟨rfl, ?_⟩)) (J3 _ _ _ h10 hb16)
        ·
          refine V_lvw (by repeat (first | exact trivial | refine ⟨rfl, ?_⟩)) (J24 _ _ h10 (by first | omega | assumption) hb16)

