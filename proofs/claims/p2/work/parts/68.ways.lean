/-! The reference's within, lies, mosts, rows, span -/
set_option maxRecDepth 100000 in
set_option maxHeartbeats 8000000 in
theorem s_mdrawnAll (l : Launch) (Γ : GC) (S : PS) {m : Nat} (F : isL lyModel Γ.2.2.2.2.1 S m) : CT l Γ yX12_drawnAll cX12_drawnAll 3 (some .int) (0) (0) (0) [.ref m] S (RI (fun r S' => FZ [] [] S S')) := by
  refine CT.of RX12 "drawnAll" [some (.ref m), none, none] (by decide +kernel) rfl rfl (Nat.le_of_ble_eq_true rfl) rfl (fun M hM => ?_)
  subst hM
  refine V_iconst 0 (0) dX12_drawnAll_0 (by decide) ?_
  refine V_istore_1 1 dX12_drawnAll_1 rfl (Nat.le_of_ble_eq_true rfl) ?_
  refine V_iconst 2 (0) dX12_drawnAll_2 (by decide) ?_
  refine V_istore_2 3 dX12_drawnAll_3 rfl (Nat.le_of_ble_eq_true rfl) ?_
  refine V_lvw (by repeat (first | exact trivial | refine ⟨rfl, ?_⟩)) (V_while (α := Nat × PS × Int32) (fun z1 => 8 - z1.1) (fun z1 => z1.1 ≤ 8 ∧ FZ [] [] S z1.2.1) (fun z1 => z1.2.1) (fun z1 => [some (.ref m), some (.int z1.2.2), some (.int (nI z1.1))]) (0, _, _) ⟨Nat.zero_le _, FZ.rf⟩ (fun z1 hx8 ih6 => ?b9))
  obtain ⟨i2, S3, w7⟩ := z1
  obtain ⟨hi4, h5⟩ := hx8
  dsimp only at hi4 h5 ih6 ⊢
  refine V_iload_2 4 dX12_drawnAll_4 ?_
  refine V_bipush 5 (8) dX12_drawnAll_5 (by decide) ?_
  refine V_icmp_ge 7 25 dX12_drawnAll_7 (by decide) (fun c11 => ?_) (fun c11 => ?_)
  ·
    refine V_iload_1 25 dX12_drawnAll_25 ?_
    refine V_iret 26 .int dX12_drawnAll_26 rfl rfl (Nat.le_of_ble_eq_true rfl) (Nat.le_of_ble_eq_true rfl) (RI.mk h5)
  ·
    have lt12 := nI_lt8 (by decide) hi4 c11
    refine V_iload_1 10 dX12_drawnAll_10 ?_
    refine V_aload_0 11 dX12_drawnAll_11 ?_
    refine V_getR 12 (c := 12) 61 ((F.ss h5.1).r 0 61 42 rfl) dX12_drawnAll_12 fl_RX12_143 ((F.ss h5.1).m 0 (Nat.le_of_ble_eq_true rfl)) ((F.ss h5.1).k 0 12 rfl) (Nat.le_of_ble_eq_true rfl) (Nat.le_of_ble_eq_true rfl) rfl ?_
    refine V_iload_2 15 dX12_drawnAll_15 ?_
    refine V_iaload2 16 dX12_drawnAll_16 ((F.ss h5.1).m 42 (Nat.le_of_ble_eq_true rfl)) ((F.ss h5.1).k 42 14 rfl) ((F.ss h5.1).l 42 8 rfl) ?_ ?_
    · exact vp_in_nI (by omega) (by decide)
    refine V_iadd 17 dX12_drawnAll_17 ?_
    refine V_istore_1 18 dX12_drawnAll_18 rfl (Nat.le_of_ble_eq_true rfl) ?_
    refine V_iinc_2 19 (1) dX12_drawnAll_19 (by decide) rfl (Nat.le_of_ble_eq_true rfl) ?_
    refine V_goto 22 4 dX12_drawnAll_22 (by decide) ?_
    rw [← nI_succ]
    refine V_lvw (by repeat (first | exact trivial | refine ⟨rfl, ?_⟩)) (ih6 (i2 + 1, _, _) ⟨by dsimp only; omega, h5⟩ (by dsimp only; omega))
set_option maxRecDepth 100000 in
set_option maxHeartbeats 8000000 in
theorem s_mlieOut (l : Launch) (Γ : GC) (S : PS) {m : Nat} {g : MG} (F : isL lyModel Γ.2.2.2.2.1 S m) (h : TXT m g S) : CT l Γ yX12_lieOut cX12_lieOut 5 (some .int) (1) (0) (0) [.ref m] S (RI (fun r S' => FZ [] [] S S')) := by
  refine CT.of RX12 "lieOut" [some (.ref m), none, none, none, none] (by decide +kernel) rfl rfl (Nat.le_of_ble_eq_true rfl) rfl (fun M hM => ?_)
  subst hM
  have hK := h.k8
  have hl := h.l2
  refine V_iconst 0 (0) dX12_lieOut_0 (by decide) ?_
  refine V_istore_1 1 dX12_lieOut_1 rfl (Nat.le_of_ble_eq_true rfl) ?_
  refine V_iconst 2 (0) dX12_lieOut_2 (by decide) ?_
  refine V_istore_2 3 dX12_lieOut_3 rfl (Nat.le_of_ble_eq_true rfl) ?_
  refine V_lvw (by repeat (first | exact trivial | refine ⟨rfl, ?_⟩)) (V_while (α := Nat × PS × Int32) (fun z1 => gK g - z1.1) (fun z1 => z1.1 ≤ gK g ∧ FZ [] [] S z1.2.1) (fun z1 => z1.2.1) (fun z1 => [some (.ref m), some (.int z1.2.2), some (.int (nI z1.1)), none, none]) (0, _, _) ⟨Nat.zero_le _, FZ.rf⟩ (fun z1 hx8 ih6 => ?b9))
  obtain ⟨i2, S3, w7⟩ := z1
  obtain ⟨hi4, h5⟩ := hx8
  dsimp only at hi4 h5 ih6 ⊢
  have J13 : ∀ (S11 : PS) (x14 : Int32) (x15 : Nat) (x16 : Int32), FZ [] [] S S11 → i2 < gK g → x15 < 8 → V M Γ (5, RX12, "lieOut", (some .int), RM (1) (0) (0)) cX12_lieOut (RQ M Γ (RI (fun r S' => FZ [] [] S S')) (0) (0)) 0 0 S11 99 [some (.ref m), some (.int x14), some (.int (nI i2)), some (.int (nI x15)), some (.int x16)] [] := by
    intro S11 x14 x15 x16 h12 lt17 hn_x15
    refine V_iinc_2 99 (1) dX12_lieOut_99 (by decide) rfl (Nat.le_of_ble_eq_true rfl) ?_
    refine V_goto 102 4 dX12_lieOut_102 (by decide) ?_
    rw [← nI_succ]
    refine V_lvw (by repeat (first | exact trivial | refine ⟨rfl, ?_⟩)) (ih6 (i2 + 1, _, _) ⟨by dsimp only; omega, h12⟩ (by dsimp only; omega))
  refine V_iload_2 4 dX12_lieOut_4 ?_
  refine V_aload_0 5 dX12_lieOut_5 ?_
  refine V_getR 6 (c := 12) 23 ((F.ss h5.1).r 0 23 11 rfl) dX12_lieOut_6 fl_RX12_49 ((F.ss h5.1).m 0 (Nat.le_of_ble_eq_true rfl)) ((F.ss h5.1).k 0 12 rfl) (Nat.le_of_ble_eq_true rfl) (Nat.le_of_ble_eq_true rfl) rfl ?_
  refine V_aload_0 9 dX12_lieOut_9 ?_
  refine V_getI 10 (c := 12) 18 dX12_lieOut_10 fl_RX12_264 ((F.ss h5.1).m 0 (Nat.le_of_ble_eq_true rfl)) ((F.ss h5.1).k 0 12 rfl) (Nat.le_of_ble_eq_true rfl) (Nat.le_of_ble_eq_true rfl) rfl ?_
  rw [(h.z [] [] h5 rfl rfl rfl rfl).lv]
  refine V_iaload2 13 dX12_lieOut_13 ((F.ss h5.1).m 11 (Nat.le_of_ble_eq_true rfl)) ((F.ss h5.1).k 11 14 rfl) ((F.ss h5.1).l 11 2 rfl) ?_ ?_
  · exact vpN (Eq.refl (nI (gl g))) (by omega) (by decide)
  rw [clN (Eq.refl (nI (gl g))) (by omega)]
  rw [(h.z [] [] h5 rfl rfl rfl rfl).ki]
  refine V_icmp_ge 14 105 dX12_lieOut_14 (by decide) (fun c18 => ?_) (fun c18 => ?_)
  ·
    try have nf19 := (nI_leE (Eq.refl (nI (gK g))) (Eq.refl (nI i2)) (by omega) (by omega)).mp c18
    refine V_iload_1 105 dX12_lieOut_105 ?_
    refine V_iret 106 .int dX12_lieOut_106 rfl rfl (Nat.le_of_ble_eq_true rfl) (Nat.le_of_ble_eq_true rfl) (RI.mk h5)
  ·
    try have nf20 := mt (nI_leE (Eq.refl (nI (gK g))) (Eq.refl (nI i2)) (by omega) (by omega)).mpr c18
    try have lt21 := nI_ltC hi4 c18
    refine V_aload_0 17 dX12_lieOut_17 ?_
    refine V_iload_2 18 dX12_lieOut_18 ?_
    refine V_callV 19 (ci := 12) [.int _] _ (s_mpartner M.2.1 Γ S3 (F.ss h5.1) (h.z [] [] h5 rfl rfl rfl rfl) (show (i2) < gK g by omega)) dX12_lieOut_19 cb_X12_partner ml_RX12_349 im_yX12_partner se_yX12_partner ((F.ss h5.1).m 0 (Nat.le_of_ble_eq_true rfl)) ((F.ss h5.1).k 0 12 rfl) (Nat.le_of_ble_eq_true rfl) ⟨(Nat.le_of_ble_eq_true rfl), (Nat.le_of_ble_eq_true rfl)⟩ rfl rfl (Nat.le_of_ble_eq_true rfl) ⟨(Nat.le_of_ble_eq_true rfl), (Nat.le_of_ble_eq_true rfl)⟩ (RI.go (fun r24 S22 q23 => ?_))
    have hp9 := h.paK (show (i2) < gK g by omega)
    obtain ⟨e9, s9⟩ := q23
    rw [s9]
    subst e9
    refine V_istore_3 22 dX12_lieOut_22 rfl (Nat.le_of_ble_eq_true rfl) ?_
    refine V_aload_0 23 dX12_lieOut_23 ?_
    refine V_getR 24 (c := 12) 54 ((F.ss h5.1).r 0 54 38 rfl) dX12_lieOut_24 fl_RX12_131 ((F.ss h5.1).m 0 (Nat.le_of_ble_eq_true rfl)) ((F.ss h5.1).k 0 12 rfl) (Nat.le_of_ble_eq_true rfl) (Nat.le_of_ble_eq_true rfl) rfl ?_
    refine V_bipush 27 (8) dX12_lieOut_27 (by decide) ?_
    refine V_iload_2 29 dX12_lieOut_29 ?_
    refine V_iadd 30 dX12_lieOut_30 ?_
    refine V_iaload2 31 dX12_lieOut_31 ((F.ss h5.1).m 38 (Nat.le_of_ble_eq_true rfl)) ((F.ss h5.1).k 38 14 rfl) ((F.ss h5.1).l 38 30 rfl) ?_ ?_
    · exact vpN (eqAdd (show (8 : Int32) = nI 8 from rfl) (Eq.refl (nI i2))) (by omega) (by decide)
    refine V_aload_0 32 dX12_lieOut_32 ?_
    refine V_getR 33 (c := 12) 61 ((F.ss h5.1).r 0 61 42 rfl) dX12_lieOut_33 fl_RX12_143 ((F.ss h5.1).m 0 (Nat.le_of_ble_eq_true rfl)) ((F.ss h5.1).k 0 12 rfl) (Nat.le_of_ble_eq_true rfl) (Nat.le_of_ble_eq_true rfl) rfl ?_
    refine V_iload_2 36 dX12_lieOut_36 ?_
    refine V_iaload2 37 dX12_lieOut_37 ((F.ss h5.1).m 42 (Nat.le_of_ble_eq_true rfl)) ((F.ss h5.1).k 42 14 rfl) ((F.ss h5.1).l 42 8 rfl) ?_ ?_
    · exact vp_in_nI (by omega) (by decide)
    refine V_iadd 38 dX12_lieOut_38 ?_
    refine V_istore_4 39 dX12_lieOut_39 rfl (Nat.le_of_ble_eq_true rfl) ?_
    refine V_iload_3 41 dX12_lieOut_41 ?_
    refine V_iload_2 42 dX12_lieOut_42 ?_
    refine V_icmp_ne 43 56 dX12_lieOut_43 (by decide) (fun c25 => ?_) (fun c25 => ?_)
    ·
      try have nf26 := mt (nI_eqE (Eq.refl (nI (gP g (i2)))) (Eq.refl (nI i2)) (by omega) (by omega)).mpr c25
      refine V_iload_4 56 dX12_lieOut_56 ?_
      refine V_aload_0 58 dX12_lieOut_58 ?_
      refine V_getR 59 (c := 12) 54 ((F.ss h5.1).r 0 54 38 rfl) dX12_lieOut_59 fl_RX12_131 ((F.ss h5.1).m 0 (Nat.le_of_ble_eq_true rfl)) ((F.ss h5.1).k 0 12 rfl) (Nat.le_of_ble_eq_true rfl) (Nat.le_of_ble_eq_true rfl) rfl ?_
      refine V_bipush 62 (8) dX12_lieOut_62 (by decide) ?_
      refine V_iload_3 64 dX12_lieOut_64 ?_
      refine V_iadd 65 dX12_lieOut_65 ?_
      refine V_iaload2 66 dX12_lieOut_66 ((F.ss h5.1).m 38 (Nat.le_of_ble_eq_true rfl)) ((F.ss h5.1).k 38 14 rfl) ((F.ss h5.1).l 38 30 rfl) ?_ ?_
      · exact vpN (eqAdd (show (8 : Int32) = nI 8 from rfl) (Eq.refl (nI (gP g (i2))))) (by omega) (by decide)
      refine V_aload_0 67 dX12_lieOut_67 ?_
      refine V_getR 68 (c := 12) 61 ((F.ss h5.1).r 0 61 42 rfl) dX12_lieOut_68 fl_RX12_143 ((F.ss h5.1).m 0 (Nat.le_of_ble_eq_true rfl)) ((F.ss h5.1).k 0 12 rfl) (Nat.le_of_ble_eq_true rfl) (Nat.le_of_ble_eq_true rfl) rfl ?_
      refine V_iload_3 71 dX12_lieOut_71 ?_
      refine V_iaload2 72 dX12_lieOut_72 ((F.ss h5.1).m 42 (Nat.le_of_ble_eq_true rfl)) ((F.ss h5.1).k 42 14 rfl) ((F.ss h5.1).l 42 8 rfl) ?_ ?_
      · exact vpN (Eq.refl (nI (gP g (i2)))) (by omega) (by decide)
      refine V_iadd 73 dX12_lieOut_73 ?_
      refine V_icmp_le 74 99 dX12_lieOut_74 (by decide) (fun c27 => ?_) (fun c27 => ?_)
      ·
        refine V_lvw (by repeat (first | exact trivial | refine ⟨rfl, ?_⟩)) (J13 _ _ _ _ h5 (by first | omega | assumption) (by omega))
      ·
        refine V_iload_1 77 dX12_lieOut_77 ?_
        refine V_iload_4 78 dX12_lieOut_78 ?_
        refine V_aload_0 80 dX12_lieOut_80 ?_
        refine V_getR 81 (c := 12) 54 ((F.ss h5.1).r 0 54 38 rfl) dX12_lieOut_81 fl_RX12_131 ((F.ss h5.1).m 0 (Nat.le_of_ble_eq_true rfl)) ((F.ss h5.1).k 0 12 rfl) (Nat.le_of_ble_eq_true rfl) (Nat.le_of_ble_eq_true rfl) rfl ?_
        refine V_bipush 84 (8) dX12_lieOut_84 (by decide) ?_
        refine V_iload_3 86 dX12_lieOut_86 ?_
        refine V_iadd 87 dX12_lieOut_87 ?_
        refine V_iaload2 88 dX12_lieOut_88 ((F.ss h5.1).m 38 (Nat.le_of_ble_eq_true rfl)) ((F.ss h5.1).k 38 14 rfl) ((F.ss h5.1).l 38 30 rfl) ?_ ?_
        · exact vpN (eqAdd (show (8 : Int32) = nI 8 from rfl) (Eq.refl (nI (gP g (i2))))) (by omega) (by decide)
        refine V_isub 89 dX12_lieOut_89 ?_
        refine V_aload_0 90 dX12_lieOut_90 ?_
        refine V_getR 91 (c := 12) 61 ((F.ss h5.1).r 0 61 42 rfl) dX12_lieOut_91 fl_RX12_143 ((F.ss h5.1).m 0 (Nat.le_of_ble_eq_true rfl)) ((F.ss h5.1).k 0 12 rfl) (Nat.le_of_ble_eq_true rfl) (Nat.le_of_ble_eq_true rfl) rfl ?_
        refine V_iload_3 94 dX12_lieOut_94 ?_
        refine V_iaload2 95 dX12_lieOut_95 ((F.ss h5.1).m 42 (Nat.le_of_ble_eq_true rfl)) ((F.ss h5.1).k 42 14 rfl) ((F.ss h5.1).l 42 8 rfl) ?_ ?_
        · exact vpN (Eq.refl (nI (gP g (i2)))) (by omega) (by decide)
        refine V_isub 96 dX12_lieOut_96 ?_
        refine V_iadd 97 dX12_lieOut_97 ?_
        refine V_istore_1 98 dX12_lieOut_98 rfl (Nat.le_of_ble_eq_true rfl) ?_
        refine V_lvw (by repeat (first | exact trivial | refine ⟨rfl, ?_⟩)) (J13 _ _ _ _ h5 (by first | omega | assumption) (by omega))
    ·
      try have nf30 := (nI_eqE (Eq.refl (nI (gP g (i2)))) (Eq.refl (nI i2)) (by omega) (by omega)).mp c25
      refine V_iload_1 46 dX12_lieOut_46 ?_
      refine V_iload_4 47 dX12_lieOut_47 ?_
      refine V_iconst 49 (2) dX12_lieOut_49 (by decide) ?_
      refine V_irem 50 dX12_lieOut_50 (by decide) ?_
      refine V_iadd 51 dX12_lieOut_51 ?_
      refine V_istore_1 52 dX12_lieOut_52 rfl (Nat.le_of_ble_eq_true rfl) ?_
      refine V_goto 53 99 dX12_lieOut_53 (by decide) ?_
      refine V_lvw (by repeat (first | exact trivial | refine ⟨rfl, ?_⟩)) (J13 _ _ _ _ h5 (by first | omega | assumption) (by omega))
theorem okzx {g : MG} {x y : Nat → Nat} (ok : OKR g x y) : ∀ k, k < 8 → gK g ≤ k → x k = 0 := fun k hk q => by
  have := ok k hk
  unfold lim at this
  rw [if_neg (by omega)] at this
  omega
theorem stp_all {m : Nat} {x : Nat → Nat} {S T : PS} {X : List Nat} {Y : List (Nat × Nat)} (hp : STP m x S) (e : FZ X Y S T) (hx : m + 40 ∉ X) : STP m x T := fun k hk => stp_at hp e hx hk
theorem dig_fz {m : Nat} {f : Nat → Nat} {S T : PS} (h : ∀ k, k < 8 → sA S (m + 42) k = nI (f k)) (e : FZ [] [] S T) : ∀ k, k < 8 → sA T (m + 42) k = nI (f k) := fun k hk => by rw [e.2.1 _ (by simp)]; exact h k hk
set_option maxRecDepth 100000 in
set_option maxHeartbeats 8000000 in
theorem s_mfillsWays (l : Launch) (Γ : GC) (S : PS) {m : Nat} {g : MG} (F : isL lyModel Γ.2.2.2.2.1 S m) (h : TXT m g S) (x y : Nat → Nat) (hn : ROW (m + 37) 0 x y S) (ok : OKR g x y) (w : Int32) : CT l Γ yX12_fillsWays cX12_fillsWays 6 none (2) (0) (0) [.ref m, .int w] S (RV (fun S' => FZ [m + 38, m + 40, m + 42] [(m, 55), (m, 56)] S S' ∧ STP m x S' ∧ ROW (m + 38) 0 x y S')) := by
  refine CT.of RX12 "fillsWays" [some (.ref m), some (.int w), none, none, none, none] (by decide +kernel) rfl rfl (Nat.le_of_ble_eq_true rfl) rfl (fun M hM => ?_)
  subst hM
  have hK := h.k8
  have hl := h.l2
  have hs0 := OKR.s18 h ok
  have hs : sumN x 8 ≤ 18 := by omega
  have hz := okzx ok
  refine V_aload_0 0 dX12_fillsWays_0 ?_
  refine V_callV 1 (ci := 12) [] _ (s_mcopies M.2.1 Γ S F h) dX12_fillsWays_1 cb_X12_copies ml_RX12_364 im_yX12_copies se_yX12_copies (F.m 0 (Nat.le_of_ble_eq_true rfl)) (F.k 0 12 rfl) (Nat.le_of_ble_eq_true rfl) ⟨(Nat.le_of_ble_eq_true rfl), (Nat.le_of_ble_eq_true rfl)⟩ rfl rfl (Nat.le_of_ble_eq_true rfl) ⟨(Nat.le_of_ble_eq_true rfl), (Nat.le_of_ble_eq_true rfl)⟩ (RV.go (fun S1 h1 => ?_))
  have F1 := F.ss h1.1.1
  have hr1 := cpRow hn h1.2
  have t1 := h.z [38] [(0, 55), (0, 56)] h1.1 rfl rfl rfl rfl
  refine V_aload_0 4 dX12_fillsWays_4 ?_
  refine V_callV 5 (ci := 12) [] _ (s_mfillsSteps M.2.1 Γ S1 F1 t1 x y hr1 hz hs) dX12_fillsWays_5 cb_X12_fillsSteps ml_RX12_376 im_yX12_fillsSteps se_yX12_fillsSteps (F1.m 0 (Nat.le_of_ble_eq_true rfl)) (F1.k 0 12 rfl) (Nat.le_of_ble_eq_true rfl) ⟨(Nat.le_of_ble_eq_true rfl), (Nat.le_of_ble_eq_true rfl)⟩ rfl rfl (Nat.le_of_ble_eq_true rfl) ⟨(Nat.le_of_ble_eq_true rfl), (Nat.le_of_ble_eq_true rfl)⟩ (RV.go (fun S2 h2 => ?_))
  have F2 := F1.ss h2.1.1
  have hr2 := hr1.fz h2.1 (by simp)
  have t2 := t1.z [40] [] h2.1 rfl rfl rfl rfl
  have e2 : FZ [m + 38, m + 40, m + 42] [(m, 55), (m, 56)] S S2 := (h1.1.sub (by simp) (by simp)).tr (h2.1.sub (by simp) (by simp))
  have hp2 := h2.2
  have hb8 := stp_lt hs
  have hp8 := stp_pos x 8
  refine V_aload_0 8 dX12_fillsWays_8 ?_
  refine V_getR 9 (c := 12) 60 (F2.r 0 60 41 rfl) dX12_fillsWays_9 fl_RX12_140 (F2.m 0 (Nat.le_of_ble_eq_true rfl)) (F2.k 0 12 rfl) (Nat.le_of_ble_eq_true rfl) (Nat.le_of_ble_eq_true rfl) rfl ?_
  refine V_iconst 12 (0) dX12_fillsWays_12 (by decide) ?_
  refine V_lconst 13 1 dX12_fillsWays_13 (by decide) ?_
  refine V_lastore2 14 dX12_fillsWays_14 (F2.m 41 (Nat.le_of_ble_eq_true rfl)) (F2.k 41 15 rfl) (F2.l 41 20000 rfl) ?_ ?_
  · exact (by unfold vp_in; decide)
  refine V_abs (fun T9 => FZ [m + 42] [] S2 T9 ∧ ((fun T => True) T9)) ⟨(FZ.rf (X := [m + 42]) (Y := []) (S := S2)).uJ, by trivial⟩ (fun S1 hh4 => ?_)
  obtain ⟨h2, p3⟩ := hh4
  refine V_iconst 15 (1) dX12_fillsWays_15 (by decide) ?_
  refine V_istore_2 16 dX12_fillsWays_16 rfl (Nat.le_of_ble_eq_true rfl) ?_
  refine V_lvw (by repeat (first | exact trivial | refine ⟨rfl, ?_⟩)) (V_while (α := Nat × PS) (fun z5 => stp x 8 - z5.1) (fun z5 => z5.1 ≤ stp x 8 ∧ FZ [m + 42] [] S2 z5.2 ∧ ((fun T => True) z5.2)) (fun z5 => z5.2) (fun z5 => [some (.ref m), some (.int w), some (.int (nI z5.1)), none, none, none]) (1, _) ⟨(by dsimp only; omega), h2, p3⟩ (fun z5 hx11 ih10 => ?b12))
  obtain ⟨i6, S7⟩ := z5
  obtain ⟨hi8, h9, p14⟩ := hx11
  dsimp only at hi8 h9 p14 ih10 ⊢
  refine V_iload_2 17 dX12_fillsWays_17 ?_
  refine V_aload_0 18 dX12_fillsWays_18 ?_
  refine V_getR 19 (c := 12) 59 ((F2.ss h9.1).r 0 59 40 rfl) dX12_fillsWays_19 fl_RX12_137 ((F2.ss h9.1).m 0 (Nat.le_of_ble_eq_true rfl)) ((F2.ss h9.1).k 0 12 rfl) (Nat.le_of_ble_eq_true rfl) (Nat.le_of_ble_eq_true rfl) rfl ?_
  refine V_bipush 22 (8) dX12_fillsWays_22 (by decide) ?_
  refine V_iaload2 24 dX12_fillsWays_24 ((F2.ss h9.1).m 40 (Nat.le_of_ble_eq_true rfl)) ((F2.ss h9.1).k 40 14 rfl) ((F2.ss h9.1).l 40 9 rfl) ?_ ?_
  · exact (by unfold vp_in; decide)
  rw [clN (show (8 : Int32) = nI 8 from rfl) (by omega)]
  rw [(stp_at hp2 h9 (by simp) (k := 8) (by omega))]
  refine V_icmp_ge 25 125 dX12_fillsWays_25 (by decide) (fun c15 => ?_) (fun c15 => ?_)
  ·
    try have nf16 := (nI_leE (Eq.refl (nI (stp x 8))) (Eq.refl (nI i6)) (by omega) (by omega)).mp c15
    refine V_vret 125 dX12_fillsWays_125 rfl (Nat.le_of_ble_eq_true rfl) (Nat.le_of_ble_eq_true rfl) (RV.mk ⟨e2.tr (h9.sub (by simp) (by simp)), stp_all hp2 h9 (by simp), hr2.fz h9 (by simp)⟩)
  ·
    try have nf17 := mt (nI_leE (Eq.refl (nI (stp x 8))) (Eq.refl (nI i6)) (by omega) (by omega)).mpr c15
    try have lt18 := nI_ltC hi8 c15
    refine V_aload_0 28 dX12_fillsWays_28 ?_
    refine V_iload_2 29 dX12_fillsWays_29 ?_
    refine V_callV 30 (ci := 12) [.int _] _ (s_mtakes M.2.1 Γ S7 (F2.ss h9.1) (t2.z [42] [] h9 rfl rfl rfl rfl) x y (hr2.fz h9 (by simp)) hz hs (stp_all hp2 h9 (by simp)) (show (i6) < 20000 by omega)) dX12_fillsWays_30 cb_X12_takesNumber ml_RX12_379 im_yX12_takesNumber se_yX12_takesNumber ((F2.ss h9.1).m 0 (Nat.le_of_ble_eq_true rfl)) ((F2.ss h9.1).k 0 12 rfl) (Nat.le_of_ble_eq_true rfl) ⟨(Nat.le_of_ble_eq_true rfl), (Nat.le_of_ble_eq_true rfl)⟩ rfl rfl (Nat.le_of_ble_eq_true rfl) ⟨(Nat.le_of_ble_eq_true rfl), (Nat.le_of_ble_eq_true rfl)⟩ (RV.go (fun S19 q20 => ?_))
    have h22 : FZ [m + 42] [] S2 S19 := h9.tr (q20.1.sub (by simp) (by simp))
    have p23 : ((fun T => ∀ k, k < 8 → sA T (m + 42) k = nI (dg x i6 k)) S19) := by exact q20.2
    refine V_lconst 33 0 dX12_fillsWays_33 (by decide) ?_
    refine V_lstore_3 34 dX12_fillsWays_34 rfl (Nat.le_of_ble_eq_true rfl) ?_
    refine V_aload_0 35 dX12_fillsWays_35 ?_
    refine V_callV 36 (ci := 12) [] _ (s_mlieOut M.2.1 Γ S19 (F2.ss h22.1) (t2.z [42] [] h22 rfl rfl rfl rfl)) dX12_fillsWays_36 cb_X12_lieOut ml_RX12_382 im_yX12_lieOut se_yX12_lieOut ((F2.ss h22.1).m 0 (Nat.le_of_ble_eq_true rfl)) ((F2.ss h22.1).k 0 12 rfl) (Nat.le_of_ble_eq_true rfl) ⟨(Nat.le_of_ble_eq_true rfl), (Nat.le_of_ble_eq_true rfl)⟩ rfl rfl (Nat.le_of_ble_eq_true rfl) ⟨(Nat.le_of_ble_eq_true rfl), (Nat.le_of_ble_eq_true rfl)⟩ (RI.go (fun r26 S24 q25 => ?_))
    have h27 : FZ [m + 42] [] S2 S24 := h22.tr (q25.sub (by simp) (by simp))
    have p28 : ((fun T => ∀ k, k < 8 → sA T (m + 42) k = nI (dg x i6 k)) S24) := by exact dig_fz p23 q25
    refine V_iload_1 39 dX12_fillsWays_39 ?_
    refine V_icmp_gt 40 112 dX12_fillsWays_40 (by decide) (fun c29 => ?_) (fun c29 => ?_)
    ·
      refine V_aload_0 112 dX12_fillsWays_112 ?_
      refine V_getR 113 (c := 12) 60 ((F2.ss h27.1).r 0 60 41 rfl) dX12_fillsWays_113 fl_RX12_140 ((F2.ss h27.1).m 0 (Nat.le_of_ble_eq_true rfl)) ((F2.ss h27.1).k 0 12 rfl) (Nat.le_of_ble_eq_true rfl) (Nat.le_of_ble_eq_true rfl) rfl ?_
      refine V_iload_2 116 dX12_fillsWays_116 ?_
      refine V_lload_3 117 dX12_fillsWays_117 ?_
      refine V_lastore2 118 dX12_fillsWays_118 ((F2.ss h27.1).m 41 (Nat.le_of_ble_eq_true rfl)) ((F2.ss h27.1).k 41 15 rfl) ((F2.ss h27.1).l 41 20000 rfl) ?_ ?_
      · exact vp_in_nI (by omega) (by decide)
      refine V_abs (fun T9 => FZ [m + 42] [] S2 T9 ∧ ((fun T => ∀ k, k < 8 → sA T (m + 42) k = nI (dg x i6 k)) T9)) ⟨h27.uJ, by exact p28⟩ (fun S30 hh33 => ?_)
      obtain ⟨h31, p32⟩ := hh33
      have p34 : ((fun T => True) S30) := by trivial
      refine V_iinc_2 119 (1) dX12_fillsWays_119 (by decide) rfl (Nat.le_of_ble_eq_true rfl) ?_
      refine V_goto 122 17 dX12_fillsWays_122 (by decide) ?_
      rw [← nI_succ]
      refine V_lvw (by repeat (first | exact trivial | refine ⟨rfl, ?_⟩)) (ih10 (i6 + 1, _) ⟨by dsimp only; omega, h31, p34⟩ (by dsimp only; omega))
    ·
      refine V_iconst 43 (0) dX12_fillsWays_43 (by decide) ?_
      refine V_istore_5 44 dX12_fillsWays_44 rfl (Nat.le_of_ble_eq_true rfl) ?_
      refine V_lvw (by repeat (first | exact trivial | refine ⟨rfl, ?_⟩)) (V_while (α := Nat × PS × Int64) (fun z35 => gK g - z35.1) (fun z35 => z35.1 ≤ gK g ∧ FZ [m + 42] [] S2 z35.2.1 ∧ ((fun T => ∀ k, k < 8 → sA T (m + 42) k = nI (dg x i6 k)) z35.2.1)) (fun z35 => z35.2.1) (fun z35 => [some (.ref m), some (.int w), some (.int (nI i6)), some (.long z35.2.2), none, some (.int (nI z35.1))]) (0, _, _) ⟨Nat.zero_le _, h27, p28⟩ (fun z35 hx42 ih40 => ?b43))
      obtain ⟨i36, S37, w41⟩ := z35
      obtain ⟨hi38, h39, p45⟩ := hx42
      dsimp only at hi38 h39 p45 ih40 ⊢
      have J48 : ∀ (S46 : PS) (y49 : Int64), FZ [m + 42] [] S2 S46 → ((fun T => ∀ k, k < 8 → sA T (m + 42) k = nI (dg x i6 k)) S46) → i36 < gK g → V M Γ (6, RX12, "fillsWays", none, RM (2) (0) (0)) cX12_fillsWays (RQ M Γ (RV (fun S' => FZ [m + 38, m + 40, m + 42] [(m, 55), (m, 56)] S S' ∧ STP m x S' ∧ ROW (m + 38) 0 x y S')) (0) (0)) 0 0 S46 106 [some (.ref m), some (.int w), some (.int (nI i6)), some (.long y49), none, some (.int (nI i36))] [] := by
        intro S46 y49 h47 p50 lt51
        refine V_iinc_5 106 (1) dX12_fillsWays_106 (by decide) rfl (Nat.le_of_ble_eq_true rfl) ?_
        refine V_goto 109 46 dX12_fillsWays_109 (by decide) ?_
        rw [← nI_succ]
        refine V_lvw (by repeat (first | exact trivial | refine ⟨rfl, ?_⟩)) (ih40 (i36 + 1, _, _) ⟨by dsimp only; omega, h47, p50⟩ (by dsimp only; omega))
      refine V_iload_5 46 dX12_fillsWays_46 ?_
      refine V_aload_0 48 dX12_fillsWays_48 ?_
      refine V_getR 49 (c := 12) 23 ((F2.ss h39.1).r 0 23 11 rfl) dX12_fillsWays_49 fl_RX12_49 ((F2.ss h39.1).m 0 (Nat.le_of_ble_eq_true rfl)) ((F2.ss h39.1).k 0 12 rfl) (Nat.le_of_ble_eq_true rfl) (Nat.le_of_ble_eq_true rfl) rfl ?_
      refine V_aload_0 52 dX12_fillsWays_52 ?_
      refine V_getI 53 (c := 12) 18 dX12_fillsWays_53 fl_RX12_264 ((F2.ss h39.1).m 0 (Nat.le_of_ble_eq_true rfl)) ((F2.ss h39.1).k 0 12 rfl) (Nat.le_of_ble_eq_true rfl) (Nat.le_of_ble_eq_true rfl) rfl ?_
      rw [(t2.z [42] [] h39 rfl rfl rfl rfl).lv]
      refine V_iaload2 56 dX12_fillsWays_56 ((F2.ss h39.1).m 11 (Nat.le_of_ble_eq_true rfl)) ((F2.ss h39.1).k 11 14 rfl) ((F2.ss h39.1).l 11 2 rfl) ?_ ?_
      · exact vpN (Eq.refl (nI (gl g))) (by omega) (by decide)
      rw [clN (Eq.refl (nI (gl g))) (by omega)]
      rw [(t2.z [42] [] h39 rfl rfl rfl rfl).ki]
      refine V_icmp_ge 57 112 dX12_fillsWays_57 (by decide) (fun c52 => ?_) (fun c52 => ?_)
      ·
        try have nf53 := (nI_leE (Eq.refl (nI (gK g))) (Eq.refl (nI i36)) (by omega) (by omega)).mp c52
        refine V_aload_0 112 dX12_fillsWays_112 ?_
        refine V_getR 113 (c := 12) 60 ((F2.ss h39.1).r 0 60 41 rfl) dX12_fillsWays_113 fl_RX12_140 ((F2.ss h39.1).m 0 (Nat.le_of_ble_eq_true rfl)) ((F2.ss h39.1).k 0 12 rfl) (Nat.le_of_ble_eq_true rfl) (Nat.le_of_ble_eq_true rfl) rfl ?_
        refine V_iload_2 116 dX12_fillsWays_116 ?_
        refine V_lload_3 117 dX12_fillsWays_117 ?_
        refine V_lastore2 118 dX12_fillsWays_118 ((F2.ss h39.1).m 41 (Nat.le_of_ble_eq_true rfl)) ((F2.ss h39.1).k 41 15 rfl) ((F2.ss h39.1).l 41 20000 rfl) ?_ ?_
        · exact vp_in_nI (by omega) (by decide)
        refine V_abs (fun T9 => FZ [m + 42] [] S2 T9 ∧ ((fun T => ∀ k, k < 8 → sA T (m + 42) k = nI (dg x i6 k)) T9)) ⟨h39.uJ, by exact p45⟩ (fun S54 hh57 => ?_)
        obtain ⟨h55, p56⟩ := hh57
        have p58 : ((fun T => True) S54) := by trivial
        refine V_iinc_2 119 (1) dX12_fillsWays_119 (by decide) rfl (Nat.le_of_ble_eq_true rfl) ?_
        refine V_goto 122 17 dX12_fillsWays_122 (by decide) ?_
        rw [← nI_succ]
        refine V_lvw (by repeat (first | exact trivial | refine ⟨rfl, ?_⟩)) (ih10 (i6 + 1, _) ⟨by dsimp only; omega, h55, p58⟩ (by dsimp only; omega))
      ·
        try have nf59 := mt (nI_leE (Eq.refl (nI (gK g))) (Eq.refl (nI i36)) (by omega) (by omega)).mpr c52
        try have lt60 := nI_ltC hi38 c52
        have hdl := dg_le (x := x) (n := i6) (k := i36)
        have hx18 := Nat.le_trans (sumN_mem (f := x) 8 i36 (by omega)) hs
        have hst := stp_le hs (show i36 ≤ 8 by omega)
        refine V_aload_0 60 dX12_fillsWays_60 ?_
        refine V_getR 61 (c := 12) 61 ((F2.ss h39.1).r 0 61 42 rfl) dX12_fillsWays_61 fl_RX12_143 ((F2.ss h39.1).m 0 (Nat.le_of_ble_eq_true rfl)) ((F2.ss h39.1).k 0 12 rfl) (Nat.le_of_ble_eq_true rfl) (Nat.le_of_ble_eq_true rfl) rfl ?_
        refine V_iload_5 64 dX12_fillsWays_64 ?_
        refine V_iaload2 66 dX12_fillsWays_66 ((F2.ss h39.1).m 42 (Nat.le_of_ble_eq_true rfl)) ((F2.ss h39.1).k 42 14 rfl) ((F2.ss h39.1).l 42 8 rfl) ?_ ?_
        · exact vp_in_nI (by omega) (by decide)
        rw [clN (Eq.refl (nI i36)) (by omega)]
        rw [p45 i36 (by omega)]
        refine V_if_le 67 106 dX12_fillsWays_67 (by decide) (fun c61 => ?_) (fun c61 => ?_)
        ·
          try have nf62 := (nI_leE (Eq.refl (nI (dg x i6 i36))) (show (0 : Int32) = nI 0 from rfl) (by omega) (by omega)).mp c61
          refine V_lvw (by repeat (first | exact trivial | refine ⟨rfl, ?_⟩)) (J48 _ _ h39 p45 (by first | omega | assumption))
        ·
          try have nf64 := mt (nI_leE (Eq.refl (nI (dg x i6 i36))) (show (0 : Int32) = nI 0 from rfl) (by omega) (by omega)).mpr c61
          have hge := dg_pos (x := x) (n := i6) (k := i36) (by omega)
          refine V_lload_3 70 dX12_fillsWays_70 ?_
          refine V_aload_0 71 dX12_fillsWays_71 ?_
          refine V_getR 72 (c := 12) 60 ((F2.ss h39.1).r 0 60 41 rfl) dX12_fillsWays_72 fl_RX12_140 ((F2.ss h39.1).m 0 (Nat.le_of_ble_eq_true rfl)) ((F2.ss h39.1).k 0 12 rfl) (Nat.le_of_ble_eq_true rfl) (Nat.le_of_ble_eq_true rfl) rfl ?_
          refine V_iload_2 75 dX12_fillsWays_75 ?_
          refine V_aload_0 76 dX12_fillsWays_76 ?_
          refine V_getR 77 (c := 12) 59 ((F2.ss h39.1).r 0 59 40 rfl) dX12_fillsWays_77 fl_RX12_137 ((F2.ss h39.1).m 0 (Nat.le_of_ble_eq_true rfl)) ((F2.ss h39.1).k 0 12 rfl) (Nat.le_of_ble_eq_true rfl) (Nat.le_of_ble_eq_true rfl) rfl ?_
          refine V_iload_5 80 dX12_fillsWays_80 ?_
          refine V_iaload2 82 dX12_fillsWays_82 ((F2.ss h39.1).m 40 (Nat.le_of_ble_eq_true rfl)) ((F2.ss h39.1).k 40 14 rfl) ((F2.ss h39.1).l 40 9 rfl) ?_ ?_
          · exact vp_in_nI (by omega) (by decide)
          rw [clN (Eq.refl (nI i36)) (by omega)]
          rw [(stp_at hp2 h39 (by simp) (k := i36) (by omega))]
          refine V_isub 83 dX12_fillsWays_83 ?_
          refine V_laload2 84 dX12_fillsWays_84 ((F2.ss h39.1).m 41 (Nat.le_of_ble_eq_true rfl)) ((F2.ss h39.1).k 41 15 rfl) ((F2.ss h39.1).l 41 20000 rfl) ?_ ?_
          · exact vpN (eqSub (Eq.refl (nI i6)) (Eq.refl (nI (stp x i36))) (by omega)) (by omega) (by decide)
          refine V_aload_0 85 dX12_fillsWays_85 ?_
          refine V_getR 86 (c := 12) 54 ((F2.ss h39.1).r 0 54 38 rfl) dX12_fillsWays_86 fl_RX12_131 ((F2.ss h39.1).m 0 (Nat.le_of_ble_eq_true rfl)) ((F2.ss h39.1).k 0 12 rfl) (Nat.le_of_ble_eq_true rfl) (Nat.le_of_ble_eq_true rfl) rfl ?_
          refine V_iload_5 89 dX12_fillsWays_89 ?_
          refine V_iaload2 91 dX12_fillsWays_91 ((F2.ss h39.1).m 38 (Nat.le_of_ble_eq_true rfl)) ((F2.ss h39.1).k 38 14 rfl) ((F2.ss h39.1).l 38 30 rfl) ?_ ?_
          · exact vp_in_nI (by omega) (by decide)
          refine V_aload_0 92 dX12_fillsWays_92 ?_
          refine V_getR 93 (c := 12) 61 ((F2.ss h39.1).r 0 61 42 rfl) dX12_fillsWays_93 fl_RX12_143 ((F2.ss h39.1).m 0 (Nat.le_of_ble_eq_true rfl)) ((F2.ss h39.1).k 0 12 rfl) (Nat.le_of_ble_eq_true rfl) (Nat.le_of_ble_eq_true rfl) rfl ?_
          refine V_iload_5 96 dX12_fillsWays_96 ?_
          refine V_iaload2 98 dX12_fillsWays_98 ((F2.ss h39.1).m 42 (Nat.le_of_ble_eq_true rfl)) ((F2.ss h39.1).k 42 14 rfl) ((F2.ss h39.1).l 42 8 rfl) ?_ ?_
          · exact vp_in_nI (by omega) (by decide)
          refine V_isub 99 dX12_fillsWays_99 ?_
          refine V_iconst 100 (1) dX12_fillsWays_100 (by decide) ?_
          refine V_iadd 101 dX12_fillsWays_101 ?_
          refine V_i2l 102 dX12_fillsWays_102 ?_
          refine V_lmul 103 dX12_fillsWays_103 ?_
          refine V_ladd 104 dX12_fillsWays_104 ?_
          refine V_lstore_3 105 dX12_fillsWays_105 rfl (Nat.le_of_ble_eq_true rfl) ?_
          refine V_lvw (by repeat (first | exact trivial | refine ⟨rfl, ?_⟩)) (J48 _ _ h39 p45 (by first | omega | assumption))
theorem MV.w {lo m tp : Nat} {g : MG} {S S2 : PS} (I : MV lo m g tp S) (e : FZ [m + 38, m + 40, m + 42] [(m, 55), (m, 56)] S S2) : MV lo m g tp S2 := I.z [38, 40, 42] [(0, 55), (0, 56)] e rfl rfl rfl rfl
set_option maxRecDepth 100000 in
set_option maxHeartbeats 8000000 in
theorem s_mwithinOf (l : Launch) (Γ : GC) (S : PS) {m tp : Nat} {g : MG} (I : MV Γ.2.2.2.2.1 m g tp S) (w : Int32) : CT l Γ yX12_withinOf cX12_withinOf 2 (some .long) (3) (0) (0) [.ref m, .int w] S (RLg (fun r S' => FZ [m + 38, m + 40, m + 42] [(m, 55), (m, 56)] S S')) := by
  refine CT.of RX12 "withinOf" [some (.ref m), some (.int w)] (by decide +kernel) rfl rfl (Nat.le_of_ble_eq_true rfl) rfl (fun M hM => ?_)
  subst hM
  have F := I.f
  obtain ⟨x, y, hn, ok⟩ := I.now
  have hs0 := OKR.s18 I.t ok
  have hb8 := stp_lt (x := x) (by omega)
  have hp8 := stp_pos x 8
  refine V_aload_0 0 dX12_withinOf_0 ?_
  refine V_iload_1 1 dX12_withinOf_1 ?_
  refine V_callV 2 (ci := 12) [.int _] _ (s_mfillsWays M.2.1 Γ S F I.t x y hn ok _) dX12_withinOf_2 cb_X12_fillsWays ml_RX12_385 im_yX12_fillsWays se_yX12_fillsWays (F.m 0 (Nat.le_of_ble_eq_true rfl)) (F.k 0 12 rfl) (Nat.le_of_ble_eq_true rfl) ⟨(Nat.le_of_ble_eq_true rfl), (Nat.le_of_ble_eq_true rfl)⟩ rfl rfl (Nat.le_of_ble_eq_true rfl) ⟨(Nat.le_of_ble_eq_true rfl), (Nat.le_of_ble_eq_true rfl)⟩ (RV.go (fun S1 h1 => ?_))
  have F1 := F.ss h1.1.1
  refine V_aload_0 5 dX12_withinOf_5 ?_
  refine V_getR 6 (c := 12) 60 (F1.r 0 60 41 rfl) dX12_withinOf_6 fl_RX12_140 (F1.m 0 (Nat.le_of_ble_eq_true rfl)) (F1.k 0 12 rfl) (Nat.le_of_ble_eq_true rfl) (Nat.le_of_ble_eq_true rfl) rfl ?_
  refine V_aload_0 9 dX12_withinOf_9 ?_
  refine V_getR 10 (c := 12) 59 (F1.r 0 59 40 rfl) dX12_withinOf_10 fl_RX12_137 (F1.m 0 (Nat.le_of_ble_eq_true rfl)) (F1.k 0 12 rfl) (Nat.le_of_ble_eq_true rfl) (Nat.le_of_ble_eq_true rfl) rfl ?_
  refine V_bipush 13 (8) dX12_withinOf_13 (by decide) ?_
  refine V_iaload2 15 dX12_withinOf_15 (F1.m 40 (Nat.le_of_ble_eq_true rfl)) (F1.k 40 14 rfl) (F1.l 40 9 rfl) ?_ ?_
  · exact (by unfold vp_in; decide)
  rw [show (8 : Int32).toNatClampNeg = 8 from by decide, h1.2.1 8 (by omega)]
  refine V_iconst 16 (1) dX12_withinOf_16 (by decide) ?_
  refine V_isub 17 dX12_withinOf_17 ?_
  rw [eqSub (Eq.refl (nI (stp x 8))) (show (1 : Int32) = nI 1 from rfl) (by omega)]
  refine V_laload2 18 dX12_withinOf_18 (F1.m 41 (Nat.le_of_ble_eq_true rfl)) (F1.k 41 15 rfl) (F1.l 41 20000 rfl) ?_ ?_
  · exact vp_in_nI (by omega) (by decide)
  refine V_lret 19 dX12_withinOf_19 rfl (Nat.le_of_ble_eq_true rfl) (Nat.le_of_ble_eq_true rfl) (RLg.mk h1.1)
set_option maxRecDepth 100000 in
set_option maxHeartbeats 8000000 in
theorem s_mwithin (l : Launch) (Γ : GC) (S : PS) {m tp : Nat} {g : MG} (I : MV Γ.2.2.2.2.1 m g tp S) (x : Int32) : CT l Γ yX12_within cX12_within 2 (some .long) (4) (0) (0) [.ref m, .int x] S (RLg (fun r S' => MV Γ.2.2.2.2.1 m g tp S')) := by
  refine CT.of RX12 "within" [some (.ref m), some (.int x)] (by decide +kernel) rfl rfl (Nat.le_of_ble_eq_true rfl) rfl (fun M hM => ?_)
  subst hM
  have F := I.f
  have p1 : (MV Γ.2.2.2.2.1 m g tp S) := I
  have J4 : ∀ (S2 : PS) (x5 : Int64), FT [] [] S S2 → (MV Γ.2.2.2.2.1 m g tp S2) → V M Γ (2, RX12, "within", (some .long), RM (4) (0) (0)) cX12_within (RQ M Γ (RLg (fun r S' => MV Γ.2.2.2.2.1 m g tp S')) (0) (0)) 0 0 S2 21 [some (.ref m), some (.int x)] [.long x5] := by
    intro S2 x5 h3 p6
    refine V_lret 21 dX12_within_21 rfl (Nat.le_of_ble_eq_true rfl) (Nat.le_of_ble_eq_true rfl) (RLg.mk p6)
  refine V_iload_1 0 dX12_within_0 ?_
  refine V_iconst 1 (0) dX12_within_1 (by decide) ?_
  refine V_bipush 2 (18) dX12_within_2 (by decide) ?_
  refine V_callS 4 [.int _, .int _, .int _] _ (s_min M.2.1 Γ S _ _ _) dX12_within_4 cb_X12_in ml_RX12_335 sm_yX12_in ⟨(Nat.le_of_ble_eq_true rfl), (Nat.le_of_ble_eq_true rfl)⟩ rfl rfl (Nat.le_of_ble_eq_true rfl) ⟨(Nat.le_of_ble_eq_true rfl), (Nat.le_of_ble_eq_true rfl)⟩ (RI.go (fun r9 S7 q8 => ?_))
  rw [q8.2]
  refine V_if_eq 7 18 dX12_within_7 (by decide) (fun c10 => ?_) (fun c10 => ?_)
  ·
    refine V_ldc2_w 18 dX12_within_18 kL_RX12_392 ?_
    refine V_lvw (by repeat (first | exact trivial | refine ⟨rfl, ?_⟩)) (J4 _ _ trivial p1)
  ·
    refine V_aload_0 10 dX12_within_10 ?_
    refine V_iload_1 11 dX12_within_11 ?_
    refine V_callV 12 (ci := 12) [.int _] _ (s_mwithinOf M.2.1 Γ S p1 _) dX12_within_12 cb_X12_withinOf ml_RX12_388 im_yX12_withinOf se_yX12_withinOf (F.m 0 (Nat.le_of_ble_eq_true rfl)) (F.k 0 12 rfl) (Nat.le_of_ble_eq_true rfl) ⟨(Nat.le_of_ble_eq_true rfl), (Nat.le_of_ble_eq_true rfl)⟩ rfl rfl (Nat.le_of_ble_eq_true rfl) ⟨(Nat.le_of_ble_eq_true rfl), (Nat.le_of_ble_eq_true rfl)⟩ (RLg.go (fun r14 S12 q13 => ?_))
    have h15 : FT [] [] S S12 := trivial
    have p16 : (MV Γ.2.2.2.2.1 m g tp S12) := by exact MV.w p1 q13
    refine V_goto 15 21 dX12_within_15 (by decide) ?_
    refine V_lvw (by repeat (first | exact trivial | refine ⟨rfl, ?_⟩)) (J4 _ _ trivial p16)
set_option maxRecDepth 100000 in
set_option maxHeartbeats 8000000 in
theorem s_mmosts (l : Launch) (Γ : GC) (S : PS) {m tp : Nat} {g : MG} (I : MV Γ.2.2.2.2.1 m g tp S) : CT l Γ yX12_mosts cX12_mosts 6 (some .long) (4) (0) (0) [.ref m] S (RLg (fun r S' => MV Γ.2.2.2.2.1 m g tp S')) := by
  refine CT.of RX12 "mosts" [some (.ref m), none, none, none, none, none] (by decide +kernel) rfl rfl (Nat.le_of_ble_eq_true rfl) rfl (fun M hM => ?_)
  subst hM
  have F := I.f
  refine V_aload_0 0 dX12_mosts_0 ?_
  refine V_callV 1 (ci := 12) [] _ (s_mcopies M.2.1 Γ S F I.t) dX12_mosts_1 cb_X12_copies ml_RX12_364 im_yX12_copies se_yX12_copies (F.m 0 (Nat.le_of_ble_eq_true rfl)) (F.k 0 12 rfl) (Nat.le_of_ble_eq_true rfl) ⟨(Nat.le_of_ble_eq_true rfl), (Nat.le_of_ble_eq_true rfl)⟩ rfl rfl (Nat.le_of_ble_eq_true rfl) ⟨(Nat.le_of_ble_eq_true rfl), (Nat.le_of_ble_eq_true rfl)⟩ (RV.go (fun S2 h2 => ?_))
  have I2 := cpSR I h2
  have F2 := I2.1.f
  have hs := OKR.s18 I2.1.t I2.2.ok
  refine V_aload_0 4 dX12_mosts_4 ?_
  refine V_iconst 5 (0) dX12_mosts_5 (by decide) ?_
  refine V_callV 6 (ci := 12) [.int _] _ (s_msumOn M.2.1 Γ S2 F2 I2.2.choose 0 (by decide) I2.2.r.fx) dX12_mosts_6 cb_X12_sumOn ml_RX12_352 im_yX12_sumOn se_yX12_sumOn (F2.m 0 (Nat.le_of_ble_eq_true rfl)) (F2.k 0 12 rfl) (Nat.le_of_ble_eq_true rfl) ⟨(Nat.le_of_ble_eq_true rfl), (Nat.le_of_ble_eq_true rfl)⟩ rfl rfl (Nat.le_of_ble_eq_true rfl) ⟨(Nat.le_of_ble_eq_true rfl), (Nat.le_of_ble_eq_true rfl)⟩ (RI.go (fun r1 S1 q1 => ?_))
  rw [q1.2, q1.1]
  refine V_callS 9 [.int _] _ (s_morders M.2.1 Γ S2 _ (by rw [nI_toInt (by omega)]; omega)) dX12_mosts_9 cb_X12_orders ml_RX12_394 sm_yX12_orders ⟨(Nat.le_of_ble_eq_true rfl), (Nat.le_of_ble_eq_true rfl)⟩ rfl rfl (Nat.le_of_ble_eq_true rfl) ⟨(Nat.le_of_ble_eq_true rfl), (Nat.le_of_ble_eq_true rfl)⟩ (RLg.go (fun r3 S3 q3 => ?_))
  have I3 := I2.1.z [] [] q3 rfl rfl rfl rfl
  have F3 := I3.f
  refine V_lstore_1 12 dX12_mosts_12 rfl (Nat.le_of_ble_eq_true rfl) ?_
  have p1 : (MV Γ.2.2.2.2.1 m g tp S3) := I3
  refine V_lconst 13 0 dX12_mosts_13 (by decide) ?_
  refine V_lstore_3 14 dX12_mosts_14 rfl (Nat.le_of_ble_eq_true rfl) ?_
  refine V_iconst 15 (0) dX12_mosts_15 (by decide) ?_
  refine V_istore_5 16 dX12_mosts_16 rfl (Nat.le_of_ble_eq_true rfl) ?_
  refine V_lvw (by repeat (first | exact trivial | refine ⟨rfl, ?_⟩)) (V_while (α := Nat × PS × Int64) (fun z2 => 18 - z2.1) (fun z2 => z2.1 ≤ 18 ∧ FT [] [] S3 z2.2.1 ∧ (MV Γ.2.2.2.2.1 m g tp z2.2.1)) (fun z2 => z2.2.1) (fun z2 => [some (.ref m), some (.long r3), none, some (.long z2.2.2), none, some (.int (nI z2.1))]) (0, _, _) ⟨Nat.zero_le _, trivial, p1⟩ (fun z2 hx9 ih7 => ?b10))
  obtain ⟨i3, S4, w8⟩ := z2
  obtain ⟨hi5, h6, p12⟩ := hx9
  dsimp only at hi5 h6 p12 ih7 ⊢
  refine V_iload_5 18 dX12_mosts_18 ?_
  refine V_bipush 20 (18) dX12_mosts_20 (by decide) ?_
  refine V_icmp_ge 22 42 dX12_mosts_22 (by decide) (fun c13 => ?_) (fun c13 => ?_)
  ·
    refine V_lload_3 42 dX12_mosts_42 ?_
    refine V_lret 43 dX12_mosts_43 rfl (Nat.le_of_ble_eq_true rfl) (Nat.le_of_ble_eq_true rfl) (RLg.mk p12)
  ·
    have lt14 := nI_lt8 (by decide) hi5 c13
    refine V_lload_3 25 dX12_mosts_25 ?_
    refine V_lload_1 26 dX12_mosts_26 ?_
    refine V_aload_0 27 dX12_mosts_27 ?_
    refine V_iload_5 28 dX12_mosts_28 ?_
    refine V_callV 30 (ci := 12) [.int _] _ (s_mwithinOf M.2.1 Γ S4 p12 _) dX12_mosts_30 cb_X12_withinOf ml_RX12_388 im_yX12_withinOf se_yX12_withinOf ((MV.f p12).m 0 (Nat.le_of_ble_eq_true rfl)) ((MV.f p12).k 0 12 rfl) (Nat.le_of_ble_eq_true rfl) ⟨(Nat.le_of_ble_eq_true rfl), (Nat.le_of_ble_eq_true rfl)⟩ rfl rfl (Nat.le_of_ble_eq_true rfl) ⟨(Nat.le_of_ble_eq_true rfl), (Nat.le_of_ble_eq_true rfl)⟩ (RLg.go (fun r17 S15 q16 => ?_))
    have h18 : FT [] [] S3 S15 := trivial
    have p19 : (MV Γ.2.2.2.2.1 m g tp S15) := by exact MV.w p12 q16
    refine V_lsub 33 dX12_mosts_33 ?_
    refine V_ladd 34 dX12_mosts_34 ?_
    refine V_lstore_3 35 dX12_mosts_35 rfl (Nat.le_of_ble_eq_true rfl) ?_
    refine V_iinc_5 36 (1) dX12_mosts_36 (by decide) rfl (Nat.le_of_ble_eq_true rfl) ?_
    refine V_goto 39 18 dX12_mosts_39 (by decide) ?_
    rw [← nI_succ]
    refine V_lvw (by repeat (first | exact trivial | refine ⟨rfl, ?_⟩)) (ih7 (i3 + 1, _, _) ⟨by dsimp only; omega, trivial, p19⟩ (by dsimp only; omega))
set_option maxRecDepth 100000 in
set_option maxHeartbeats 8000000 in
theorem s_mlies (l : Launch) (Γ : GC) (S : PS) {m tp : Nat} {g : MG} (I : MV Γ.2.2.2.2.1 m g tp S) (z : Int32) : CT l Γ yX12_lies cX12_lies 7 (some .long) (3) (0) (0) [.ref m, .int z] S (RLg (fun r S' => MV Γ.2.2.2.2.1 m g tp S')) := by
  refine CT.of RX12 "lies" [some (.ref m), some (.int z), none, none, none, none, none] (by decide +kernel) rfl rfl (Nat.le_of_ble_eq_true rfl) rfl (fun M hM => ?_)
  subst hM
  have F := I.f
  obtain ⟨x, y, hn, ok⟩ := I.now
  have hs0 := OKR.s18 I.t ok
  have hs : sumN x 8 ≤ 18 := by omega
  have hb8 := stp_lt hs
  have hp8 := stp_pos x 8
  have hz := okzx ok
  refine V_aload_0 0 dX12_lies_0 ?_
  refine V_callV 1 (ci := 12) [] _ (s_mcopies M.2.1 Γ S F I.t) dX12_lies_1 cb_X12_copies ml_RX12_364 im_yX12_copies se_yX12_copies (F.m 0 (Nat.le_of_ble_eq_true rfl)) (F.k 0 12 rfl) (Nat.le_of_ble_eq_true rfl) ⟨(Nat.le_of_ble_eq_true rfl), (Nat.le_of_ble_eq_true rfl)⟩ rfl rfl (Nat.le_of_ble_eq_true rfl) ⟨(Nat.le_of_ble_eq_true rfl), (Nat.le_of_ble_eq_true rfl)⟩ (RV.go (fun S2 h2 => ?_))
  have I2 := cpSR I h2
  have hr2 := cpRow hn h2.2
  have F2 := I2.1.f
  refine V_iload_1 4 dX12_lies_4 ?_
  refine V_iconst 5 (0) dX12_lies_5 (by decide) ?_
  refine V_aload_0 6 dX12_lies_6 ?_
  refine V_iconst 7 (0) dX12_lies_7 (by decide) ?_
  refine V_callV 8 (ci := 12) [.int _] _ (s_msumOn M.2.1 Γ S2 F2 x 0 (by decide) hr2.fx) dX12_lies_8 cb_X12_sumOn ml_RX12_352 im_yX12_sumOn se_yX12_sumOn (F2.m 0 (Nat.le_of_ble_eq_true rfl)) (F2.k 0 12 rfl) (Nat.le_of_ble_eq_true rfl) ⟨(Nat.le_of_ble_eq_true rfl), (Nat.le_of_ble_eq_true rfl)⟩ rfl rfl (Nat.le_of_ble_eq_true rfl) ⟨(Nat.le_of_ble_eq_true rfl), (Nat.le_of_ble_eq_true rfl)⟩ (RI.go (fun r1 S1 q1 => ?_))
  rw [q1.2, q1.1]
  refine V_callS 11 [.int _, .int _, .int _] _ (s_min M.2.1 Γ S2 _ _ _) dX12_lies_11 cb_X12_in ml_RX12_335 sm_yX12_in ⟨(Nat.le_of_ble_eq_true rfl), (Nat.le_of_ble_eq_true rfl)⟩ rfl rfl (Nat.le_of_ble_eq_true rfl) ⟨(Nat.le_of_ble_eq_true rfl), (Nat.le_of_ble_eq_true rfl)⟩ (RI.go (fun r3 S3 q3 => ?_))
  rw [q3.2]
  have q3 := q3.1
  refine V_if_ne 14 21 dX12_lies_14 (by decide) (fun c => ?_) (fun c => ?_)
  · obtain ⟨j, hj, ej⟩ := inN (n := sumN x 8) (nI_toInt (by omega)) (q3.resolve_left c).2.1 (q3.resolve_left c).2.2
    obtain ⟨x2, y2, hn2, ok2⟩ := I2.1.now
    refine V_aload_0 21 dX12_lies_21 ?_
    refine V_bipush 22 (18) dX12_lies_22 (by decide) ?_
    refine V_callV 24 (ci := 12) [.int _] _ (s_mfillsWays M.2.1 Γ S2 F2 I2.1.t x y (by have e := h2.1.2.1 (m + 37) (by simp); exact hn.eq e) ok _) dX12_lies_24 cb_X12_fillsWays ml_RX12_385 im_yX12_fillsWays se_yX12_fillsWays (F2.m 0 (Nat.le_of_ble_eq_true rfl)) (F2.k 0 12 rfl) (Nat.le_of_ble_eq_true rfl) ⟨(Nat.le_of_ble_eq_true rfl), (Nat.le_of_ble_eq_true rfl)⟩ rfl rfl (Nat.le_of_ble_eq_true rfl) ⟨(Nat.le_of_ble_eq_true rfl), (Nat.le_of_ble_eq_true rfl)⟩ (RV.go (fun S4 h4 => ?_))
    have F4 := F2.ss h4.1.1
    have I4 := MV.w I2.1 h4.1
    refine V_aload_0 27 dX12_lies_27 ?_
    refine V_iconst 28 (0) dX12_lies_28 (by decide) ?_
    refine V_callV 29 (ci := 12) [.int _] _ (s_msumOn M.2.1 Γ S4 F4 x 0 (by decide) h4.2.2.fx) dX12_lies_29 cb_X12_sumOn ml_RX12_352 im_yX12_sumOn se_yX12_sumOn (F4.m 0 (Nat.le_of_ble_eq_true rfl)) (F4.k 0 12 rfl) (Nat.le_of_ble_eq_true rfl) ⟨(Nat.le_of_ble_eq_true rfl), (Nat.le_of_ble_eq_true rfl)⟩ rfl rfl (Nat.le_of_ble_eq_true rfl) ⟨(Nat.le_of_ble_eq_true rfl), (Nat.le_of_ble_eq_true rfl)⟩ (RI.go (fun r5 S5 q5 => ?_))
    rw [q5.2, q5.1]
    refine V_iload_1 32 dX12_lies_32 ?_
    rw [ej]
    refine V_isub 33 dX12_lies_33 ?_
    rw [eqSub (Eq.refl (nI (sumN x 8))) (Eq.refl (nI j)) hj]
    refine V_callS 34 [.int _] _ (s_morders M.2.1 Γ S4 _ (by rw [nI_toInt (by omega)]; omega)) dX12_lies_34 cb_X12_orders ml_RX12_394 sm_yX12_orders ⟨(Nat.le_of_ble_eq_true rfl), (Nat.le_of_ble_eq_true rfl)⟩ rfl rfl (Nat.le_of_ble_eq_true rfl) ⟨(Nat.le_of_ble_eq_true rfl), (Nat.le_of_ble_eq_true rfl)⟩ (RLg.go (fun r6 S6 q6 => ?_))
    have I6 := I4.z [] [] q6 rfl rfl rfl rfl
    have F6 := I6.f
    have hp6 := stp_all h4.2.1 q6 (by simp)
    have hr6 := h4.2.2.fz q6 (by simp)
    refine V_lstore_2 37 dX12_lies_37 rfl (Nat.le_of_ble_eq_true rfl) ?_
    refine V_lconst 38 0 dX12_lies_38 (by decide) ?_
    refine V_lstore_4 39 dX12_lies_39 rfl (Nat.le_of_ble_eq_true rfl) ?_
    refine V_iconst 41 (0) dX12_lies_41 (by decide) ?_
    refine V_istore_6 42 dX12_lies_42 rfl (Nat.le_of_ble_eq_true rfl) ?_
    refine V_lvw (by repeat (first | exact trivial | refine ⟨rfl, ?_⟩)) (V_while (α := Nat × PS × Int64) (fun z1 => stp x 8 - z1.1) (fun z1 => z1.1 ≤ stp x 8 ∧ FZ [m + 42] [] S6 z1.2.1) (fun z1 => z1.2.1) (fun z1 => [some (.ref m), some (.int (nI j)), some (.long r6), none, some (.long z1.2.2), none, some (.int (nI z1.1))]) (0, _, _) ⟨Nat.zero_le _, FZ.rf⟩ (fun z1 hx8 ih6 => ?b9))
    obtain ⟨i2, S3, w7⟩ := z1
    obtain ⟨hi4, h5⟩ := hx8
    dsimp only at hi4 h5 ih6 ⊢
    have J13 : ∀ (S11 : PS) (y14 : Int64), FZ [m + 42] [] S6 S11 → i2 < stp x 8 → V M Γ (7, RX12, "lies", (some .long), RM (3) (0) (0)) cX12_lies (RQ M Γ (RLg (fun r S' => MV Γ.2.2.2.2.1 m g tp S')) (0) (0)) 0 0 S11 90 [some (.ref m), some (.int (nI j)), some (.long r6), none, some (.long y14), none, some (.int (nI i2))] [] := by
      intro S11 y14 h12 lt15
      refine V_iinc_6 90 (1) dX12_lies_90 (by decide) rfl (Nat.le_of_ble_eq_true rfl) ?_
      refine V_goto 93 44 dX12_lies_93 (by decide) ?_
      rw [← nI_succ]
      refine V_lvw (by repeat (first | exact trivial | refine ⟨rfl, ?_⟩)) (ih6 (i2 + 1, _, _) ⟨by dsimp only; omega, h12⟩ (by dsimp only; omega))
    refine V_iload_6 44 dX12_lies_44 ?_
    refine V_aload_0 46 dX12_lies_46 ?_
    refine V_getR 47 (c := 12) 59 ((F6.ss h5.1).r 0 59 40 rfl) dX12_lies_47 fl_RX12_137 ((F6.ss h5.1).m 0 (Nat.le_of_ble_eq_true rfl)) ((F6.ss h5.1).k 0 12 rfl) (Nat.le_of_ble_eq_true rfl) (Nat.le_of_ble_eq_true rfl) rfl ?_
    refine V_bipush 50 (8) dX12_lies_50 (by decide) ?_
    refine V_iaload2 52 dX12_lies_52 ((F6.ss h5.1).m 40 (Nat.le_of_ble_eq_true rfl)) ((F6.ss h5.1).k 40 14 rfl) ((F6.ss h5.1).l 40 9 rfl) ?_ ?_
    · exact (by unfold vp_in; decide)
    rw [clN (show (8 : Int32) = nI 8 from rfl) (by omega)]
    rw [(stp_at hp6 h5 (by simp) (k := 8) (by omega))]
    refine V_icmp_ge 53 96 dX12_lies_53 (by decide) (fun c16 => ?_) (fun c16 => ?_)
    ·
      try have nf17 := (nI_leE (Eq.refl (nI (stp x 8))) (Eq.refl (nI i2)) (by omega) (by omega)).mp c16
      refine V_lload_4 96 dX12_lies_96 ?_
      refine V_lret 98 dX12_lies_98 rfl (Nat.le_of_ble_eq_true rfl) (Nat.le_of_ble_eq_true rfl) (RLg.mk (MV.w I6 (h5.sub (by simp) (by simp))))
    ·
      try have nf18 := mt (nI_leE (Eq.refl (nI (stp x 8))) (Eq.refl (nI i2)) (by omega) (by omega)).mpr c16
      try have lt19 := nI_ltC hi4 c16
      refine V_aload_0 56 dX12_lies_56 ?_
      refine V_iload_6 57 dX12_lies_57 ?_
      refine V_callV 59 (ci := 12) [.int _] _ (s_mtakes M.2.1 Γ S3 (F6.ss h5.1) (I6.t.z [42] [] h5 rfl rfl rfl rfl) x y (hr6.fz h5 (by simp)) hz hs (stp_all hp6 h5 (by simp)) (show (i2) < 20000 by omega)) dX12_lies_59 cb_X12_takesNumber ml_RX12_379 im_yX12_takesNumber se_yX12_takesNumber ((F6.ss h5.1).m 0 (Nat.le_of_ble_eq_true rfl)) ((F6.ss h5.1).k 0 12 rfl) (Nat.le_of_ble_eq_true rfl) ⟨(Nat.le_of_ble_eq_true rfl), (Nat.le_of_ble_eq_true rfl)⟩ rfl rfl (Nat.le_of_ble_eq_true rfl) ⟨(Nat.le_of_ble_eq_true rfl), (Nat.le_of_ble_eq_true rfl)⟩ (RV.go (fun S20 q21 => ?_))
      have h23 : FZ [m + 42] [] S6 S20 := h5.tr (q21.1.sub (by simp) (by simp))
      refine V_aload_0 62 dX12_lies_62 ?_
      refine V_callV 63 (ci := 12) [] _ (s_mdrawnAll M.2.1 Γ S20 (F6.ss h23.1)) dX12_lies_63 cb_X12_drawnAll ml_RX12_397 im_yX12_drawnAll se_yX12_drawnAll ((F6.ss h23.1).m 0 (Nat.le_of_ble_eq_true rfl)) ((F6.ss h23.1).k 0 12 rfl) (Nat.le_of_ble_eq_true rfl) ⟨(Nat.le_of_ble_eq_true rfl), (Nat.le_of_ble_eq_true rfl)⟩ rfl rfl (Nat.le_of_ble_eq_true rfl) ⟨(Nat.le_of_ble_eq_true rfl), (Nat.le_of_ble_eq_true rfl)⟩ (RI.go (fun r26 S24 q25 => ?_))
      have h27 : FZ [m + 42] [] S6 S24 := h23.tr (q25.sub (by simp) (by simp))
      refine V_iload_1 66 dX12_lies_66 ?_
      refine V_icmp_ne 67 90 dX12_lies_67 (by decide) (fun c28 => ?_) (fun c28 => ?_)
      ·
        refine V_lvw (by repeat (first | exact trivial | refine ⟨rfl, ?_⟩)) (J13 _ _ h27 (by first | omega | assumption))
      ·
        refine V_lload_4 70 dX12_lies_70 ?_
        refine V_aload_0 72 dX12_lies_72 ?_
        refine V_getR 73 (c := 12) 60 ((F6.ss h27.1).r 0 60 41 rfl) dX12_lies_73 fl_RX12_140 ((F6.ss h27.1).m 0 (Nat.le_of_ble_eq_true rfl)) ((F6.ss h27.1).k 0 12 rfl) (Nat.le_of_ble_eq_true rfl) (Nat.le_of_ble_eq_true rfl) rfl ?_
        refine V_iload_6 76 dX12_lies_76 ?_
        refine V_laload2 78 dX12_lies_78 ((F6.ss h27.1).m 41 (Nat.le_of_ble_eq_true rfl)) ((F6.ss h27.1).k 41 15 rfl) ((F6.ss h27.1).l 41 20000 rfl) ?_ ?_
        · exact vp_in_nI (by omega) (by decide)
        refine V_lload_2 79 dX12_lies_79 ?_
        refine V_lmul 80 dX12_lies_80 ?_
        refine V_aload_0 81 dX12_lies_81 ?_
        refine V_callV 82 (ci := 12) [] _ (s_mlieOut M.2.1 Γ S24 (F6.ss h27.1) (I6.t.z [42] [] h27 rfl rfl rfl rfl)) dX12_lies_82 cb_X12_lieOut ml_RX12_382 im_yX12_lieOut se_yX12_lieOut ((F6.ss h27.1).m 0 (Nat.le_of_ble_eq_true rfl)) ((F6.ss h27.1).k 0 12 rfl) (Nat.le_of_ble_eq_true rfl) ⟨(Nat.le_of_ble_eq_true rfl), (Nat.le_of_ble_eq_true rfl)⟩ rfl rfl (Nat.le_of_ble_eq_true rfl) ⟨(Nat.le_of_ble_eq_true rfl), (Nat.le_of_ble_eq_true rfl)⟩ (RI.go (fun r32 S30 q31 => ?_))
        have h33 : FZ [m + 42] [] S6 S30 := h27.tr (q31.sub (by simp) (by simp))
        refine V_i2l 85 dX12_lies_85 ?_
        refine V_lmul 86 dX12_lies_86 ?_
        refine V_ladd 87 dX12_lies_87 ?_
        refine V_lstore_4 88 dX12_lies_88 rfl (Nat.le_of_ble_eq_true rfl) ?_
        refine V_lvw (by repeat (first | exact trivial | refine ⟨rfl, ?_⟩)) (J13 _ _ h33 (by first | omega | assumption))
  ·
    refine V_ldc2_w 17 dX12_lies_17 kL_RX12_392 ?_
    refine V_lret 20 dX12_lies_20 rfl (Nat.le_of_ble_eq_true rfl) (Nat.le_of_ble_eq_true rfl) (RLg.mk I2.1)

