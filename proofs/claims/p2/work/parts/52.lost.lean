/-! Losses.waysWithout, Seen's methods, from any ints -/
def FT (X : List Nat) (Y : List (Nat × Nat)) (S S2 : PS) : Prop := True
theorem rx1 {o : Nat} {S S1 S2 : PS} (h : ROT o S S1) (g : ROT o S1 S2) : ROT o S S2 := fun a ha j => (g a ha j).trans (h a ha j)
theorem nbsum {s B i j : Nat} {T : PS} (h : NB s B T) (hB : B + B < 2147483647) : (sA T (s + 1) i + sA T (s + 2) j).toInt < 2147483647 := IB.lt ((h.2 i).1.add (h.2 j).2 (by omega)) hB
theorem nbsum2 {s B : Nat} {x y r r2 : Int32} {T : PS} (h : NB s B T) (h1 : r = aAt T (s + 1) x) (h2 : r2 = aAt T (s + 2) y) (hB : B + B < 2147483647) : (r + r2).toInt < 2147483647 := by
  subst h1 h2
  exact IB.lt (IB.add (IB.aAt (fun j => (h.2 j).1)) (IB.aAt (fun j => (h.2 j).2)) (by omega)) hB
set_option maxRecDepth 100000 in
set_option maxHeartbeats 8000000 in
theorem s_waysWithout (l : Launch) (Γ : GC) (S : PS) {o s t : Nat} (F : isL lyLossesW Γ.2.2.2.2.1 S o) (W : WR 0 1 1 o S) (Fs : isL lyState Γ.2.2.2.2.1 S s) (Ft : isL lyText Γ.2.2.2.2.1 S t) (B : Nat) (hb : NB s B S) (hB : B + B < 2147483647) (x u v : Int32) : CT l Γ yX3_waysWithout cX3_waysWithout 9 (some .long) (3) (0) (0) [.ref o, .ref s, .ref t, .int x, .int u, .int v] S (RLg (fun r S' => FW [] [] S S' ∧ WR 0 1 1 o S' ∧ ROT o S S')) := by
  refine CT.of RX3 "waysWithout" [some (.ref o), some (.ref s), some (.ref t), some (.int x), some (.int u), some (.int v), none, none, none] (by decide +kernel) rfl rfl (Nat.le_of_ble_eq_true rfl) rfl (fun M hM => ?_)
  subst hM
  refine V_iconst 0 (0) dX3_waysWithout_0 (by decide) ?_
  refine V_istore_6 1 dX3_waysWithout_1 rfl (Nat.le_of_ble_eq_true rfl) ?_
  refine V_lvw (by repeat (first | exact trivial | refine ⟨rfl, ?_⟩)) (V_while (α := Nat × PS) (fun z1 => 19 - z1.1) (fun z1 => z1.1 ≤ 19 ∧ FT [] [] S z1.2 ∧ ((fun T => FW [] [] S T ∧ WR 0 1 1 o T ∧ ROT o S T) z1.2)) (fun z1 => z1.2) (fun z1 => [some (.ref o), some (.ref s), some (.ref t), some (.int x), some (.int u), some (.int v), some (.int (nI z1.1)), none, none]) (0, _) ⟨Nat.zero_le _, trivial, (show FW [] [] S S ∧ WR 0 1 1 o S ∧ ROT o S S from ⟨FW.rf, W, fun _ _ _ => rfl⟩)⟩ (fun z1 hx7 ih6 => ?b8))
  obtain ⟨i2, S3⟩ := z1
  obtain ⟨hi4, h5, p10⟩ := hx7
  dsimp only at hi4 h5 p10 ih6 ⊢
  refine V_iload_6 3 dX3_waysWithout_3 ?_
  refine V_aload_0 5 dX3_waysWithout_5 ?_
  refine V_getR 6 (c := 3) 0 (WR.r1 p10.2.1) dX3_waysWithout_6 fl_RX3_9 ((F.w p10.1.1 rfl).m 0 (Nat.le_of_ble_eq_true rfl)) ((F.w p10.1.1 rfl).k 0 3 rfl) (Nat.le_of_ble_eq_true rfl) (Nat.le_of_ble_eq_true rfl) rfl ?_
  refine V_alen2 9 dX3_waysWithout_9 (wlM (F.w p10.1.1 rfl) (WR.c1 p10.2.1)) (wlK (F.w p10.1.1 rfl) (WR.c1 p10.2.1)) (Nat.le_of_ble_eq_true rfl) (Nat.le_of_ble_eq_true rfl) (wlL (F.w p10.1.1 rfl) (WR.c1 p10.2.1)) ?_
  refine V_icmp_ge 10 36 dX3_waysWithout_10 (by decide) (fun c11 => ?_) (fun c11 => ?_)
  ·
    refine V_iconst 36 (0) dX3_waysWithout_36 (by decide) ?_
    refine V_istore_6 37 dX3_waysWithout_37 rfl (Nat.le_of_ble_eq_true rfl) ?_
    refine V_lvw (by repeat (first | exact trivial | refine ⟨rfl, ?_⟩)) (V_while (α := Nat × PS) (fun z12 => 8 - z12.1) (fun z12 => z12.1 ≤ 8 ∧ FT [] [] S z12.2 ∧ ((fun T => FW [] [] S T ∧ WR 0 1 1 o T ∧ ROT o S T) z12.2)) (fun z12 => z12.2) (fun z12 => [some (.ref o), some (.ref s), some (.ref t), some (.int x), some (.int u), some (.int v), some (.int (nI z12.1)), none, none]) (0, _) ⟨Nat.zero_le _, trivial, p10⟩ (fun z12 hx18 ih17 => ?b19))
    obtain ⟨i13, S14⟩ := z12
    obtain ⟨hi15, h16, p21⟩ := hx18
    dsimp only at hi15 h16 p21 ih17 ⊢
    have J24 : ∀ (S22 : PS) (x25 : Int32) (x26 : Int32), FT [] [] S S22 → ((fun T => FW [] [] S T ∧ WR 0 1 1 o T ∧ ROT o S T) S22) → i13 < 8 → V M Γ (9, RX3, "waysWithout", (some .long), RM (3) (0) (0)) cX3_waysWithout (RQ M Γ (RLg (fun r S' => FW [] [] S S' ∧ WR 0 1 1 o S' ∧ ROT o S S')) (0) (0)) 0 0 S22 121 [some (.ref o), some (.ref s), some (.ref t), some (.int x), some (.int u), some (.int v), some (.int (nI i13)), some (.int x25), some (.int x26)] [] := by
      intro S22 x25 x26 h23 p27 lt28
      refine V_iinc_6 121 (1) dX3_waysWithout_121 (by decide) rfl (Nat.le_of_ble_eq_true rfl) ?_
      refine V_goto 124 39 dX3_waysWithout_124 (by decide) ?_
      rw [← nI_succ]
      refine V_lvw (by repeat (first | exact trivial | refine ⟨rfl, ?_⟩)) (ih17 (i13 + 1, _) ⟨by dsimp only; omega, trivial, p27⟩ (by dsimp only; omega))
    refine V_iload_6 39 dX3_waysWithout_39 ?_
    refine V_bipush 41 (8) dX3_waysWithout_41 (by decide) ?_
    refine V_icmp_ge 43 127 dX3_waysWithout_43 (by decide) (fun c29 => ?_) (fun c29 => ?_)
    ·
      refine V_aload_0 127 dX3_waysWithout_127 ?_
      refine V_getR 128 (c := 3) 0 (WR.r1 p21.2.1) dX3_waysWithout_128 fl_RX3_9 ((F.w p21.1.1 rfl).m 0 (Nat.le_of_ble_eq_true rfl)) ((F.w p21.1.1 rfl).k 0 3 rfl) (Nat.le_of_ble_eq_true rfl) (Nat.le_of_ble_eq_true rfl) rfl ?_
      refine V_iload_3 131 dX3_waysWithout_131 ?_
      refine V_callSN 132 [.ref _, .int _] _ (c_longAt M.2.1 Γ S14 (a := _) (wlM (F.w p21.1.1 rfl) (WR.c1 p21.2.1)) (wlK (F.w p21.1.1 rfl) (WR.c1 p21.2.1)) (by rw [(wlL (F.w p21.1.1 rfl) (WR.c1 p21.2.1))]; decide) _) dX3_waysWithout_132 cb_X11_longAt ne_RX3_60 sm_yX11_longAt ⟨(Nat.le_of_ble_eq_true rfl), (Nat.le_of_ble_eq_true rfl)⟩ rfl rfl (Nat.le_of_ble_eq_true rfl) ⟨(Nat.le_of_ble_eq_true rfl), (Nat.le_of_ble_eq_true rfl)⟩ (RLg.go (fun r32 S30 q31 => ?_))
      rw [q31.2]
      refine V_lret 135 dX3_waysWithout_135 rfl (Nat.le_of_ble_eq_true rfl) (Nat.le_of_ble_eq_true rfl) (RLg.mk p21)
    ·
      have lt33 := nI_lt8 (by decide) hi15 c29
      refine V_aload_2 46 dX3_waysWithout_46 ?_
      refine V_getR 47 (c := 10) 3 ((Ft.w p21.1.1 rfl).r 0 3 2 rfl) dX3_waysWithout_47 fl_RX3_39 ((Ft.w p21.1.1 rfl).m 0 (Nat.le_of_ble_eq_true rfl)) ((Ft.w p21.1.1 rfl).k 0 10 rfl) (Nat.le_of_ble_eq_true rfl) (Nat.le_of_ble_eq_true rfl) rfl ?_
      refine V_iload_6 50 dX3_waysWithout_50 ?_
      refine V_callSN 52 [.ref _, .int _] _ (c_at M.2.1 Γ S14 (a := (t + 2)) ((Ft.w p21.1.1 rfl).m 2 (Nat.le_of_ble_eq_true rfl)) ((Ft.w p21.1.1 rfl).k 2 14 rfl) (by rw [((Ft.w p21.1.1 rfl).l 2 8 rfl)]; decide) _) dX3_waysWithout_52 cb_X11_at ne_RX3_44 sm_yX11_at ⟨(Nat.le_of_ble_eq_true rfl), (Nat.le_of_ble_eq_true rfl)⟩ rfl rfl (Nat.le_of_ble_eq_true rfl) ⟨(Nat.le_of_ble_eq_true rfl), (Nat.le_of_ble_eq_true rfl)⟩ (RI.go (fun r36 S34 q35 => ?_))
      rw [q35.2]
      refine V_istore_7 55 dX3_waysWithout_55 rfl (Nat.le_of_ble_eq_true rfl) ?_
      refine V_aload_1 57 dX3_waysWithout_57 ?_
      refine V_getR 58 (c := 7) 0 ((Fs.w p21.1.1 rfl).r 0 0 1 rfl) dX3_waysWithout_58 fl_RX3_48 ((Fs.w p21.1.1 rfl).m 0 (Nat.le_of_ble_eq_true rfl)) ((Fs.w p21.1.1 rfl).k 0 7 rfl) (Nat.le_of_ble_eq_true rfl) (Nat.le_of_ble_eq_true rfl) rfl ?_
      refine V_iload_6 61 dX3_waysWithout_61 ?_
      refine V_iaload2 63 dX3_waysWithout_63 ((Fs.w p21.1.1 rfl).m 1 (Nat.le_of_ble_eq_true rfl)) ((Fs.w p21.1.1 rfl).k 1 14 rfl) ((Fs.w p21.1.1 rfl).l 1 8 rfl) ?_ ?_
      · exact vp_in_nI (by omega) (by decide)
      refine V_aload_1 64 dX3_waysWithout_64 ?_
      refine V_getR 65 (c := 7) 1 ((Fs.w p21.1.1 rfl).r 0 1 2 rfl) dX3_waysWithout_65 fl_RX3_53 ((Fs.w p21.1.1 rfl).m 0 (Nat.le_of_ble_eq_true rfl)) ((Fs.w p21.1.1 rfl).k 0 7 rfl) (Nat.le_of_ble_eq_true rfl) (Nat.le_of_ble_eq_true rfl) rfl ?_
      refine V_iload_6 68 dX3_waysWithout_68 ?_
      refine V_iaload2 70 dX3_waysWithout_70 ((Fs.w p21.1.1 rfl).m 2 (Nat.le_of_ble_eq_true rfl)) ((Fs.w p21.1.1 rfl).k 2 14 rfl) ((Fs.w p21.1.1 rfl).l 2 8 rfl) ?_ ?_
      · exact vp_in_nI (by omega) (by decide)
      refine V_iadd 71 dX3_waysWithout_71 ?_
      refine V_istore_8 72 dX3_waysWithout_72 rfl (Nat.le_of_ble_eq_true rfl) ?_
      refine V_iload_6 74 dX3_waysWithout_74 ?_
      refine V_iload_7 76 dX3_waysWithout_76 ?_
      refine V_icmp_gt 78 121 dX3_waysWithout_78 (by decide) (fun c37 => ?_) (fun c37 => ?_)
      ·
        refine V_lvw (by repeat (first | exact trivial | refine ⟨rfl, ?_⟩)) (J24 _ _ _ trivial p21 (by first | omega | assumption))
      ·
        refine V_aload_0 81 dX3_waysWithout_81 ?_
        refine V_iload_8 82 dX3_waysWithout_82 ?_
        refine V_iload_6 84 dX3_waysWithout_84 ?_
        refine V_iload_7 86 dX3_waysWithout_86 ?_
        refine V_icmp_ne 88 95 dX3_waysWithout_88 (by decide) (fun c39 => ?_) (fun c39 => ?_)
        ·
          refine V_aload_1 95 dX3_waysWithout_95 ?_
          refine V_getR 96 (c := 7) 0 ((Fs.w p21.1.1 rfl).r 0 0 1 rfl) dX3_waysWithout_96 fl_RX3_48 ((Fs.w p21.1.1 rfl).m 0 (Nat.le_of_ble_eq_true rfl)) ((Fs.w p21.1.1 rfl).k 0 7 rfl) (Nat.le_of_ble_eq_true rfl) (Nat.le_of_ble_eq_true rfl) rfl ?_
          refine V_iload_7 99 dX3_waysWithout_99 ?_
          refine V_callSN 101 [.ref _, .int _] _ (c_at M.2.1 Γ S14 (a := (s + 1)) ((Fs.w p21.1.1 rfl).m 1 (Nat.le_of_ble_eq_true rfl)) ((Fs.w p21.1.1 rfl).k 1 14 rfl) (by rw [((Fs.w p21.1.1 rfl).l 1 8 rfl)]; decide) _) dX3_waysWithout_101 cb_X11_at ne_RX3_44 sm_yX11_at ⟨(Nat.le_of_ble_eq_true rfl), (Nat.le_of_ble_eq_true rfl)⟩ rfl rfl (Nat.le_of_ble_eq_true rfl) ⟨(Nat.le_of_ble_eq_true rfl), (Nat.le_of_ble_eq_true rfl)⟩ (RI.go (fun r42 S40 q41 => ?_))
          have ha9 := q41.1
          rw [q41.2]
          refine V_aload_1 104 dX3_waysWithout_104 ?_
          refine V_getR 105 (c := 7) 1 ((Fs.w p21.1.1 rfl).r 0 1 2 rfl) dX3_waysWithout_105 fl_RX3_53 ((Fs.w p21.1.1 rfl).m 0 (Nat.le_of_ble_eq_true rfl)) ((Fs.w p21.1.1 rfl).k 0 7 rfl) (Nat.le_of_ble_eq_true rfl) (Nat.le_of_ble_eq_true rfl) rfl ?_
          refine V_iload_7 108 dX3_waysWithout_108 ?_
          refine V_callSN 110 [.ref _, .int _] _ (c_at M.2.1 Γ S14 (a := (s + 2)) ((Fs.w p21.1.1 rfl).m 2 (Nat.le_of_ble_eq_true rfl)) ((Fs.w p21.1.1 rfl).k 2 14 rfl) (by rw [((Fs.w p21.1.1 rfl).l 2 8 rfl)]; decide) _) dX3_waysWithout_110 cb_X11_at ne_RX3_44 sm_yX11_at ⟨(Nat.le_of_ble_eq_true rfl), (Nat.le_of_ble_eq_true rfl)⟩ rfl rfl (Nat.le_of_ble_eq_true rfl) ⟨(Nat.le_of_ble_eq_true rfl), (Nat.le_of_ble_eq_true rfl)⟩ (RI.go (fun r45 S43 q44 => ?_))
          have hb9 := q44.1
          rw [q44.2]
          refine V_iadd 113 dX3_waysWithout_113 ?_
          refine V_iload_4 114 dX3_waysWithout_114 ?_
          refine V_iload_5 116 dX3_waysWithout_116 ?_
          refine V_callV 118 (ci := 3) [.int _, .int _, .int _, .int _] _ (s_lossJoin M.2.1 Γ S14 (F.w p21.1.1 rfl) p21.2.1 _ _ _ _ (by exact nbsum (hb.fw p21.1 (by simp) (by simp) (by simp)) hB) (by first | decide | exact nbsum2 (hb.fw p21.1 (by simp) (by simp) (by simp)) ha9 hb9 hB)) dX3_waysWithout_118 cb_X3_joinKinds ml_RX3_56 im_yX3_joinKinds se_yX3_joinKinds ((F.w p21.1.1 rfl).m 0 (Nat.le_of_ble_eq_true rfl)) ((F.w p21.1.1 rfl).k 0 3 rfl) (Nat.le_of_ble_eq_true rfl) ⟨(Nat.le_of_ble_eq_true rfl), (Nat.le_of_ble_eq_true rfl)⟩ rfl rfl (Nat.le_of_ble_eq_true rfl) ⟨(Nat.le_of_ble_eq_true rfl), (Nat.le_of_ble_eq_true rfl)⟩ (RV.go (fun S46 q47 => ?_))
          have h49 : FT [] [] S S46 := trivial
          have p50 : ((fun T => FW [] [] S T ∧ WR 0 1 1 o T ∧ ROT o S T) S46) := by exact ⟨p21.1.tr q47.1, q47.2.1, rx1 p21.2.2 q47.2.2⟩
          refine V_lvw (by repeat (first | exact trivial | refine ⟨rfl, ?_⟩)) (J24 _ _ _ trivial p50 (by first | omega | assumption))
        ·
          refine V_iconst 91 (-1) dX3_waysWithout_91 (by decide) ?_
          refine V_goto 92 114 dX3_waysWithout_92 (by decide) ?_
          refine V_iload_4 114 dX3_waysWithout_114 ?_
          refine V_iload_5 116 dX3_waysWithout_116 ?_
          refine V_callV 118 (ci := 3) [.int _, .int _, .int _, .int _] _ (s_lossJoin M.2.1 Γ S14 (F.w p21.1.1 rfl) p21.2.1 _ _ _ _ (by exact nbsum (hb.fw p21.1 (by simp) (by simp) (by simp)) hB) (by first | decide | exact nbsum2 (hb.fw p21.1 (by simp) (by simp) (by simp)) ha9 hb9 hB)) dX3_waysWithout_118 cb_X3_joinKinds ml_RX3_56 im_yX3_joinKinds se_yX3_joinKinds ((F.w p21.1.1 rfl).m 0 (Nat.le_of_ble_eq_true rfl)) ((F.w p21.1.1 rfl).k 0 3 rfl) (Nat.le_of_ble_eq_true rfl) ⟨(Nat.le_of_ble_eq_true rfl), (Nat.le_of_ble_eq_true rfl)⟩ rfl rfl (Nat.le_of_ble_eq_true rfl) ⟨(Nat.le_of_ble_eq_true rfl), (Nat.le_of_ble_eq_true rfl)⟩ (RV.go (fun S52 q53 => ?_))
          have h55 : FT [] [] S S52 := trivial
          have p56 : ((fun T => FW [] [] S T ∧ WR 0 1 1 o T ∧ ROT o S T) S52) := by exact ⟨p21.1.tr q53.1, q53.2.1, rx1 p21.2.2 q53.2.2⟩
          refine V_lvw (by repeat (first | exact trivial | refine ⟨rfl, ?_⟩)) (J24 _ _ _ trivial p56 (by first | omega | assumption))
  ·
    have lt58 := nI_lt8 (by decide) hi4 c11
    refine V_aload_0 13 dX3_waysWithout_13 ?_
    refine V_getR 14 (c := 3) 0 (WR.r1 p10.2.1) dX3_waysWithout_14 fl_RX3_9 ((F.w p10.1.1 rfl).m 0 (Nat.le_of_ble_eq_true rfl)) ((F.w p10.1.1 rfl).k 0 3 rfl) (Nat.le_of_ble_eq_true rfl) (Nat.le_of_ble_eq_true rfl) rfl ?_
    refine V_iload_6 17 dX3_waysWithout_17 ?_
    refine V_iload_6 19 dX3_waysWithout_19 ?_
    refine V_if_ne 21 28 dX3_waysWithout_21 (by decide) (fun c59 => ?_) (fun c59 => ?_)
    ·
      refine V_lconst 28 0 dX3_waysWithout_28 (by decide) ?_
      refine V_lastore2 29 dX3_waysWithout_29 (wlM (F.w p10.1.1 rfl) (WR.c1 p10.2.1)) (wlK (F.w p10.1.1 rfl) (WR.c1 p10.2.1)) (wlL (F.w p10.1.1 rfl) (WR.c1 p10.2.1)) ?_ ?_
      · exact vp_in_nI (by omega) (by decide)
      refine V_abs (fun T9 => FT [] [] S T9 ∧ ((fun T => FW [] [] S T ∧ WR 0 1 1 o T ∧ ROT o S T) T9)) ⟨trivial, by exact ⟨p10.1.uJ, p10.2.1, p10.2.2⟩⟩ (fun S60 hh63 => ?_)
      obtain ⟨h61, p62⟩ := hh63
      refine V_iinc_6 30 (1) dX3_waysWithout_30 (by decide) rfl (Nat.le_of_ble_eq_true rfl) ?_
      refine V_goto 33 3 dX3_waysWithout_33 (by decide) ?_
      rw [← nI_succ]
      refine V_lvw (by repeat (first | exact trivial | refine ⟨rfl, ?_⟩)) (ih6 (i2 + 1, _) ⟨by dsimp only; omega, trivial, p62⟩ (by dsimp only; omega))
    ·
      refine V_lconst 24 1 dX3_waysWithout_24 (by decide) ?_
      refine V_goto 25 29 dX3_waysWithout_25 (by decide) ?_
      refine V_lastore2 29 dX3_waysWithout_29 (wlM (F.w p10.1.1 rfl) (WR.c1 p10.2.1)) (wlK (F.w p10.1.1 rfl) (WR.c1 p10.2.1)) (wlL (F.w p10.1.1 rfl) (WR.c1 p10.2.1)) ?_ ?_
      · exact vp_in_nI (by omega) (by decide)
      refine V_abs (fun T9 => FT [] [] S T9 ∧ ((fun T => FW [] [] S T ∧ WR 0 1 1 o T ∧ ROT o S T) T9)) ⟨trivial, by exact ⟨p10.1.uJ, p10.2.1, p10.2.2⟩⟩ (fun S64 hh67 => ?_)
      obtain ⟨h65, p66⟩ := hh67
      refine V_iinc_6 30 (1) dX3_waysWithout_30 (by decide) rfl (Nat.le_of_ble_eq_true rfl) ?_
      refine V_goto 33 3 dX3_waysWithout_33 (by decide) ?_
      rw [← nI_succ]
      refine V_lvw (by repeat (first | exact trivial | refine ⟨rfl, ?_⟩)) (ih6 (i2 + 1, _) ⟨by dsimp only; omega, trivial, p66⟩ (by dsimp only; omega))
set_option maxRecDepth 100000 in
set_option maxHeartbeats 8000000 in
theorem s_shiftS (l : Launch) (Γ : GC) (S : PS) {o : Nat} (F : isL lySeenW Γ.2.2.2.2.1 S o) (W : WR 3 4 3 o S) (x : Int32) : CT l Γ yX6_addShifted cX6_addShifted 3 none (1) (0) (0) [.ref o, .int x] S (RV (fun S' => FZ [] [] S S')) := by
  refine CT.of RX6 "addShifted" [some (.ref o), some (.int x), none] (by decide +kernel) rfl rfl (Nat.le_of_ble_eq_true rfl) rfl (fun M hM => ?_)
  subst hM
  have ma := wsM F W.c1
  have ka := wsK F W.c1
  have la := wsL F W.c1
  have mb := wsM F W.c2
  have kb := wsK F W.c2
  have lb := wsL F W.c2
  have ra := W.r1
  have rb := W.r2
  refine V_iconst 0 (0) dX6_addShifted_0 (by decide) ?_
  refine V_istore_2 1 dX6_addShifted_1 rfl (Nat.le_of_ble_eq_true rfl) ?_
  refine V_lvw (by repeat (first | exact trivial | refine ⟨rfl, ?_⟩)) (V_while (α := Nat × PS) (fun z1 => 19 - z1.1) (fun z1 => z1.1 ≤ 19 ∧ FZ [] [] S z1.2) (fun z1 => z1.2) (fun z1 => [some (.ref o), some (.int x), some (.int (nI z1.1))]) (0, _) ⟨Nat.zero_le _, FZ.rf⟩ (fun z1 hx7 ih6 => ?b8))
  obtain ⟨i2, S3⟩ := z1
  obtain ⟨hi4, h5⟩ := hx7
  dsimp only at hi4 h5 ih6 ⊢
  refine V_iload_2 2 dX6_addShifted_2 ?_
  refine V_aload_0 3 dX6_addShifted_3 ?_
  refine V_getR 4 (c := 6) 4 (rss h5.1 rb) dX6_addShifted_4 fl_RX6_22 ((F.ss h5.1).m 0 (Nat.le_of_ble_eq_true rfl)) ((F.ss h5.1).k 0 6 rfl) (Nat.le_of_ble_eq_true rfl) (Nat.le_of_ble_eq_true rfl) rfl ?_
  refine V_alen2 7 dX6_addShifted_7 (PL_ss h5.1 mb) (kss h5.1 kb) (Nat.le_of_ble_eq_true rfl) (Nat.le_of_ble_eq_true rfl) (lss h5.1 lb) ?_
  refine V_icmp_ge 8 36 dX6_addShifted_8 (by decide) (fun c10 => ?_) (fun c10 => ?_)
  ·
    refine V_vret 36 dX6_addShifted_36 rfl (Nat.le_of_ble_eq_true rfl) (Nat.le_of_ble_eq_true rfl) (RV.mk h5)
  ·
    have lt11 := nI_lt8 (by decide) hi4 c10
    refine V_aload_0 11 dX6_addShifted_11 ?_
    refine V_getR 12 (c := 6) 4 (rss h5.1 rb) dX6_addShifted_12 fl_RX6_22 ((F.ss h5.1).m 0 (Nat.le_of_ble_eq_true rfl)) ((F.ss h5.1).k 0 6 rfl) (Nat.le_of_ble_eq_true rfl) (Nat.le_of_ble_eq_true rfl) rfl ?_
    refine V_iload_2 15 dX6_addShifted_15 ?_
    refine V_dup2 16 dX6_addShifted_16 rfl rfl ?_
    refine V_laload2 17 dX6_addShifted_17 (PL_ss h5.1 mb) (kss h5.1 kb) (lss h5.1 lb) ?_ ?_
    · exact vp_in_nI (by omega) (by decide)
    refine V_aload_0 18 dX6_addShifted_18 ?_
    refine V_getR 19 (c := 6) 3 (rss h5.1 ra) dX6_addShifted_19 fl_RX6_18 ((F.ss h5.1).m 0 (Nat.le_of_ble_eq_true rfl)) ((F.ss h5.1).k 0 6 rfl) (Nat.le_of_ble_eq_true rfl) (Nat.le_of_ble_eq_true rfl) rfl ?_
    refine V_iload_2 22 dX6_addShifted_22 ?_
    refine V_iload_1 23 dX6_addShifted_23 ?_
    refine V_isub 24 dX6_addShifted_24 ?_
    refine V_callSN 25 [.ref _, .int _] _ (c_longAt M.2.1 Γ S3 (a := _) (PL_ss h5.1 ma) (kss h5.1 ka) (by rw [(lss h5.1 la)]; decide) _) dX6_addShifted_25 cb_X11_longAt ne_RX6_38 sm_yX11_longAt ⟨(Nat.le_of_ble_eq_true rfl), (Nat.le_of_ble_eq_true rfl)⟩ rfl rfl (Nat.le_of_ble_eq_true rfl) ⟨(Nat.le_of_ble_eq_true rfl), (Nat.le_of_ble_eq_true rfl)⟩ (RLg.go (fun r14 S12 q13 => ?_))
    rw [q13.2]
    refine V_ladd 28 dX6_addShifted_28 ?_
    refine V_lastore2 29 dX6_addShifted_29 (PL_ss h5.1 mb) (kss h5.1 kb) (lss h5.1 lb) ?_ ?_
    · exact vp_in_nI (by omega) (by decide)
    refine V_abs (FZ [] [] S) (h5.uJ) (fun S15 h16 => ?_)
    refine V_iinc_2 30 (1) dX6_addShifted_30 (by decide) rfl (Nat.le_of_ble_eq_true rfl) ?_
    refine V_goto 33 2 dX6_addShifted_33 (by decide) ?_
    rw [← nI_succ]
    refine V_lvw (by repeat (first | exact trivial | refine ⟨rfl, ?_⟩)) (ih6 (i2 + 1, _) ⟨by dsimp only; omega, h16⟩ (by dsimp only; omega))
set_option maxRecDepth 100000 in
set_option maxHeartbeats 8000000 in
theorem s_fitsW (l : Launch) (Γ : GC) (S : PS) {o : Nat} (F : isL lySeenW Γ.2.2.2.2.1 S o) (x y z : Int32) : CT l Γ yX6_fits cX6_fits 5 (some .boolean) (1) (0) (0) [.ref o, .int x, .int y, .int z] S (RI (fun r S' => (r = 0 ∨ r = 1) ∧ FZ [] [] S S')) := by
  refine CT.of RX6 "fits" [some (.ref o), some (.int x), some (.int y), some (.int z), none] (by decide +kernel) rfl rfl (Nat.le_of_ble_eq_true rfl) rfl (fun M hM => ?_)
  subst hM
  have J3 : ∀ (S1 : PS) (x4 : Int32), FZ [] [] S S1 → V M Γ (5, RX6, "fits", (some .boolean), RM (1) (0) (0)) cX6_fits (RQ M Γ (RI (fun r S' => (r = 0 ∨ r = 1) ∧ FZ [] [] S S')) (0) (0)) 0 0 S1 50 [some (.ref o), some (.int x), some (.int y), some (.int z), some (.int x4)] [] := by
    intro S1 x4 h2
    refine V_iconst 50 (1) dX6_fits_50 (by decide) ?_
    refine V_iret 51 .boolean dX6_fits_51 rfl (nrwB (Or.inr rfl)) (Nat.le_of_ble_eq_true rfl) (Nat.le_of_ble_eq_true rfl) (RI.mk ⟨by decide, h2⟩)
  refine V_iconst 0 (0) dX6_fits_0 (by decide) ?_
  refine V_istore_4 1 dX6_fits_1 rfl (Nat.le_of_ble_eq_true rfl) ?_
  refine V_lvw (by repeat (first | exact trivial | refine ⟨rfl, ?_⟩)) (V_while (α := Nat × PS) (fun z5 => 20 - z5.1) (fun z5 => z5.1 ≤ 20 ∧ FZ [] [] S z5.2) (fun z5 => z5.2) (fun z5 => [some (.ref o), some (.int x), some (.int y), some (.int z), some (.int (nI z5.1))]) (0, _) ⟨Nat.zero_le _, FZ.rf⟩ (fun z5 hx11 ih10 => ?b12))
  obtain ⟨i6, S7⟩ := z5
  obtain ⟨hi8, h9⟩ := hx11
  dsimp only at hi8 h9 ih10 ⊢
  have J16 : ∀ (S14 : PS) , FZ [] [] S S14 → i6 < 20 → V M Γ (5, RX6, "fits", (some .boolean), RM (1) (0) (0)) cX6_fits (RQ M Γ (RI (fun r S' => (r = 0 ∨ r = 1) ∧ FZ [] [] S S')) (0) (0)) 0 0 S14 44 [some (.ref o), some (.int x), some (.int y), some (.int z), some (.int (nI i6))] [] := by
    intro S14  h15 lt17
    refine V_iinc_4 44 (1) dX6_fits_44 (by decide) rfl (Nat.le_of_ble_eq_true rfl) ?_
    refine V_goto 47 3 dX6_fits_47 (by decide) ?_
    rw [← nI_succ]
    refine V_lvw (by repeat (first | exact trivial | refine ⟨rfl, ?_⟩)) (ih10 (i6 + 1, _) ⟨by dsimp only; omega, h15⟩ (by dsimp only; omega))
  refine V_iload_4 3 dX6_fits_3 ?_
  refine V_iload_1 5 dX6_fits_5 ?_
  refine V_icmp_ge 6 50 dX6_fits_6 (by decide) (fun c18 => ?_) (fun c18 => ?_)
  ·
    refine V_lvw (by repeat (first | exact trivial | refine ⟨rfl, ?_⟩)) (J3 _ _ h9)
  ·
    refine V_iload_4 9 dX6_fits_9 ?_
    refine V_bipush 11 (20) dX6_fits_11 (by decide) ?_
    refine V_icmp_ge 13 50 dX6_fits_13 (by decide) (fun c20 => ?_) (fun c20 => ?_)
    ·
      refine V_lvw (by repeat (first | exact trivial | refine ⟨rfl, ?_⟩)) (J3 _ _ h9)
    ·
      have lt22 := nI_lt8 (by decide) hi8 c20
      refine V_aload_0 16 dX6_fits_16 ?_
      refine V_getR 17 (c := 6) 0 ((F.ss h9.1).r 0 0 1 rfl) dX6_fits_17 fl_RX6_11 ((F.ss h9.1).m 0 (Nat.le_of_ble_eq_true rfl)) ((F.ss h9.1).k 0 6 rfl) (Nat.le_of_ble_eq_true rfl) (Nat.le_of_ble_eq_true rfl) rfl ?_
      refine V_iload_4 20 dX6_fits_20 ?_
      refine V_iaload2 22 dX6_fits_22 ((F.ss h9.1).m 1 (Nat.le_of_ble_eq_true rfl)) ((F.ss h9.1).k 1 14 rfl) ((F.ss h9.1).l 1 20 rfl) ?_ ?_
      · exact vp_in_nI (by omega) (by decide)
      refine V_iload_2 23 dX6_fits_23 ?_
      refine V_icmp_ne 24 44 dX6_fits_24 (by decide) (fun c23 => ?_) (fun c23 => ?_)
      ·
        refine V_lvw (by repeat (first | exact trivial | refine ⟨rfl, ?_⟩)) (J16 _ h9 (by first | omega | assumption))
      ·
        refine V_aload_0 27 dX6_fits_27 ?_
        refine V_getR 28 (c := 6) 1 ((F.ss h9.1).r 0 1 2 rfl) dX6_fits_28 fl_RX6_15 ((F.ss h9.1).m 0 (Nat.le_of_ble_eq_true rfl)) ((F.ss h9.1).k 0 6 rfl) (Nat.le_of_ble_eq_true rfl) (Nat.le_of_ble_eq_true rfl) rfl ?_
        refine V_iload_4 31 dX6_fits_31 ?_
        refine V_iaload2 33 dX6_fits_33 ((F.ss h9.1).m 2 (Nat.le_of_ble_eq_true rfl)) ((F.ss h9.1).k 2 14 rfl) ((F.ss h9.1).l 2 20 rfl) ?_ ?_
        · exact vp_in_nI (by omega) (by decide)
        refine V_iconst 34 (0) dX6_fits_34 (by decide) ?_
        refine V_iload_3 35 dX6_fits_35 ?_
        refine V_mmax 36 dX6_fits_36 ml_RX6_57 (Nat.le_of_ble_eq_true rfl) (Nat.le_of_ble_eq_true rfl) (Nat.le_of_ble_eq_true rfl) (Nat.le_of_ble_eq_true rfl) ?_
        refine V_icmp_eq 39 44 dX6_fits_39 (by decide) (fun c25 => ?_) (fun c25 => ?_)
        ·
          refine V_lvw (by repeat (first | exact trivial | refine ⟨rfl, ?_⟩)) (J16 _ h9 (by first | omega | assumption))
        ·
          refine V_iconst 42 (0) dX6_fits_42 (by decide) ?_
          refine V_iret 43 .boolean dX6_fits_43 rfl (nrwB (Or.inl rfl)) (Nat.le_of_ble_eq_true rfl) (Nat.le_of_ble_eq_true rfl) (RI.mk ⟨by decide, h9⟩)
theorem le9m {v : Int32} (h : v ≤ 9) : v.toInt < 2147483647 := by
  have h2 := Int32.le_iff_toInt_le.mp h
  rw [show (9 : Int32).toInt = 9 from by decide] at h2
  omega
theorem le9t {r i : Int32} (h : r ≤ 9) (c : ¬ r < i) : ¬ (9 : Int32) < i := fun q => c (Int32.lt_of_le_of_lt h q)
theorem seenSwap {lo o : Nat} {S S1 : PS} (F : isL lySeenW lo S o) (W : WR 3 4 3 o S) (h : FZ [] [] S S1) : FW [] [] S (uR (uR S1 o 3 (some (wR S o 4))) o 4 (some (wR S o 3))) ∧ WR 3 4 3 o (uR (uR S1 o 3 (some (wR S o 4))) o 4 (some (wR S o 3))) ∧ ROT o S (uR (uR S1 o 3 (some (wR S o 4))) o 4 (some (wR S o 3))) := by
  have k : sK S o = 6 := F.k 0 6 rfl
  have e : sR S1 = sR S := h.1.2.2.1
  refine ⟨⟨((SSW.of h.1).uR (Or.inr ⟨k, by decide⟩)).uR (Or.inr ⟨k, by decide⟩), h.2.1, h.2.2⟩, ?_, fun a ha j => ?_⟩
  · have w := (W.ss h.1).swap (by decide)
    have e0 : wR S1 o 3 = wR S o 3 := by unfold wR; rw [e]
    have e1 : wR S1 o 4 = wR S o 4 := by unfold wR; rw [e]
    rw [e0, e1] at w
    exact w
  · show up2 (up2 (sR S1) o 3 _) o 4 _ a j = _
    rw [up2_a _ _ ha, up2_a _ _ ha, e]
set_option maxRecDepth 100000 in
set_option maxHeartbeats 8000000 in
theorem s_seenJoin (l : Launch) (Γ : GC) (S : PS) {o t : Nat} (F : isL lySeenW Γ.2.2.2.2.1 S o) (W : WR 3 4 3 o S) (Ft : isL lyText Γ.2.2.2.2.1 S t) (hn : NUM t S) (x y z w : Int32) : CT l Γ yX6_joinKinds cX6_joinKinds 12 none (2) (0) (0) [.ref o, .ref t, .int x, .int y, .int z, .int w] S (RV (fun S' => FW [] [] S S' ∧ WR 3 4 3 o S' ∧ ROT o S S')) := by
  refine CT.of RX6 "joinKinds" [some (.ref o), some (.ref t), some (.int x), some (.int y), some (.int z), some (.int w), none, none, none, none, none, none] (by decide +kernel) rfl rfl (Nat.le_of_ble_eq_true rfl) rfl (fun M hM => ?_)
  subst hM
  have ma := wsM F W.c1
  have ka := wsK F W.c1
  have la := wsL F W.c1
  have mb := wsM F W.c2
  have kb := wsK F W.c2
  have lb := wsL F W.c2
  have ra := W.r1
  have rb := W.r2
  have e8 : sL S (t + 1) = 8 := Ft.l 1 8 rfl
  refine V_aload_1 0 dX6_joinKinds_0 ?_
  refine V_getR 1 (c := 10) 3 (Ft.r 0 3 2 rfl) dX6_joinKinds_1 fl_RX6_29 (Ft.m 0 (Nat.le_of_ble_eq_true rfl)) (Ft.k 0 10 rfl) (Nat.le_of_ble_eq_true rfl) (Nat.le_of_ble_eq_true rfl) rfl ?_
  refine V_iload_3 4 dX6_joinKinds_4 ?_
  refine V_callSN 5 [.ref _, .int _] _ (c_at M.2.1 Γ S (a := t + 2) (Ft.m 2 (by decide)) (Ft.k 2 14 rfl) (by rw [Ft.l 2 8 rfl]; decide) _) dX6_joinKinds_5 cb_X11_at ne_RX6_42 sm_yX11_at ⟨(Nat.le_of_ble_eq_true rfl), (Nat.le_of_ble_eq_true rfl)⟩ rfl rfl (Nat.le_of_ble_eq_true rfl) ⟨(Nat.le_of_ble_eq_true rfl), (Nat.le_of_ble_eq_true rfl)⟩ (RI.go (fun r1 S1 h1 => ?_))
  rw [h1.2]
  refine V_istore_6 8 dX6_joinKinds_8 rfl (Nat.le_of_ble_eq_true rfl) ?_
  refine V_iload_6 10 dX6_joinKinds_10 ?_
  refine V_iload_3 12 dX6_joinKinds_12 ?_
  have J31 : ∀ (v : Int32), v ≤ 9 → V M Γ (12, RX6, "joinKinds", none, RM (2) (0) (0)) cX6_joinKinds (RQ M Γ (RV (fun S' => FW [] [] S S' ∧ WR 3 4 3 o S' ∧ ROT o S S')) (0) (0)) 0 0 S 31 [some (.ref o), some (.ref t), some (.int x), some (.int y), some (.int z), some (.int w), some (.int r1), some (.int v), none, none, none, none] [] := by
    intro v hv
    refine V_iconst 31 (0) dX6_joinKinds_31 (by decide) ?_
    refine V_istore_8 32 dX6_joinKinds_32 rfl (Nat.le_of_ble_eq_true rfl) ?_
    refine V_lvw (by repeat (first | exact trivial | refine ⟨rfl, ?_⟩)) (V_while (α := Nat × PS) (fun z1 => 19 - z1.1) (fun z1 => z1.1 ≤ 19 ∧ FZ [] [] S z1.2) (fun z1 => z1.2) (fun z1 => [some (.ref o), some (.ref t), some (.int x), some (.int y), some (.int z), some (.int w), some (.int r1), some (.int v), some (.int (nI z1.1)), none, none, none]) (0, _) ⟨Nat.zero_le _, FZ.rf⟩ (fun z1 hx7 ih6 => ?b8))
    obtain ⟨i2, S3⟩ := z1
    obtain ⟨hi4, h5⟩ := hx7
    dsimp only at hi4 h5 ih6 ⊢
    refine V_iload_8 34 dX6_joinKinds_34 ?_
    refine V_aload_0 36 dX6_joinKinds_36 ?_
    refine V_getR 37 (c := 6) 4 (rss h5.1 rb) dX6_joinKinds_37 fl_RX6_22 ((F.ss h5.1).m 0 (Nat.le_of_ble_eq_true rfl)) ((F.ss h5.1).k 0 6 rfl) (Nat.le_of_ble_eq_true rfl) (Nat.le_of_ble_eq_true rfl) rfl ?_
    refine V_alen2 40 dX6_joinKinds_40 (PL_ss h5.1 mb) (kss h5.1 kb) (Nat.le_of_ble_eq_true rfl) (Nat.le_of_ble_eq_true rfl) (lss h5.1 lb) ?_
    refine V_icmp_ge 41 58 dX6_joinKinds_41 (by decide) (fun c10 => ?_) (fun c10 => ?_)
    ·
      refine V_iconst 58 (0) dX6_joinKinds_58 (by decide) ?_
      refine V_istore_8 59 dX6_joinKinds_59 rfl (Nat.le_of_ble_eq_true rfl) ?_
      refine V_lvw (by repeat (first | exact trivial | refine ⟨rfl, ?_⟩)) (V_while (α := Int32 × PS) (fun z11 => (((9 : Int32)).toInt + 1 - z11.1.toInt).toNat) (fun z11 => FZ [] [] S z11.2) (fun z11 => z11.2) (fun z11 => [some (.ref o), some (.ref t), some (.int x), some (.int y), some (.int z), some (.int w), some (.int r1), some (.int v), some (.int z11.1), none, none, none]) (_, _) (h5) (fun z11 h15 ih16 => ?b18))
      obtain ⟨i12, S13⟩ := z11
      dsimp only at h15 ih16 ⊢
      refine V_iload_8 61 dX6_joinKinds_61 ?_
      refine V_aload_1 63 dX6_joinKinds_63 ?_
      refine V_getR 64 (c := 10) 2 ((Ft.ss h15.1).r 0 2 1 rfl) dX6_joinKinds_64 fl_RX6_46 ((Ft.ss h15.1).m 0 (Nat.le_of_ble_eq_true rfl)) ((Ft.ss h15.1).k 0 10 rfl) (Nat.le_of_ble_eq_true rfl) (Nat.le_of_ble_eq_true rfl) rfl ?_
      refine V_iload_3 67 dX6_joinKinds_67 ?_
      refine V_callSN 68 [.ref _, .int _] _ (c_at M.2.1 Γ S13 (a := (t + 1)) ((Ft.ss h15.1).m 1 (Nat.le_of_ble_eq_true rfl)) ((Ft.ss h15.1).k 1 14 rfl) (by rw [((Ft.ss h15.1).l 1 8 rfl)]; decide) _) dX6_joinKinds_68 cb_X11_at ne_RX6_42 sm_yX11_at ⟨(Nat.le_of_ble_eq_true rfl), (Nat.le_of_ble_eq_true rfl)⟩ rfl rfl (Nat.le_of_ble_eq_true rfl) ⟨(Nat.le_of_ble_eq_true rfl), (Nat.le_of_ble_eq_true rfl)⟩ (RI.go (fun r22 S20 q21 => ?_))
      have hr9 : r22 ≤ 9 := by rw [q21.1]; exact (NUM.aAt9 (hn.fz h15 (by simp)) (by rw [h15.1.2.2.2.1]; exact e8)).2
      rw [q21.2]
      refine V_icmp_gt 71 202 dX6_joinKinds_71 (by decide) (fun c23 => ?_) (fun c23 => ?_)
      ·
        refine V_aload_0 202 dX6_joinKinds_202 ?_
        refine V_getR 203 (c := 6) 3 (rss h15.1 ra) dX6_joinKinds_203 fl_RX6_18 ((F.ss h15.1).m 0 (Nat.le_of_ble_eq_true rfl)) ((F.ss h15.1).k 0 6 rfl) (Nat.le_of_ble_eq_true rfl) (Nat.le_of_ble_eq_true rfl) rfl ?_
        refine V_astore_8 206 dX6_joinKinds_206 rfl (Nat.le_of_ble_eq_true rfl) ?_
        refine V_aload_0 208 dX6_joinKinds_208 ?_
        refine V_aload_0 209 dX6_joinKinds_209 ?_
        refine V_getR 210 (c := 6) 4 (rss h15.1 rb) dX6_joinKinds_210 fl_RX6_22 ((F.ss h15.1).m 0 (Nat.le_of_ble_eq_true rfl)) ((F.ss h15.1).k 0 6 rfl) (Nat.le_of_ble_eq_true rfl) (Nat.le_of_ble_eq_true rfl) rfl ?_
        refine V_putR 213 (c := 6) 3 dX6_joinKinds_213 fl_RX6_18 ((F.ss h15.1).m 0 (Nat.le_of_ble_eq_true rfl)) ((F.ss h15.1).k 0 6 rfl) (Nat.le_of_ble_eq_true rfl) (Nat.le_of_ble_eq_true rfl) rfl rfl rfl rfl ?_
        refine V_aload_0 216 dX6_joinKinds_216 ?_
        refine V_aload_8 217 dX6_joinKinds_217 ?_
        refine V_putR 219 (c := 6) 4 dX6_joinKinds_219 fl_RX6_22 ((F.ss h15.1).m 0 (Nat.le_of_ble_eq_true rfl)) ((F.ss h15.1).k 0 6 rfl) (Nat.le_of_ble_eq_true rfl) (Nat.le_of_ble_eq_true rfl) rfl rfl rfl rfl ?_
        refine V_vret 222 dX6_joinKinds_222 rfl (Nat.le_of_ble_eq_true rfl) (Nat.le_of_ble_eq_true rfl) (RV.mk (seenSwap F W h15))
      ·
        refine V_iconst 74 (0) dX6_joinKinds_74 (by decide) ?_
        refine V_istore_9 75 dX6_joinKinds_75 rfl (Nat.le_of_ble_eq_true rfl) ?_
        refine V_lvw (by repeat (first | exact trivial | refine ⟨rfl, ?_⟩)) (V_while (α := Int32 × PS) (fun z24 => ((v).toInt + 1 - z24.1.toInt).toNat) (fun z24 => FZ [] [] S z24.2) (fun z24 => z24.2) (fun z24 => [some (.ref o), some (.ref t), some (.int x), some (.int y), some (.int z), some (.int w), some (.int r1), some (.int v), some (.int i12), some (.int z24.1), none, none]) (_, _) (h15) (fun z24 h28 ih29 => ?b31))
        obtain ⟨i25, S26⟩ := z24
        dsimp only at h28 ih29 ⊢
        have J35 : ∀ (S33 : PS) (x36 : Int32) (x37 : Int32), FZ [] [] S S33 → ¬ v < i25 → (x36 = 0 ∨ x36 = 1) → V M Γ (12, RX6, "joinKinds", none, RM (2) (0) (0)) cX6_joinKinds (RQ M Γ (RV (fun S' => FW [] [] S S' ∧ WR 3 4 3 o S' ∧ ROT o S S')) (0) (0)) 0 0 S33 190 [some (.ref o), some (.ref t), some (.int x), some (.int y), some (.int z), some (.int w), some (.int r1), some (.int v), some (.int i12), some (.int i25), some (.int x36), some (.int x37)] [] := by
          intro S33 x36 x37 h34 lt38 hb_x36
          refine V_iinc_9 190 (1) dX6_joinKinds_190 (by decide) rfl (Nat.le_of_ble_eq_true rfl) ?_
          refine V_goto 193 77 dX6_joinKinds_193 (by decide) ?_
          refine V_lvw (by repeat (first | exact trivial | refine ⟨rfl, ?_⟩)) (ih29 (_, _) (h34) (le32 (by first | assumption | (assumption)) ((le9m hv))))
        have J41 : ∀ (S39 : PS) (x42 : Int32) (x43 : Int32), FZ [] [] S S39 → ¬ v < i25 → (x42 = 0 ∨ x42 = 1) → V M Γ (12, RX6, "joinKinds", none, RM (2) (0) (0)) cX6_joinKinds (RQ M Γ (RV (fun S' => FW [] [] S S' ∧ WR 3 4 3 o S' ∧ ROT o S S')) (0) (0)) 0 0 S39 181 [some (.ref o), some (.ref t), some (.int x), some (.int y), some (.int z), some (.int w), some (.int r1), some (.int v), some (.int i12), some (.int i25), some (.int x42), some (.int x43)] [] := by
          intro S39 x42 x43 h40 lt44 hb_x42
          refine V_aload_0 181 dX6_joinKinds_181 ?_
          refine V_iload_8 182 dX6_joinKinds_182 ?_
          refine V_iload_9 184 dX6_joinKinds_184 ?_
          refine V_iadd 186 dX6_joinKinds_186 ?_
          refine V_callV 187 (ci := 6) [.int _] _ (s_shiftS M.2.1 Γ S39 (F.ss h40.1) (W.ss h40.1) _) dX6_joinKinds_187 cb_X6_addShifted ml_RX6_53 im_yX6_addShifted se_yX6_addShifted ((F.ss h40.1).m 0 (Nat.le_of_ble_eq_true rfl)) ((F.ss h40.1).k 0 6 rfl) (Nat.le_of_ble_eq_true rfl) ⟨(Nat.le_of_ble_eq_true rfl), (Nat.le_of_ble_eq_true rfl)⟩ rfl rfl (Nat.le_of_ble_eq_true rfl) ⟨(Nat.le_of_ble_eq_true rfl), (Nat.le_of_ble_eq_true rfl)⟩ (RV.go (fun S45 q46 => ?_))
          have h48 : FZ [] [] S S45 := h40.tr (q46.sub (by simp) (by simp))
          refine V_lvw (by repeat (first | exact trivial | refine ⟨rfl, ?_⟩)) (J35 _ _ _ h48 (by first | omega | assumption | (assumption)) hb_x42)
        have J52 : ∀ (S50 : PS) (x53 : Int32) (x54 : Int32), FZ [] [] S S50 → ¬ v < i25 → (x53 = 0 ∨ x53 = 1) → V M Γ (12, RX6, "joinKinds", none, RM (2) (0) (0)) cX6_joinKinds (RQ M Γ (RV (fun S' => FW [] [] S S' ∧ WR 3 4 3 o S' ∧ ROT o S S')) (0) (0)) 0 0 S50 144 [some (.ref o), some (.ref t), some (.int x), some (.int y), some (.int z), some (.int w), some (.int r1), some (.int v), some (.int i12), some (.int i25), some (.int x53), none] [.int x54] := by
          intro S50 x53 x54 h51 lt55 hb_x53
          refine V_istore_11 144 dX6_joinKinds_144 rfl (Nat.le_of_ble_eq_true rfl) ?_
          refine V_iload_10 146 dX6_joinKinds_146 ?_
          refine V_if_eq 148 190 dX6_joinKinds_148 (by decide) (fun c56 => ?_) (fun c56 => ?_)
          ·
            refine V_lvw (by repeat (first | exact trivial | refine ⟨rfl, ?_⟩)) (J35 _ _ _ h51 (by first | omega | assumption | (assumption)) hb_x53)
          ·
            refine V_aload_0 151 dX6_joinKinds_151 ?_
            refine V_iload_2 152 dX6_joinKinds_152 ?_
            refine V_iload_3 153 dX6_joinKinds_153 ?_
            refine V_iload_11 154 dX6_joinKinds_154 ?_
            refine V_callV 156 (ci := 6) [.int _, .int _, .int _] _ (s_fitsW M.2.1 Γ S50 (F.ss h51.1) _ _ _) dX6_joinKinds_156 cb_X6_fits ml_RX6_49 im_yX6_fits se_yX6_fits ((F.ss h51.1).m 0 (Nat.le_of_ble_eq_true rfl)) ((F.ss h51.1).k 0 6 rfl) (Nat.le_of_ble_eq_true rfl) ⟨(Nat.le_of_ble_eq_true rfl), (Nat.le_of_ble_eq_true rfl)⟩ rfl rfl (Nat.le_of_ble_eq_true rfl) ⟨(Nat.le_of_ble_eq_true rfl), (Nat.le_of_ble_eq_true rfl)⟩ (RI.go (fun r60 S58 q59 => ?_))
            have h61 : FZ [] [] S S58 := h51.tr (q59.2.sub (by simp) (by simp))
            refine V_if_eq 159 190 dX6_joinKinds_159 (by decide) (fun c62 => ?_) (fun c62 => ?_)
            ·
              refine V_lvw (by repeat (first | exact trivial | refine ⟨rfl, ?_⟩)) (J35 _ _ _ h61 (by first | omega | assumption | (assumption)) hb_x53)
            ·
              refine V_iload_6 162 dX6_joinKinds_162 ?_
              refine V_iload_3 164 dX6_joinKinds_164 ?_
              refine V_icmp_eq 165 181 dX6_joinKinds_165 (by decide) (fun c64 => ?_) (fun c64 => ?_)
              ·
                refine V_lvw (by repeat (first | exact trivial | refine ⟨rfl, ?_⟩)) (J41 _ _ _ h61 (by first | omega | assumption | (assumption)) hb_x53)
              ·
                refine V_aload_0 168 dX6_joinKinds_168 ?_
                refine V_iload_2 169 dX6_joinKinds_169 ?_
                refine V_iload_6 170 dX6_joinKinds_170 ?_
                refine V_iload_11 172 dX6_joinKinds_172 ?_
                refine V_ineg 174 dX6_joinKinds_174 ?_
                refine V_callV 175 (ci := 6) [.int _, .int _, .int _] _ (s_fitsW M.2.1 Γ S58 (F.ss h61.1) _ _ _) dX6_joinKinds_175 cb_X6_fits ml_RX6_49 im_yX6_fits se_yX6_fits ((F.ss h61.1).m 0 (Nat.le_of_ble_eq_true rfl)) ((F.ss h61.1).k 0 6 rfl) (Nat.le_of_ble_eq_true rfl) ⟨(Nat.le_of_ble_eq_true rfl), (Nat.le_of_ble_eq_true rfl)⟩ rfl rfl (Nat.le_of_ble_eq_true rfl) ⟨(Nat.le_of_ble_eq_true rfl), (Nat.le_of_ble_eq_true rfl)⟩ (RI.go (fun r68 S66 q67 => ?_))
                have h69 : FZ [] [] S S66 := h61.tr (q67.2.sub (by simp) (by simp))
                refine V_if_eq 178 190 dX6_joinKinds_178 (by decide) (fun c70 => ?_) (fun c70 => ?_)
                ·
                  refine V_lvw (by repeat (first | exact trivial | refine ⟨rfl, ?_⟩)) (J35 _ _ _ h69 (by first | omega | assumption | (assumption)) hb_x53)
                ·
                  refine V_lvw (by repeat (first | exact trivial | refine ⟨rfl, ?_⟩)) (J41 _ _ _ h69 (by first | omega | assumption | (assumption)) hb_x53)
        have J75 : ∀ (S73 : PS) , FZ [] [] S S73 → ¬ v < i25 → V M Γ (12, RX6, "joinKinds", none, RM (2) (0) (0)) cX6_joinKinds (RQ M Γ (RV (fun S' => FW [] [] S S' ∧ WR 3 4 3 o S' ∧ ROT o S S')) (0) (0)) 0 0 S73 119 [some (.ref o), some (.ref t), some (.int x), some (.int y), some (.int z), some (.int w), some (.int r1), some (.int v), some (.int i12), some (.int i25), none, none] [] := by
          intro S73  h74 lt76
          refine V_iconst 119 (1) dX6_joinKinds_119 (by decide) ?_
          refine V_goto 120 124 dX6_joinKinds_120 (by decide) ?_
          refine V_istore_10 124 dX6_joinKinds_124 rfl (Nat.le_of_ble_eq_true rfl) ?_
          refine V_iload_6 126 dX6_joinKinds_126 ?_
          refine V_iload_3 128 dX6_joinKinds_128 ?_
          refine V_icmp_ne 129 139 dX6_joinKinds_129 (by decide) (fun c77 => ?_) (fun c77 => ?_)
          ·
            refine V_iload_8 139 dX6_joinKinds_139 ?_
            refine V_iload_9 141 dX6_joinKinds_141 ?_
            refine V_isub 143 dX6_joinKinds_143 ?_
            refine V_lvw (by repeat (first | exact trivial | refine ⟨rfl, ?_⟩)) (J52 _ _ _ h74 (by first | omega | assumption | (assumption)) (Or.inr rfl))
          ·
            refine V_iload_8 132 dX6_joinKinds_132 ?_
            refine V_iconst 134 (1) dX6_joinKinds_134 (by decide) ?_
            refine V_iand 135 dX6_joinKinds_135 ?_
            refine V_goto 136 144 dX6_joinKinds_136 (by decide) ?_
            refine V_lvw (by repeat (first | exact trivial | refine ⟨rfl, ?_⟩)) (J52 _ _ _ h74 (by first | omega | assumption | (assumption)) (Or.inr rfl))
        refine V_iload_9 77 dX6_joinKinds_77 ?_
        refine V_iload_7 79 dX6_joinKinds_79 ?_
        refine V_icmp_gt 81 196 dX6_joinKinds_81 (by decide) (fun c80 => ?_) (fun c80 => ?_)
        ·
          refine V_iinc_8 196 (1) dX6_joinKinds_196 (by decide) rfl (Nat.le_of_ble_eq_true rfl) ?_
          refine V_goto 199 61 dX6_joinKinds_199 (by decide) ?_
          refine V_lvw (by repeat (first | exact trivial | refine ⟨rfl, ?_⟩)) (ih16 (_, _) (h28) (le32 (by first | assumption | (exact le9t hr9 (by assumption))) ((by decide))))
        ·
          refine V_iload_4 84 dX6_joinKinds_84 ?_
          refine V_iload_3 86 dX6_joinKinds_86 ?_
          refine V_icmp_ne 87 105 dX6_joinKinds_87 (by decide) (fun c81 => ?_) (fun c81 => ?_)
          ·
            refine V_iload_4 105 dX6_joinKinds_105 ?_
            refine V_iload_6 107 dX6_joinKinds_107 ?_
            refine V_icmp_ne 109 119 dX6_joinKinds_109 (by decide) (fun c82 => ?_) (fun c82 => ?_)
            ·
              refine V_lvw (by repeat (first | exact trivial | refine ⟨rfl, ?_⟩)) (J75 _ h28 (by first | omega | assumption | (assumption)))
            ·
              refine V_iload_9 112 dX6_joinKinds_112 ?_
              refine V_iload_5 114 dX6_joinKinds_114 ?_
              refine V_icmp_ne 116 123 dX6_joinKinds_116 (by decide) (fun c84 => ?_) (fun c84 => ?_)
              ·
                refine V_iconst 123 (0) dX6_joinKinds_123 (by decide) ?_
                refine V_istore_10 124 dX6_joinKinds_124 rfl (Nat.le_of_ble_eq_true rfl) ?_
                refine V_iload_6 126 dX6_joinKinds_126 ?_
                refine V_iload_3 128 dX6_joinKinds_128 ?_
                refine V_icmp_ne 129 139 dX6_joinKinds_129 (by decide) (fun c85 => ?_) (fun c85 => ?_)
                ·
                  refine V_iload_8 139 dX6_joinKinds_139 ?_
                  refine V_iload_9 141 dX6_joinKinds_141 ?_
                  refine V_isub 143 dX6_joinKinds_143 ?_
                  refine V_lvw (by repeat (first | exact trivial | refine ⟨rfl, ?_⟩)) (J52 _ _ _ h28 (by first | omega | assumption | (assumption)) (Or.inl rfl))
                ·
                  refine V_iload_8 132 dX6_joinKinds_132 ?_
                  refine V_iconst 134 (1) dX6_joinKinds_134 (by decide) ?_
                  refine V_iand 135 dX6_joinKinds_135 ?_
                  refine V_goto 136 144 dX6_joinKinds_136 (by decide) ?_
                  refine V_lvw (by repeat (first | exact trivial | refine ⟨rfl, ?_⟩)) (J52 _ _ _ h28 (by first | omega | assumption | (assumption)) (Or.inl rfl))
              ·
                refine V_lvw (by repeat (first | exact trivial | refine ⟨rfl, ?_⟩)) (J75 _ h28 (by first | omega | assumption | (assumption)))
          ·
            refine V_iload_8 90 dX6_joinKinds_90 ?_
            refine V_iload_5 92 dX6_joinKinds_92 ?_
            refine V_icmp_ne 94 101 dX6_joinKinds_94 (by decide) (fun c89 => ?_) (fun c89 => ?_)
            ·
              refine V_iconst 101 (0) dX6_joinKinds_101 (by decide) ?_
              refine V_goto 102 124 dX6_joinKinds_102 (by decide) ?_
              refine V_istore_10 124 dX6_joinKinds_124 rfl (Nat.le_of_ble_eq_true rfl) ?_
              refine V_iload_6 126 dX6_joinKinds_126 ?_
              refine V_iload_3 128 dX6_joinKinds_128 ?_
              refine V_icmp_ne 129 139 dX6_joinKinds_129 (by decide) (fun c90 => ?_) (fun c90 => ?_)
              ·
                refine V_iload_8 139 dX6_joinKinds_139 ?_
                refine V_iload_9 141 dX6_joinKinds_141 ?_
                refine V_isub 143 dX6_joinKinds_143 ?_
                refine V_lvw (by repeat (first | exact trivial | refine ⟨rfl, ?_⟩)) (J52 _ _ _ h28 (by first | omega | assumption | (assumption)) (Or.inl rfl))
              ·
                refine V_iload_8 132 dX6_joinKinds_132 ?_
                refine V_iconst 134 (1) dX6_joinKinds_134 (by decide) ?_
                refine V_iand 135 dX6_joinKinds_135 ?_
                refine V_goto 136 144 dX6_joinKinds_136 (by decide) ?_
                refine V_lvw (by repeat (first | exact trivial | refine ⟨rfl, ?_⟩)) (J52 _ _ _ h28 (by first | omega | assumption | (assumption)) (Or.inl rfl))
            ·
              refine V_iconst 97 (1) dX6_joinKinds_97 (by decide) ?_
              refine V_goto 98 124 dX6_joinKinds_98 (by decide) ?_
              refine V_istore_10 124 dX6_joinKinds_124 rfl (Nat.le_of_ble_eq_true rfl) ?_
              refine V_iload_6 126 dX6_joinKinds_126 ?_
              refine V_iload_3 128 dX6_joinKinds_128 ?_
              refine V_icmp_ne 129 139 dX6_joinKinds_129 (by decide) (fun c93 => ?_) (fun c93 => ?_)
              ·
                refine V_iload_8 139 dX6_joinKinds_139 ?_
                refine V_iload_9 141 dX6_joinKinds_141 ?_
                refine V_isub 143 dX6_joinKinds_143 ?_
                refine V_lvw (by repeat (first | exact trivial | refine ⟨rfl, ?_⟩)) (J52 _ _ _ h28 (by first | omega | assumption | (assumption)) (Or.inr rfl))
              ·
                refine V_iload_8 132 dX6_joinKinds_132 ?_
                refine V_iconst 134 (1) dX6_joinKinds_134 (by decide) ?_
                refine V_iand 135 dX6_joinKinds_135 ?_
                refine V_goto 136 144 dX6_joinKinds_136 (by decide) ?_
                refine V_lvw (by repeat (first | exact trivial | refine ⟨rfl, ?_⟩)) (J52 _ _ _ h28 (by first | omega | assumption | (assumption)) (Or.inr rfl))
    ·
      have lt96 := nI_lt8 (by decide) hi4 c10
      refine V_aload_0 44 dX6_joinKinds_44 ?_
      refine V_getR 45 (c := 6) 4 (rss h5.1 rb) dX6_joinKinds_45 fl_RX6_22 ((F.ss h5.1).m 0 (Nat.le_of_ble_eq_true rfl)) ((F.ss h5.1).k 0 6 rfl) (Nat.le_of_ble_eq_true rfl) (Nat.le_of_ble_eq_true rfl) rfl ?_
      refine V_iload_8 48 dX6_joinKinds_48 ?_
      refine V_lconst 50 0 dX6_joinKinds_50 (by decide) ?_
      refine V_lastore2 51 dX6_joinKinds_51 (PL_ss h5.1 mb) (kss h5.1 kb) (lss h5.1 lb) ?_ ?_
      · exact vp_in_nI (by omega) (by decide)
      refine V_abs (FZ [] [] S) (h5.uJ) (fun S97 h98 => ?_)
      refine V_iinc_8 52 (1) dX6_joinKinds_52 (by decide) rfl (Nat.le_of_ble_eq_true rfl) ?_
      refine V_goto 55 34 dX6_joinKinds_55 (by decide) ?_
      rw [← nI_succ]
      refine V_lvw (by repeat (first | exact trivial | refine ⟨rfl, ?_⟩)) (ih6 (i2 + 1, _) ⟨by dsimp only; omega, h98⟩ (by dsimp only; omega))
  refine V_icmp_ne 13 20 dX6_joinKinds_13 (by decide) (fun c => ?_) (fun c => ?_)
  ·
    refine V_aload_1 20 dX6_joinKinds_20 ?_
    refine V_getR 21 (c := 10) 2 (Ft.r 0 2 1 rfl) dX6_joinKinds_21 fl_RX6_46 (Ft.m 0 (Nat.le_of_ble_eq_true rfl)) (Ft.k 0 10 rfl) (Nat.le_of_ble_eq_true rfl) (Nat.le_of_ble_eq_true rfl) rfl ?_
    refine V_iload_6 24 dX6_joinKinds_24 ?_
    refine V_callSN 26 [.ref _, .int _] _ (c_at M.2.1 Γ S (a := t + 1) (Ft.m 1 (by decide)) (Ft.k 1 14 rfl) (by rw [Ft.l 1 8 rfl]; decide) _) dX6_joinKinds_26 cb_X11_at ne_RX6_42 sm_yX11_at ⟨(Nat.le_of_ble_eq_true rfl), (Nat.le_of_ble_eq_true rfl)⟩ rfl rfl (Nat.le_of_ble_eq_true rfl) ⟨(Nat.le_of_ble_eq_true rfl), (Nat.le_of_ble_eq_true rfl)⟩ (RI.go (fun r2 S2 h2 => ?_))
    rw [h2.2]
    refine V_istore_7 29 dX6_joinKinds_29 rfl (Nat.le_of_ble_eq_true rfl) ?_
    exact J31 _ (by rw [h2.1]; exact (NUM.aAt9 hn e8).2)
  ·
    refine V_iconst 16 (0) dX6_joinKinds_16 (by decide) ?_
    refine V_goto 17 29 dX6_joinKinds_17 (by decide) ?_
    refine V_istore_7 29 dX6_joinKinds_29 rfl (Nat.le_of_ble_eq_true rfl) ?_
    exact J31 _ (by decide)
set_option maxRecDepth 100000 in
set_option maxHeartbeats 8000000 in
theorem s_countRows (l : Launch) (Γ : GC) (S : PS) {o t : Nat} (F : isL lySeenW Γ.2.2.2.2.1 S o) (W : WR 3 4 3 o S) (Ft : isL lyText Γ.2.2.2.2.1 S t) (hn : NUM t S) (x y z w : Int32) : CT l Γ yX6_countRows cX6_countRows 7 (some .long) (3) (0) (0) [.ref o, .ref t, .int x, .int y, .int z, .int w] S (RLg (fun r S' => FW [] [] S S' ∧ WR 3 4 3 o S' ∧ ROT o S S')) := by
  refine CT.of RX6 "countRows" [some (.ref o), some (.ref t), some (.int x), some (.int y), some (.int z), some (.int w), none] (by decide +kernel) rfl rfl (Nat.le_of_ble_eq_true rfl) rfl (fun M hM => ?_)
  subst hM
  refine V_iconst 0 (0) dX6_countRows_0 (by decide) ?_
  refine V_istore_6 1 dX6_countRows_1 rfl (Nat.le_of_ble_eq_true rfl) ?_
  refine V_lvw (by repeat (first | exact trivial | refine ⟨rfl, ?_⟩)) (V_while (α := Nat × PS) (fun z1 => 19 - z1.1) (fun z1 => z1.1 ≤ 19 ∧ FT [] [] S z1.2 ∧ ((fun T => FW [] [] S T ∧ WR 3 4 3 o T ∧ ROT o S T) z1.2)) (fun z1 => z1.2) (fun z1 => [some (.ref o), some (.ref t), some (.int x), some (.int y), some (.int z), some (.int w), some (.int (nI z1.1))]) (0, _) ⟨Nat.zero_le _, trivial, (show FW [] [] S S ∧ WR 3 4 3 o S ∧ ROT o S S from ⟨FW.rf, W, fun _ _ _ => rfl⟩)⟩ (fun z1 hx7 ih6 => ?b8))
  obtain ⟨i2, S3⟩ := z1
  obtain ⟨hi4, h5, p10⟩ := hx7
  dsimp only at hi4 h5 p10 ih6 ⊢
  refine V_iload_6 3 dX6_countRows_3 ?_
  refine V_aload_0 5 dX6_countRows_5 ?_
  refine V_getR 6 (c := 6) 3 (WR.r1 p10.2.1) dX6_countRows_6 fl_RX6_18 ((F.w p10.1.1 rfl).m 0 (Nat.le_of_ble_eq_true rfl)) ((F.w p10.1.1 rfl).k 0 6 rfl) (Nat.le_of_ble_eq_true rfl) (Nat.le_of_ble_eq_true rfl) rfl ?_
  refine V_alen2 9 dX6_countRows_9 (wsM (F.w p10.1.1 rfl) (WR.c1 p10.2.1)) (wsK (F.w p10.1.1 rfl) (WR.c1 p10.2.1)) (Nat.le_of_ble_eq_true rfl) (Nat.le_of_ble_eq_true rfl) (wsL (F.w p10.1.1 rfl) (WR.c1 p10.2.1)) ?_
  refine V_icmp_ge 10 36 dX6_countRows_10 (by decide) (fun c11 => ?_) (fun c11 => ?_)
  ·
    refine V_iconst 36 (0) dX6_countRows_36 (by decide) ?_
    refine V_istore_6 37 dX6_countRows_37 rfl (Nat.le_of_ble_eq_true rfl) ?_
    refine V_lvw (by repeat (first | exact trivial | refine ⟨rfl, ?_⟩)) (V_while (α := Nat × PS) (fun z12 => 8 - z12.1) (fun z12 => z12.1 ≤ 8 ∧ FT [] [] S z12.2 ∧ ((fun T => FW [] [] S T ∧ WR 3 4 3 o T ∧ ROT o S T) z12.2)) (fun z12 => z12.2) (fun z12 => [some (.ref o), some (.ref t), some (.int x), some (.int y), some (.int z), some (.int w), some (.int (nI z12.1))]) (0, _) ⟨Nat.zero_le _, trivial, p10⟩ (fun z12 hx18 ih17 => ?b19))
    obtain ⟨i13, S14⟩ := z12
    obtain ⟨hi15, h16, p21⟩ := hx18
    dsimp only at hi15 h16 p21 ih17 ⊢
    have J24 : ∀ (S22 : PS) , FT [] [] S S22 → ((fun T => FW [] [] S T ∧ WR 3 4 3 o T ∧ ROT o S T) S22) → i13 < 8 → V M Γ (7, RX6, "countRows", (some .long), RM (3) (0) (0)) cX6_countRows (RQ M Γ (RLg (fun r S' => FW [] [] S S' ∧ WR 3 4 3 o S' ∧ ROT o S S')) (0) (0)) 0 0 S22 70 [some (.ref o), some (.ref t), some (.int x), some (.int y), some (.int z), some (.int w), some (.int (nI i13))] [] := by
      intro S22  h23 p25 lt26
      refine V_iinc_6 70 (1) dX6_countRows_70 (by decide) rfl (Nat.le_of_ble_eq_true rfl) ?_
      refine V_goto 73 39 dX6_countRows_73 (by decide) ?_
      rw [← nI_succ]
      refine V_lvw (by repeat (first | exact trivial | refine ⟨rfl, ?_⟩)) (ih17 (i13 + 1, _) ⟨by dsimp only; omega, trivial, p25⟩ (by dsimp only; omega))
    refine V_iload_6 39 dX6_countRows_39 ?_
    refine V_bipush 41 (8) dX6_countRows_41 (by decide) ?_
    refine V_icmp_ge 43 76 dX6_countRows_43 (by decide) (fun c27 => ?_) (fun c27 => ?_)
    ·
      refine V_aload_0 76 dX6_countRows_76 ?_
      refine V_getR 77 (c := 6) 3 (WR.r1 p21.2.1) dX6_countRows_77 fl_RX6_18 ((F.w p21.1.1 rfl).m 0 (Nat.le_of_ble_eq_true rfl)) ((F.w p21.1.1 rfl).k 0 6 rfl) (Nat.le_of_ble_eq_true rfl) (Nat.le_of_ble_eq_true rfl) rfl ?_
      refine V_iload_3 80 dX6_countRows_80 ?_
      refine V_callSN 81 [.ref _, .int _] _ (c_longAt M.2.1 Γ S14 (a := _) (wsM (F.w p21.1.1 rfl) (WR.c1 p21.2.1)) (wsK (F.w p21.1.1 rfl) (WR.c1 p21.2.1)) (by rw [(wsL (F.w p21.1.1 rfl) (WR.c1 p21.2.1))]; decide) _) dX6_countRows_81 cb_X11_longAt ne_RX6_38 sm_yX11_longAt ⟨(Nat.le_of_ble_eq_true rfl), (Nat.le_of_ble_eq_true rfl)⟩ rfl rfl (Nat.le_of_ble_eq_true rfl) ⟨(Nat.le_of_ble_eq_true rfl), (Nat.le_of_ble_eq_true rfl)⟩ (RLg.go (fun r30 S28 q29 => ?_))
      rw [q29.2]
      refine V_lret 84 dX6_countRows_84 rfl (Nat.le_of_ble_eq_true rfl) (Nat.le_of_ble_eq_true rfl) (RLg.mk p21)
    ·
      have lt31 := nI_lt8 (by decide) hi15 c27
      refine V_iload_6 46 dX6_countRows_46 ?_
      refine V_aload_1 48 dX6_countRows_48 ?_
      refine V_getR 49 (c := 10) 3 ((Ft.w p21.1.1 rfl).r 0 3 2 rfl) dX6_countRows_49 fl_RX6_29 ((Ft.w p21.1.1 rfl).m 0 (Nat.le_of_ble_eq_true rfl)) ((Ft.w p21.1.1 rfl).k 0 10 rfl) (Nat.le_of_ble_eq_true rfl) (Nat.le_of_ble_eq_true rfl) rfl ?_
      refine V_iload_6 52 dX6_countRows_52 ?_
      refine V_iaload2 54 dX6_countRows_54 ((Ft.w p21.1.1 rfl).m 2 (Nat.le_of_ble_eq_true rfl)) ((Ft.w p21.1.1 rfl).k 2 14 rfl) ((Ft.w p21.1.1 rfl).l 2 8 rfl) ?_ ?_
      · exact vp_in_nI (by omega) (by decide)
      refine V_icmp_gt 55 70 dX6_countRows_55 (by decide) (fun c32 => ?_) (fun c32 => ?_)
      ·
        refine V_lvw (by repeat (first | exact trivial | refine ⟨rfl, ?_⟩)) (J24 _ trivial p21 (by first | omega | assumption))
      ·
        refine V_aload_0 58 dX6_countRows_58 ?_
        refine V_aload_1 59 dX6_countRows_59 ?_
        refine V_iload_2 60 dX6_countRows_60 ?_
        refine V_iload_6 61 dX6_countRows_61 ?_
        refine V_iload_4 63 dX6_countRows_63 ?_
        refine V_iload_5 65 dX6_countRows_65 ?_
        refine V_callV 67 (ci := 6) [.ref _, .int _, .int _, .int _, .int _] _ (s_seenJoin M.2.1 Γ S14 (F.w p21.1.1 rfl) p21.2.1 (Ft.w p21.1.1 rfl) (hn.fw p21.1 (by simp)) _ _ _ _) dX6_countRows_67 cb_X6_joinKinds ml_RX6_34 im_yX6_joinKinds se_yX6_joinKinds ((F.w p21.1.1 rfl).m 0 (Nat.le_of_ble_eq_true rfl)) ((F.w p21.1.1 rfl).k 0 6 rfl) (Nat.le_of_ble_eq_true rfl) ⟨(Nat.le_of_ble_eq_true rfl), (Nat.le_of_ble_eq_true rfl)⟩ rfl rfl (Nat.le_of_ble_eq_true rfl) ⟨(Nat.le_of_ble_eq_true rfl), (Nat.le_of_ble_eq_true rfl)⟩ (RV.go (fun S34 q35 => ?_))
        have h37 : FT [] [] S S34 := trivial
        have p38 : ((fun T => FW [] [] S T ∧ WR 3 4 3 o T ∧ ROT o S T) S34) := by exact ⟨p21.1.tr q35.1, q35.2.1, rx1 p21.2.2 q35.2.2⟩
        refine V_lvw (by repeat (first | exact trivial | refine ⟨rfl, ?_⟩)) (J24 _ trivial p38 (by first | omega | assumption))
  ·
    have lt40 := nI_lt8 (by decide) hi4 c11
    refine V_aload_0 13 dX6_countRows_13 ?_
    refine V_getR 14 (c := 6) 3 (WR.r1 p10.2.1) dX6_countRows_14 fl_RX6_18 ((F.w p10.1.1 rfl).m 0 (Nat.le_of_ble_eq_true rfl)) ((F.w p10.1.1 rfl).k 0 6 rfl) (Nat.le_of_ble_eq_true rfl) (Nat.le_of_ble_eq_true rfl) rfl ?_
    refine V_iload_6 17 dX6_countRows_17 ?_
    refine V_iload_6 19 dX6_countRows_19 ?_
    refine V_if_ne 21 28 dX6_countRows_21 (by decide) (fun c41 => ?_) (fun c41 => ?_)
    ·
      refine V_lconst 28 0 dX6_countRows_28 (by decide) ?_
      refine V_lastore2 29 dX6_countRows_29 (wsM (F.w p10.1.1 rfl) (WR.c1 p10.2.1)) (wsK (F.w p10.1.1 rfl) (WR.c1 p10.2.1)) (wsL (F.w p10.1.1 rfl) (WR.c1 p10.2.1)) ?_ ?_
      · exact vp_in_nI (by omega) (by decide)
      refine V_abs (fun T9 => FT [] [] S T9 ∧ ((fun T => FW [] [] S T ∧ WR 3 4 3 o T ∧ ROT o S T) T9)) ⟨trivial, by exact ⟨p10.1.uJ, p10.2.1, p10.2.2⟩⟩ (fun S42 hh45 => ?_)
      obtain ⟨h43, p44⟩ := hh45
      refine V_iinc_6 30 (1) dX6_countRows_30 (by decide) rfl (Nat.le_of_ble_eq_true rfl) ?_
      refine V_goto 33 3 dX6_countRows_33 (by decide) ?_
      rw [← nI_succ]
      refine V_lvw (by repeat (first | exact trivial | refine ⟨rfl, ?_⟩)) (ih6 (i2 + 1, _) ⟨by dsimp only; omega, trivial, p44⟩ (by dsimp only; omega))
    ·
      refine V_lconst 24 1 dX6_countRows_24 (by decide) ?_
      refine V_goto 25 29 dX6_countRows_25 (by decide) ?_
      refine V_lastore2 29 dX6_countRows_29 (wsM (F.w p10.1.1 rfl) (WR.c1 p10.2.1)) (wsK (F.w p10.1.1 rfl) (WR.c1 p10.2.1)) (wsL (F.w p10.1.1 rfl) (WR.c1 p10.2.1)) ?_ ?_
      · exact vp_in_nI (by omega) (by decide)
      refine V_abs (fun T9 => FT [] [] S T9 ∧ ((fun T => FW [] [] S T ∧ WR 3 4 3 o T ∧ ROT o S T) T9)) ⟨trivial, by exact ⟨p10.1.uJ, p10.2.1, p10.2.2⟩⟩ (fun S46 hh49 => ?_)
      obtain ⟨h47, p48⟩ := hh49
      refine V_iinc_6 30 (1) dX6_countRows_30 (by decide) rfl (Nat.le_of_ble_eq_true rfl) ?_
      refine V_goto 33 3 dX6_countRows_33 (by decide) ?_
      rw [← nI_succ]
      refine V_lvw (by repeat (first | exact trivial | refine ⟨rfl, ?_⟩)) (ih6 (i2 + 1, _) ⟨by dsimp only; omega, trivial, p48⟩ (by dsimp only; omega))
theorem cnt_in {c : Int32} (h0 : ¬ c < 0) (h1 : c < 20) : vp_in c 20 := in_of (by decide) h0 (fun q => absurd h1 (Int32.not_lt.mpr (by exact q)))
set_option maxRecDepth 100000 in
set_option maxHeartbeats 8000000 in
theorem s_note (l : Launch) (Γ : GC) (S : PS) {o : Nat} (F : isL lySeenW Γ.2.2.2.2.1 S o) (x y : Int32) : CT l Γ yX6_note cX6_note 3 (some .int) (0) (0) (0) [.ref o, .int x, .int y] S (RI (fun r S' => FZ [o + 1, o + 2] [(o, 2)] S S')) := by
  refine CT.of RX6 "note" [some (.ref o), some (.int x), some (.int y)] (by decide +kernel) rfl rfl (Nat.le_of_ble_eq_true rfl) rfl (fun M hM => ?_)
  subst hM
  generalize hc : sI S o 2 = n
  refine V_aload_0 0 dX6_note_0 ?_
  refine V_getI 1 (c := 6) 2 dX6_note_1 fl_RX6_25 (F.m 0 (Nat.le_of_ble_eq_true rfl)) (F.k 0 6 rfl) (Nat.le_of_ble_eq_true rfl) (Nat.le_of_ble_eq_true rfl) rfl ?_
  rw [hc]
  refine V_if_lt 4 16 dX6_note_4 (by decide) (fun c => ?_) (fun c => ?_)
  ·
    refine V_iconst 16 (-1) dX6_note_16 (by decide) ?_
    refine V_iret 17 .int dX6_note_17 rfl rfl (Nat.le_of_ble_eq_true rfl) (Nat.le_of_ble_eq_true rfl) (RI.mk FZ.rf)
  ·
    refine V_aload_0 7 dX6_note_7 ?_
    refine V_getI 8 (c := 6) 2 dX6_note_8 fl_RX6_25 (F.m 0 (Nat.le_of_ble_eq_true rfl)) (F.k 0 6 rfl) (Nat.le_of_ble_eq_true rfl) (Nat.le_of_ble_eq_true rfl) rfl ?_
    rw [hc]
    refine V_bipush 11 (20) dX6_note_11 (by decide) ?_
    refine V_icmp_lt 13 18 dX6_note_13 (by decide) (fun c2 => ?_) (fun c2 => ?_)
    ·
      refine V_aload_0 18 dX6_note_18 ?_
      refine V_getR 19 (c := 6) 0 (F.r 0 0 1 rfl) dX6_note_19 fl_RX6_11 (F.m 0 (Nat.le_of_ble_eq_true rfl)) (F.k 0 6 rfl) (Nat.le_of_ble_eq_true rfl) (Nat.le_of_ble_eq_true rfl) rfl ?_
      refine V_aload_0 22 dX6_note_22 ?_
      refine V_getI 23 (c := 6) 2 dX6_note_23 fl_RX6_25 (F.m 0 (Nat.le_of_ble_eq_true rfl)) (F.k 0 6 rfl) (Nat.le_of_ble_eq_true rfl) (Nat.le_of_ble_eq_true rfl) rfl ?_
      rw [hc]
      refine V_iload_1 26 dX6_note_26 ?_
      refine V_iastore2 27 dX6_note_27 (F.m 1 (Nat.le_of_ble_eq_true rfl)) (F.k 1 14 rfl) (F.l 1 20 rfl) ?_ ?_
      · exact cnt_in c c2
      refine V_aload_0 28 dX6_note_28 ?_
      refine V_getR 29 (c := 6) 1 (F.r 0 1 2 rfl) dX6_note_29 fl_RX6_15 (F.m 0 (Nat.le_of_ble_eq_true rfl)) (F.k 0 6 rfl) (Nat.le_of_ble_eq_true rfl) (Nat.le_of_ble_eq_true rfl) rfl ?_
      refine V_aload_0 32 dX6_note_32 ?_
      refine V_getI 33 (c := 6) 2 dX6_note_33 fl_RX6_25 (F.m 0 (Nat.le_of_ble_eq_true rfl)) (F.k 0 6 rfl) (Nat.le_of_ble_eq_true rfl) (Nat.le_of_ble_eq_true rfl) rfl ?_
      rw [show sI (uA S (o + 1) n.toNatClampNeg x) o 2 = n from hc]
      refine V_iload_2 36 dX6_note_36 ?_
      refine V_iastore2 37 dX6_note_37 (F.m 2 (Nat.le_of_ble_eq_true rfl)) (F.k 2 14 rfl) (F.l 2 20 rfl) ?_ ?_
      · exact cnt_in c c2
      refine V_aload_0 38 dX6_note_38 ?_
      refine V_dup 39 dX6_note_39 rfl ?_
      refine V_getI 40 (c := 6) 2 dX6_note_40 fl_RX6_25 (F.m 0 (Nat.le_of_ble_eq_true rfl)) (F.k 0 6 rfl) (Nat.le_of_ble_eq_true rfl) (Nat.le_of_ble_eq_true rfl) rfl ?_
      refine V_iconst 43 (1) dX6_note_43 (by decide) ?_
      refine V_iadd 44 dX6_note_44 ?_
      refine V_putI 45 (c := 6) 2 dX6_note_45 fl_RX6_25 (F.m 0 (Nat.le_of_ble_eq_true rfl)) (F.k 0 6 rfl) (Nat.le_of_ble_eq_true rfl) (Nat.le_of_ble_eq_true rfl) rfl (Or.inl rfl) ?_
      refine V_aload_0 48 dX6_note_48 ?_
      refine V_getI 49 (c := 6) 2 dX6_note_49 fl_RX6_25 (F.m 0 (Nat.le_of_ble_eq_true rfl)) (F.k 0 6 rfl) (Nat.le_of_ble_eq_true rfl) (Nat.le_of_ble_eq_true rfl) rfl ?_
      refine V_iconst 52 (1) dX6_note_52 (by decide) ?_
      refine V_isub 53 dX6_note_53 ?_
      refine V_iret 54 .int dX6_note_54 rfl rfl (Nat.le_of_ble_eq_true rfl) (Nat.le_of_ble_eq_true rfl) (RI.mk (((FZ.rf.uA (by simp)).uA (by simp)).uI (by simp)))
    ·
      refine V_iconst 16 (-1) dX6_note_16 (by decide) ?_
      refine V_iret 17 .int dX6_note_17 rfl rfl (Nat.le_of_ble_eq_true rfl) (Nat.le_of_ble_eq_true rfl) (RI.mk FZ.rf)

