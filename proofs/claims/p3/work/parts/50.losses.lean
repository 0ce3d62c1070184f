/-! Losses, from any ints -/
theorem rss {S S2 : PS} {a j t : Nat} (h : SSm S S2) (r : sR S a j = some t) : sR S2 a j = some t := by rw [h.2.2.1]; exact r
/-- the references of all other objects stay -/
def ROT (o : Nat) (S S2 : PS) : Prop := ∀ a, a ≠ o → ∀ j, sR S2 a j = sR S a j
theorem lossSwap {lo o : Nat} {S S1 : PS} (F : isL lyLossesW lo S o) (W : WR 0 1 1 o S) (h : FZ [] [] S S1) : FW [] [] S (uR (uR S1 o 0 (some (wR S o 1))) o 1 (some (wR S o 0))) ∧ WR 0 1 1 o (uR (uR S1 o 0 (some (wR S o 1))) o 1 (some (wR S o 0))) ∧ ROT o S (uR (uR S1 o 0 (some (wR S o 1))) o 1 (some (wR S o 0))) := by
  have k : sK S o = 3 := F.k 0 3 rfl
  have e : sR S1 = sR S := h.1.2.2.1
  refine ⟨⟨((SSW.of h.1).uR (Or.inl ⟨k, by decide⟩)).uR (Or.inl ⟨k, by decide⟩), h.2.1, h.2.2⟩, ?_, fun a ha j => ?_⟩
  · have w := (W.ss h.1).swap (by decide)
    have e0 : wR S1 o 0 = wR S o 0 := by unfold wR; rw [e]
    have e1 : wR S1 o 1 = wR S o 1 := by unfold wR; rw [e]
    rw [e0, e1] at w
    exact w
  · show up2 (up2 (sR S1) o 0 _) o 1 _ a j = _
    rw [up2_a _ _ ha, up2_a _ _ ha, e]
/-- the weeks lived: 0 .. 200 -/
def WK (o : Nat) (S : PS) : Prop := ∃ w, w ≤ 200 ∧ sI S o 5 = nI w
theorem WK.fz {o : Nat} {X : List Nat} {Y : List (Nat × Nat)} {S S2 : PS} (h : WK o S) (e : FZ X Y S S2) (hy : (o, 5) ∉ Y) : WK o S2 := by
  obtain ⟨w, h1, h2⟩ := h
  exact ⟨w, h1, (e.2.2 o 5 hy).trans h2⟩
theorem WK.uI {o a k : Nat} {v : Int32} {S : PS} (h : WK o S) (n : (a, k) ≠ (o, 5)) : WK o (uI S a k v) := by
  obtain ⟨w, h1, h2⟩ := h
  refine ⟨w, h1, ?_⟩
  rw [sI_uI]; unfold up2; rw [if_neg (fun q => n (by rw [q.1, q.2]))]; exact h2
theorem WK_put {o w : Nat} {v : Int32} {S : PS} (hw : w ≤ 200) (hv : v = nI w) : WK o (uI S o 5 v) := ⟨w, hw, (up2_s _ _ _ _).trans hv⟩
set_option maxRecDepth 100000 in
set_option maxHeartbeats 8000000 in
theorem s_shiftL (l : Launch) (Γ : GC) (S : PS) {o : Nat} (F : isL lyLossesW Γ.2.2.2.2.1 S o) (W : WR 0 1 1 o S) (x : Int32) (y : Int64) : CT l Γ yX3_addShifted cX3_addShifted 5 none (1) (0) (0) [.ref o, .int x, .long y] S (RV (fun S' => FZ [] [] S S')) := by
  refine CT.of RX3 "addShifted" [some (.ref o), some (.int x), some (.long y), none, none] (by decide +kernel) rfl rfl (Nat.le_of_ble_eq_true rfl) rfl (fun M hM => ?_)
  subst hM
  have ma := wlM F W.c1
  have ka := wlK F W.c1
  have la := wlL F W.c1
  have mb := wlM F W.c2
  have kb := wlK F W.c2
  have lb := wlL F W.c2
  have ra := W.r1
  have rb := W.r2
  refine V_iconst 0 (0) dX3_addShifted_0 (by decide) ?_
  refine V_istore_4 1 dX3_addShifted_1 rfl (Nat.le_of_ble_eq_true rfl) ?_
  refine V_lvw (by repeat (first | exact trivial | refine ⟨rfl, ?_⟩)) (V_while (α := Nat × PS) (fun z1 => 19 - z1.1) (fun z1 => z1.1 ≤ 19 ∧ FZ [] [] S z1.2) (fun z1 => z1.2) (fun z1 => [some (.ref o), some (.int x), some (.long y), none, some (.int (nI z1.1))]) (0, _) ⟨Nat.zero_le _, FZ.rf⟩ (fun z1 hx7 ih6 => ?b8))
  obtain ⟨i2, S3⟩ := z1
  obtain ⟨hi4, h5⟩ := hx7
  dsimp only at hi4 h5 ih6 ⊢
  refine V_iload_4 3 dX3_addShifted_3 ?_
  refine V_aload_0 5 dX3_addShifted_5 ?_
  refine V_getR 6 (c := 3) 1 (rss h5.1 rb) dX3_addShifted_6 fl_RX3_15 ((F.ss h5.1).m 0 (Nat.le_of_ble_eq_true rfl)) ((F.ss h5.1).k 0 3 rfl) (Nat.le_of_ble_eq_true rfl) (Nat.le_of_ble_eq_true rfl) rfl ?_
  refine V_alen2 9 dX3_addShifted_9 (PL_ss h5.1 mb) (kss h5.1 kb) (Nat.le_of_ble_eq_true rfl) (Nat.le_of_ble_eq_true rfl) (lss h5.1 lb) ?_
  refine V_icmp_ge 10 42 dX3_addShifted_10 (by decide) (fun c10 => ?_) (fun c10 => ?_)
  ·
    refine V_vret 42 dX3_addShifted_42 rfl (Nat.le_of_ble_eq_true rfl) (Nat.le_of_ble_eq_true rfl) (RV.mk h5)
  ·
    have lt11 := nI_lt8 (by decide) hi4 c10
    refine V_aload_0 13 dX3_addShifted_13 ?_
    refine V_getR 14 (c := 3) 1 (rss h5.1 rb) dX3_addShifted_14 fl_RX3_15 ((F.ss h5.1).m 0 (Nat.le_of_ble_eq_true rfl)) ((F.ss h5.1).k 0 3 rfl) (Nat.le_of_ble_eq_true rfl) (Nat.le_of_ble_eq_true rfl) rfl ?_
    refine V_iload_4 17 dX3_addShifted_17 ?_
    refine V_dup2 19 dX3_addShifted_19 rfl rfl ?_
    refine V_laload2 20 dX3_addShifted_20 (PL_ss h5.1 mb) (kss h5.1 kb) (lss h5.1 lb) ?_ ?_
    · exact vp_in_nI (by omega) (by decide)
    refine V_aload_0 21 dX3_addShifted_21 ?_
    refine V_getR 22 (c := 3) 0 (rss h5.1 ra) dX3_addShifted_22 fl_RX3_9 ((F.ss h5.1).m 0 (Nat.le_of_ble_eq_true rfl)) ((F.ss h5.1).k 0 3 rfl) (Nat.le_of_ble_eq_true rfl) (Nat.le_of_ble_eq_true rfl) rfl ?_
    refine V_iload_4 25 dX3_addShifted_25 ?_
    refine V_iload_1 27 dX3_addShifted_27 ?_
    refine V_isub 28 dX3_addShifted_28 ?_
    refine V_callSN 29 [.ref _, .int _] _ (c_longAt M.2.1 Γ S3 (a := _) (PL_ss h5.1 ma) (kss h5.1 ka) (by rw [(lss h5.1 la)]; decide) _) dX3_addShifted_29 cb_X11_longAt ne_RX3_60 sm_yX11_longAt ⟨(Nat.le_of_ble_eq_true rfl), (Nat.le_of_ble_eq_true rfl)⟩ rfl rfl (Nat.le_of_ble_eq_true rfl) ⟨(Nat.le_of_ble_eq_true rfl), (Nat.le_of_ble_eq_true rfl)⟩ (RLg.go (fun r14 S12 q13 => ?_))
    rw [q13.2]
    refine V_lload_2 32 dX3_addShifted_32 ?_
    refine V_lmul 33 dX3_addShifted_33 ?_
    refine V_ladd 34 dX3_addShifted_34 ?_
    refine V_lastore2 35 dX3_addShifted_35 (PL_ss h5.1 mb) (kss h5.1 kb) (lss h5.1 lb) ?_ ?_
    · exact vp_in_nI (by omega) (by decide)
    refine V_abs (FZ [] [] S) (h5.uJ) (fun S15 h16 => ?_)
    refine V_iinc_4 36 (1) dX3_addShifted_36 (by decide) rfl (Nat.le_of_ble_eq_true rfl) ?_
    refine V_goto 39 3 dX3_addShifted_39 (by decide) ?_
    rw [← nI_succ]
    refine V_lvw (by repeat (first | exact trivial | refine ⟨rfl, ?_⟩)) (ih6 (i2 + 1, _) ⟨by dsimp only; omega, h16⟩ (by dsimp only; omega))
set_option maxRecDepth 100000 in
set_option maxHeartbeats 8000000 in
theorem s_lossJoin (l : Launch) (Γ : GC) (S : PS) {o : Nat} (F : isL lyLossesW Γ.2.2.2.2.1 S o) (W : WR 0 1 1 o S) (x z u v : Int32) (hx : x.toInt < 2147483647) (hz : z.toInt < 2147483647) : CT l Γ yX3_joinKinds cX3_joinKinds 9 none (2) (0) (0) [.ref o, .int x, .int z, .int u, .int v] S (RV (fun S' => FW [] [] S S' ∧ WR 0 1 1 o S' ∧ ROT o S S')) := by
  refine CT.of RX3 "joinKinds" [some (.ref o), some (.int x), some (.int z), some (.int u), some (.int v), none, none, none, none] (by decide +kernel) rfl rfl (Nat.le_of_ble_eq_true rfl) rfl (fun M hM => ?_)
  subst hM
  have ma := wlM F W.c1
  have ka := wlK F W.c1
  have la := wlL F W.c1
  have mb := wlM F W.c2
  have kb := wlK F W.c2
  have lb := wlL F W.c2
  have ra := W.r1
  have rb := W.r2
  refine V_iconst 0 (0) dX3_joinKinds_0 (by decide) ?_
  refine V_istore_5 1 dX3_joinKinds_1 rfl (Nat.le_of_ble_eq_true rfl) ?_
  refine V_lvw (by repeat (first | exact trivial | refine ⟨rfl, ?_⟩)) (V_while (α := Nat × PS) (fun z1 => 19 - z1.1) (fun z1 => z1.1 ≤ 19 ∧ FZ [] [] S z1.2) (fun z1 => z1.2) (fun z1 => [some (.ref o), some (.int x), some (.int z), some (.int u), some (.int v), some (.int (nI z1.1)), none, none, none]) (0, _) ⟨Nat.zero_le _, FZ.rf⟩ (fun z1 hx7 ih6 => ?b8))
  obtain ⟨i2, S3⟩ := z1
  obtain ⟨hi4, h5⟩ := hx7
  dsimp only at hi4 h5 ih6 ⊢
  refine V_iload_5 3 dX3_joinKinds_3 ?_
  refine V_aload_0 5 dX3_joinKinds_5 ?_
  refine V_getR 6 (c := 3) 1 (rss h5.1 rb) dX3_joinKinds_6 fl_RX3_15 ((F.ss h5.1).m 0 (Nat.le_of_ble_eq_true rfl)) ((F.ss h5.1).k 0 3 rfl) (Nat.le_of_ble_eq_true rfl) (Nat.le_of_ble_eq_true rfl) rfl ?_
  refine V_alen2 9 dX3_joinKinds_9 (PL_ss h5.1 mb) (kss h5.1 kb) (Nat.le_of_ble_eq_true rfl) (Nat.le_of_ble_eq_true rfl) (lss h5.1 lb) ?_
  refine V_icmp_ge 10 27 dX3_joinKinds_10 (by decide) (fun c10 => ?_) (fun c10 => ?_)
  ·
    refine V_iconst 27 (0) dX3_joinKinds_27 (by decide) ?_
    refine V_istore_5 28 dX3_joinKinds_28 rfl (Nat.le_of_ble_eq_true rfl) ?_
    refine V_lvw (by repeat (first | exact trivial | refine ⟨rfl, ?_⟩)) (V_while (α := Int32 × PS) (fun z11 => ((x).toInt + 1 - z11.1.toInt).toNat) (fun z11 => FZ [] [] S z11.2) (fun z11 => z11.2) (fun z11 => [some (.ref o), some (.int x), some (.int z), some (.int u), some (.int v), some (.int z11.1), none, none, none]) (_, _) (h5) (fun z11 h15 ih16 => ?b18))
    obtain ⟨i12, S13⟩ := z11
    dsimp only at h15 ih16 ⊢
    refine V_iload_5 30 dX3_joinKinds_30 ?_
    refine V_iload_1 32 dX3_joinKinds_32 ?_
    refine V_icmp_gt 33 112 dX3_joinKinds_33 (by decide) (fun c20 => ?_) (fun c20 => ?_)
    ·
      refine V_aload_0 112 dX3_joinKinds_112 ?_
      refine V_getR 113 (c := 3) 0 (rss h15.1 ra) dX3_joinKinds_113 fl_RX3_9 ((F.ss h15.1).m 0 (Nat.le_of_ble_eq_true rfl)) ((F.ss h15.1).k 0 3 rfl) (Nat.le_of_ble_eq_true rfl) (Nat.le_of_ble_eq_true rfl) rfl ?_
      refine V_astore_5 116 dX3_joinKinds_116 rfl (Nat.le_of_ble_eq_true rfl) ?_
      refine V_aload_0 118 dX3_joinKinds_118 ?_
      refine V_aload_0 119 dX3_joinKinds_119 ?_
      refine V_getR 120 (c := 3) 1 (rss h15.1 rb) dX3_joinKinds_120 fl_RX3_15 ((F.ss h15.1).m 0 (Nat.le_of_ble_eq_true rfl)) ((F.ss h15.1).k 0 3 rfl) (Nat.le_of_ble_eq_true rfl) (Nat.le_of_ble_eq_true rfl) rfl ?_
      refine V_putR 123 (c := 3) 0 dX3_joinKinds_123 fl_RX3_9 ((F.ss h15.1).m 0 (Nat.le_of_ble_eq_true rfl)) ((F.ss h15.1).k 0 3 rfl) (Nat.le_of_ble_eq_true rfl) (Nat.le_of_ble_eq_true rfl) rfl rfl rfl rfl ?_
      refine V_aload_0 126 dX3_joinKinds_126 ?_
      refine V_aload_5 127 dX3_joinKinds_127 ?_
      refine V_putR 129 (c := 3) 1 dX3_joinKinds_129 fl_RX3_15 ((F.ss h15.1).m 0 (Nat.le_of_ble_eq_true rfl)) ((F.ss h15.1).k 0 3 rfl) (Nat.le_of_ble_eq_true rfl) (Nat.le_of_ble_eq_true rfl) rfl rfl rfl rfl ?_
      refine V_vret 132 dX3_joinKinds_132 rfl (Nat.le_of_ble_eq_true rfl) (Nat.le_of_ble_eq_true rfl) (RV.mk (lossSwap F W h15))
    ·
      refine V_iconst 36 (0) dX3_joinKinds_36 (by decide) ?_
      refine V_istore_6 37 dX3_joinKinds_37 rfl (Nat.le_of_ble_eq_true rfl) ?_
      refine V_lvw (by repeat (first | exact trivial | refine ⟨rfl, ?_⟩)) (V_while (α := Int32 × PS) (fun z21 => (((if (0 : Int32) < z then z else 0)).toInt + 1 - z21.1.toInt).toNat) (fun z21 => FZ [] [] S z21.2) (fun z21 => z21.2) (fun z21 => [some (.ref o), some (.int x), some (.int z), some (.int u), some (.int v), some (.int i12), some (.int z21.1), none, none]) (_, _) (h15) (fun z21 h25 ih26 => ?b28))
      obtain ⟨i22, S23⟩ := z21
      dsimp only at h25 ih26 ⊢
      refine V_iload_6 39 dX3_joinKinds_39 ?_
      refine V_iconst 41 (0) dX3_joinKinds_41 (by decide) ?_
      refine V_iload_2 42 dX3_joinKinds_42 ?_
      refine V_mmax 43 dX3_joinKinds_43 ml_RX3_64 (Nat.le_of_ble_eq_true rfl) (Nat.le_of_ble_eq_true rfl) (Nat.le_of_ble_eq_true rfl) (Nat.le_of_ble_eq_true rfl) ?_
      refine V_icmp_gt 46 106 dX3_joinKinds_46 (by decide) (fun c30 => ?_) (fun c30 => ?_)
      ·
        refine V_iinc_5 106 (1) dX3_joinKinds_106 (by decide) rfl (Nat.le_of_ble_eq_true rfl) ?_
        refine V_goto 109 30 dX3_joinKinds_109 (by decide) ?_
        refine V_lvw (by repeat (first | exact trivial | refine ⟨rfl, ?_⟩)) (ih16 (_, _) (h25) (le32 (by first | assumption | (assumption)) (hx)))
      ·
        refine V_iload_1 49 dX3_joinKinds_49 ?_
        refine V_iload_5 50 dX3_joinKinds_50 ?_
        refine V_iload_3 52 dX3_joinKinds_52 ?_
        refine V_iload_4 53 dX3_joinKinds_53 ?_
        refine V_callS 55 [.int _, .int _, .int _, .int _] _ (s_waysLeft M.2.1 Γ S23 _ _ _ _) dX3_joinKinds_55 cb_X3_waysLeft ml_RX3_70 sm_yX3_waysLeft ⟨(Nat.le_of_ble_eq_true rfl), (Nat.le_of_ble_eq_true rfl)⟩ rfl rfl (Nat.le_of_ble_eq_true rfl) ⟨(Nat.le_of_ble_eq_true rfl), (Nat.le_of_ble_eq_true rfl)⟩ (RLg.go (fun r33 S31 q32 => ?_))
        have h34 : FZ [] [] S S31 := h25.tr (q32.sub (by simp) (by simp))
        refine V_iconst 58 (0) dX3_joinKinds_58 (by decide) ?_
        refine V_iload_2 59 dX3_joinKinds_59 ?_
        refine V_mmax 60 dX3_joinKinds_60 ml_RX3_64 (Nat.le_of_ble_eq_true rfl) (Nat.le_of_ble_eq_true rfl) (Nat.le_of_ble_eq_true rfl) (Nat.le_of_ble_eq_true rfl) ?_
        refine V_iload_6 63 dX3_joinKinds_63 ?_
        refine V_iload_3 65 dX3_joinKinds_65 ?_
        refine V_iload_4 66 dX3_joinKinds_66 ?_
        refine V_callS 68 [.int _, .int _, .int _, .int _] _ (s_waysLeft M.2.1 Γ S31 _ _ _ _) dX3_joinKinds_68 cb_X3_waysLeft ml_RX3_70 sm_yX3_waysLeft ⟨(Nat.le_of_ble_eq_true rfl), (Nat.le_of_ble_eq_true rfl)⟩ rfl rfl (Nat.le_of_ble_eq_true rfl) ⟨(Nat.le_of_ble_eq_true rfl), (Nat.le_of_ble_eq_true rfl)⟩ (RLg.go (fun r37 S35 q36 => ?_))
        have h38 : FZ [] [] S S35 := h34.tr (q36.sub (by simp) (by simp))
        refine V_lmul 71 dX3_joinKinds_71 ?_
        refine V_lstore_7 72 dX3_joinKinds_72 rfl (Nat.le_of_ble_eq_true rfl) ?_
        refine V_aload_0 74 dX3_joinKinds_74 ?_
        refine V_iload_2 75 dX3_joinKinds_75 ?_
        refine V_iconst 76 (-1) dX3_joinKinds_76 (by decide) ?_
        refine V_icmp_ne 77 87 dX3_joinKinds_77 (by decide) (fun c39 => ?_) (fun c39 => ?_)
        ·
          refine V_iload_5 87 dX3_joinKinds_87 ?_
          refine V_iload_6 89 dX3_joinKinds_89 ?_
          refine V_isub 91 dX3_joinKinds_91 ?_
          refine V_mabs 92 dX3_joinKinds_92 ml_RX3_74 (Nat.le_of_ble_eq_true rfl) (Nat.le_of_ble_eq_true rfl) (Nat.le_of_ble_eq_true rfl) (Nat.le_of_ble_eq_true rfl) ?_
          refine V_lload_7 95 dX3_joinKinds_95 ?_
          refine V_callV 97 (ci := 3) [.int _, .long _] _ (s_shiftL M.2.1 Γ S35 (F.ss h38.1) (W.ss h38.1) _ _) dX3_joinKinds_97 cb_X3_addShifted ml_RX3_78 im_yX3_addShifted se_yX3_addShifted ((F.ss h38.1).m 0 (Nat.le_of_ble_eq_true rfl)) ((F.ss h38.1).k 0 3 rfl) (Nat.le_of_ble_eq_true rfl) ⟨(Nat.le_of_ble_eq_true rfl), (Nat.le_of_ble_eq_true rfl)⟩ rfl rfl (Nat.le_of_ble_eq_true rfl) ⟨(Nat.le_of_ble_eq_true rfl), (Nat.le_of_ble_eq_true rfl)⟩ (RV.go (fun S40 q41 => ?_))
          have h43 : FZ [] [] S S40 := h38.tr (q41.sub (by simp) (by simp))
          refine V_iinc_6 100 (1) dX3_joinKinds_100 (by decide) rfl (Nat.le_of_ble_eq_true rfl) ?_
          refine V_goto 103 39 dX3_joinKinds_103 (by decide) ?_
          refine V_lvw (by repeat (first | exact trivial | refine ⟨rfl, ?_⟩)) (ih26 (_, _) (h43) (le32 (by first | assumption | (assumption)) (mx0 hz)))
        ·
          refine V_iload_5 80 dX3_joinKinds_80 ?_
          refine V_iconst 82 (1) dX3_joinKinds_82 (by decide) ?_
          refine V_iand 83 dX3_joinKinds_83 ?_
          refine V_goto 84 95 dX3_joinKinds_84 (by decide) ?_
          refine V_lload_7 95 dX3_joinKinds_95 ?_
          refine V_callV 97 (ci := 3) [.int _, .long _] _ (s_shiftL M.2.1 Γ S35 (F.ss h38.1) (W.ss h38.1) _ _) dX3_joinKinds_97 cb_X3_addShifted ml_RX3_78 im_yX3_addShifted se_yX3_addShifted ((F.ss h38.1).m 0 (Nat.le_of_ble_eq_true rfl)) ((F.ss h38.1).k 0 3 rfl) (Nat.le_of_ble_eq_true rfl) ⟨(Nat.le_of_ble_eq_true rfl), (Nat.le_of_ble_eq_true rfl)⟩ rfl rfl (Nat.le_of_ble_eq_true rfl) ⟨(Nat.le_of_ble_eq_true rfl), (Nat.le_of_ble_eq_true rfl)⟩ (RV.go (fun S44 q45 => ?_))
          have h47 : FZ [] [] S S44 := h38.tr (q45.sub (by simp) (by simp))
          refine V_iinc_6 100 (1) dX3_joinKinds_100 (by decide) rfl (Nat.le_of_ble_eq_true rfl) ?_
          refine V_goto 103 39 dX3_joinKinds_103 (by decide) ?_
          refine V_lvw (by repeat (first | exact trivial | refine ⟨rfl, ?_⟩)) (ih26 (_, _) (h47) (le32 (by first | assumption | (assumption)) (mx0 hz)))
  ·
    have lt48 := nI_lt8 (by decide) hi4 c10
    refine V_aload_0 13 dX3_joinKinds_13 ?_
    refine V_getR 14 (c := 3) 1 (rss h5.1 rb) dX3_joinKinds_14 fl_RX3_15 ((F.ss h5.1).m 0 (Nat.le_of_ble_eq_true rfl)) ((F.ss h5.1).k 0 3 rfl) (Nat.le_of_ble_eq_true rfl) (Nat.le_of_ble_eq_true rfl) rfl ?_
    refine V_iload_5 17 dX3_joinKinds_17 ?_
    refine V_lconst 19 0 dX3_joinKinds_19 (by decide) ?_
    refine V_lastore2 20 dX3_joinKinds_20 (PL_ss h5.1 mb) (kss h5.1 kb) (lss h5.1 lb) ?_ ?_
    · exact vp_in_nI (by omega) (by decide)
    refine V_abs (FZ [] [] S) (h5.uJ) (fun S49 h50 => ?_)
    refine V_iinc_5 21 (1) dX3_joinKinds_21 (by decide) rfl (Nat.le_of_ble_eq_true rfl) ?_
    refine V_goto 24 3 dX3_joinKinds_24 (by decide) ?_
    rw [← nI_succ]
    refine V_lvw (by repeat (first | exact trivial | refine ⟨rfl, ?_⟩)) (ih6 (i2 + 1, _) ⟨by dsimp only; omega, h50⟩ (by dsimp only; omega))
set_option maxRecDepth 100000 in
set_option maxHeartbeats 8000000 in
theorem s_lbegin (l : Launch) (Γ : GC) (S : PS) {o t : Nat} (F : isL lyLossesW Γ.2.2.2.2.1 S o) (Ft : isL lyText Γ.2.2.2.2.1 S t) (hw : WK o S) : CT l Γ yX3_begin cX3_begin 3 none (1) (0) (0) [.ref o, .ref t] S (RV (fun S' => FZ [o + 3, o + 4] [(o, 5), (o, 6)] S S' ∧ WK o S')) := by
  refine CT.of RX3 "begin" [some (.ref o), some (.ref t), none] (by decide +kernel) rfl rfl (Nat.le_of_ble_eq_true rfl) rfl (fun M hM => ?_)
  subst hM
  refine V_aload_1 0 dX3_begin_0 ?_
  refine V_getR 1 (c := 10) 2 (Ft.r 0 2 1 rfl) dX3_begin_1 fl_RX3_89 (Ft.m 0 (Nat.le_of_ble_eq_true rfl)) (Ft.k 0 10 rfl) (Nat.le_of_ble_eq_true rfl) (Nat.le_of_ble_eq_true rfl) rfl ?_
  refine V_aload_0 4 dX3_begin_4 ?_
  refine V_getR 5 (c := 3) 2 (F.r 0 2 3 rfl) dX3_begin_5 fl_RX3_18 (F.m 0 (Nat.le_of_ble_eq_true rfl)) (F.k 0 3 rfl) (Nat.le_of_ble_eq_true rfl) (Nat.le_of_ble_eq_true rfl) rfl ?_
  refine V_callSN 8 [.ref _, .ref _] _ (c_copyRow M.2.1 Γ S (a := (t + 1)) (b := (o + 3)) (Ft.m 1 (Nat.le_of_ble_eq_true rfl)) (Ft.k 1 14 rfl) (by rw [(Ft.l 1 8 rfl)]; decide) (F.m 3 (Nat.le_of_ble_eq_true rfl)) (F.k 3 14 rfl) (((F.l 3 8 rfl)).trans ((Ft.l 1 8 rfl)).symm)) dX3_begin_8 cb_X11_copyRow ne_RX3_92 sm_yX11_copyRow ⟨(Nat.le_of_ble_eq_true rfl), (Nat.le_of_ble_eq_true rfl)⟩ rfl rfl (Nat.le_of_ble_eq_true rfl) ⟨(Nat.le_of_ble_eq_true rfl), (Nat.le_of_ble_eq_true rfl)⟩ (RV.go (fun S1 q2 => ?_))
  have h4 : FZ [o + 3, o + 4] [(o, 5), (o, 6)] S S1 := (FZ.rf (X := [o + 3, o + 4]) (Y := [(o, 5), (o, 6)]) (S := S)).tr ((fr_cpy q2).sub (by simp) (by simp))
  have p5 : (WK o S1) := by exact hw.fz (fr_cpy q2) (by simp)
  refine V_iconst 11 (0) dX3_begin_11 (by decide) ?_
  refine V_istore_2 12 dX3_begin_12 rfl (Nat.le_of_ble_eq_true rfl) ?_
  refine V_lvw (by repeat (first | exact trivial | refine ⟨rfl, ?_⟩)) (V_while (α := Nat × PS) (fun z6 => 18 - z6.1) (fun z6 => z6.1 ≤ 18 ∧ FZ [o + 3, o + 4] [(o, 5), (o, 6)] S z6.2 ∧ (WK o z6.2)) (fun z6 => z6.2) (fun z6 => [some (.ref o), some (.ref t), some (.int (nI z6.1))]) (0, _) ⟨Nat.zero_le _, h4, p5⟩ (fun z6 hx12 ih11 => ?b13))
  obtain ⟨i7, S8⟩ := z6
  obtain ⟨hi9, h10, p15⟩ := hx12
  dsimp only at hi9 h10 p15 ih11 ⊢
  refine V_iload_2 13 dX3_begin_13 ?_
  refine V_aload_0 14 dX3_begin_14 ?_
  refine V_getR 15 (c := 3) 3 ((F.ss h10.1).r 0 3 4 rfl) dX3_begin_15 fl_RX3_22 ((F.ss h10.1).m 0 (Nat.le_of_ble_eq_true rfl)) ((F.ss h10.1).k 0 3 rfl) (Nat.le_of_ble_eq_true rfl) (Nat.le_of_ble_eq_true rfl) rfl ?_
  refine V_alen2 18 dX3_begin_18 ((F.ss h10.1).m 4 (Nat.le_of_ble_eq_true rfl)) ((F.ss h10.1).k 4 16 rfl) (Nat.le_of_ble_eq_true rfl) (Nat.le_of_ble_eq_true rfl) ((F.ss h10.1).l 4 18 rfl) ?_
  refine V_icmp_ge 19 35 dX3_begin_19 (by decide) (fun c16 => ?_) (fun c16 => ?_)
  ·
    refine V_aload_0 35 dX3_begin_35 ?_
    refine V_iconst 36 (0) dX3_begin_36 (by decide) ?_
    refine V_putI 37 (c := 3) 5 dX3_begin_37 fl_RX3_96 ((F.ss h10.1).m 0 (Nat.le_of_ble_eq_true rfl)) ((F.ss h10.1).k 0 3 rfl) (Nat.le_of_ble_eq_true rfl) (Nat.le_of_ble_eq_true rfl) rfl (Or.inl rfl) ?_
    refine V_abs (fun T9 => FZ [o + 3, o + 4] [(o, 5), (o, 6)] S T9 ∧ (WK o T9)) ⟨h10.uI (by simp), by exact WK_put (w := 0) (by decide) rfl⟩ (fun S17 hh20 => ?_)
    obtain ⟨h18, p19⟩ := hh20
    refine V_aload_0 40 dX3_begin_40 ?_
    refine V_iconst 41 (-1) dX3_begin_41 (by decide) ?_
    refine V_putI 42 (c := 3) 6 dX3_begin_42 fl_RX3_29 ((F.ss h18.1).m 0 (Nat.le_of_ble_eq_true rfl)) ((F.ss h18.1).k 0 3 rfl) (Nat.le_of_ble_eq_true rfl) (Nat.le_of_ble_eq_true rfl) rfl (Or.inl rfl) ?_
    refine V_abs (fun T9 => FZ [o + 3, o + 4] [(o, 5), (o, 6)] S T9 ∧ (WK o T9)) ⟨h18.uI (by simp), by exact p19.uI (by simp)⟩ (fun S21 hh24 => ?_)
    obtain ⟨h22, p23⟩ := hh24
    refine V_vret 45 dX3_begin_45 rfl (Nat.le_of_ble_eq_true rfl) (Nat.le_of_ble_eq_true rfl) (RV.mk ⟨h22, p23⟩)
  ·
    have lt25 := nI_lt8 (by decide) hi9 c16
    refine V_aload_0 22 dX3_begin_22 ?_
    refine V_getR 23 (c := 3) 3 ((F.ss h10.1).r 0 3 4 rfl) dX3_begin_23 fl_RX3_22 ((F.ss h10.1).m 0 (Nat.le_of_ble_eq_true rfl)) ((F.ss h10.1).k 0 3 rfl) (Nat.le_of_ble_eq_true rfl) (Nat.le_of_ble_eq_true rfl) rfl ?_
    refine V_iload_2 26 dX3_begin_26 ?_
    refine V_iconst 27 (0) dX3_begin_27 (by decide) ?_
    refine V_zastore2 28 dX3_begin_28 ((F.ss h10.1).m 4 (Nat.le_of_ble_eq_true rfl)) ((F.ss h10.1).k 4 16 rfl) ((F.ss h10.1).l 4 18 rfl) ?_ (Or.inl rfl) ?_
    · exact vp_in_nI (by omega) (by decide)
    refine V_abs (fun T9 => FZ [o + 3, o + 4] [(o, 5), (o, 6)] S T9 ∧ (WK o T9)) ⟨h10.uA (by simp), by exact p15⟩ (fun S26 hh29 => ?_)
    obtain ⟨h27, p28⟩ := hh29
    refine V_iinc_2 29 (1) dX3_begin_29 (by decide) rfl (Nat.le_of_ble_eq_true rfl) ?_
    refine V_goto 32 13 dX3_begin_32 (by decide) ?_
    rw [← nI_succ]
    refine V_lvw (by repeat (first | exact trivial | refine ⟨rfl, ?_⟩)) (ih11 (i7 + 1, _) ⟨by dsimp only; omega, h27, p28⟩ (by dsimp only; omega))
set_option maxRecDepth 100000 in
set_option maxHeartbeats 8000000 in
theorem s_isLost (l : Launch) (Γ : GC) (S : PS) {o t : Nat} (F : isL lyLossesW Γ.2.2.2.2.1 S o) (Ft : isL lyText Γ.2.2.2.2.1 S t) (x y z : Int32) : CT l Γ yX3_isLost cX3_isLost 6 (some .boolean) (2) (0) (0) [.ref o, .ref t, .int x, .int y, .int z] S (RI (fun r S' => (r = 0 ∨ r = 1) ∧ FZ [o + 5, t + 13] [] S S' ∧ (¬ r = 0 → ¬ z < 0 ∧ ¬ nI 18 ≤ z))) := by
  refine CT.of RX3 "isLost" [some (.ref o), some (.ref t), some (.int x), some (.int y), some (.int z), none] (by decide +kernel) rfl rfl (Nat.le_of_ble_eq_true rfl) rfl (fun M hM => ?_)
  subst hM
  have J3 : ∀ (S1 : PS) , FZ [o + 5, t + 13] [] S S1 → V M Γ (6, RX3, "isLost", (some .boolean), RM (2) (0) (0)) cX3_isLost (RQ M Γ (RI (fun r S' => (r = 0 ∨ r = 1) ∧ FZ [o + 5, t + 13] [] S S' ∧ (¬ r = 0 → ¬ z < 0 ∧ ¬ nI 18 ≤ z))) (0) (0)) 0 0 S1 25 [some (.ref o), some (.ref t), some (.int x), some (.int y), some (.int z), none] [] := by
    intro S1  h2
    refine V_iconst 25 (0) dX3_isLost_25 (by decide) ?_
    refine V_iret 26 .boolean dX3_isLost_26 rfl (nrwB (Or.inl rfl)) (Nat.le_of_ble_eq_true rfl) (Nat.le_of_ble_eq_true rfl) (RI.mk ⟨(Or.inl rfl), h2, by first | exact fun q => absurd rfl q | exact fun _ => ⟨by assumption, by assumption⟩⟩)
  refine V_iload_4 0 dX3_isLost_0 ?_
  refine V_if_lt 2 25 dX3_isLost_2 (by decide) (fun c4 => ?_) (fun c4 => ?_)
  ·
    refine V_lvw (by repeat (first | exact trivial | refine ⟨rfl, ?_⟩)) (J3 _ FZ.rf)
  ·
    refine V_iload_4 5 dX3_isLost_5 ?_
    refine V_aload_0 7 dX3_isLost_7 ?_
    refine V_getR 8 (c := 3) 3 (F.r 0 3 4 rfl) dX3_isLost_8 fl_RX3_22 (F.m 0 (Nat.le_of_ble_eq_true rfl)) (F.k 0 3 rfl) (Nat.le_of_ble_eq_true rfl) (Nat.le_of_ble_eq_true rfl) rfl ?_
    refine V_alen2 11 dX3_isLost_11 (F.m 4 (Nat.le_of_ble_eq_true rfl)) (F.k 4 16 rfl) (Nat.le_of_ble_eq_true rfl) (Nat.le_of_ble_eq_true rfl) (F.l 4 18 rfl) ?_
    refine V_icmp_ge 12 25 dX3_isLost_12 (by decide) (fun c6 => ?_) (fun c6 => ?_)
    ·
      refine V_lvw (by repeat (first | exact trivial | refine ⟨rfl, ?_⟩)) (J3 _ FZ.rf)
    ·
      refine V_aload_0 15 dX3_isLost_15 ?_
      refine V_getR 16 (c := 3) 3 (F.r 0 3 4 rfl) dX3_isLost_16 fl_RX3_22 (F.m 0 (Nat.le_of_ble_eq_true rfl)) (F.k 0 3 rfl) (Nat.le_of_ble_eq_true rfl) (Nat.le_of_ble_eq_true rfl) rfl ?_
      refine V_iload_4 19 dX3_isLost_19 ?_
      refine V_zaload2 21 dX3_isLost_21 (F.m 4 (Nat.le_of_ble_eq_true rfl)) (F.k 4 16 rfl) (F.l 4 18 rfl) ?_ ?_
      · exact in_of (by decide) (by assumption) (by assumption)
      refine V_if_eq 22 27 dX3_isLost_22 (by decide) (fun c8 => ?_) (fun c8 => ?_)
      ·
        refine V_bipush 27 (20) dX3_isLost_27 (by decide) ?_
        refine V_iload_2 29 dX3_isLost_29 ?_
        refine V_imul 30 dX3_isLost_30 ?_
        refine V_iload_4 31 dX3_isLost_31 ?_
        refine V_iadd 33 dX3_isLost_33 ?_
        refine V_istore_5 34 dX3_isLost_34 rfl (Nat.le_of_ble_eq_true rfl) ?_
        refine V_aload_0 36 dX3_isLost_36 ?_
        refine V_getR 37 (c := 3) 4 (F.r 0 4 5 rfl) dX3_isLost_37 fl_RX3_26 (F.m 0 (Nat.le_of_ble_eq_true rfl)) (F.k 0 3 rfl) (Nat.le_of_ble_eq_true rfl) (Nat.le_of_ble_eq_true rfl) rfl ?_
        refine V_iconst 40 (0) dX3_isLost_40 (by decide) ?_
        refine V_iload_2 41 dX3_isLost_41 ?_
        refine V_callSN 42 [.ref _, .int _, .int _] _ (c_put M.2.1 Γ S (a := (o + 5)) (F.m 5 (Nat.le_of_ble_eq_true rfl)) (F.k 5 14 rfl) (by rw [(F.l 5 5 rfl)]; decide) _ _) dX3_isLost_42 cb_X11_put ne_RX3_115 sm_yX11_put ⟨(Nat.le_of_ble_eq_true rfl), (Nat.le_of_ble_eq_true rfl)⟩ rfl rfl (Nat.le_of_ble_eq_true rfl) ⟨(Nat.le_of_ble_eq_true rfl), (Nat.le_of_ble_eq_true rfl)⟩ (RV.go (fun S9 q10 => ?_))
        have h12 : FZ [o + 5, t + 13] [] S S9 := (FZ.rf (X := [o + 5, t + 13]) (Y := []) (S := S)).tr ((fr_put q10).sub (by simp) (by simp))
        refine V_aload_0 45 dX3_isLost_45 ?_
        refine V_getR 46 (c := 3) 4 ((F.ss h12.1).r 0 4 5 rfl) dX3_isLost_46 fl_RX3_26 ((F.ss h12.1).m 0 (Nat.le_of_ble_eq_true rfl)) ((F.ss h12.1).k 0 3 rfl) (Nat.le_of_ble_eq_true rfl) (Nat.le_of_ble_eq_true rfl) rfl ?_
        refine V_iconst 49 (1) dX3_isLost_49 (by decide) ?_
        refine V_iload_3 50 dX3_isLost_50 ?_
        refine V_callSN 51 [.ref _, .int _, .int _] _ (c_put M.2.1 Γ S9 (a := (o + 5)) ((F.ss h12.1).m 5 (Nat.le_of_ble_eq_true rfl)) ((F.ss h12.1).k 5 14 rfl) (by rw [((F.ss h12.1).l 5 5 rfl)]; decide) _ _) dX3_isLost_51 cb_X11_put ne_RX3_115 sm_yX11_put ⟨(Nat.le_of_ble_eq_true rfl), (Nat.le_of_ble_eq_true rfl)⟩ rfl rfl (Nat.le_of_ble_eq_true rfl) ⟨(Nat.le_of_ble_eq_true rfl), (Nat.le_of_ble_eq_true rfl)⟩ (RV.go (fun S13 q14 => ?_))
        have h16 : FZ [o + 5, t + 13] [] S S13 := h12.tr ((fr_put q14).sub (by simp) (by simp))
        refine V_aload_0 54 dX3_isLost_54 ?_
        refine V_getR 55 (c := 3) 4 ((F.ss h16.1).r 0 4 5 rfl) dX3_isLost_55 fl_RX3_26 ((F.ss h16.1).m 0 (Nat.le_of_ble_eq_true rfl)) ((F.ss h16.1).k 0 3 rfl) (Nat.le_of_ble_eq_true rfl) (Nat.le_of_ble_eq_true rfl) rfl ?_
        refine V_iconst 58 (2) dX3_isLost_58 (by decide) ?_
        refine V_aload_0 59 dX3_isLost_59 ?_
        refine V_getR 60 (c := 3) 2 ((F.ss h16.1).r 0 2 3 rfl) dX3_isLost_60 fl_RX3_18 ((F.ss h16.1).m 0 (Nat.le_of_ble_eq_true rfl)) ((F.ss h16.1).k 0 3 rfl) (Nat.le_of_ble_eq_true rfl) (Nat.le_of_ble_eq_true rfl) rfl ?_
        refine V_iload_3 63 dX3_isLost_63 ?_
        refine V_callSN 64 [.ref _, .int _] _ (c_at M.2.1 Γ S13 (a := (o + 3)) ((F.ss h16.1).m 3 (Nat.le_of_ble_eq_true rfl)) ((F.ss h16.1).k 3 14 rfl) (by rw [((F.ss h16.1).l 3 8 rfl)]; decide) _) dX3_isLost_64 cb_X11_at ne_RX3_44 sm_yX11_at ⟨(Nat.le_of_ble_eq_true rfl), (Nat.le_of_ble_eq_true rfl)⟩ rfl rfl (Nat.le_of_ble_eq_true rfl) ⟨(Nat.le_of_ble_eq_true rfl), (Nat.le_of_ble_eq_true rfl)⟩ (RI.go (fun r19 S17 q18 => ?_))
        rw [q18.2]
        refine V_callSN 67 [.ref _, .int _, .int _] _ (c_put M.2.1 Γ S13 (a := (o + 5)) ((F.ss h16.1).m 5 (Nat.le_of_ble_eq_true rfl)) ((F.ss h16.1).k 5 14 rfl) (by rw [((F.ss h16.1).l 5 5 rfl)]; decide) _ _) dX3_isLost_67 cb_X11_put ne_RX3_115 sm_yX11_put ⟨(Nat.le_of_ble_eq_true rfl), (Nat.le_of_ble_eq_true rfl)⟩ rfl rfl (Nat.le_of_ble_eq_true rfl) ⟨(Nat.le_of_ble_eq_true rfl), (Nat.le_of_ble_eq_true rfl)⟩ (RV.go (fun S20 q21 => ?_))
        have h23 : FZ [o + 5, t + 13] [] S S20 := h16.tr ((fr_put q21).sub (by simp) (by simp))
        refine V_aload_0 70 dX3_isLost_70 ?_
        refine V_getR 71 (c := 3) 4 ((F.ss h23.1).r 0 4 5 rfl) dX3_isLost_71 fl_RX3_26 ((F.ss h23.1).m 0 (Nat.le_of_ble_eq_true rfl)) ((F.ss h23.1).k 0 3 rfl) (Nat.le_of_ble_eq_true rfl) (Nat.le_of_ble_eq_true rfl) rfl ?_
        refine V_iconst 74 (3) dX3_isLost_74 (by decide) ?_
        refine V_aload_0 75 dX3_isLost_75 ?_
        refine V_getR 76 (c := 3) 2 ((F.ss h23.1).r 0 2 3 rfl) dX3_isLost_76 fl_RX3_18 ((F.ss h23.1).m 0 (Nat.le_of_ble_eq_true rfl)) ((F.ss h23.1).k 0 3 rfl) (Nat.le_of_ble_eq_true rfl) (Nat.le_of_ble_eq_true rfl) rfl ?_
        refine V_callSN 79 [.ref _] _ (c_total M.2.1 Γ S20 (a := (o + 3)) ((F.ss h23.1).m 3 (Nat.le_of_ble_eq_true rfl)) ((F.ss h23.1).k 3 14 rfl) (by rw [((F.ss h23.1).l 3 8 rfl)]; decide)) dX3_isLost_79 cb_X11_total ne_RX3_103 sm_yX11_total ⟨(Nat.le_of_ble_eq_true rfl), (Nat.le_of_ble_eq_true rfl)⟩ rfl rfl (Nat.le_of_ble_eq_true rfl) ⟨(Nat.le_of_ble_eq_true rfl), (Nat.le_of_ble_eq_true rfl)⟩ (RI.go (fun r26 S24 q25 => ?_))
        rw [q25.2]
        refine V_callSN 82 [.ref _, .int _, .int _] _ (c_put M.2.1 Γ S20 (a := (o + 5)) ((F.ss h23.1).m 5 (Nat.le_of_ble_eq_true rfl)) ((F.ss h23.1).k 5 14 rfl) (by rw [((F.ss h23.1).l 5 5 rfl)]; decide) _ _) dX3_isLost_82 cb_X11_put ne_RX3_115 sm_yX11_put ⟨(Nat.le_of_ble_eq_true rfl), (Nat.le_of_ble_eq_true rfl)⟩ rfl rfl (Nat.le_of_ble_eq_true rfl) ⟨(Nat.le_of_ble_eq_true rfl), (Nat.le_of_ble_eq_true rfl)⟩ (RV.go (fun S27 q28 => ?_))
        have h30 : FZ [o + 5, t + 13] [] S S27 := h23.tr ((fr_put q28).sub (by simp) (by simp))
        refine V_aload_0 85 dX3_isLost_85 ?_
        refine V_getR 86 (c := 3) 4 ((F.ss h30.1).r 0 4 5 rfl) dX3_isLost_86 fl_RX3_26 ((F.ss h30.1).m 0 (Nat.le_of_ble_eq_true rfl)) ((F.ss h30.1).k 0 3 rfl) (Nat.le_of_ble_eq_true rfl) (Nat.le_of_ble_eq_true rfl) rfl ?_
        refine V_iconst 89 (4) dX3_isLost_89 (by decide) ?_
        refine V_bipush 90 (100) dX3_isLost_90 (by decide) ?_
        refine V_aload_1 92 dX3_isLost_92 ?_
        refine V_getI 93 (c := 10) 11 dX3_isLost_93 fl_RX3_119 ((Ft.ss h30.1).m 0 (Nat.le_of_ble_eq_true rfl)) ((Ft.ss h30.1).k 0 10 rfl) (Nat.le_of_ble_eq_true rfl) (Nat.le_of_ble_eq_true rfl) rfl ?_
        refine V_iload_5 96 dX3_isLost_96 ?_
        refine V_callSN 98 [.int _, .int _, .int _] _ (s_chance M.2.1 Γ S27 _ _ _) dX3_isLost_98 cb_X11_chance ne_RX3_122 sm_yX11_chance ⟨(Nat.le_of_ble_eq_true rfl), (Nat.le_of_ble_eq_true rfl)⟩ rfl rfl (Nat.le_of_ble_eq_true rfl) ⟨(Nat.le_of_ble_eq_true rfl), (Nat.le_of_ble_eq_true rfl)⟩ (RI.go (fun r33 S31 q32 => ?_))
        rw [q32]
        refine V_callSN 101 [.ref _, .int _, .int _] _ (c_put M.2.1 Γ S27 (a := (o + 5)) ((F.ss h30.1).m 5 (Nat.le_of_ble_eq_true rfl)) ((F.ss h30.1).k 5 14 rfl) (by rw [((F.ss h30.1).l 5 5 rfl)]; decide) _ _) dX3_isLost_101 cb_X11_put ne_RX3_115 sm_yX11_put ⟨(Nat.le_of_ble_eq_true rfl), (Nat.le_of_ble_eq_true rfl)⟩ rfl rfl (Nat.le_of_ble_eq_true rfl) ⟨(Nat.le_of_ble_eq_true rfl), (Nat.le_of_ble_eq_true rfl)⟩ (RV.go (fun S34 q35 => ?_))
        have h37 : FZ [o + 5, t + 13] [] S S34 := h30.tr ((fr_put q35).sub (by simp) (by simp))
        refine V_sipush 104 (1000) dX3_isLost_104 (by decide) ?_
        refine V_aload_1 107 dX3_isLost_107 ?_
        refine V_getI 108 (c := 10) 11 dX3_isLost_108 fl_RX3_119 ((Ft.ss h37.1).m 0 (Nat.le_of_ble_eq_true rfl)) ((Ft.ss h37.1).k 0 10 rfl) (Nat.le_of_ble_eq_true rfl) (Nat.le_of_ble_eq_true rfl) rfl ?_
        refine V_iload_5 111 dX3_isLost_111 ?_
        refine V_callSN 113 [.int _, .int _, .int _] _ (s_chance M.2.1 Γ S34 _ _ _) dX3_isLost_113 cb_X11_chance ne_RX3_122 sm_yX11_chance ⟨(Nat.le_of_ble_eq_true rfl), (Nat.le_of_ble_eq_true rfl)⟩ rfl rfl (Nat.le_of_ble_eq_true rfl) ⟨(Nat.le_of_ble_eq_true rfl), (Nat.le_of_ble_eq_true rfl)⟩ (RI.go (fun r40 S38 q39 => ?_))
        rw [q39]
        refine V_aload_1 116 dX3_isLost_116 ?_
        refine V_getR 117 (c := 10) 16 ((Ft.ss h37.1).r 0 16 10 rfl) dX3_isLost_117 fl_RX3_126 ((Ft.ss h37.1).m 0 (Nat.le_of_ble_eq_true rfl)) ((Ft.ss h37.1).k 0 10 rfl) (Nat.le_of_ble_eq_true rfl) (Nat.le_of_ble_eq_true rfl) rfl ?_
        refine V_aload_0 120 dX3_isLost_120 ?_
        refine V_getR 121 (c := 3) 4 ((F.ss h37.1).r 0 4 5 rfl) dX3_isLost_121 fl_RX3_26 ((F.ss h37.1).m 0 (Nat.le_of_ble_eq_true rfl)) ((F.ss h37.1).k 0 3 rfl) (Nat.le_of_ble_eq_true rfl) (Nat.le_of_ble_eq_true rfl) rfl ?_
        refine V_callV 124 (ci := 2) [.ref _] _ (s_value M.2.1 Γ S34 ((Ft.ss h37.1).sub 10 lyLaw rfl (by decide)) ((F.ss h37.1).m 5 (Nat.le_of_ble_eq_true rfl)) ((F.ss h37.1).k 5 14 rfl) ((F.ss h37.1).l 5 5 rfl)) dX3_isLost_124 cb_X2_value ml_RX3_130 im_yX2_value se_yX2_value ((Ft.ss h37.1).m 10 (Nat.le_of_ble_eq_true rfl)) ((Ft.ss h37.1).k 10 2 rfl) (Nat.le_of_ble_eq_true rfl) ⟨(Nat.le_of_ble_eq_true rfl), (Nat.le_of_ble_eq_true rfl)⟩ rfl rfl (Nat.le_of_ble_eq_true rfl) ⟨(Nat.le_of_ble_eq_true rfl), (Nat.le_of_ble_eq_true rfl)⟩ (RI.go (fun r43 S41 q42 => ?_))
        have h44 : FZ [o + 5, t + 13] [] S S41 := h37.tr (q42.sub (by simp) (by simp))
        refine V_icmp_ge 127 134 dX3_isLost_127 (by decide) (fun c45 => ?_) (fun c45 => ?_)
        ·
          refine V_iconst 134 (0) dX3_isLost_134 (by decide) ?_
          refine V_iret 135 .boolean dX3_isLost_135 rfl (nrwB (Or.inl rfl)) (Nat.le_of_ble_eq_true rfl) (Nat.le_of_ble_eq_true rfl) (RI.mk ⟨(Or.inl rfl), h44, by first | exact fun q => absurd rfl q | exact fun _ => ⟨by assumption, by assumption⟩⟩)
        ·
          refine V_iconst 130 (1) dX3_isLost_130 (by decide) ?_
          refine V_goto 131 135 dX3_isLost_131 (by decide) ?_
          refine V_iret 135 .boolean dX3_isLost_135 rfl (nrwB (Or.inr rfl)) (Nat.le_of_ble_eq_true rfl) (Nat.le_of_ble_eq_true rfl) (RI.mk ⟨(Or.inr rfl), h44, by first | exact fun q => absurd rfl q | exact fun _ => ⟨by assumption, by assumption⟩⟩)
      ·
        refine V_lvw (by repeat (first | exact trivial | refine ⟨rfl, ?_⟩)) (J3 _ FZ.rf)
set_option maxRecDepth 100000 in
set_option maxHeartbeats 8000000 in
theorem s_liveWeek (l : Launch) (Γ : GC) (S : PS) {o t : Nat} (F : isL lyLossesW Γ.2.2.2.2.1 S o) (Ft : isL lyText Γ.2.2.2.2.1 S t) (x : Int32) : CT l Γ yX3_liveWeek cX3_liveWeek 6 none (3) (0) (0) [.ref o, .ref t, .int x] S (RV (fun S' => FZ [o + 3, o + 4, o + 5, t + 13] [(o, 6)] S S')) := by
  refine CT.of RX3 "liveWeek" [some (.ref o), some (.ref t), some (.int x), none, none, none] (by decide +kernel) rfl rfl (Nat.le_of_ble_eq_true rfl) rfl (fun M hM => ?_)
  subst hM
  refine V_iconst 0 (0) dX3_liveWeek_0 (by decide) ?_
  refine V_istore_3 1 dX3_liveWeek_1 rfl (Nat.le_of_ble_eq_true rfl) ?_
  refine V_iconst 2 (0) dX3_liveWeek_2 (by decide) ?_
  refine V_istore_4 3 dX3_liveWeek_3 rfl (Nat.le_of_ble_eq_true rfl) ?_
  refine V_lvw (by repeat (first | exact trivial | refine ⟨rfl, ?_⟩)) (V_while (α := Nat × PS × Int32) (fun z1 => 8 - z1.1) (fun z1 => z1.1 ≤ 8 ∧ FZ [o + 3, o + 4, o + 5, t + 13] [(o, 6)] S z1.2.1) (fun z1 => z1.2.1) (fun z1 => [some (.ref o), some (.ref t), some (.int x), some (.int z1.2.2), some (.int (nI z1.1)), none]) (0, _, _) ⟨Nat.zero_le _, FZ.rf⟩ (fun z1 hx8 ih6 => ?b9))
  obtain ⟨i2, S3, w7⟩ := z1
  obtain ⟨hi4, h5⟩ := hx8
  dsimp only at hi4 h5 ih6 ⊢
  have J13 : ∀ (S11 : PS) (x14 : Int32) (x15 : Int32), FZ [o + 3, o + 4, o + 5, t + 13] [(o, 6)] S S11 → i2 < 8 → V M Γ (6, RX3, "liveWeek", none, RM (3) (0) (0)) cX3_liveWeek (RQ M Γ (RV (fun S' => FZ [o + 3, o + 4, o + 5, t + 13] [(o, 6)] S S')) (0) (0)) 0 0 S11 94 [some (.ref o), some (.ref t), some (.int x), some (.int x14), some (.int (nI i2)), some (.int x15)] [] := by
    intro S11 x14 x15 h12 lt16
    refine V_iinc_4 94 (1) dX3_liveWeek_94 (by decide) rfl (Nat.le_of_ble_eq_true rfl) ?_
    refine V_goto 97 5 dX3_liveWeek_97 (by decide) ?_
    rw [← nI_succ]
    refine V_lvw (by repeat (first | exact trivial | refine ⟨rfl, ?_⟩)) (ih6 (i2 + 1, _, _) ⟨by dsimp only; omega, h12⟩ (by dsimp only; omega))
  refine V_iload_4 5 dX3_liveWeek_5 ?_
  refine V_bipush 7 (8) dX3_liveWeek_7 (by decide) ?_
  refine V_icmp_ge 9 100 dX3_liveWeek_9 (by decide) (fun c17 => ?_) (fun c17 => ?_)
  ·
    refine V_vret 100 dX3_liveWeek_100 rfl (Nat.le_of_ble_eq_true rfl) (Nat.le_of_ble_eq_true rfl) (RV.mk h5)
  ·
    have lt18 := nI_lt8 (by decide) hi4 c17
    refine V_iload_3 12 dX3_liveWeek_12 ?_
    refine V_aload_1 13 dX3_liveWeek_13 ?_
    refine V_getR 14 (c := 10) 2 ((Ft.ss h5.1).r 0 2 1 rfl) dX3_liveWeek_14 fl_RX3_89 ((Ft.ss h5.1).m 0 (Nat.le_of_ble_eq_true rfl)) ((Ft.ss h5.1).k 0 10 rfl) (Nat.le_of_ble_eq_true rfl) (Nat.le_of_ble_eq_true rfl) rfl ?_
    refine V_iload_4 17 dX3_liveWeek_17 ?_
    refine V_iaload2 19 dX3_liveWeek_19 ((Ft.ss h5.1).m 1 (Nat.le_of_ble_eq_true rfl)) ((Ft.ss h5.1).k 1 14 rfl) ((Ft.ss h5.1).l 1 8 rfl) ?_ ?_
    · exact vp_in_nI (by omega) (by decide)
    refine V_iadd 20 dX3_liveWeek_20 ?_
    refine V_istore_5 21 dX3_liveWeek_21 rfl (Nat.le_of_ble_eq_true rfl) ?_
    refine V_lvw (by repeat (first | exact trivial | refine ⟨rfl, ?_⟩)) (V_while (α := Int32 × PS × Int32) (fun z19 => (((nI 18)).toInt - z19.1.toInt).toNat) (fun z19 => FZ [o + 3, o + 4, o + 5, t + 13] [(o, 6)] S z19.2.1) (fun z19 => z19.2.1) (fun z19 => [some (.ref o), some (.ref t), some (.int x), some (.int z19.1), some (.int (nI i2)), some (.int z19.2.2)]) (_, _, _) (h5) (fun z19 h23 ih24 => ?b27))
    obtain ⟨i20, S21, w25⟩ := z19
    dsimp only at h23 ih24 ⊢
    have J31 : ∀ (S29 : PS) (x32 : Int32), FZ [o + 3, o + 4, o + 5, t + 13] [(o, 6)] S S29 → ¬ (nI 18) ≤ i20 → V M Γ (6, RX3, "liveWeek", none, RM (3) (0) (0)) cX3_liveWeek (RQ M Γ (RV (fun S' => FZ [o + 3, o + 4, o + 5, t + 13] [(o, 6)] S S')) (0) (0)) 0 0 S29 88 [some (.ref o), some (.ref t), some (.int x), some (.int i20), some (.int (nI i2)), some (.int x32)] [] := by
      intro S29 x32 h30 lt33
      refine V_iinc_3 88 (1) dX3_liveWeek_88 (by decide) rfl (Nat.le_of_ble_eq_true rfl) ?_
      refine V_goto 91 23 dX3_liveWeek_91 (by decide) ?_
      refine V_lvw (by repeat (first | exact trivial | refine ⟨rfl, ?_⟩)) (ih24 (_, _, _) (h30) (up32 (by first | assumption | (assumption))))
    refine V_iload_3 23 dX3_liveWeek_23 ?_
    refine V_iload_5 24 dX3_liveWeek_24 ?_
    refine V_icmp_ge 26 94 dX3_liveWeek_26 (by decide) (fun c34 => ?_) (fun c34 => ?_)
    ·
      refine V_lvw (by repeat (first | exact trivial | refine ⟨rfl, ?_⟩)) (J13 _ _ _ h23 (by first | omega | assumption))
    ·
      refine V_iload_3 29 dX3_liveWeek_29 ?_
      refine V_aload_0 30 dX3_liveWeek_30 ?_
      refine V_getR 31 (c := 3) 3 ((F.ss h23.1).r 0 3 4 rfl) dX3_liveWeek_31 fl_RX3_22 ((F.ss h23.1).m 0 (Nat.le_of_ble_eq_true rfl)) ((F.ss h23.1).k 0 3 rfl) (Nat.le_of_ble_eq_true rfl) (Nat.le_of_ble_eq_true rfl) rfl ?_
      refine V_alen2 34 dX3_liveWeek_34 ((F.ss h23.1).m 4 (Nat.le_of_ble_eq_true rfl)) ((F.ss h23.1).k 4 16 rfl) (Nat.le_of_ble_eq_true rfl) (Nat.le_of_ble_eq_true rfl) ((F.ss h23.1).l 4 18 rfl) ?_
      refine V_icmp_ge 35 94 dX3_liveWeek_35 (by decide) (fun c36 => ?_) (fun c36 => ?_)
      ·
        refine V_lvw (by repeat (first | exact trivial | refine ⟨rfl, ?_⟩)) (J13 _ _ _ h23 (by first | omega | assumption))
      ·
        refine V_aload_0 38 dX3_liveWeek_38 ?_
        refine V_aload_1 39 dX3_liveWeek_39 ?_
        refine V_iload_2 40 dX3_liveWeek_40 ?_
        refine V_iload_4 41 dX3_liveWeek_41 ?_
        refine V_iload_3 43 dX3_liveWeek_43 ?_
        refine V_callV 44 (ci := 3) [.ref _, .int _, .int _, .int _] _ (s_isLost M.2.1 Γ S21 (F.ss h23.1) (Ft.ss h23.1) _ _ _) dX3_liveWeek_44 cb_X3_isLost ml_RX3_111 im_yX3_isLost se_yX3_isLost ((F.ss h23.1).m 0 (Nat.le_of_ble_eq_true rfl)) ((F.ss h23.1).k 0 3 rfl) (Nat.le_of_ble_eq_true rfl) ⟨(Nat.le_of_ble_eq_true rfl), (Nat.le_of_ble_eq_true rfl)⟩ rfl rfl (Nat.le_of_ble_eq_true rfl) ⟨(Nat.le_of_ble_eq_true rfl), (Nat.le_of_ble_eq_true rfl)⟩ (RI.go (fun r40 S38 q39 => ?_))
        have hz9 := q39.2.2
        have h41 : FZ [o + 3, o + 4, o + 5, t + 13] [(o, 6)] S S38 := h23.tr (q39.2.1.sub (by simp) (by simp))
        refine V_if_eq 47 88 dX3_liveWeek_47 (by decide) (fun c42 => ?_) (fun c42 => ?_)
        ·
          refine V_lvw (by repeat (first | exact trivial | refine ⟨rfl, ?_⟩)) (J31 _ _ h41 (by first | omega | assumption))
        ·
          refine V_aload_0 50 dX3_liveWeek_50 ?_
          refine V_getR 51 (c := 3) 3 ((F.ss h41.1).r 0 3 4 rfl) dX3_liveWeek_51 fl_RX3_22 ((F.ss h41.1).m 0 (Nat.le_of_ble_eq_true rfl)) ((F.ss h41.1).k 0 3 rfl) (Nat.le_of_ble_eq_true rfl) (Nat.le_of_ble_eq_true rfl) rfl ?_
          refine V_iload_3 54 dX3_liveWeek_54 ?_
          refine V_iconst 55 (1) dX3_liveWeek_55 (by decide) ?_
          refine V_zastore2 56 dX3_liveWeek_56 ((F.ss h41.1).m 4 (Nat.le_of_ble_eq_true rfl)) ((F.ss h41.1).k 4 16 rfl) ((F.ss h41.1).l 4 18 rfl) ?_ (Or.inr rfl) ?_
          · exact in_of (by decide) (hz9 (by assumption)).1 (hz9 (by assumption)).2
          refine V_abs (FZ [o + 3, o + 4, o + 5, t + 13] [(o, 6)] S) (h41.uA (by simp)) (fun S44 h45 => ?_)
          refine V_aload_0 57 dX3_liveWeek_57 ?_
          refine V_getR 58 (c := 3) 2 ((F.ss h45.1).r 0 2 3 rfl) dX3_liveWeek_58 fl_RX3_18 ((F.ss h45.1).m 0 (Nat.le_of_ble_eq_true rfl)) ((F.ss h45.1).k 0 3 rfl) (Nat.le_of_ble_eq_true rfl) (Nat.le_of_ble_eq_true rfl) rfl ?_
          refine V_iload_4 61 dX3_liveWeek_61 ?_
          refine V_dup2 63 dX3_liveWeek_63 rfl rfl ?_
          refine V_iaload2 64 dX3_liveWeek_64 ((F.ss h45.1).m 3 (Nat.le_of_ble_eq_true rfl)) ((F.ss h45.1).k 3 14 rfl) ((F.ss h45.1).l 3 8 rfl) ?_ ?_
          · exact vp_in_nI (by omega) (by decide)
          refine V_iconst 65 (1) dX3_liveWeek_65 (by decide) ?_
          refine V_isub 66 dX3_liveWeek_66 ?_
          refine V_iastore2 67 dX3_liveWeek_67 ((F.ss h45.1).m 3 (Nat.le_of_ble_eq_true rfl)) ((F.ss h45.1).k 3 14 rfl) ((F.ss h45.1).l 3 8 rfl) ?_ ?_
          · exact vp_in_nI (by omega) (by decide)
          refine V_abs (FZ [o + 3, o + 4, o + 5, t + 13] [(o, 6)] S) (h45.uA (by simp)) (fun S46 h47 => ?_)
          refine V_aload_0 68 dX3_liveWeek_68 ?_
          refine V_aload_0 69 dX3_liveWeek_69 ?_
          refine V_getI 70 (c := 3) 6 dX3_liveWeek_70 fl_RX3_29 ((F.ss h47.1).m 0 (Nat.le_of_ble_eq_true rfl)) ((F.ss h47.1).k 0 3 rfl) (Nat.le_of_ble_eq_true rfl) (Nat.le_of_ble_eq_true rfl) rfl ?_
          refine V_iconst 73 (-1) dX3_liveWeek_73 (by decide) ?_
          refine V_icmp_ne 74 81 dX3_liveWeek_74 (by decide) (fun c48 => ?_) (fun c48 => ?_)
          ·
            refine V_aload_0 81 dX3_liveWeek_81 ?_
            refine V_getI 82 (c := 3) 6 dX3_liveWeek_82 fl_RX3_29 ((F.ss h47.1).m 0 (Nat.le_of_ble_eq_true rfl)) ((F.ss h47.1).k 0 3 rfl) (Nat.le_of_ble_eq_true rfl) (Nat.le_of_ble_eq_true rfl) rfl ?_
            refine V_putI 85 (c := 3) 6 dX3_liveWeek_85 fl_RX3_29 ((F.ss h47.1).m 0 (Nat.le_of_ble_eq_true rfl)) ((F.ss h47.1).k 0 3 rfl) (Nat.le_of_ble_eq_true rfl) (Nat.le_of_ble_eq_true rfl) rfl (Or.inl rfl) ?_
            refine V_abs (FZ [o + 3, o + 4, o + 5, t + 13] [(o, 6)] S) (h47.uI (by simp)) (fun S49 h50 => ?_)
            refine V_lvw (by repeat (first | exact trivial | refine ⟨rfl, ?_⟩)) (J31 _ _ h50 (by first | omega | assumption))
          ·
            refine V_iload_2 77 dX3_liveWeek_77 ?_
            refine V_goto 78 85 dX3_liveWeek_78 (by decide) ?_
            refine V_putI 85 (c := 3) 6 dX3_liveWeek_85 fl_RX3_29 ((F.ss h47.1).m 0 (Nat.le_of_ble_eq_true rfl)) ((F.ss h47.1).k 0 3 rfl) (Nat.le_of_ble_eq_true rfl) (Nat.le_of_ble_eq_true rfl) rfl (Or.inl rfl) ?_
            refine V_abs (FZ [o + 3, o + 4, o + 5, t + 13] [(o, 6)] S) (h47.uI (by simp)) (fun S52 h53 => ?_)
            refine V_lvw (by repeat (first | exact trivial | refine ⟨rfl, ?_⟩)) (J31 _ _ h53 (by first | omega | assumption))
set_option maxRecDepth 100000 in
set_option maxHeartbeats 8000000 in
theorem s_pairsLeftW (l : Launch) (Γ : GC) (S : PS) {o t : Nat} (F : isL lyLossesW Γ.2.2.2.2.1 S o) (Ft : isL lyText Γ.2.2.2.2.1 S t) : CT l Γ yX3_pairsLeft cX3_pairsLeft 5 (some .int) (1) (0) (0) [.ref o, .ref t] S (RI (fun r S' => FZ [] [] S S')) := by
  refine CT.of RX3 "pairsLeft" [some (.ref o), some (.ref t), none, none, none] (by decide +kernel) rfl rfl (Nat.le_of_ble_eq_true rfl) rfl (fun M hM => ?_)
  subst hM
  refine V_iconst 0 (0) dX3_pairsLeft_0 (by decide) ?_
  refine V_istore_2 1 dX3_pairsLeft_1 rfl (Nat.le_of_ble_eq_true rfl) ?_
  refine V_iconst 2 (0) dX3_pairsLeft_2 (by decide) ?_
  refine V_istore_3 3 dX3_pairsLeft_3 rfl (Nat.le_of_ble_eq_true rfl) ?_
  refine V_lvw (by repeat (first | exact trivial | refine ⟨rfl, ?_⟩)) (V_while (α := Nat × PS × Int32) (fun z1 => 8 - z1.1) (fun z1 => z1.1 ≤ 8 ∧ FZ [] [] S z1.2.1) (fun z1 => z1.2.1) (fun z1 => [some (.ref o), some (.ref t), some (.int z1.2.2), some (.int (nI z1.1)), none]) (0, _, _) ⟨Nat.zero_le _, FZ.rf⟩ (fun z1 hx8 ih6 => ?b9))
  obtain ⟨i2, S3, w7⟩ := z1
  obtain ⟨hi4, h5⟩ := hx8
  dsimp only at hi4 h5 ih6 ⊢
  have J13 : ∀ (S11 : PS) (x14 : Int32) (x15 : Int32), FZ [] [] S S11 → i2 < 8 → V M Γ (5, RX3, "pairsLeft", (some .int), RM (1) (0) (0)) cX3_pairsLeft (RQ M Γ (RI (fun r S' => FZ [] [] S S')) (0) (0)) 0 0 S11 67 [some (.ref o), some (.ref t), some (.int x14), some (.int (nI i2)), some (.int x15)] [] := by
    intro S11 x14 x15 h12 lt16
    refine V_iinc_3 67 (1) dX3_pairsLeft_67 (by decide) rfl (Nat.le_of_ble_eq_true rfl) ?_
    refine V_goto 70 4 dX3_pairsLeft_70 (by decide) ?_
    rw [← nI_succ]
    refine V_lvw (by repeat (first | exact trivial | refine ⟨rfl, ?_⟩)) (ih6 (i2 + 1, _, _) ⟨by dsimp only; omega, h12⟩ (by dsimp only; omega))
  refine V_iload_3 4 dX3_pairsLeft_4 ?_
  refine V_bipush 5 (8) dX3_pairsLeft_5 (by decide) ?_
  refine V_icmp_ge 7 73 dX3_pairsLeft_7 (by decide) (fun c17 => ?_) (fun c17 => ?_)
  ·
    refine V_iload_2 73 dX3_pairsLeft_73 ?_
    refine V_iret 74 .int dX3_pairsLeft_74 rfl rfl (Nat.le_of_ble_eq_true rfl) (Nat.le_of_ble_eq_true rfl) (RI.mk h5)
  ·
    have lt18 := nI_lt8 (by decide) hi4 c17
    refine V_aload_1 10 dX3_pairsLeft_10 ?_
    refine V_getR 11 (c := 10) 3 ((Ft.ss h5.1).r 0 3 2 rfl) dX3_pairsLeft_11 fl_RX3_39 ((Ft.ss h5.1).m 0 (Nat.le_of_ble_eq_true rfl)) ((Ft.ss h5.1).k 0 10 rfl) (Nat.le_of_ble_eq_true rfl) (Nat.le_of_ble_eq_true rfl) rfl ?_
    refine V_iload_3 14 dX3_pairsLeft_14 ?_
    refine V_callSN 15 [.ref _, .int _] _ (c_at M.2.1 Γ S3 (a := (t + 2)) ((Ft.ss h5.1).m 2 (Nat.le_of_ble_eq_true rfl)) ((Ft.ss h5.1).k 2 14 rfl) (by rw [((Ft.ss h5.1).l 2 8 rfl)]; decide) _) dX3_pairsLeft_15 cb_X11_at ne_RX3_44 sm_yX11_at ⟨(Nat.le_of_ble_eq_true rfl), (Nat.le_of_ble_eq_true rfl)⟩ rfl rfl (Nat.le_of_ble_eq_true rfl) ⟨(Nat.le_of_ble_eq_true rfl), (Nat.le_of_ble_eq_true rfl)⟩ (RI.go (fun r21 S19 q20 => ?_))
    rw [q20.2]
    refine V_istore_4 18 dX3_pairsLeft_18 rfl (Nat.le_of_ble_eq_true rfl) ?_
    refine V_iload_3 20 dX3_pairsLeft_20 ?_
    refine V_iload_4 21 dX3_pairsLeft_21 ?_
    refine V_icmp_ne 23 40 dX3_pairsLeft_23 (by decide) (fun c22 => ?_) (fun c22 => ?_)
    ·
      refine V_iload_3 40 dX3_pairsLeft_40 ?_
      refine V_iload_4 41 dX3_pairsLeft_41 ?_
      refine V_icmp_ge 43 67 dX3_pairsLeft_43 (by decide) (fun c23 => ?_) (fun c23 => ?_)
      ·
        refine V_lvw (by repeat (first | exact trivial | refine ⟨rfl, ?_⟩)) (J13 _ _ _ h5 (by first | omega | assumption))
      ·
        refine V_iload_2 46 dX3_pairsLeft_46 ?_
        refine V_aload_0 47 dX3_pairsLeft_47 ?_
        refine V_getR 48 (c := 3) 2 ((F.ss h5.1).r 0 2 3 rfl) dX3_pairsLeft_48 fl_RX3_18 ((F.ss h5.1).m 0 (Nat.le_of_ble_eq_true rfl)) ((F.ss h5.1).k 0 3 rfl) (Nat.le_of_ble_eq_true rfl) (Nat.le_of_ble_eq_true rfl) rfl ?_
        refine V_iload_3 51 dX3_pairsLeft_51 ?_
        refine V_iaload2 52 dX3_pairsLeft_52 ((F.ss h5.1).m 3 (Nat.le_of_ble_eq_true rfl)) ((F.ss h5.1).k 3 14 rfl) ((F.ss h5.1).l 3 8 rfl) ?_ ?_
        · exact vp_in_nI (by omega) (by decide)
        refine V_aload_0 53 dX3_pairsLeft_53 ?_
        refine V_getR 54 (c := 3) 2 ((F.ss h5.1).r 0 2 3 rfl) dX3_pairsLeft_54 fl_RX3_18 ((F.ss h5.1).m 0 (Nat.le_of_ble_eq_true rfl)) ((F.ss h5.1).k 0 3 rfl) (Nat.le_of_ble_eq_true rfl) (Nat.le_of_ble_eq_true rfl) rfl ?_
        refine V_iload_4 57 dX3_pairsLeft_57 ?_
        refine V_callSN 59 [.ref _, .int _] _ (c_at M.2.1 Γ S3 (a := (o + 3)) ((F.ss h5.1).m 3 (Nat.le_of_ble_eq_true rfl)) ((F.ss h5.1).k 3 14 rfl) (by rw [((F.ss h5.1).l 3 8 rfl)]; decide) _) dX3_pairsLeft_59 cb_X11_at ne_RX3_44 sm_yX11_at ⟨(Nat.le_of_ble_eq_true rfl), (Nat.le_of_ble_eq_true rfl)⟩ rfl rfl (Nat.le_of_ble_eq_true rfl) ⟨(Nat.le_of_ble_eq_true rfl), (Nat.le_of_ble_eq_true rfl)⟩ (RI.go (fun r27 S25 q26 => ?_))
        rw [q26.2]
        refine V_mmin 62 dX3_pairsLeft_62 ml_RX3_135 (Nat.le_of_ble_eq_true rfl) (Nat.le_of_ble_eq_true rfl) (Nat.le_of_ble_eq_true rfl) (Nat.le_of_ble_eq_true rfl) ?_
        refine V_iadd 65 dX3_pairsLeft_65 ?_
        refine V_istore_2 66 dX3_pairsLeft_66 rfl (Nat.le_of_ble_eq_true rfl) ?_
        refine V_lvw (by repeat (first | exact trivial | refine ⟨rfl, ?_⟩)) (J13 _ _ _ h5 (by first | omega | assumption))
    ·
      refine V_iload_2 26 dX3_pairsLeft_26 ?_
      refine V_aload_0 27 dX3_pairsLeft_27 ?_
      refine V_getR 28 (c := 3) 2 ((F.ss h5.1).r 0 2 3 rfl) dX3_pairsLeft_28 fl_RX3_18 ((F.ss h5.1).m 0 (Nat.le_of_ble_eq_true rfl)) ((F.ss h5.1).k 0 3 rfl) (Nat.le_of_ble_eq_true rfl) (Nat.le_of_ble_eq_true rfl) rfl ?_
      refine V_iload_3 31 dX3_pairsLeft_31 ?_
      refine V_iaload2 32 dX3_pairsLeft_32 ((F.ss h5.1).m 3 (Nat.le_of_ble_eq_true rfl)) ((F.ss h5.1).k 3 14 rfl) ((F.ss h5.1).l 3 8 rfl) ?_ ?_
      · exact vp_in_nI (by omega) (by decide)
      refine V_iconst 33 (2) dX3_pairsLeft_33 (by decide) ?_
      refine V_idiv 34 dX3_pairsLeft_34 (by decide) ?_
      refine V_iadd 35 dX3_pairsLeft_35 ?_
      refine V_istore_2 36 dX3_pairsLeft_36 rfl (Nat.le_of_ble_eq_true rfl) ?_
      refine V_goto 37 67 dX3_pairsLeft_37 (by decide) ?_
      refine V_lvw (by repeat (first | exact trivial | refine ⟨rfl, ?_⟩)) (J13 _ _ _ h5 (by first | omega | assumption))
theorem max_nI {a : Int32} {w n : Nat} (ha : a = nI w) (hw : w ≤ 200) (hn : n ≤ 200) : ∃ v, v ≤ 200 ∧ (if a < nI n then nI n else a) = nI v := by
  subst ha
  by_cases h : nI w < nI n
  · exact ⟨n, hn, if_pos h⟩
  · exact ⟨w, hw, if_neg h⟩
set_option maxRecDepth 100000 in
set_option maxHeartbeats 8000000 in
theorem s_liveUntil (l : Launch) (Γ : GC) (S : PS) {o t : Nat} (F : isL lyLossesW Γ.2.2.2.2.1 S o) (Ft : isL lyText Γ.2.2.2.2.1 S t) (hw : WK o S) (n : Nat) (hn : n ≤ 200) : CT l Γ yX3_liveUntil cX3_liveUntil 4 none (4) (0) (0) [.ref o, .ref t, .int (nI n)] S (RV (fun S' => FZ [o + 3, o + 4, o + 5, o + 6, o + 7, t + 13] [(o, 5), (o, 6)] S S' ∧ WK o S')) := by
  refine CT.of RX3 "liveUntil" [some (.ref o), some (.ref t), some (.int (nI n)), none] (by decide +kernel) rfl rfl (Nat.le_of_ble_eq_true rfl) rfl (fun M hM => ?_)
  subst hM
  obtain ⟨w, hw1, hw2⟩ := hw
  refine V_aload_0 0 dX3_liveUntil_0 ?_
  refine V_getI 1 (c := 3) 5 dX3_liveUntil_1 fl_RX3_96 (F.m 0 (Nat.le_of_ble_eq_true rfl)) (F.k 0 3 rfl) (Nat.le_of_ble_eq_true rfl) (Nat.le_of_ble_eq_true rfl) rfl ?_
  rw [hw2]
  refine V_istore_3 4 dX3_liveUntil_4 rfl (Nat.le_of_ble_eq_true rfl) ?_
  have J3 : ∀ (S1 : PS) (x4 : Int32), FZ [o + 3, o + 4, o + 5, o + 6, o + 7, t + 13] [(o, 5), (o, 6)] S S1 → (WK o S1) → V M Γ (4, RX3, "liveUntil", none, RM (4) (0) (0)) cX3_liveUntil (RQ M Γ (RV (fun S' => FZ [o + 3, o + 4, o + 5, o + 6, o + 7, t + 13] [(o, 5), (o, 6)] S S' ∧ WK o S')) (0) (0)) 0 0 S1 53 [some (.ref o), some (.ref t), some (.int (nI n)), some (.int x4)] [] := by
    intro S1 x4 h2 p5
    refine V_aload_0 53 dX3_liveUntil_53 ?_
    refine V_aload_0 54 dX3_liveUntil_54 ?_
    refine V_getI 55 (c := 3) 5 dX3_liveUntil_55 fl_RX3_96 ((F.ss h2.1).m 0 (Nat.le_of_ble_eq_true rfl)) ((F.ss h2.1).k 0 3 rfl) (Nat.le_of_ble_eq_true rfl) (Nat.le_of_ble_eq_true rfl) rfl ?_
    refine V_iload_2 58 dX3_liveUntil_58 ?_
    refine V_mmax 59 dX3_liveUntil_59 ml_RX3_64 (Nat.le_of_ble_eq_true rfl) (Nat.le_of_ble_eq_true rfl) (Nat.le_of_ble_eq_true rfl) (Nat.le_of_ble_eq_true rfl) ?_
    refine V_putI 62 (c := 3) 5 dX3_liveUntil_62 fl_RX3_96 ((F.ss h2.1).m 0 (Nat.le_of_ble_eq_true rfl)) ((F.ss h2.1).k 0 3 rfl) (Nat.le_of_ble_eq_true rfl) (Nat.le_of_ble_eq_true rfl) rfl (Or.inl rfl) ?_
    refine V_abs (fun T9 => FZ [o + 3, o + 4, o + 5, o + 6, o + 7, t + 13] [(o, 5), (o, 6)] S T9 ∧ (WK o T9)) ⟨h2.uI (by simp), by (obtain ⟨w9, a9, b9⟩ := p5; obtain ⟨v9, c9, d9⟩ := max_nI b9 a9 hn; exact WK_put c9 d9)⟩ (fun S6 hh9 => ?_)
    obtain ⟨h7, p8⟩ := hh9
    refine V_vret 65 dX3_liveUntil_65 rfl (Nat.le_of_ble_eq_true rfl) (Nat.le_of_ble_eq_true rfl) (RV.mk ⟨h7, p8⟩)
  refine V_lvw (by repeat (first | exact trivial | refine ⟨rfl, ?_⟩)) (V_while (α := Nat × PS) (fun z10 => 200 - z10.1) (fun z10 => z10.1 ≤ 200 ∧ FZ [o + 3, o + 4, o + 5, o + 6, o + 7, t + 13] [(o, 5), (o, 6)] S z10.2 ∧ (WK o z10.2)) (fun z10 => z10.2) (fun z10 => [some (.ref o), some (.ref t), some (.int (nI n)), some (.int (nI z10.1))]) (w, _) ⟨(by dsimp only; omega), FZ.rf, ⟨w, hw1, hw2⟩⟩ (fun z10 hx16 ih15 => ?b17))
  obtain ⟨i11, S12⟩ := z10
  obtain ⟨hi13, h14, p19⟩ := hx16
  dsimp only at hi13 h14 p19 ih15 ⊢
  refine V_iload_3 5 dX3_liveUntil_5 ?_
  refine V_iload_2 6 dX3_liveUntil_6 ?_
  refine V_icmp_ge 7 53 dX3_liveUntil_7 (by decide) (fun c20 => ?_) (fun c20 => ?_)
  ·
    refine V_lvw (by repeat (first | exact trivial | refine ⟨rfl, ?_⟩)) (J3 _ _ h14 p19)
  ·
    refine V_iload_3 10 dX3_liveUntil_10 ?_
    refine V_sipush 11 (200) dX3_liveUntil_11 (by decide) ?_
    refine V_icmp_ge 14 53 dX3_liveUntil_14 (by decide) (fun c22 => ?_) (fun c22 => ?_)
    ·
      refine V_lvw (by repeat (first | exact trivial | refine ⟨rfl, ?_⟩)) (J3 _ _ h14 p19)
    ·
      have lt24 := nI_lt8 (by decide) hi13 c22
      refine V_aload_0 17 dX3_liveUntil_17 ?_
      refine V_aload_1 18 dX3_liveUntil_18 ?_
      refine V_iload_3 19 dX3_liveUntil_19 ?_
      refine V_callV 20 (ci := 3) [.ref _, .int _] _ (s_liveWeek M.2.1 Γ S12 (F.ss h14.1) (Ft.ss h14.1) _) dX3_liveUntil_20 cb_X3_liveWeek ml_RX3_99 im_yX3_liveWeek se_yX3_liveWeek ((F.ss h14.1).m 0 (Nat.le_of_ble_eq_true rfl)) ((F.ss h14.1).k 0 3 rfl) (Nat.le_of_ble_eq_true rfl) ⟨(Nat.le_of_ble_eq_true rfl), (Nat.le_of_ble_eq_true rfl)⟩ rfl rfl (Nat.le_of_ble_eq_true rfl) ⟨(Nat.le_of_ble_eq_true rfl), (Nat.le_of_ble_eq_true rfl)⟩ (RV.go (fun S25 q26 => ?_))
      have h28 : FZ [o + 3, o + 4, o + 5, o + 6, o + 7, t + 13] [(o, 5), (o, 6)] S S25 := h14.tr (q26.sub (by simp) (by simp))
      have p29 : (WK o S25) := by exact p19.fz q26 (by simp)
      refine V_aload_0 23 dX3_liveUntil_23 ?_
      refine V_getR 24 (c := 3) 7 ((F.ss h28.1).r 0 7 6 rfl) dX3_liveUntil_24 fl_RX3_33 ((F.ss h28.1).m 0 (Nat.le_of_ble_eq_true rfl)) ((F.ss h28.1).k 0 3 rfl) (Nat.le_of_ble_eq_true rfl) (Nat.le_of_ble_eq_true rfl) rfl ?_
      refine V_iload_3 27 dX3_liveUntil_27 ?_
      refine V_aload_0 28 dX3_liveUntil_28 ?_
      refine V_getR 29 (c := 3) 2 ((F.ss h28.1).r 0 2 3 rfl) dX3_liveUntil_29 fl_RX3_18 ((F.ss h28.1).m 0 (Nat.le_of_ble_eq_true rfl)) ((F.ss h28.1).k 0 3 rfl) (Nat.le_of_ble_eq_true rfl) (Nat.le_of_ble_eq_true rfl) rfl ?_
      refine V_callSN 32 [.ref _] _ (c_total M.2.1 Γ S25 (a := (o + 3)) ((F.ss h28.1).m 3 (Nat.le_of_ble_eq_true rfl)) ((F.ss h28.1).k 3 14 rfl) (by rw [((F.ss h28.1).l 3 8 rfl)]; decide)) dX3_liveUntil_32 cb_X11_total ne_RX3_103 sm_yX11_total ⟨(Nat.le_of_ble_eq_true rfl), (Nat.le_of_ble_eq_true rfl)⟩ rfl rfl (Nat.le_of_ble_eq_true rfl) ⟨(Nat.le_of_ble_eq_true rfl), (Nat.le_of_ble_eq_true rfl)⟩ (RI.go (fun r32 S30 q31 => ?_))
      rw [q31.2]
      refine V_iastore2 35 dX3_liveUntil_35 ((F.ss h28.1).m 6 (Nat.le_of_ble_eq_true rfl)) ((F.ss h28.1).k 6 14 rfl) ((F.ss h28.1).l 6 200 rfl) ?_ ?_
      · exact vp_in_nI (by omega) (by decide)
      refine V_abs (fun T9 => FZ [o + 3, o + 4, o + 5, o + 6, o + 7, t + 13] [(o, 5), (o, 6)] S T9 ∧ (WK o T9)) ⟨h28.uA (by simp), by exact p29⟩ (fun S33 hh36 => ?_)
      obtain ⟨h34, p35⟩ := hh36
      refine V_aload_0 36 dX3_liveUntil_36 ?_
      refine V_getR 37 (c := 3) 8 ((F.ss h34.1).r 0 8 7 rfl) dX3_liveUntil_37 fl_RX3_36 ((F.ss h34.1).m 0 (Nat.le_of_ble_eq_true rfl)) ((F.ss h34.1).k 0 3 rfl) (Nat.le_of_ble_eq_true rfl) (Nat.le_of_ble_eq_true rfl) rfl ?_
      refine V_iload_3 40 dX3_liveUntil_40 ?_
      refine V_aload_0 41 dX3_liveUntil_41 ?_
      refine V_aload_1 42 dX3_liveUntil_42 ?_
      refine V_callV 43 (ci := 3) [.ref _] _ (s_pairsLeftW M.2.1 Γ S33 (F.ss h34.1) (Ft.ss h34.1)) dX3_liveUntil_43 cb_X3_pairsLeft ml_RX3_107 im_yX3_pairsLeft se_yX3_pairsLeft ((F.ss h34.1).m 0 (Nat.le_of_ble_eq_true rfl)) ((F.ss h34.1).k 0 3 rfl) (Nat.le_of_ble_eq_true rfl) ⟨(Nat.le_of_ble_eq_true rfl), (Nat.le_of_ble_eq_true rfl)⟩ rfl rfl (Nat.le_of_ble_eq_true rfl) ⟨(Nat.le_of_ble_eq_true rfl), (Nat.le_of_ble_eq_true rfl)⟩ (RI.go (fun r39 S37 q38 => ?_))
      have h40 : FZ [o + 3, o + 4, o + 5, o + 6, o + 7, t + 13] [(o, 5), (o, 6)] S S37 := h34.tr (q38.sub (by simp) (by simp))
      have p41 : (WK o S37) := by exact p35.fz q38 (by simp)
      refine V_iastore2 46 dX3_liveUntil_46 ((F.ss h40.1).m 7 (Nat.le_of_ble_eq_true rfl)) ((F.ss h40.1).k 7 14 rfl) ((F.ss h40.1).l 7 200 rfl) ?_ ?_
      · exact vp_in_nI (by omega) (by decide)
      refine V_abs (fun T9 => FZ [o + 3, o + 4, o + 5, o + 6, o + 7, t + 13] [(o, 5), (o, 6)] S T9 ∧ (WK o T9)) ⟨h40.uA (by simp), by exact p41⟩ (fun S42 hh45 => ?_)
      obtain ⟨h43, p44⟩ := hh45
      refine V_iinc_3 47 (1) dX3_liveUntil_47 (by decide) rfl (Nat.le_of_ble_eq_true rfl) ?_
      refine V_goto 50 5 dX3_liveUntil_50 (by decide) ?_
      rw [← nI_succ]
      refine V_lvw (by repeat (first | exact trivial | refine ⟨rfl, ?_⟩)) (ih15 (i11 + 1, _) ⟨by dsimp only; omega, h43, p44⟩ (by dsimp only; omega))

