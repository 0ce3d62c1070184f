/-! SockTable's methods: what every state keeps is kept -/
set_option maxRecDepth 100000 in
theorem suhTe : (lySockTableW.drop 1).take lyTeller.length = lyUp 1 lyTeller := by decide +kernel
set_option maxRecDepth 100000 in
theorem sulTe : 1 + lyTeller.length ≤ lySockTableW.length := by decide +kernel
theorem suTe {lo h : Nat} {S : PS} (F : isL lySockTableW lo S h) : isL lyTeller lo S (h + 1) := F.sub 1 lyTeller suhTe sulTe
set_option maxRecDepth 100000 in
theorem suhGr : (lySockTableW.drop 2).take lyGrammar.length = lyUp 2 lyGrammar := by decide +kernel
set_option maxRecDepth 100000 in
theorem sulGr : 2 + lyGrammar.length ≤ lySockTableW.length := by decide +kernel
theorem suGr {lo h : Nat} {S : PS} (F : isL lySockTableW lo S h) : isL lyGrammar lo S (h + 2) := F.sub 2 lyGrammar suhGr sulGr
set_option maxRecDepth 100000 in
theorem suhTa : (lySockTableW.drop 3).take lyTape.length = lyUp 3 lyTape := by decide +kernel
set_option maxRecDepth 100000 in
theorem sulTa : 3 + lyTape.length ≤ lySockTableW.length := by decide +kernel
theorem suTa {lo h : Nat} {S : PS} (F : isL lySockTableW lo S h) : isL lyTape lo S (h + 3) := F.sub 3 lyTape suhTa sulTa
set_option maxRecDepth 100000 in
theorem suhTo : (lySockTableW.drop 27).take lyText.length = lyUp 27 lyText := by decide +kernel
set_option maxRecDepth 100000 in
theorem sulTo : 27 + lyText.length ≤ lySockTableW.length := by decide +kernel
theorem suTo {lo h : Nat} {S : PS} (F : isL lySockTableW lo S h) : isL lyText lo S (h + 27) := F.sub 27 lyText suhTo sulTo
set_option maxRecDepth 100000 in
theorem suhNo : (lySockTableW.drop 41).take lyState.length = lyUp 41 lyState := by decide +kernel
set_option maxRecDepth 100000 in
theorem sulNo : 41 + lyState.length ≤ lySockTableW.length := by decide +kernel
theorem suNo {lo h : Nat} {S : PS} (F : isL lySockTableW lo S h) : isL lyState lo S (h + 41) := F.sub 41 lyState suhNo sulNo
set_option maxRecDepth 100000 in
theorem suhTr : (lySockTableW.drop 45).take lyState.length = lyUp 45 lyState := by decide +kernel
set_option maxRecDepth 100000 in
theorem sulTr : 45 + lyState.length ≤ lySockTableW.length := by decide +kernel
theorem suTr {lo h : Nat} {S : PS} (F : isL lySockTableW lo S h) : isL lyState lo S (h + 45) := F.sub 45 lyState suhTr sulTr
set_option maxRecDepth 100000 in
theorem suhOr : (lySockTableW.drop 52).take lyOrders.length = lyUp 52 lyOrders := by decide +kernel
set_option maxRecDepth 100000 in
theorem sulOr : 52 + lyOrders.length ≤ lySockTableW.length := by decide +kernel
theorem suOr {lo h : Nat} {S : PS} (F : isL lySockTableW lo S h) : isL lyOrders lo S (h + 52) := F.sub 52 lyOrders suhOr sulOr
set_option maxRecDepth 100000 in
theorem suhOd : (lySockTableW.drop 62).take lyOdds.length = lyUp 62 lyOdds := by decide +kernel
set_option maxRecDepth 100000 in
theorem sulOd : 62 + lyOdds.length ≤ lySockTableW.length := by decide +kernel
theorem suOd {lo h : Nat} {S : PS} (F : isL lySockTableW lo S h) : isL lyOdds lo S (h + 62) := F.sub 62 lyOdds suhOd sulOd
set_option maxRecDepth 100000 in
theorem suhLo : (lySockTableW.drop 68).take lyLossesW.length = lyUp 68 lyLossesW := by decide +kernel
set_option maxRecDepth 100000 in
theorem sulLo : 68 + lyLossesW.length ≤ lySockTableW.length := by decide +kernel
theorem suLo {lo h : Nat} {S : PS} (F : isL lySockTableW lo S h) : isL lyLossesW lo S (h + 68) := F.sub 68 lyLossesW suhLo sulLo
set_option maxRecDepth 100000 in
theorem suhSe : (lySockTableW.drop 76).take lySeenW.length = lyUp 76 lySeenW := by decide +kernel
set_option maxRecDepth 100000 in
theorem sulSe : 76 + lySeenW.length ≤ lySockTableW.length := by decide +kernel
theorem suSe {lo h : Nat} {S : PS} (F : isL lySockTableW lo S h) : isL lySeenW lo S (h + 76) := F.sub 76 lySeenW suhSe sulSe
theorem nowsum {lo h B : Nat} {L : Int32} {S : PS} (I : IV lo h B L S) (hB : B * 8 < 2147483648) : IB (B * 8) (aSum (sA S (h + 42)) (sL S (h + 42))) := by
  rw [(suNo I.f).l 1 8 rfl]
  exact IB.aSum (fun j => (I.now.2 j).1) 8 (by decide) hB
theorem kIB {k r : Int32} {C : Nat} (h0 : ¬ k < 0) (h1 : k ≤ r) (h : IB C r) : IB C k := by
  have a1 : ¬ k.toInt < (0 : Int32).toInt := fun q => h0 (Int32.lt_iff_toInt_lt.mpr q)
  rw [show (0 : Int32).toInt = 0 from by decide] at a1
  have a2 := Int32.le_iff_toInt_le.mp h1
  exact ⟨by omega, by have := h.2; omega⟩
theorem s3 {x : Int32} (h0 : ¬ x < 0) (h1 : x < 3) : x.toNatClampNeg < 3 := by
  obtain ⟨j, hj, rfl⟩ := nI_of h0
  rw [nI_clamp hj]
  rcases Nat.lt_or_ge j 3 with h | h
  · exact h
  · exact absurd h1 (Int32.not_lt.mpr (nI_le (show 3 ≤ j from h) hj))
theorem s3v {x : Int32} (h0 : ¬ x < 0) (h1 : x < 3) : vp_in x 3 := in_of (by decide) h0 (fun q => absurd h1 (Int32.not_lt.mpr q))
theorem hold0a {x : Int32} (h : x < 0) : (0 : Int32) = if x < 0 ∨ 3 ≤ x then 0 else 1 := (if_pos (Or.inl h)).symm
theorem hold0b {x : Int32} (h : ¬ x < 3) : (0 : Int32) = if x < 0 ∨ 3 ≤ x then 0 else 1 := (if_pos (Or.inr (Int32.not_lt.mp h))).symm
theorem hold1 {x : Int32} (h0 : ¬ x < 0) (h1 : x < 3) : (1 : Int32) = if x < 0 ∨ 3 ≤ x then 0 else 1 := (if_neg (fun q => q.elim h0 (fun q => absurd h1 (Int32.not_lt.mpr q)))).symm
set_option maxRecDepth 100000 in
set_option maxHeartbeats 8000000 in
theorem s_remember (l : Launch) (Γ : GC) (S : PS) {h B : Nat} {L : Int32} (I : IV Γ.2.2.2.2.1 h B L S) : CT l Γ yX11_remember cX11_remember 1 none (2) (0) (0) [.ref h] S (RV (fun S' => IV Γ.2.2.2.2.1 h B L S')) := by
  refine CT.of RX11 "remember" [some (.ref h)] (by decide +kernel) rfl rfl (Nat.le_of_ble_eq_true rfl) rfl (fun M hM => ?_)
  subst hM
  have F := I.f
  have J3 : ∀ (S1 : PS) , FT [] [] S S1 → (IV Γ.2.2.2.2.1 h B L S1) → V M Γ (1, RX11, "remember", none, RM (2) (0) (0)) cX11_remember (RQ M Γ (RV (fun S' => IV Γ.2.2.2.2.1 h B L S')) (0) (0)) 0 0 S1 61 [some (.ref h)] [] := by
    intro S1  h2 p4
    refine V_vret 61 dX11_remember_61 rfl (Nat.le_of_ble_eq_true rfl) (Nat.le_of_ble_eq_true rfl) (RV.mk p4)
  refine V_aload_0 0 dX11_remember_0 ?_
  refine V_getR 1 (c := 11) 7 (F.r 0 7 49 rfl) dX11_remember_1 fl_RX11_49 (F.m 0 (Nat.le_of_ble_eq_true rfl)) (F.k 0 11 rfl) (Nat.le_of_ble_eq_true rfl) (Nat.le_of_ble_eq_true rfl) rfl ?_
  refine V_aload_0 4 dX11_remember_4 ?_
  refine V_getI 5 (c := 11) 8 dX11_remember_5 fl_RX11_196 (F.m 0 (Nat.le_of_ble_eq_true rfl)) (F.k 0 11 rfl) (Nat.le_of_ble_eq_true rfl) (Nat.le_of_ble_eq_true rfl) rfl ?_
  refine V_aload_0 8 dX11_remember_8 ?_
  refine V_getI 9 (c := 11) 9 dX11_remember_9 fl_RX11_193 (F.m 0 (Nat.le_of_ble_eq_true rfl)) (F.k 0 11 rfl) (Nat.le_of_ble_eq_true rfl) (Nat.le_of_ble_eq_true rfl) rfl ?_
  refine V_iadd 12 dX11_remember_12 ?_
  refine V_bipush 13 (40) dX11_remember_13 (by decide) ?_
  refine V_callS 15 [.int _, .int _] _ (s_floorMod M.2.1 Γ S _) dX11_remember_15 cb_J9_floorMod_7cf53 ml_RX11_199 sm_yJ9_floorMod_7cf53 ⟨(Nat.le_of_ble_eq_true rfl), (Nat.le_of_ble_eq_true rfl)⟩ rfl rfl (Nat.le_of_ble_eq_true rfl) ⟨(Nat.le_of_ble_eq_true rfl), (Nat.le_of_ble_eq_true rfl)⟩ (RI.go (fun r7 S5 q6 => ?_))
  have hm9 := fm43 q6.1
  have hq9 := q6.1
  rw [q6.2]
  refine V_aaload2 18 (IV.pa I _ hm9) dX11_remember_18 (F.m 49 (Nat.le_of_ble_eq_true rfl)) (F.k 49 17 rfl) (F.l 49 40 rfl) ?_ ?_
  · exact in_of (by decide) hq9.1 hq9.2
  refine V_aload_0 19 dX11_remember_19 ?_
  refine V_getR 20 (c := 11) 5 (F.r 0 5 41 rfl) dX11_remember_20 fl_RX11_42 (F.m 0 (Nat.le_of_ble_eq_true rfl)) (F.k 0 11 rfl) (Nat.le_of_ble_eq_true rfl) (Nat.le_of_ble_eq_true rfl) rfl ?_
  refine V_callV 23 (ci := 7) [.ref _] _ (s_stbecomeN M.2.1 Γ S (IV.st I (Nat.lt_trans hm9 (by decide))) (suNo F) (Or.inr (by omega)) B (IV.sts I _ (Nat.lt_trans hm9 (by decide))) (IV.now I)) dX11_remember_23 cb_X7_become ml_RX11_202 im_yX7_become se_yX7_become ((IV.st I (Nat.lt_trans hm9 (by decide))).m 0 (Nat.le_of_ble_eq_true rfl)) ((IV.st I (Nat.lt_trans hm9 (by decide))).k 0 7 rfl) (Nat.le_of_ble_eq_true rfl) ⟨(Nat.le_of_ble_eq_true rfl), (Nat.le_of_ble_eq_true rfl)⟩ rfl rfl (Nat.le_of_ble_eq_true rfl) ⟨(Nat.le_of_ble_eq_true rfl), (Nat.le_of_ble_eq_true rfl)⟩ (RV.go (fun S8 q9 => ?_))
  have h11 : FT [] [] S S8 := trivial
  have p12 : (IV Γ.2.2.2.2.1 h B L S8) := by exact IV.onSt I (Nat.lt_trans hm9 (by decide)) q9.1 q9.2
  refine V_aload_0 26 dX11_remember_26 ?_
  refine V_getI 27 (c := 11) 9 dX11_remember_27 fl_RX11_193 ((IV.f p12).m 0 (Nat.le_of_ble_eq_true rfl)) ((IV.f p12).k 0 11 rfl) (Nat.le_of_ble_eq_true rfl) (Nat.le_of_ble_eq_true rfl) rfl ?_
  refine V_bipush 30 (40) dX11_remember_30 (by decide) ?_
  refine V_icmp_ge 32 48 dX11_remember_32 (by decide) (fun c13 => ?_) (fun c13 => ?_)
  ·
    refine V_aload_0 48 dX11_remember_48 ?_
    refine V_aload_0 49 dX11_remember_49 ?_
    refine V_getI 50 (c := 11) 8 dX11_remember_50 fl_RX11_196 ((IV.f p12).m 0 (Nat.le_of_ble_eq_true rfl)) ((IV.f p12).k 0 11 rfl) (Nat.le_of_ble_eq_true rfl) (Nat.le_of_ble_eq_true rfl) rfl ?_
    refine V_iconst 53 (1) dX11_remember_53 (by decide) ?_
    refine V_iadd 54 dX11_remember_54 ?_
    refine V_bipush 55 (40) dX11_remember_55 (by decide) ?_
    refine V_irem 57 dX11_remember_57 (by decide) ?_
    refine V_putI 58 (c := 11) 8 dX11_remember_58 fl_RX11_196 ((IV.f p12).m 0 (Nat.le_of_ble_eq_true rfl)) ((IV.f p12).k 0 11 rfl) (Nat.le_of_ble_eq_true rfl) (Nat.le_of_ble_eq_true rfl) rfl (Or.inl rfl) ?_
    refine V_abs (fun T9 => FT [] [] S T9 ∧ (IV Γ.2.2.2.2.1 h B L T9)) ⟨trivial, by exact IV.pI p12 0 8 _ rfl⟩ (fun S14 hh17 => ?_)
    obtain ⟨h15, p16⟩ := hh17
    refine V_lvw (by repeat (first | exact trivial | refine ⟨rfl, ?_⟩)) (J3 _ trivial p16)
  ·
    refine V_aload_0 35 dX11_remember_35 ?_
    refine V_dup 36 dX11_remember_36 rfl ?_
    refine V_getI 37 (c := 11) 9 dX11_remember_37 fl_RX11_193 ((IV.f p12).m 0 (Nat.le_of_ble_eq_true rfl)) ((IV.f p12).k 0 11 rfl) (Nat.le_of_ble_eq_true rfl) (Nat.le_of_ble_eq_true rfl) rfl ?_
    refine V_iconst 40 (1) dX11_remember_40 (by decide) ?_
    refine V_iadd 41 dX11_remember_41 ?_
    refine V_putI 42 (c := 11) 9 dX11_remember_42 fl_RX11_193 ((IV.f p12).m 0 (Nat.le_of_ble_eq_true rfl)) ((IV.f p12).k 0 11 rfl) (Nat.le_of_ble_eq_true rfl) (Nat.le_of_ble_eq_true rfl) rfl (Or.inl rfl) ?_
    refine V_abs (fun T9 => FT [] [] S T9 ∧ (IV Γ.2.2.2.2.1 h B L T9)) ⟨trivial, by exact IV.pI p12 0 9 _ rfl⟩ (fun S19 hh22 => ?_)
    obtain ⟨h20, p21⟩ := hh22
    refine V_goto 45 61 dX11_remember_45 (by decide) ?_
    refine V_lvw (by repeat (first | exact trivial | refine ⟨rfl, ?_⟩)) (J3 _ trivial p21)
set_option maxRecDepth 100000 in
set_option maxHeartbeats 8000000 in
theorem s_beginAnew (l : Launch) (Γ : GC) (S : PS) {h B : Nat} {L : Int32} (I : IV Γ.2.2.2.2.1 h B L S) (hB9 : 9 ≤ B) : CT l Γ yX11_beginAnew cX11_beginAnew 2 none (3) (0) (0) [.ref h] S (RV (fun S' => IV Γ.2.2.2.2.1 h B L S')) := by
  refine CT.of RX11 "beginAnew" [some (.ref h), none] (by decide +kernel) rfl rfl (Nat.le_of_ble_eq_true rfl) rfl (fun M hM => ?_)
  subst hM
  have F := I.f
  refine V_aload_0 0 dX11_beginAnew_0 ?_
  refine V_getR 1 (c := 11) 5 (F.r 0 5 41 rfl) dX11_beginAnew_1 fl_RX11_42 (F.m 0 (Nat.le_of_ble_eq_true rfl)) (F.k 0 11 rfl) (Nat.le_of_ble_eq_true rfl) (Nat.le_of_ble_eq_true rfl) rfl ?_
  refine V_aload_0 4 dX11_beginAnew_4 ?_
  refine V_getR 5 (c := 11) 3 (F.r 0 3 27 rfl) dX11_beginAnew_5 fl_RX11_31 (F.m 0 (Nat.le_of_ble_eq_true rfl)) (F.k 0 11 rfl) (Nat.le_of_ble_eq_true rfl) (Nat.le_of_ble_eq_true rfl) rfl ?_
  refine V_callV 8 (ci := 7) [.ref _] _ (s_stbeginN M.2.1 Γ S (suNo F) (suTo F) B (IV.now I) hB9 (IV.num I)) dX11_beginAnew_8 cb_X7_begin ml_RX11_290 im_yX7_begin se_yX7_begin (F.m 41 (Nat.le_of_ble_eq_true rfl)) (F.k 41 7 rfl) (Nat.le_of_ble_eq_true rfl) ⟨(Nat.le_of_ble_eq_true rfl), (Nat.le_of_ble_eq_true rfl)⟩ rfl rfl (Nat.le_of_ble_eq_true rfl) ⟨(Nat.le_of_ble_eq_true rfl), (Nat.le_of_ble_eq_true rfl)⟩ (RV.go (fun S1 q2 => ?_))
  have h4 : FT [] [] S S1 := trivial
  have p5 : (IV Γ.2.2.2.2.1 h B L S1) := by exact IV.onNow I q2.1 q2.2 (Nat.le_refl _)
  refine V_aload_0 11 dX11_beginAnew_11 ?_
  refine V_getR 12 (c := 11) 14 ((IV.f p5).r 0 14 68 rfl) dX11_beginAnew_12 fl_RX11_77 ((IV.f p5).m 0 (Nat.le_of_ble_eq_true rfl)) ((IV.f p5).k 0 11 rfl) (Nat.le_of_ble_eq_true rfl) (Nat.le_of_ble_eq_true rfl) rfl ?_
  refine V_aload_0 15 dX11_beginAnew_15 ?_
  refine V_getR 16 (c := 11) 3 ((IV.f p5).r 0 3 27 rfl) dX11_beginAnew_16 fl_RX11_31 ((IV.f p5).m 0 (Nat.le_of_ble_eq_true rfl)) ((IV.f p5).k 0 11 rfl) (Nat.le_of_ble_eq_true rfl) (Nat.le_of_ble_eq_true rfl) rfl ?_
  refine V_callV 19 (ci := 3) [.ref _] _ (s_lbegin M.2.1 Γ S1 (suLo (IV.f p5)) (suTo (IV.f p5)) (IV.wk p5)) dX11_beginAnew_19 cb_X3_begin ml_RX11_293 im_yX3_begin se_yX3_begin ((IV.f p5).m 68 (Nat.le_of_ble_eq_true rfl)) ((IV.f p5).k 68 3 rfl) (Nat.le_of_ble_eq_true rfl) ⟨(Nat.le_of_ble_eq_true rfl), (Nat.le_of_ble_eq_true rfl)⟩ rfl rfl (Nat.le_of_ble_eq_true rfl) ⟨(Nat.le_of_ble_eq_true rfl), (Nat.le_of_ble_eq_true rfl)⟩ (RV.go (fun S6 q7 => ?_))
  have h9 : FT [] [] S S6 := trivial
  have p10 : (IV Γ.2.2.2.2.1 h B L S6) := by exact IV.onWeeks p5 q7.1 [71, 72] rfl rfl rfl q7.2
  refine V_aload_0 22 dX11_beginAnew_22 ?_
  refine V_getR 23 (c := 11) 15 ((IV.f p10).r 0 15 76 rfl) dX11_beginAnew_23 fl_RX11_84 ((IV.f p10).m 0 (Nat.le_of_ble_eq_true rfl)) ((IV.f p10).k 0 11 rfl) (Nat.le_of_ble_eq_true rfl) (Nat.le_of_ble_eq_true rfl) rfl ?_
  refine V_iconst 26 (0) dX11_beginAnew_26 (by decide) ?_
  refine V_putI 27 (c := 6) 2 dX11_beginAnew_27 fl_RX11_268 ((IV.f p10).m 76 (Nat.le_of_ble_eq_true rfl)) ((IV.f p10).k 76 6 rfl) (Nat.le_of_ble_eq_true rfl) (Nat.le_of_ble_eq_true rfl) rfl (Or.inl rfl) ?_
  refine V_abs (fun T9 => FT [] [] S T9 ∧ (IV Γ.2.2.2.2.1 h B L T9)) ⟨trivial, by exact IV.pI p10 76 2 _ rfl⟩ (fun S11 hh14 => ?_)
  obtain ⟨h12, p13⟩ := hh14
  refine V_aload_0 30 dX11_beginAnew_30 ?_
  refine V_iconst 31 (0) dX11_beginAnew_31 (by decide) ?_
  refine V_putI 32 (c := 11) 9 dX11_beginAnew_32 fl_RX11_193 ((IV.f p13).m 0 (Nat.le_of_ble_eq_true rfl)) ((IV.f p13).k 0 11 rfl) (Nat.le_of_ble_eq_true rfl) (Nat.le_of_ble_eq_true rfl) rfl (Or.inl rfl) ?_
  refine V_abs (fun T9 => FT [] [] S T9 ∧ (IV Γ.2.2.2.2.1 h B L T9)) ⟨trivial, by exact IV.pI p13 0 9 _ rfl⟩ (fun S15 hh18 => ?_)
  obtain ⟨h16, p17⟩ := hh18
  refine V_iconst 35 (0) dX11_beginAnew_35 (by decide) ?_
  refine V_istore_1 36 dX11_beginAnew_36 rfl (Nat.le_of_ble_eq_true rfl) ?_
  refine V_lvw (by repeat (first | exact trivial | refine ⟨rfl, ?_⟩)) (V_while (α := Nat × PS) (fun z19 => 3 - z19.1) (fun z19 => z19.1 ≤ 3 ∧ FT [] [] S z19.2 ∧ (IV Γ.2.2.2.2.1 h B L z19.2)) (fun z19 => z19.2) (fun z19 => [some (.ref h), some (.int (nI z19.1))]) (0, _) ⟨Nat.zero_le _, trivial, p17⟩ (fun z19 hx25 ih24 => ?b26))
  obtain ⟨i20, S21⟩ := z19
  obtain ⟨hi22, h23, p28⟩ := hx25
  dsimp only at hi22 h23 p28 ih24 ⊢
  refine V_iload_1 37 dX11_beginAnew_37 ?_
  refine V_aload_0 38 dX11_beginAnew_38 ?_
  refine V_getR 39 (c := 11) 11 ((IV.f p28).r 0 11 51 rfl) dX11_beginAnew_39 fl_RX11_56 ((IV.f p28).m 0 (Nat.le_of_ble_eq_true rfl)) ((IV.f p28).k 0 11 rfl) (Nat.le_of_ble_eq_true rfl) (Nat.le_of_ble_eq_true rfl) rfl ?_
  refine V_alen2 42 dX11_beginAnew_42 ((IV.f p28).m 51 (Nat.le_of_ble_eq_true rfl)) ((IV.f p28).k 51 16 rfl) (Nat.le_of_ble_eq_true rfl) (Nat.le_of_ble_eq_true rfl) ((IV.f p28).l 51 3 rfl) ?_
  refine V_icmp_ge 43 59 dX11_beginAnew_43 (by decide) (fun c29 => ?_) (fun c29 => ?_)
  ·
    refine V_vret 59 dX11_beginAnew_59 rfl (Nat.le_of_ble_eq_true rfl) (Nat.le_of_ble_eq_true rfl) (RV.mk p28)
  ·
    have lt30 := nI_lt8 (by decide) hi22 c29
    refine V_aload_0 46 dX11_beginAnew_46 ?_
    refine V_getR 47 (c := 11) 11 ((IV.f p28).r 0 11 51 rfl) dX11_beginAnew_47 fl_RX11_56 ((IV.f p28).m 0 (Nat.le_of_ble_eq_true rfl)) ((IV.f p28).k 0 11 rfl) (Nat.le_of_ble_eq_true rfl) (Nat.le_of_ble_eq_true rfl) rfl ?_
    refine V_iload_1 50 dX11_beginAnew_50 ?_
    refine V_iconst 51 (0) dX11_beginAnew_51 (by decide) ?_
    refine V_zastore2 52 dX11_beginAnew_52 ((IV.f p28).m 51 (Nat.le_of_ble_eq_true rfl)) ((IV.f p28).k 51 16 rfl) ((IV.f p28).l 51 3 rfl) ?_ (Or.inl rfl) ?_
    · exact vp_in_nI (by omega) (by decide)
    refine V_abs (fun T9 => FT [] [] S T9 ∧ (IV Γ.2.2.2.2.1 h B L T9)) ⟨trivial, by exact IV.pA p28 51 _ _ rfl⟩ (fun S31 hh34 => ?_)
    obtain ⟨h32, p33⟩ := hh34
    refine V_iinc_1 53 (1) dX11_beginAnew_53 (by decide) rfl (Nat.le_of_ble_eq_true rfl) ?_
    refine V_goto 56 37 dX11_beginAnew_56 (by decide) ?_
    rw [← nI_succ]
    refine V_lvw (by repeat (first | exact trivial | refine ⟨rfl, ?_⟩)) (ih24 (i20 + 1, _) ⟨by dsimp only; omega, trivial, p33⟩ (by dsimp only; omega))
set_option maxRecDepth 100000 in
set_option maxHeartbeats 8000000 in
theorem s_draw (l : Launch) (Γ : GC) (S : PS) {h B : Nat} {L : Int32} (I : IV Γ.2.2.2.2.1 h B L S) (hB : B + 9 < 2147483648) (x : Int32) : CT l Γ yX11_draw cX11_draw 2 (some .int) (4) (0) (0) [.ref h, .int x] S (RI (fun r S' => IV Γ.2.2.2.2.1 h (B + 4) L S')) := by
  refine CT.of RX11 "draw" [some (.ref h), some (.int x)] (by decide +kernel) rfl rfl (Nat.le_of_ble_eq_true rfl) rfl (fun M hM => ?_)
  subst hM
  have F := I.f
  have J3 : ∀ (S1 : PS) , FT [] [] S S1 → (IV Γ.2.2.2.2.1 h (B + 4 * 0) L S1) → V M Γ (2, RX11, "draw", (some .int), RM (4) (0) (0)) cX11_draw (RQ M Γ (RI (fun r S' => IV Γ.2.2.2.2.1 h (B + 4) L S')) (0) (0)) 0 0 S1 23 [some (.ref h), some (.int x)] [] := by
    intro S1  h2 p4
    refine V_iconst 23 (-1) dX11_draw_23 (by decide) ?_
    refine V_iret 24 .int dX11_draw_24 rfl rfl (Nat.le_of_ble_eq_true rfl) (Nat.le_of_ble_eq_true rfl) (RI.mk (IV.mono p4 (by omega)))
  refine V_aload_0 0 dX11_draw_0 ?_
  refine V_iload_1 1 dX11_draw_1 ?_
  refine V_callV 2 (ci := 11) [.int _] _ (s_isKind M.2.1 Γ S F _) dX11_draw_2 cb_X11_isKind ml_RX11_127 im_yX11_isKind se_yX11_isKind (F.m 0 (Nat.le_of_ble_eq_true rfl)) (F.k 0 11 rfl) (Nat.le_of_ble_eq_true rfl) ⟨(Nat.le_of_ble_eq_true rfl), (Nat.le_of_ble_eq_true rfl)⟩ rfl rfl (Nat.le_of_ble_eq_true rfl) ⟨(Nat.le_of_ble_eq_true rfl), (Nat.le_of_ble_eq_true rfl)⟩ (RI.go (fun r7 S5 q6 => ?_))
  rw [q6.2]
  refine V_if_eq 5 23 dX11_draw_5 (by decide) (fun c8 => ?_) (fun c8 => ?_)
  ·
    refine V_lvw (by repeat (first | exact trivial | refine ⟨rfl, ?_⟩)) (J3 _ trivial I)
  ·
    refine V_aload_0 8 dX11_draw_8 ?_
    refine V_getR 9 (c := 11) 5 (F.r 0 5 41 rfl) dX11_draw_9 fl_RX11_42 (F.m 0 (Nat.le_of_ble_eq_true rfl)) (F.k 0 11 rfl) (Nat.le_of_ble_eq_true rfl) (Nat.le_of_ble_eq_true rfl) rfl ?_
    refine V_getR 12 (c := 7) 0 (F.r 41 0 42 rfl) dX11_draw_12 fl_RX11_131 (F.m 41 (Nat.le_of_ble_eq_true rfl)) (F.k 41 7 rfl) (Nat.le_of_ble_eq_true rfl) (Nat.le_of_ble_eq_true rfl) rfl ?_
    refine V_iload_1 15 dX11_draw_15 ?_
    refine V_callS 16 [.ref _, .int _] _ (c_at M.2.1 Γ S (a := (h + 42)) (F.m 42 (Nat.le_of_ble_eq_true rfl)) (F.k 42 14 rfl) (by rw [(F.l 42 8 rfl)]; decide) _) dX11_draw_16 cb_X11_at ml_RX11_135 sm_yX11_at ⟨(Nat.le_of_ble_eq_true rfl), (Nat.le_of_ble_eq_true rfl)⟩ rfl rfl (Nat.le_of_ble_eq_true rfl) ⟨(Nat.le_of_ble_eq_true rfl), (Nat.le_of_ble_eq_true rfl)⟩ (RI.go (fun r12 S10 q11 => ?_))
    rw [q11.2]
    refine V_iconst 19 (1) dX11_draw_19 (by decide) ?_
    refine V_icmp_ge 20 25 dX11_draw_20 (by decide) (fun c13 => ?_) (fun c13 => ?_)
    ·
      refine V_aload_0 25 dX11_draw_25 ?_
      refine V_getR 26 (c := 11) 5 (F.r 0 5 41 rfl) dX11_draw_26 fl_RX11_42 (F.m 0 (Nat.le_of_ble_eq_true rfl)) (F.k 0 11 rfl) (Nat.le_of_ble_eq_true rfl) (Nat.le_of_ble_eq_true rfl) rfl ?_
      refine V_getI 29 (c := 7) 4 dX11_draw_29 fl_RX11_166 (F.m 41 (Nat.le_of_ble_eq_true rfl)) (F.k 41 7 rfl) (Nat.le_of_ble_eq_true rfl) (Nat.le_of_ble_eq_true rfl) rfl ?_
      refine V_if_eq 32 37 dX11_draw_32 (by decide) (fun c14 => ?_) (fun c14 => ?_)
      ·
        refine V_aload_0 37 dX11_draw_37 ?_
        refine V_callV 38 (ci := 11) [] _ (s_remember M.2.1 Γ S I) dX11_draw_38 cb_X11_remember ml_RX11_170 im_yX11_remember se_yX11_remember (F.m 0 (Nat.le_of_ble_eq_true rfl)) (F.k 0 11 rfl) (Nat.le_of_ble_eq_true rfl) ⟨(Nat.le_of_ble_eq_true rfl), (Nat.le_of_ble_eq_true rfl)⟩ rfl rfl (Nat.le_of_ble_eq_true rfl) ⟨(Nat.le_of_ble_eq_true rfl), (Nat.le_of_ble_eq_true rfl)⟩ (RV.go (fun S15 q16 => ?_))
        have h18 : FT [] [] S S15 := trivial
        have p19 : (IV Γ.2.2.2.2.1 h (B + 4 * 0) L S15) := by exact q16
        refine V_aload_0 41 dX11_draw_41 ?_
        refine V_getR 42 (c := 11) 5 ((IV.f p19).r 0 5 41 rfl) dX11_draw_42 fl_RX11_42 ((IV.f p19).m 0 (Nat.le_of_ble_eq_true rfl)) ((IV.f p19).k 0 11 rfl) (Nat.le_of_ble_eq_true rfl) (Nat.le_of_ble_eq_true rfl) rfl ?_
        refine V_aload_0 45 dX11_draw_45 ?_
        refine V_getR 46 (c := 11) 3 ((IV.f p19).r 0 3 27 rfl) dX11_draw_46 fl_RX11_31 ((IV.f p19).m 0 (Nat.le_of_ble_eq_true rfl)) ((IV.f p19).k 0 11 rfl) (Nat.le_of_ble_eq_true rfl) (Nat.le_of_ble_eq_true rfl) rfl ?_
        refine V_iload_1 49 dX11_draw_49 ?_
        refine V_aload_0 50 dX11_draw_50 ?_
        refine V_getR 51 (c := 11) 3 ((IV.f p19).r 0 3 27 rfl) dX11_draw_51 fl_RX11_31 ((IV.f p19).m 0 (Nat.le_of_ble_eq_true rfl)) ((IV.f p19).k 0 11 rfl) (Nat.le_of_ble_eq_true rfl) (Nat.le_of_ble_eq_true rfl) rfl ?_
        refine V_getI 54 (c := 10) 10 dX11_draw_54 fl_RX11_173 ((IV.f p19).m 27 (Nat.le_of_ble_eq_true rfl)) ((IV.f p19).k 27 10 rfl) (Nat.le_of_ble_eq_true rfl) (Nat.le_of_ble_eq_true rfl) rfl ?_
        refine V_callV 57 (ci := 7) [.ref _, .int _, .int _] _ (s_drawOneN M.2.1 Γ S15 (suNo (IV.f p19)) (suTo (IV.f p19)) _ _ _ (IV.now p19) (by omega)) dX11_draw_57 cb_X7_drawOne ml_RX11_176 im_yX7_drawOne se_yX7_drawOne ((IV.f p19).m 41 (Nat.le_of_ble_eq_true rfl)) ((IV.f p19).k 41 7 rfl) (Nat.le_of_ble_eq_true rfl) ⟨(Nat.le_of_ble_eq_true rfl), (Nat.le_of_ble_eq_true rfl)⟩ rfl rfl (Nat.le_of_ble_eq_true rfl) ⟨(Nat.le_of_ble_eq_true rfl), (Nat.le_of_ble_eq_true rfl)⟩ (RI.go (fun r22 S20 q21 => ?_))
        have h23 : FT [] [] S S20 := trivial
        have p24 : (IV Γ.2.2.2.2.1 h (B + 4 * 1) L S20) := by exact IV.mono (IV.onNow p19 q21.1 q21.2 (by omega)) (by omega)
        refine V_iret 60 .int dX11_draw_60 rfl rfl (Nat.le_of_ble_eq_true rfl) (Nat.le_of_ble_eq_true rfl) (RI.mk (IV.mono p24 (by omega)))
      ·
        refine V_iconst 35 (3) dX11_draw_35 (by decide) ?_
        refine V_iret 36 .int dX11_draw_36 rfl rfl (Nat.le_of_ble_eq_true rfl) (Nat.le_of_ble_eq_true rfl) (RI.mk (IV.mono I (by omega)))
    ·
      refine V_lvw (by repeat (first | exact trivial | refine ⟨rfl, ?_⟩)) (J3 _ trivial I)
set_option maxRecDepth 100000 in
set_option maxHeartbeats 8000000 in
theorem s_lot (l : Launch) (Γ : GC) (S : PS) {h B : Nat} {L : Int32} (I : IV Γ.2.2.2.2.1 h B L S) (hB : B + 9 < 2147483648) : CT l Γ yX11_lot cX11_lot 2 (some .int) (4) (0) (0) [.ref h] S (RI (fun r S' => IV Γ.2.2.2.2.1 h (B + 4) L S')) := by
  refine CT.of RX11 "lot" [some (.ref h), none] (by decide +kernel) rfl rfl (Nat.le_of_ble_eq_true rfl) rfl (fun M hM => ?_)
  subst hM
  have F := I.f
  refine V_aload_0 0 dX11_lot_0 ?_
  refine V_getR 1 (c := 11) 5 (F.r 0 5 41 rfl) dX11_lot_1 fl_RX11_42 (F.m 0 (Nat.le_of_ble_eq_true rfl)) (F.k 0 11 rfl) (Nat.le_of_ble_eq_true rfl) (Nat.le_of_ble_eq_true rfl) rfl ?_
  refine V_getR 4 (c := 7) 0 (F.r 41 0 42 rfl) dX11_lot_4 fl_RX11_131 (F.m 41 (Nat.le_of_ble_eq_true rfl)) (F.k 41 7 rfl) (Nat.le_of_ble_eq_true rfl) (Nat.le_of_ble_eq_true rfl) rfl ?_
  refine V_callS 7 [.ref _] _ (c_total M.2.1 Γ S (a := (h + 42)) (F.m 42 (Nat.le_of_ble_eq_true rfl)) (F.k 42 14 rfl) (by rw [(F.l 42 8 rfl)]; decide)) dX11_lot_7 cb_X11_total ml_RX11_180 sm_yX11_total ⟨(Nat.le_of_ble_eq_true rfl), (Nat.le_of_ble_eq_true rfl)⟩ rfl rfl (Nat.le_of_ble_eq_true rfl) ⟨(Nat.le_of_ble_eq_true rfl), (Nat.le_of_ble_eq_true rfl)⟩ (RI.go (fun r3 S1 q2 => ?_))
  rw [q2.2]
  refine V_if_ne 10 16 dX11_lot_10 (by decide) (fun c4 => ?_) (fun c4 => ?_)
  ·
    refine V_aload_0 16 dX11_lot_16 ?_
    refine V_getR 17 (c := 11) 5 (F.r 0 5 41 rfl) dX11_lot_17 fl_RX11_42 (F.m 0 (Nat.le_of_ble_eq_true rfl)) (F.k 0 11 rfl) (Nat.le_of_ble_eq_true rfl) (Nat.le_of_ble_eq_true rfl) rfl ?_
    refine V_getI 20 (c := 7) 4 dX11_lot_20 fl_RX11_166 (F.m 41 (Nat.le_of_ble_eq_true rfl)) (F.k 41 7 rfl) (Nat.le_of_ble_eq_true rfl) (Nat.le_of_ble_eq_true rfl) rfl ?_
    refine V_if_eq 23 28 dX11_lot_23 (by decide) (fun c5 => ?_) (fun c5 => ?_)
    ·
      refine V_aload_0 28 dX11_lot_28 ?_
      refine V_callV 29 (ci := 11) [] _ (s_remember M.2.1 Γ S I) dX11_lot_29 cb_X11_remember ml_RX11_170 im_yX11_remember se_yX11_remember (F.m 0 (Nat.le_of_ble_eq_true rfl)) (F.k 0 11 rfl) (Nat.le_of_ble_eq_true rfl) ⟨(Nat.le_of_ble_eq_true rfl), (Nat.le_of_ble_eq_true rfl)⟩ rfl rfl (Nat.le_of_ble_eq_true rfl) ⟨(Nat.le_of_ble_eq_true rfl), (Nat.le_of_ble_eq_true rfl)⟩ (RV.go (fun S6 q7 => ?_))
      have h9 : FT [] [] S S6 := trivial
      have p10 : (IV Γ.2.2.2.2.1 h (B + 4 * 0) L S6) := by exact q7
      refine V_aload_0 32 dX11_lot_32 ?_
      refine V_getR 33 (c := 11) 5 ((IV.f p10).r 0 5 41 rfl) dX11_lot_33 fl_RX11_42 ((IV.f p10).m 0 (Nat.le_of_ble_eq_true rfl)) ((IV.f p10).k 0 11 rfl) (Nat.le_of_ble_eq_true rfl) (Nat.le_of_ble_eq_true rfl) rfl ?_
      refine V_aload_0 36 dX11_lot_36 ?_
      refine V_getR 37 (c := 11) 3 ((IV.f p10).r 0 3 27 rfl) dX11_lot_37 fl_RX11_31 ((IV.f p10).m 0 (Nat.le_of_ble_eq_true rfl)) ((IV.f p10).k 0 11 rfl) (Nat.le_of_ble_eq_true rfl) (Nat.le_of_ble_eq_true rfl) rfl ?_
      refine V_getI 40 (c := 10) 11 dX11_lot_40 fl_RX11_184 ((IV.f p10).m 27 (Nat.le_of_ble_eq_true rfl)) ((IV.f p10).k 27 10 rfl) (Nat.le_of_ble_eq_true rfl) (Nat.le_of_ble_eq_true rfl) rfl ?_
      refine V_callV 43 (ci := 7) [.int _] _ (s_X7_pick M.2.1 Γ S6 (suNo (IV.f p10)) _) dX11_lot_43 cb_X7_pick ml_RX11_187 im_yX7_pick se_yX7_pick ((IV.f p10).m 41 (Nat.le_of_ble_eq_true rfl)) ((IV.f p10).k 41 7 rfl) (Nat.le_of_ble_eq_true rfl) ⟨(Nat.le_of_ble_eq_true rfl), (Nat.le_of_ble_eq_true rfl)⟩ rfl rfl (Nat.le_of_ble_eq_true rfl) ⟨(Nat.le_of_ble_eq_true rfl), (Nat.le_of_ble_eq_true rfl)⟩ (RI.go (fun r13 S11 q12 => ?_))
      have h14 : FT [] [] S S11 := trivial
      have p15 : (IV Γ.2.2.2.2.1 h (B + 4 * 0) L S11) := by exact IV.z p10 [] [] q12 rfl rfl rfl rfl
      refine V_istore_1 46 dX11_lot_46 rfl (Nat.le_of_ble_eq_true rfl) ?_
      refine V_bipush 47 (10) dX11_lot_47 (by decide) ?_
      refine V_iload_1 49 dX11_lot_49 ?_
      refine V_imul 50 dX11_lot_50 ?_
      refine V_aload_0 51 dX11_lot_51 ?_
      refine V_getR 52 (c := 11) 5 ((IV.f p15).r 0 5 41 rfl) dX11_lot_52 fl_RX11_42 ((IV.f p15).m 0 (Nat.le_of_ble_eq_true rfl)) ((IV.f p15).k 0 11 rfl) (Nat.le_of_ble_eq_true rfl) (Nat.le_of_ble_eq_true rfl) rfl ?_
      refine V_aload_0 55 dX11_lot_55 ?_
      refine V_getR 56 (c := 11) 3 ((IV.f p15).r 0 3 27 rfl) dX11_lot_56 fl_RX11_31 ((IV.f p15).m 0 (Nat.le_of_ble_eq_true rfl)) ((IV.f p15).k 0 11 rfl) (Nat.le_of_ble_eq_true rfl) (Nat.le_of_ble_eq_true rfl) rfl ?_
      refine V_iload_1 59 dX11_lot_59 ?_
      refine V_aload_0 60 dX11_lot_60 ?_
      refine V_getR 61 (c := 11) 3 ((IV.f p15).r 0 3 27 rfl) dX11_lot_61 fl_RX11_31 ((IV.f p15).m 0 (Nat.le_of_ble_eq_true rfl)) ((IV.f p15).k 0 11 rfl) (Nat.le_of_ble_eq_true rfl) (Nat.le_of_ble_eq_true rfl) rfl ?_
      refine V_getI 64 (c := 10) 10 dX11_lot_64 fl_RX11_173 ((IV.f p15).m 27 (Nat.le_of_ble_eq_true rfl)) ((IV.f p15).k 27 10 rfl) (Nat.le_of_ble_eq_true rfl) (Nat.le_of_ble_eq_true rfl) rfl ?_
      refine V_callV 67 (ci := 7) [.ref _, .int _, .int _] _ (s_drawOneN M.2.1 Γ S11 (suNo (IV.f p15)) (suTo (IV.f p15)) _ _ _ (IV.now p15) (by omega)) dX11_lot_67 cb_X7_drawOne ml_RX11_176 im_yX7_drawOne se_yX7_drawOne ((IV.f p15).m 41 (Nat.le_of_ble_eq_true rfl)) ((IV.f p15).k 41 7 rfl) (Nat.le_of_ble_eq_true rfl) ⟨(Nat.le_of_ble_eq_true rfl), (Nat.le_of_ble_eq_true rfl)⟩ rfl rfl (Nat.le_of_ble_eq_true rfl) ⟨(Nat.le_of_ble_eq_true rfl), (Nat.le_of_ble_eq_true rfl)⟩ (RI.go (fun r18 S16 q17 => ?_))
      have h19 : FT [] [] S S16 := trivial
      have p20 : (IV Γ.2.2.2.2.1 h (B + 4 * 1) L S16) := by exact IV.mono (IV.onNow p15 q17.1 q17.2 (by omega)) (by omega)
      refine V_iadd 70 dX11_lot_70 ?_
      refine V_iret 71 .int dX11_lot_71 rfl rfl (Nat.le_of_ble_eq_true rfl) (Nat.le_of_ble_eq_true rfl) (RI.mk (IV.mono p20 (by omega)))
    ·
      refine V_iconst 26 (3) dX11_lot_26 (by decide) ?_
      refine V_iret 27 .int dX11_lot_27 rfl rfl (Nat.le_of_ble_eq_true rfl) (Nat.le_of_ble_eq_true rfl) (RI.mk (IV.mono I (by omega)))
  ·
    refine V_bipush 13 (-2) dX11_lot_13 (by decide) ?_
    refine V_iret 15 .int dX11_lot_15 rfl rfl (Nat.le_of_ble_eq_true rfl) (Nat.le_of_ble_eq_true rfl) (RI.mk (IV.mono I (by omega)))
set_option maxRecDepth 100000 in
set_option maxHeartbeats 8000000 in
theorem s_take (l : Launch) (Γ : GC) (S : PS) {h B : Nat} {L : Int32} (I : IV Γ.2.2.2.2.1 h B L S) (hB : B + 9 < 2147483648) (x : Int32) : CT l Γ yX11_take cX11_take 2 (some .boolean) (4) (0) (0) [.ref h, .int x] S (RI (fun r S' => IV Γ.2.2.2.2.1 h (B + 4) L S')) := by
  refine CT.of RX11 "take" [some (.ref h), some (.int x)] (by decide +kernel) rfl rfl (Nat.le_of_ble_eq_true rfl) rfl (fun M hM => ?_)
  subst hM
  have F := I.f
  have J3 : ∀ (S1 : PS) , FT [] [] S S1 → (IV Γ.2.2.2.2.1 h (B + 4 * 0) L S1) → V M Γ (2, RX11, "take", (some .boolean), RM (4) (0) (0)) cX11_take (RQ M Γ (RI (fun r S' => IV Γ.2.2.2.2.1 h (B + 4) L S')) (0) (0)) 0 0 S1 23 [some (.ref h), some (.int x)] [] := by
    intro S1  h2 p4
    refine V_iconst 23 (0) dX11_take_23 (by decide) ?_
    refine V_iret 24 .boolean dX11_take_24 rfl (nrwB (Or.inl rfl)) (Nat.le_of_ble_eq_true rfl) (Nat.le_of_ble_eq_true rfl) (RI.mk (IV.mono p4 (by omega)))
  refine V_aload_0 0 dX11_take_0 ?_
  refine V_iload_1 1 dX11_take_1 ?_
  refine V_callV 2 (ci := 11) [.int _] _ (s_isKind M.2.1 Γ S F _) dX11_take_2 cb_X11_isKind ml_RX11_127 im_yX11_isKind se_yX11_isKind (F.m 0 (Nat.le_of_ble_eq_true rfl)) (F.k 0 11 rfl) (Nat.le_of_ble_eq_true rfl) ⟨(Nat.le_of_ble_eq_true rfl), (Nat.le_of_ble_eq_true rfl)⟩ rfl rfl (Nat.le_of_ble_eq_true rfl) ⟨(Nat.le_of_ble_eq_true rfl), (Nat.le_of_ble_eq_true rfl)⟩ (RI.go (fun r7 S5 q6 => ?_))
  rw [q6.2]
  refine V_if_eq 5 23 dX11_take_5 (by decide) (fun c8 => ?_) (fun c8 => ?_)
  ·
    refine V_lvw (by repeat (first | exact trivial | refine ⟨rfl, ?_⟩)) (J3 _ trivial I)
  ·
    refine V_aload_0 8 dX11_take_8 ?_
    refine V_getR 9 (c := 11) 5 (F.r 0 5 41 rfl) dX11_take_9 fl_RX11_42 (F.m 0 (Nat.le_of_ble_eq_true rfl)) (F.k 0 11 rfl) (Nat.le_of_ble_eq_true rfl) (Nat.le_of_ble_eq_true rfl) rfl ?_
    refine V_getR 12 (c := 7) 1 (F.r 41 1 43 rfl) dX11_take_12 fl_RX11_139 (F.m 41 (Nat.le_of_ble_eq_true rfl)) (F.k 41 7 rfl) (Nat.le_of_ble_eq_true rfl) (Nat.le_of_ble_eq_true rfl) rfl ?_
    refine V_iload_1 15 dX11_take_15 ?_
    refine V_callS 16 [.ref _, .int _] _ (c_at M.2.1 Γ S (a := (h + 43)) (F.m 43 (Nat.le_of_ble_eq_true rfl)) (F.k 43 14 rfl) (by rw [(F.l 43 8 rfl)]; decide) _) dX11_take_16 cb_X11_at ml_RX11_135 sm_yX11_at ⟨(Nat.le_of_ble_eq_true rfl), (Nat.le_of_ble_eq_true rfl)⟩ rfl rfl (Nat.le_of_ble_eq_true rfl) ⟨(Nat.le_of_ble_eq_true rfl), (Nat.le_of_ble_eq_true rfl)⟩ (RI.go (fun r12 S10 q11 => ?_))
    rw [q11.2]
    refine V_iconst 19 (1) dX11_take_19 (by decide) ?_
    refine V_icmp_ge 20 25 dX11_take_20 (by decide) (fun c13 => ?_) (fun c13 => ?_)
    ·
      refine V_aload_0 25 dX11_take_25 ?_
      refine V_callV 26 (ci := 11) [] _ (s_remember M.2.1 Γ S I) dX11_take_26 cb_X11_remember ml_RX11_170 im_yX11_remember se_yX11_remember (F.m 0 (Nat.le_of_ble_eq_true rfl)) (F.k 0 11 rfl) (Nat.le_of_ble_eq_true rfl) ⟨(Nat.le_of_ble_eq_true rfl), (Nat.le_of_ble_eq_true rfl)⟩ rfl rfl (Nat.le_of_ble_eq_true rfl) ⟨(Nat.le_of_ble_eq_true rfl), (Nat.le_of_ble_eq_true rfl)⟩ (RV.go (fun S14 q15 => ?_))
      have h17 : FT [] [] S S14 := trivial
      have p18 : (IV Γ.2.2.2.2.1 h (B + 4 * 0) L S14) := by exact q15
      refine V_aload_0 29 dX11_take_29 ?_
      refine V_getR 30 (c := 11) 5 ((IV.f p18).r 0 5 41 rfl) dX11_take_30 fl_RX11_42 ((IV.f p18).m 0 (Nat.le_of_ble_eq_true rfl)) ((IV.f p18).k 0 11 rfl) (Nat.le_of_ble_eq_true rfl) (Nat.le_of_ble_eq_true rfl) rfl ?_
      refine V_iload_1 33 dX11_take_33 ?_
      refine V_callV 34 (ci := 7) [.int _] _ (s_takeAwayN M.2.1 Γ S14 (suNo (IV.f p18)) _ _ (IV.now p18) (by omega)) dX11_take_34 cb_X7_takeAway ml_RX11_190 im_yX7_takeAway se_yX7_takeAway ((IV.f p18).m 41 (Nat.le_of_ble_eq_true rfl)) ((IV.f p18).k 41 7 rfl) (Nat.le_of_ble_eq_true rfl) ⟨(Nat.le_of_ble_eq_true rfl), (Nat.le_of_ble_eq_true rfl)⟩ rfl rfl (Nat.le_of_ble_eq_true rfl) ⟨(Nat.le_of_ble_eq_true rfl), (Nat.le_of_ble_eq_true rfl)⟩ (RV.go (fun S19 q20 => ?_))
      have h22 : FT [] [] S S19 := trivial
      have p23 : (IV Γ.2.2.2.2.1 h (B + 4 * 1) L S19) := by exact IV.mono (IV.onNow p18 q20.1 q20.2 (by omega)) (by omega)
      refine V_iconst 37 (1) dX11_take_37 (by decide) ?_
      refine V_iret 38 .boolean dX11_take_38 rfl (nrwB (Or.inr rfl)) (Nat.le_of_ble_eq_true rfl) (Nat.le_of_ble_eq_true rfl) (RI.mk (IV.mono p23 (by omega)))
    ·
      refine V_lvw (by repeat (first | exact trivial | refine ⟨rfl, ?_⟩)) (J3 _ trivial I)
set_option maxRecDepth 100000 in
set_option maxHeartbeats 8000000 in
theorem s_undo (l : Launch) (Γ : GC) (S : PS) {h B : Nat} {L : Int32} (I : IV Γ.2.2.2.2.1 h B L S) : CT l Γ yX11_undo cX11_undo 1 (some .boolean) (2) (0) (0) [.ref h] S (RI (fun r S' => IV Γ.2.2.2.2.1 h B L S')) := by
  refine CT.of RX11 "undo" [some (.ref h)] (by decide +kernel) rfl rfl (Nat.le_of_ble_eq_true rfl) rfl (fun M hM => ?_)
  subst hM
  have F := I.f
  refine V_aload_0 0 dX11_undo_0 ?_
  refine V_getI 1 (c := 11) 9 dX11_undo_1 fl_RX11_193 (F.m 0 (Nat.le_of_ble_eq_true rfl)) (F.k 0 11 rfl) (Nat.le_of_ble_eq_true rfl) (Nat.le_of_ble_eq_true rfl) rfl ?_
  refine V_iconst 4 (1) dX11_undo_4 (by decide) ?_
  refine V_icmp_ge 5 10 dX11_undo_5 (by decide) (fun c1 => ?_) (fun c1 => ?_)
  ·
    refine V_aload_0 10 dX11_undo_10 ?_
    refine V_dup 11 dX11_undo_11 rfl ?_
    refine V_getI 12 (c := 11) 9 dX11_undo_12 fl_RX11_193 (F.m 0 (Nat.le_of_ble_eq_true rfl)) (F.k 0 11 rfl) (Nat.le_of_ble_eq_true rfl) (Nat.le_of_ble_eq_true rfl) rfl ?_
    refine V_iconst 15 (1) dX11_undo_15 (by decide) ?_
    refine V_isub 16 dX11_undo_16 ?_
    refine V_putI 17 (c := 11) 9 dX11_undo_17 fl_RX11_193 (F.m 0 (Nat.le_of_ble_eq_true rfl)) (F.k 0 11 rfl) (Nat.le_of_ble_eq_true rfl) (Nat.le_of_ble_eq_true rfl) rfl (Or.inl rfl) ?_
    refine V_abs (fun T9 => FT [] [] S T9 ∧ (IV Γ.2.2.2.2.1 h B L T9)) ⟨trivial, by exact IV.pI I 0 9 _ rfl⟩ (fun S2 hh5 => ?_)
    obtain ⟨h3, p4⟩ := hh5
    refine V_aload_0 20 dX11_undo_20 ?_
    refine V_getR 21 (c := 11) 5 ((IV.f p4).r 0 5 41 rfl) dX11_undo_21 fl_RX11_42 ((IV.f p4).m 0 (Nat.le_of_ble_eq_true rfl)) ((IV.f p4).k 0 11 rfl) (Nat.le_of_ble_eq_true rfl) (Nat.le_of_ble_eq_true rfl) rfl ?_
    refine V_aload_0 24 dX11_undo_24 ?_
    refine V_getR 25 (c := 11) 7 ((IV.f p4).r 0 7 49 rfl) dX11_undo_25 fl_RX11_49 ((IV.f p4).m 0 (Nat.le_of_ble_eq_true rfl)) ((IV.f p4).k 0 11 rfl) (Nat.le_of_ble_eq_true rfl) (Nat.le_of_ble_eq_true rfl) rfl ?_
    refine V_aload_0 28 dX11_undo_28 ?_
    refine V_getI 29 (c := 11) 8 dX11_undo_29 fl_RX11_196 ((IV.f p4).m 0 (Nat.le_of_ble_eq_true rfl)) ((IV.f p4).k 0 11 rfl) (Nat.le_of_ble_eq_true rfl) (Nat.le_of_ble_eq_true rfl) rfl ?_
    refine V_aload_0 32 dX11_undo_32 ?_
    refine V_getI 33 (c := 11) 9 dX11_undo_33 fl_RX11_193 ((IV.f p4).m 0 (Nat.le_of_ble_eq_true rfl)) ((IV.f p4).k 0 11 rfl) (Nat.le_of_ble_eq_true rfl) (Nat.le_of_ble_eq_true rfl) rfl ?_
    refine V_iadd 36 dX11_undo_36 ?_
    refine V_bipush 37 (40) dX11_undo_37 (by decide) ?_
    refine V_callS 39 [.int _, .int _] _ (s_floorMod M.2.1 Γ S2 _) dX11_undo_39 cb_J9_floorMod_7cf53 ml_RX11_199 sm_yJ9_floorMod_7cf53 ⟨(Nat.le_of_ble_eq_true rfl), (Nat.le_of_ble_eq_true rfl)⟩ rfl rfl (Nat.le_of_ble_eq_true rfl) ⟨(Nat.le_of_ble_eq_true rfl), (Nat.le_of_ble_eq_true rfl)⟩ (RI.go (fun r8 S6 q7 => ?_))
    have hm9 := fm43 q7.1
    have hq9 := q7.1
    rw [q7.2]
    refine V_aaload2 42 (IV.pa p4 _ hm9) dX11_undo_42 ((IV.f p4).m 49 (Nat.le_of_ble_eq_true rfl)) ((IV.f p4).k 49 17 rfl) ((IV.f p4).l 49 40 rfl) ?_ ?_
    · exact in_of (by decide) hq9.1 hq9.2
    refine V_callV 43 (ci := 7) [.ref _] _ (s_stbecomeN M.2.1 Γ S2 (suNo (IV.f p4)) (IV.st p4 (Nat.lt_trans hm9 (by decide))) (Or.inl (by omega)) B (IV.now p4) (IV.sts p4 _ (Nat.lt_trans hm9 (by decide)))) dX11_undo_43 cb_X7_become ml_RX11_202 im_yX7_become se_yX7_become ((IV.f p4).m 41 (Nat.le_of_ble_eq_true rfl)) ((IV.f p4).k 41 7 rfl) (Nat.le_of_ble_eq_true rfl) ⟨(Nat.le_of_ble_eq_true rfl), (Nat.le_of_ble_eq_true rfl)⟩ rfl rfl (Nat.le_of_ble_eq_true rfl) ⟨(Nat.le_of_ble_eq_true rfl), (Nat.le_of_ble_eq_true rfl)⟩ (RV.go (fun S9 q10 => ?_))
    have h12 : FT [] [] S S9 := trivial
    have p13 : (IV Γ.2.2.2.2.1 h B L S9) := by exact IV.onNow p4 q10.1 q10.2 (Nat.le_refl _)
    refine V_iconst 46 (1) dX11_undo_46 (by decide) ?_
    refine V_iret 47 .boolean dX11_undo_47 rfl (nrwB (Or.inr rfl)) (Nat.le_of_ble_eq_true rfl) (Nat.le_of_ble_eq_true rfl) (RI.mk p13)
  ·
    refine V_iconst 8 (0) dX11_undo_8 (by decide) ?_
    refine V_iret 9 .boolean dX11_undo_9 rfl (nrwB (Or.inl rfl)) (Nat.le_of_ble_eq_true rfl) (Nat.le_of_ble_eq_true rfl) (RI.mk I)
set_option maxRecDepth 100000 in
set_option maxHeartbeats 8000000 in
theorem s_within (l : Launch) (Γ : GC) (S : PS) {h B : Nat} {L : Int32} (I : IV Γ.2.2.2.2.1 h B L S) (hB : B * 16 < 2147483647) (x : Int32) : CT l Γ yX11_within cX11_within 2 (some .long) (5) (0) (0) [.ref h, .int x] S (RLg (fun r S' => IV Γ.2.2.2.2.1 h B L S')) := by
  refine CT.of RX11 "within" [some (.ref h), some (.int x)] (by decide +kernel) rfl rfl (Nat.le_of_ble_eq_true rfl) rfl (fun M hM => ?_)
  subst hM
  have F := I.f
  have J3 : ∀ (S1 : PS) , FT [] [] S S1 → (IV Γ.2.2.2.2.1 h B L S1) → V M Γ (2, RX11, "within", (some .long), RM (5) (0) (0)) cX11_within (RQ M Γ (RLg (fun r S' => IV Γ.2.2.2.2.1 h B L S')) (0) (0)) 0 0 S1 10 [some (.ref h), some (.int x)] [] := by
    intro S1  h2 p4
    refine V_ldc2_w 10 dX11_within_10 kL_RX11_205 ?_
    refine V_lret 13 dX11_within_13 rfl (Nat.le_of_ble_eq_true rfl) (Nat.le_of_ble_eq_true rfl) (RLg.mk p4)
  refine V_iload_1 0 dX11_within_0 ?_
  refine V_if_lt 1 10 dX11_within_1 (by decide) (fun c5 => ?_) (fun c5 => ?_)
  ·
    refine V_lvw (by repeat (first | exact trivial | refine ⟨rfl, ?_⟩)) (J3 _ trivial I)
  ·
    refine V_iload_1 4 dX11_within_4 ?_
    refine V_bipush 5 (18) dX11_within_5 (by decide) ?_
    refine V_icmp_le 7 14 dX11_within_7 (by decide) (fun c7 => ?_) (fun c7 => ?_)
    ·
      refine V_aload_0 14 dX11_within_14 ?_
      refine V_getR 15 (c := 11) 12 (F.r 0 12 52 rfl) dX11_within_15 fl_RX11_63 (F.m 0 (Nat.le_of_ble_eq_true rfl)) (F.k 0 11 rfl) (Nat.le_of_ble_eq_true rfl) (Nat.le_of_ble_eq_true rfl) rfl ?_
      refine V_aload_0 18 dX11_within_18 ?_
      refine V_getR 19 (c := 11) 5 (F.r 0 5 41 rfl) dX11_within_19 fl_RX11_42 (F.m 0 (Nat.le_of_ble_eq_true rfl)) (F.k 0 11 rfl) (Nat.le_of_ble_eq_true rfl) (Nat.le_of_ble_eq_true rfl) rfl ?_
      refine V_aload_0 22 dX11_within_22 ?_
      refine V_getR 23 (c := 11) 3 (F.r 0 3 27 rfl) dX11_within_23 fl_RX11_31 (F.m 0 (Nat.le_of_ble_eq_true rfl)) (F.k 0 11 rfl) (Nat.le_of_ble_eq_true rfl) (Nat.le_of_ble_eq_true rfl) rfl ?_
      refine V_callV 26 (ci := 5) [.ref _, .ref _] _ (s_look M.2.1 Γ S (suOr F) (suNo F) (suTo F) (Or.inl (by omega)) B (IV.now I) (IV.ob I) (by omega)) dX11_within_26 cb_X5_look ml_RX11_207 im_yX5_look se_yX5_look (F.m 52 (Nat.le_of_ble_eq_true rfl)) (F.k 52 5 rfl) (Nat.le_of_ble_eq_true rfl) ⟨(Nat.le_of_ble_eq_true rfl), (Nat.le_of_ble_eq_true rfl)⟩ rfl rfl (Nat.le_of_ble_eq_true rfl) ⟨(Nat.le_of_ble_eq_true rfl), (Nat.le_of_ble_eq_true rfl)⟩ (RV.go (fun S8 q9 => ?_))
      have h11 : FT [] [] S S8 := trivial
      have p12 : (IV Γ.2.2.2.2.1 h B L S8) := by exact IV.onOrders I q9.1 q9.2
      refine V_aload_0 29 dX11_within_29 ?_
      refine V_getR 30 (c := 11) 12 ((IV.f p12).r 0 12 52 rfl) dX11_within_30 fl_RX11_63 ((IV.f p12).m 0 (Nat.le_of_ble_eq_true rfl)) ((IV.f p12).k 0 11 rfl) (Nat.le_of_ble_eq_true rfl) (Nat.le_of_ble_eq_true rfl) rfl ?_
      refine V_iload_1 33 dX11_within_33 ?_
      refine V_callV 34 (ci := 5) [.int _] _ (s_withinCount M.2.1 Γ S8 (suOr (IV.f p12)) _) dX11_within_34 cb_X5_withinCount ml_RX11_211 im_yX5_withinCount se_yX5_withinCount ((IV.f p12).m 52 (Nat.le_of_ble_eq_true rfl)) ((IV.f p12).k 52 5 rfl) (Nat.le_of_ble_eq_true rfl) ⟨(Nat.le_of_ble_eq_true rfl), (Nat.le_of_ble_eq_true rfl)⟩ rfl rfl (Nat.le_of_ble_eq_true rfl) ⟨(Nat.le_of_ble_eq_true rfl), (Nat.le_of_ble_eq_true rfl)⟩ (RLg.go (fun r15 S13 q14 => ?_))
      have h16 : FT [] [] S S13 := trivial
      have p17 : (IV Γ.2.2.2.2.1 h B L S13) := by exact IV.z p12 [57, 58, 59] [(56, 3)] q14 rfl rfl rfl rfl
      refine V_lret 37 dX11_within_37 rfl (Nat.le_of_ble_eq_true rfl) (Nat.le_of_ble_eq_true rfl) (RLg.mk p17)
    ·
      refine V_lvw (by repeat (first | exact trivial | refine ⟨rfl, ?_⟩)) (J3 _ trivial I)
set_option maxRecDepth 100000 in
set_option maxHeartbeats 8000000 in
theorem s_lies (l : Launch) (Γ : GC) (S : PS) {h B : Nat} {L : Int32} (I : IV Γ.2.2.2.2.1 h B L S) (hB : B * 16 < 2147483647) (x : Int32) : CT l Γ yX11_lies cX11_lies 2 (some .long) (4) (0) (0) [.ref h, .int x] S (RLg (fun r S' => IV Γ.2.2.2.2.1 h B L S')) := by
  refine CT.of RX11 "lies" [some (.ref h), some (.int x)] (by decide +kernel) rfl rfl (Nat.le_of_ble_eq_true rfl) rfl (fun M hM => ?_)
  subst hM
  have F := I.f
  have J3 : ∀ (S1 : PS) , FT [] [] S S1 → (IV Γ.2.2.2.2.1 h B L S1) → V M Γ (2, RX11, "lies", (some .long), RM (4) (0) (0)) cX11_lies (RQ M Γ (RLg (fun r S' => IV Γ.2.2.2.2.1 h B L S')) (0) (0)) 0 0 S1 18 [some (.ref h), some (.int x)] [] := by
    intro S1  h2 p4
    refine V_ldc2_w 18 dX11_lies_18 kL_RX11_205 ?_
    refine V_lret 21 dX11_lies_21 rfl (Nat.le_of_ble_eq_true rfl) (Nat.le_of_ble_eq_true rfl) (RLg.mk p4)
  refine V_iload_1 0 dX11_lies_0 ?_
  refine V_if_lt 1 18 dX11_lies_1 (by decide) (fun c5 => ?_) (fun c5 => ?_)
  ·
    refine V_lvw (by repeat (first | exact trivial | refine ⟨rfl, ?_⟩)) (J3 _ trivial I)
  ·
    refine V_iload_1 4 dX11_lies_4 ?_
    refine V_aload_0 5 dX11_lies_5 ?_
    refine V_getR 6 (c := 11) 5 (F.r 0 5 41 rfl) dX11_lies_6 fl_RX11_42 (F.m 0 (Nat.le_of_ble_eq_true rfl)) (F.k 0 11 rfl) (Nat.le_of_ble_eq_true rfl) (Nat.le_of_ble_eq_true rfl) rfl ?_
    refine V_getR 9 (c := 7) 0 (F.r 41 0 42 rfl) dX11_lies_9 fl_RX11_131 (F.m 41 (Nat.le_of_ble_eq_true rfl)) (F.k 41 7 rfl) (Nat.le_of_ble_eq_true rfl) (Nat.le_of_ble_eq_true rfl) rfl ?_
    refine V_callS 12 [.ref _] _ (c_total M.2.1 Γ S (a := (h + 42)) (F.m 42 (Nat.le_of_ble_eq_true rfl)) (F.k 42 14 rfl) (by rw [(F.l 42 8 rfl)]; decide)) dX11_lies_12 cb_X11_total ml_RX11_180 sm_yX11_total ⟨(Nat.le_of_ble_eq_true rfl), (Nat.le_of_ble_eq_true rfl)⟩ rfl rfl (Nat.le_of_ble_eq_true rfl) ⟨(Nat.le_of_ble_eq_true rfl), (Nat.le_of_ble_eq_true rfl)⟩ (RI.go (fun r9 S7 q8 => ?_))
    have ht9 : IB (B * 8) r9 := by rw [q8.1]; exact nowsum I (by omega)
    rw [q8.2]
    refine V_icmp_le 15 22 dX11_lies_15 (by decide) (fun c10 => ?_) (fun c10 => ?_)
    ·
      refine V_aload_0 22 dX11_lies_22 ?_
      refine V_getR 23 (c := 11) 12 (F.r 0 12 52 rfl) dX11_lies_23 fl_RX11_63 (F.m 0 (Nat.le_of_ble_eq_true rfl)) (F.k 0 11 rfl) (Nat.le_of_ble_eq_true rfl) (Nat.le_of_ble_eq_true rfl) rfl ?_
      refine V_aload_0 26 dX11_lies_26 ?_
      refine V_getR 27 (c := 11) 5 (F.r 0 5 41 rfl) dX11_lies_27 fl_RX11_42 (F.m 0 (Nat.le_of_ble_eq_true rfl)) (F.k 0 11 rfl) (Nat.le_of_ble_eq_true rfl) (Nat.le_of_ble_eq_true rfl) rfl ?_
      refine V_aload_0 30 dX11_lies_30 ?_
      refine V_getR 31 (c := 11) 3 (F.r 0 3 27 rfl) dX11_lies_31 fl_RX11_31 (F.m 0 (Nat.le_of_ble_eq_true rfl)) (F.k 0 11 rfl) (Nat.le_of_ble_eq_true rfl) (Nat.le_of_ble_eq_true rfl) rfl ?_
      refine V_callV 34 (ci := 5) [.ref _, .ref _] _ (s_look M.2.1 Γ S (suOr F) (suNo F) (suTo F) (Or.inl (by omega)) B (IV.now I) (IV.ob I) (by omega)) dX11_lies_34 cb_X5_look ml_RX11_207 im_yX5_look se_yX5_look (F.m 52 (Nat.le_of_ble_eq_true rfl)) (F.k 52 5 rfl) (Nat.le_of_ble_eq_true rfl) ⟨(Nat.le_of_ble_eq_true rfl), (Nat.le_of_ble_eq_true rfl)⟩ rfl rfl (Nat.le_of_ble_eq_true rfl) ⟨(Nat.le_of_ble_eq_true rfl), (Nat.le_of_ble_eq_true rfl)⟩ (RV.go (fun S11 q12 => ?_))
      have h14 : FT [] [] S S11 := trivial
      have p15 : (IV Γ.2.2.2.2.1 h B L S11) := by exact IV.onOrders I q12.1 q12.2
      refine V_aload_0 37 dX11_lies_37 ?_
      refine V_getR 38 (c := 11) 12 ((IV.f p15).r 0 12 52 rfl) dX11_lies_38 fl_RX11_63 ((IV.f p15).m 0 (Nat.le_of_ble_eq_true rfl)) ((IV.f p15).k 0 11 rfl) (Nat.le_of_ble_eq_true rfl) (Nat.le_of_ble_eq_true rfl) rfl ?_
      refine V_iload_1 41 dX11_lies_41 ?_
      refine V_callV 42 (ci := 5) [.int _] _ (s_lyingAfter M.2.1 Γ S11 (suOr (IV.f p15)) B (IV.ob p15) (by omega) _ (kIB (by assumption) (by assumption) ht9)) dX11_lies_42 cb_X5_lyingAfter ml_RX11_215 im_yX5_lyingAfter se_yX5_lyingAfter ((IV.f p15).m 52 (Nat.le_of_ble_eq_true rfl)) ((IV.f p15).k 52 5 rfl) (Nat.le_of_ble_eq_true rfl) ⟨(Nat.le_of_ble_eq_true rfl), (Nat.le_of_ble_eq_true rfl)⟩ rfl rfl (Nat.le_of_ble_eq_true rfl) ⟨(Nat.le_of_ble_eq_true rfl), (Nat.le_of_ble_eq_true rfl)⟩ (RLg.go (fun r18 S16 q17 => ?_))
      have h19 : FT [] [] S S16 := trivial
      have p20 : (IV Γ.2.2.2.2.1 h B L S16) := by exact IV.z p15 [] [] q17 rfl rfl rfl rfl
      refine V_lret 45 dX11_lies_45 rfl (Nat.le_of_ble_eq_true rfl) (Nat.le_of_ble_eq_true rfl) (RLg.mk p20)
    ·
      refine V_lvw (by repeat (first | exact trivial | refine ⟨rfl, ?_⟩)) (J3 _ trivial I)
set_option maxRecDepth 100000 in
set_option maxHeartbeats 8000000 in
theorem s_mosts (l : Launch) (Γ : GC) (S : PS) {h B : Nat} {L : Int32} (I : IV Γ.2.2.2.2.1 h B L S) (hB : B * 16 < 2147483647) : CT l Γ yX11_mosts cX11_mosts 1 (some .long) (6) (0) (0) [.ref h] S (RLg (fun r S' => IV Γ.2.2.2.2.1 h B L S')) := by
  refine CT.of RX11 "mosts" [some (.ref h)] (by decide +kernel) rfl rfl (Nat.le_of_ble_eq_true rfl) rfl (fun M hM => ?_)
  subst hM
  have F := I.f
  refine V_aload_0 0 dX11_mosts_0 ?_
  refine V_getR 1 (c := 11) 12 (F.r 0 12 52 rfl) dX11_mosts_1 fl_RX11_63 (F.m 0 (Nat.le_of_ble_eq_true rfl)) (F.k 0 11 rfl) (Nat.le_of_ble_eq_true rfl) (Nat.le_of_ble_eq_true rfl) rfl ?_
  refine V_aload_0 4 dX11_mosts_4 ?_
  refine V_getR 5 (c := 11) 5 (F.r 0 5 41 rfl) dX11_mosts_5 fl_RX11_42 (F.m 0 (Nat.le_of_ble_eq_true rfl)) (F.k 0 11 rfl) (Nat.le_of_ble_eq_true rfl) (Nat.le_of_ble_eq_true rfl) rfl ?_
  refine V_aload_0 8 dX11_mosts_8 ?_
  refine V_getR 9 (c := 11) 3 (F.r 0 3 27 rfl) dX11_mosts_9 fl_RX11_31 (F.m 0 (Nat.le_of_ble_eq_true rfl)) (F.k 0 11 rfl) (Nat.le_of_ble_eq_true rfl) (Nat.le_of_ble_eq_true rfl) rfl ?_
  refine V_callV 12 (ci := 5) [.ref _, .ref _] _ (s_look M.2.1 Γ S (suOr F) (suNo F) (suTo F) (Or.inl (by omega)) B (IV.now I) (IV.ob I) (by omega)) dX11_mosts_12 cb_X5_look ml_RX11_207 im_yX5_look se_yX5_look (F.m 52 (Nat.le_of_ble_eq_true rfl)) (F.k 52 5 rfl) (Nat.le_of_ble_eq_true rfl) ⟨(Nat.le_of_ble_eq_true rfl), (Nat.le_of_ble_eq_true rfl)⟩ rfl rfl (Nat.le_of_ble_eq_true rfl) ⟨(Nat.le_of_ble_eq_true rfl), (Nat.le_of_ble_eq_true rfl)⟩ (RV.go (fun S1 q2 => ?_))
  have h4 : FT [] [] S S1 := trivial
  have p5 : (IV Γ.2.2.2.2.1 h B L S1) := by exact IV.onOrders I q2.1 q2.2
  refine V_aload_0 15 dX11_mosts_15 ?_
  refine V_getR 16 (c := 11) 12 ((IV.f p5).r 0 12 52 rfl) dX11_mosts_16 fl_RX11_63 ((IV.f p5).m 0 (Nat.le_of_ble_eq_true rfl)) ((IV.f p5).k 0 11 rfl) (Nat.le_of_ble_eq_true rfl) (Nat.le_of_ble_eq_true rfl) rfl ?_
  refine V_callV 19 (ci := 5) [] _ (s_sumOfMosts M.2.1 Γ S1 (suOr (IV.f p5)) B (IV.ob p5) (by omega)) dX11_mosts_19 cb_X5_sumOfMosts ml_RX11_218 im_yX5_sumOfMosts se_yX5_sumOfMosts ((IV.f p5).m 52 (Nat.le_of_ble_eq_true rfl)) ((IV.f p5).k 52 5 rfl) (Nat.le_of_ble_eq_true rfl) ⟨(Nat.le_of_ble_eq_true rfl), (Nat.le_of_ble_eq_true rfl)⟩ rfl rfl (Nat.le_of_ble_eq_true rfl) ⟨(Nat.le_of_ble_eq_true rfl), (Nat.le_of_ble_eq_true rfl)⟩ (RLg.go (fun r8 S6 q7 => ?_))
  have h9 : FT [] [] S S6 := trivial
  have p10 : (IV Γ.2.2.2.2.1 h B L S6) := by exact IV.z p5 [57, 58, 59] [(56, 3)] q7 rfl rfl rfl rfl
  refine V_lret 22 dX11_mosts_22 rfl (Nat.le_of_ble_eq_true rfl) (Nat.le_of_ble_eq_true rfl) (RLg.mk p10)
set_option maxRecDepth 100000 in
set_option maxHeartbeats 8000000 in
theorem s_sure (l : Launch) (Γ : GC) (S : PS) {h B : Nat} {L : Int32} (I : IV Γ.2.2.2.2.1 h B L S) (hB : B * 16 < 2147483647) (x y : Int32) : CT l Γ yX11_sure cX11_sure 3 (some .int) (6) (0) (0) [.ref h, .int x, .int y] S (RI (fun r S' => IV Γ.2.2.2.2.1 h B L S')) := by
  refine CT.of RX11 "sure" [some (.ref h), some (.int x), some (.int y)] (by decide +kernel) rfl rfl (Nat.le_of_ble_eq_true rfl) rfl (fun M hM => ?_)
  subst hM
  have F := I.f
  have J3 : ∀ (S1 : PS) , FT [] [] S S1 → (IV Γ.2.2.2.2.1 h B L S1) → V M Γ (3, RX11, "sure", (some .int), RM (6) (0) (0)) cX11_sure (RQ M Γ (RI (fun r S' => IV Γ.2.2.2.2.1 h B L S')) (0) (0)) 0 0 S1 20 [some (.ref h), some (.int x), some (.int y)] [] := by
    intro S1  h2 p4
    refine V_iconst 20 (-1) dX11_sure_20 (by decide) ?_
    refine V_iret 21 .int dX11_sure_21 rfl rfl (Nat.le_of_ble_eq_true rfl) (Nat.le_of_ble_eq_true rfl) (RI.mk p4)
  refine V_iload_2 0 dX11_sure_0 ?_
  refine V_iconst 1 (1) dX11_sure_1 (by decide) ?_
  refine V_icmp_lt 2 20 dX11_sure_2 (by decide) (fun c5 => ?_) (fun c5 => ?_)
  ·
    refine V_lvw (by repeat (first | exact trivial | refine ⟨rfl, ?_⟩)) (J3 _ trivial I)
  ·
    refine V_iload_2 5 dX11_sure_5 ?_
    refine V_bipush 6 (99) dX11_sure_6 (by decide) ?_
    refine V_icmp_gt 8 20 dX11_sure_8 (by decide) (fun c7 => ?_) (fun c7 => ?_)
    ·
      refine V_lvw (by repeat (first | exact trivial | refine ⟨rfl, ?_⟩)) (J3 _ trivial I)
    ·
      refine V_iload_1 11 dX11_sure_11 ?_
      refine V_if_lt 12 20 dX11_sure_12 (by decide) (fun c9 => ?_) (fun c9 => ?_)
      ·
        refine V_lvw (by repeat (first | exact trivial | refine ⟨rfl, ?_⟩)) (J3 _ trivial I)
      ·
        refine V_iload_1 15 dX11_sure_15 ?_
        refine V_iload_2 16 dX11_sure_16 ?_
        refine V_icmp_le 17 22 dX11_sure_17 (by decide) (fun c11 => ?_) (fun c11 => ?_)
        ·
          refine V_aload_0 22 dX11_sure_22 ?_
          refine V_getR 23 (c := 11) 12 (F.r 0 12 52 rfl) dX11_sure_23 fl_RX11_63 (F.m 0 (Nat.le_of_ble_eq_true rfl)) (F.k 0 11 rfl) (Nat.le_of_ble_eq_true rfl) (Nat.le_of_ble_eq_true rfl) rfl ?_
          refine V_aload_0 26 dX11_sure_26 ?_
          refine V_getR 27 (c := 11) 5 (F.r 0 5 41 rfl) dX11_sure_27 fl_RX11_42 (F.m 0 (Nat.le_of_ble_eq_true rfl)) (F.k 0 11 rfl) (Nat.le_of_ble_eq_true rfl) (Nat.le_of_ble_eq_true rfl) rfl ?_
          refine V_aload_0 30 dX11_sure_30 ?_
          refine V_getR 31 (c := 11) 3 (F.r 0 3 27 rfl) dX11_sure_31 fl_RX11_31 (F.m 0 (Nat.le_of_ble_eq_true rfl)) (F.k 0 11 rfl) (Nat.le_of_ble_eq_true rfl) (Nat.le_of_ble_eq_true rfl) rfl ?_
          refine V_callV 34 (ci := 5) [.ref _, .ref _] _ (s_look M.2.1 Γ S (suOr F) (suNo F) (suTo F) (Or.inl (by omega)) B (IV.now I) (IV.ob I) (by omega)) dX11_sure_34 cb_X5_look ml_RX11_207 im_yX5_look se_yX5_look (F.m 52 (Nat.le_of_ble_eq_true rfl)) (F.k 52 5 rfl) (Nat.le_of_ble_eq_true rfl) ⟨(Nat.le_of_ble_eq_true rfl), (Nat.le_of_ble_eq_true rfl)⟩ rfl rfl (Nat.le_of_ble_eq_true rfl) ⟨(Nat.le_of_ble_eq_true rfl), (Nat.le_of_ble_eq_true rfl)⟩ (RV.go (fun S12 q13 => ?_))
          have h15 : FT [] [] S S12 := trivial
          have p16 : (IV Γ.2.2.2.2.1 h B L S12) := by exact IV.onOrders I q13.1 q13.2
          refine V_aload_0 37 dX11_sure_37 ?_
          refine V_getR 38 (c := 11) 12 ((IV.f p16).r 0 12 52 rfl) dX11_sure_38 fl_RX11_63 ((IV.f p16).m 0 (Nat.le_of_ble_eq_true rfl)) ((IV.f p16).k 0 11 rfl) (Nat.le_of_ble_eq_true rfl) (Nat.le_of_ble_eq_true rfl) rfl ?_
          refine V_iload_1 41 dX11_sure_41 ?_
          refine V_iload_2 42 dX11_sure_42 ?_
          refine V_callV 43 (ci := 5) [.int _, .int _] _ (s_leastSure M.2.1 Γ S12 (suOr (IV.f p16)) B (IV.ob p16) (by omega) _ _) dX11_sure_43 cb_X5_leastSure ml_RX11_222 im_yX5_leastSure se_yX5_leastSure ((IV.f p16).m 52 (Nat.le_of_ble_eq_true rfl)) ((IV.f p16).k 52 5 rfl) (Nat.le_of_ble_eq_true rfl) ⟨(Nat.le_of_ble_eq_true rfl), (Nat.le_of_ble_eq_true rfl)⟩ rfl rfl (Nat.le_of_ble_eq_true rfl) ⟨(Nat.le_of_ble_eq_true rfl), (Nat.le_of_ble_eq_true rfl)⟩ (RI.go (fun r19 S17 q18 => ?_))
          have h20 : FT [] [] S S17 := trivial
          have p21 : (IV Γ.2.2.2.2.1 h B L S17) := by exact IV.z p16 [57, 58, 59] [(56, 3)] q18 rfl rfl rfl rfl
          refine V_iret 46 .int dX11_sure_46 rfl rfl (Nat.le_of_ble_eq_true rfl) (Nat.le_of_ble_eq_true rfl) (RI.mk p21)
        ·
          refine V_lvw (by repeat (first | exact trivial | refine ⟨rfl, ?_⟩)) (J3 _ trivial I)
set_option maxRecDepth 100000 in
set_option maxHeartbeats 8000000 in
theorem s_evening (l : Launch) (Γ : GC) (S : PS) {h B : Nat} {L : Int32} (I : IV Γ.2.2.2.2.1 h B L S) (x : Int32) : CT l Γ yX11_evening cX11_evening 2 (some .int) (4) (0) (0) [.ref h, .int x] S (RI (fun r S' => IV Γ.2.2.2.2.1 h B L S')) := by
  refine CT.of RX11 "evening" [some (.ref h), some (.int x)] (by decide +kernel) rfl rfl (Nat.le_of_ble_eq_true rfl) rfl (fun M hM => ?_)
  subst hM
  have F := I.f
  have J3 : ∀ (S1 : PS) , FT [] [] S S1 → (IV Γ.2.2.2.2.1 h B L S1) → V M Γ (2, RX11, "evening", (some .int), RM (4) (0) (0)) cX11_evening (RQ M Γ (RI (fun r S' => IV Γ.2.2.2.2.1 h B L S')) (0) (0)) 0 0 S1 12 [some (.ref h), some (.int x)] [] := by
    intro S1  h2 p4
    refine V_iconst 12 (-1) dX11_evening_12 (by decide) ?_
    refine V_iret 13 .int dX11_evening_13 rfl rfl (Nat.le_of_ble_eq_true rfl) (Nat.le_of_ble_eq_true rfl) (RI.mk p4)
  refine V_iload_1 0 dX11_evening_0 ?_
  refine V_iconst 1 (1) dX11_evening_1 (by decide) ?_
  refine V_icmp_lt 2 12 dX11_evening_2 (by decide) (fun c5 => ?_) (fun c5 => ?_)
  ·
    refine V_lvw (by repeat (first | exact trivial | refine ⟨rfl, ?_⟩)) (J3 _ trivial I)
  ·
    refine V_iload_1 5 dX11_evening_5 ?_
    refine V_sipush 6 (500) dX11_evening_6 (by decide) ?_
    refine V_icmp_le 9 14 dX11_evening_9 (by decide) (fun c7 => ?_) (fun c7 => ?_)
    ·
      refine V_aload_0 14 dX11_evening_14 ?_
      refine V_getR 15 (c := 11) 6 (F.r 0 6 45 rfl) dX11_evening_15 fl_RX11_46 (F.m 0 (Nat.le_of_ble_eq_true rfl)) (F.k 0 11 rfl) (Nat.le_of_ble_eq_true rfl) (Nat.le_of_ble_eq_true rfl) rfl ?_
      refine V_aload_0 18 dX11_evening_18 ?_
      refine V_getR 19 (c := 11) 5 (F.r 0 5 41 rfl) dX11_evening_19 fl_RX11_42 (F.m 0 (Nat.le_of_ble_eq_true rfl)) (F.k 0 11 rfl) (Nat.le_of_ble_eq_true rfl) (Nat.le_of_ble_eq_true rfl) rfl ?_
      refine V_callV 22 (ci := 7) [.ref _] _ (s_stbecome M.2.1 Γ S (suTr F) (suNo F) (by omega) (IV.now I).1) dX11_evening_22 cb_X7_become ml_RX11_202 im_yX7_become se_yX7_become (F.m 45 (Nat.le_of_ble_eq_true rfl)) (F.k 45 7 rfl) (Nat.le_of_ble_eq_true rfl) ⟨(Nat.le_of_ble_eq_true rfl), (Nat.le_of_ble_eq_true rfl)⟩ rfl rfl (Nat.le_of_ble_eq_true rfl) ⟨(Nat.le_of_ble_eq_true rfl), (Nat.le_of_ble_eq_true rfl)⟩ (RV.go (fun S8 q9 => ?_))
      have h11 : FT [] [] S S8 := trivial
      have p12 : (IV Γ.2.2.2.2.1 h B L S8) := by exact IV.z I [46, 47, 48] [(45, 3), (45, 4)] q9 rfl rfl rfl rfl
      refine V_aload_0 25 dX11_evening_25 ?_
      refine V_getR 26 (c := 11) 6 ((IV.f p12).r 0 6 45 rfl) dX11_evening_26 fl_RX11_46 ((IV.f p12).m 0 (Nat.le_of_ble_eq_true rfl)) ((IV.f p12).k 0 11 rfl) (Nat.le_of_ble_eq_true rfl) (Nat.le_of_ble_eq_true rfl) rfl ?_
      refine V_aload_0 29 dX11_evening_29 ?_
      refine V_getR 30 (c := 11) 3 ((IV.f p12).r 0 3 27 rfl) dX11_evening_30 fl_RX11_31 ((IV.f p12).m 0 (Nat.le_of_ble_eq_true rfl)) ((IV.f p12).k 0 11 rfl) (Nat.le_of_ble_eq_true rfl) (Nat.le_of_ble_eq_true rfl) rfl ?_
      refine V_aload_0 33 dX11_evening_33 ?_
      refine V_getR 34 (c := 11) 3 ((IV.f p12).r 0 3 27 rfl) dX11_evening_34 fl_RX11_31 ((IV.f p12).m 0 (Nat.le_of_ble_eq_true rfl)) ((IV.f p12).k 0 11 rfl) (Nat.le_of_ble_eq_true rfl) (Nat.le_of_ble_eq_true rfl) rfl ?_
      refine V_getI 37 (c := 10) 11 dX11_evening_37 fl_RX11_184 ((IV.f p12).m 27 (Nat.le_of_ble_eq_true rfl)) ((IV.f p12).k 27 10 rfl) (Nat.le_of_ble_eq_true rfl) (Nat.le_of_ble_eq_true rfl) rfl ?_
      refine V_aload_0 40 dX11_evening_40 ?_
      refine V_getR 41 (c := 11) 3 ((IV.f p12).r 0 3 27 rfl) dX11_evening_41 fl_RX11_31 ((IV.f p12).m 0 (Nat.le_of_ble_eq_true rfl)) ((IV.f p12).k 0 11 rfl) (Nat.le_of_ble_eq_true rfl) (Nat.le_of_ble_eq_true rfl) rfl ?_
      refine V_getI 44 (c := 10) 10 dX11_evening_44 fl_RX11_173 ((IV.f p12).m 27 (Nat.le_of_ble_eq_true rfl)) ((IV.f p12).k 27 10 rfl) (Nat.le_of_ble_eq_true rfl) (Nat.le_of_ble_eq_true rfl) rfl ?_
      refine V_iload_1 47 dX11_evening_47 ?_
      refine V_callV 48 (ci := 7) [.ref _, .int _, .int _, .int _] _ (s_playOut M.2.1 Γ S8 (suTr (IV.f p12)) (suTo (IV.f p12)) _ _ _) dX11_evening_48 cb_X7_playOut ml_RX11_225 im_yX7_playOut se_yX7_playOut ((IV.f p12).m 45 (Nat.le_of_ble_eq_true rfl)) ((IV.f p12).k 45 7 rfl) (Nat.le_of_ble_eq_true rfl) ⟨(Nat.le_of_ble_eq_true rfl), (Nat.le_of_ble_eq_true rfl)⟩ rfl rfl (Nat.le_of_ble_eq_true rfl) ⟨(Nat.le_of_ble_eq_true rfl), (Nat.le_of_ble_eq_true rfl)⟩ (RI.go (fun r15 S13 q14 => ?_))
      have h16 : FT [] [] S S13 := trivial
      have p17 : (IV Γ.2.2.2.2.1 h B L S13) := by exact IV.z p12 [46, 47, 48] [(45, 3), (45, 4)] q14 rfl rfl rfl rfl
      refine V_iret 51 .int dX11_evening_51 rfl rfl (Nat.le_of_ble_eq_true rfl) (Nat.le_of_ble_eq_true rfl) (RI.mk p17)
    ·
      refine V_lvw (by repeat (first | exact trivial | refine ⟨rfl, ?_⟩)) (J3 _ trivial I)
set_option maxRecDepth 100000 in
set_option maxHeartbeats 8000000 in
theorem s_sumOfEvenings (l : Launch) (Γ : GC) (S : PS) {h B : Nat} {L : Int32} (I : IV Γ.2.2.2.2.1 h B L S) (x y : Int32) : CT l Γ yX11_sumOfEvenings cX11_sumOfEvenings 6 (some .int) (4) (0) (0) [.ref h, .int x, .int y] S (RI (fun r S' => IV Γ.2.2.2.2.1 h B L S')) := by
  refine CT.of RX11 "sumOfEvenings" [some (.ref h), some (.int x), some (.int y), none, none, none] (by decide +kernel) rfl rfl (Nat.le_of_ble_eq_true rfl) rfl (fun M hM => ?_)
  subst hM
  have F := I.f
  refine V_iconst 0 (0) dX11_sumOfEvenings_0 (by decide) ?_
  refine V_istore_3 1 dX11_sumOfEvenings_1 rfl (Nat.le_of_ble_eq_true rfl) ?_
  refine V_iconst 2 (0) dX11_sumOfEvenings_2 (by decide) ?_
  refine V_istore_4 3 dX11_sumOfEvenings_3 rfl (Nat.le_of_ble_eq_true rfl) ?_
  refine V_lvw (by repeat (first | exact trivial | refine ⟨rfl, ?_⟩)) (V_while (α := Int32 × PS × Int32) (fun z1 => ((x).toInt - z1.1.toInt).toNat) (fun z1 => FT [] [] S z1.2.1 ∧ (IV Γ.2.2.2.2.1 h B L z1.2.1)) (fun z1 => z1.2.1) (fun z1 => [some (.ref h), some (.int x), some (.int y), some (.int z1.2.2), some (.int z1.1), none]) (_, _, _) ⟨trivial, I⟩ (fun z1 h5 ih6 => ?b9))
  obtain ⟨i2, S3, w7⟩ := z1
  dsimp only at h5 ih6 ⊢
  obtain ⟨h12, p11⟩ := h5
  have J15 : ∀ (S13 : PS) (x16 : Int32) (x17 : Int32) (x18 : Int32) (x19 : Int32), FT [] [] S S13 → (IV Γ.2.2.2.2.1 h B L S13) → ¬ x ≤ i2 → V M Γ (6, RX11, "sumOfEvenings", (some .int), RM (4) (0) (0)) cX11_sumOfEvenings (RQ M Γ (RI (fun r S' => IV Γ.2.2.2.2.1 h B L S')) (0) (0)) 0 0 S13 63 [some (.ref h), some (.int x), some (.int y), some (.int x16), some (.int i2), some (.int x17)] [.int x19, .int x18] := by
    intro S13 x16 x17 x18 x19 h14 p20 lt21
    refine V_iadd 63 dX11_sumOfEvenings_63 ?_
    refine V_istore_3 64 dX11_sumOfEvenings_64 rfl (Nat.le_of_ble_eq_true rfl) ?_
    refine V_iinc_4 65 (1) dX11_sumOfEvenings_65 (by decide) rfl (Nat.le_of_ble_eq_true rfl) ?_
    refine V_goto 68 5 dX11_sumOfEvenings_68 (by decide) ?_
    refine V_lvw (by repeat (first | exact trivial | refine ⟨rfl, ?_⟩)) (ih6 (_, _, _) ⟨trivial, p20⟩ (up32 (by first | assumption | (assumption))))
  refine V_iload_4 5 dX11_sumOfEvenings_5 ?_
  refine V_iload_1 7 dX11_sumOfEvenings_7 ?_
  refine V_icmp_ge 8 71 dX11_sumOfEvenings_8 (by decide) (fun c22 => ?_) (fun c22 => ?_)
  ·
    refine V_iload_3 71 dX11_sumOfEvenings_71 ?_
    refine V_iret 72 .int dX11_sumOfEvenings_72 rfl rfl (Nat.le_of_ble_eq_true rfl) (Nat.le_of_ble_eq_true rfl) (RI.mk p11)
  ·
    refine V_aload_0 11 dX11_sumOfEvenings_11 ?_
    refine V_getR 12 (c := 11) 6 ((IV.f p11).r 0 6 45 rfl) dX11_sumOfEvenings_12 fl_RX11_46 ((IV.f p11).m 0 (Nat.le_of_ble_eq_true rfl)) ((IV.f p11).k 0 11 rfl) (Nat.le_of_ble_eq_true rfl) (Nat.le_of_ble_eq_true rfl) rfl ?_
    refine V_aload_0 15 dX11_sumOfEvenings_15 ?_
    refine V_getR 16 (c := 11) 5 ((IV.f p11).r 0 5 41 rfl) dX11_sumOfEvenings_16 fl_RX11_42 ((IV.f p11).m 0 (Nat.le_of_ble_eq_true rfl)) ((IV.f p11).k 0 11 rfl) (Nat.le_of_ble_eq_true rfl) (Nat.le_of_ble_eq_true rfl) rfl ?_
    refine V_callV 19 (ci := 7) [.ref _] _ (s_stbecome M.2.1 Γ S3 (suTr (IV.f p11)) (suNo (IV.f p11)) (by omega) (IV.now p11).1) dX11_sumOfEvenings_19 cb_X7_become ml_RX11_202 im_yX7_become se_yX7_become ((IV.f p11).m 45 (Nat.le_of_ble_eq_true rfl)) ((IV.f p11).k 45 7 rfl) (Nat.le_of_ble_eq_true rfl) ⟨(Nat.le_of_ble_eq_true rfl), (Nat.le_of_ble_eq_true rfl)⟩ rfl rfl (Nat.le_of_ble_eq_true rfl) ⟨(Nat.le_of_ble_eq_true rfl), (Nat.le_of_ble_eq_true rfl)⟩ (RV.go (fun S23 q24 => ?_))
    have h26 : FT [] [] S S23 := trivial
    have p27 : (IV Γ.2.2.2.2.1 h B L S23) := by exact IV.z p11 [46, 47, 48] [(45, 3), (45, 4)] q24 rfl rfl rfl rfl
    refine V_aload_0 22 dX11_sumOfEvenings_22 ?_
    refine V_getR 23 (c := 11) 6 ((IV.f p27).r 0 6 45 rfl) dX11_sumOfEvenings_23 fl_RX11_46 ((IV.f p27).m 0 (Nat.le_of_ble_eq_true rfl)) ((IV.f p27).k 0 11 rfl) (Nat.le_of_ble_eq_true rfl) (Nat.le_of_ble_eq_true rfl) rfl ?_
    refine V_aload_0 26 dX11_sumOfEvenings_26 ?_
    refine V_getR 27 (c := 11) 3 ((IV.f p27).r 0 3 27 rfl) dX11_sumOfEvenings_27 fl_RX11_31 ((IV.f p27).m 0 (Nat.le_of_ble_eq_true rfl)) ((IV.f p27).k 0 11 rfl) (Nat.le_of_ble_eq_true rfl) (Nat.le_of_ble_eq_true rfl) rfl ?_
    refine V_iload_4 30 dX11_sumOfEvenings_30 ?_
    refine V_iload_2 32 dX11_sumOfEvenings_32 ?_
    refine V_sipush 33 (200) dX11_sumOfEvenings_33 (by decide) ?_
    refine V_callV 36 (ci := 7) [.ref _, .int _, .int _, .int _] _ (s_playOut M.2.1 Γ S23 (suTr (IV.f p27)) (suTo (IV.f p27)) _ _ _) dX11_sumOfEvenings_36 cb_X7_playOut ml_RX11_225 im_yX7_playOut se_yX7_playOut ((IV.f p27).m 45 (Nat.le_of_ble_eq_true rfl)) ((IV.f p27).k 45 7 rfl) (Nat.le_of_ble_eq_true rfl) ⟨(Nat.le_of_ble_eq_true rfl), (Nat.le_of_ble_eq_true rfl)⟩ rfl rfl (Nat.le_of_ble_eq_true rfl) ⟨(Nat.le_of_ble_eq_true rfl), (Nat.le_of_ble_eq_true rfl)⟩ (RI.go (fun r30 S28 q29 => ?_))
    have h31 : FT [] [] S S28 := trivial
    have p32 : (IV Γ.2.2.2.2.1 h B L S28) := by exact IV.z p27 [46, 47, 48] [(45, 3), (45, 4)] q29 rfl rfl rfl rfl
    refine V_istore_5 39 dX11_sumOfEvenings_39 rfl (Nat.le_of_ble_eq_true rfl) ?_
    refine V_iload_3 41 dX11_sumOfEvenings_41 ?_
    refine V_aload_0 42 dX11_sumOfEvenings_42 ?_
    refine V_getR 43 (c := 11) 6 ((IV.f p32).r 0 6 45 rfl) dX11_sumOfEvenings_43 fl_RX11_46 ((IV.f p32).m 0 (Nat.le_of_ble_eq_true rfl)) ((IV.f p32).k 0 11 rfl) (Nat.le_of_ble_eq_true rfl) (Nat.le_of_ble_eq_true rfl) rfl ?_
    refine V_getR 46 (c := 7) 0 ((IV.f p32).r 45 0 46 rfl) dX11_sumOfEvenings_46 fl_RX11_131 ((IV.f p32).m 45 (Nat.le_of_ble_eq_true rfl)) ((IV.f p32).k 45 7 rfl) (Nat.le_of_ble_eq_true rfl) (Nat.le_of_ble_eq_true rfl) rfl ?_
    refine V_callS 49 [.ref _] _ (c_total M.2.1 Γ S28 (a := (h + 46)) ((IV.f p32).m 46 (Nat.le_of_ble_eq_true rfl)) ((IV.f p32).k 46 14 rfl) (by rw [((IV.f p32).l 46 8 rfl)]; decide)) dX11_sumOfEvenings_49 cb_X11_total ml_RX11_180 sm_yX11_total ⟨(Nat.le_of_ble_eq_true rfl), (Nat.le_of_ble_eq_true rfl)⟩ rfl rfl (Nat.le_of_ble_eq_true rfl) ⟨(Nat.le_of_ble_eq_true rfl), (Nat.le_of_ble_eq_true rfl)⟩ (RI.go (fun r35 S33 q34 => ?_))
    rw [q34.2]
    refine V_if_le 52 61 dX11_sumOfEvenings_52 (by decide) (fun c36 => ?_) (fun c36 => ?_)
    ·
      refine V_iload_5 61 dX11_sumOfEvenings_61 ?_
      refine V_lvw (by repeat (first | exact trivial | refine ⟨rfl, ?_⟩)) (J15 _ _ _ _ _ trivial p32 (by first | omega | assumption))
    ·
      refine V_sipush 55 (500) dX11_sumOfEvenings_55 (by decide) ?_
      refine V_goto 58 63 dX11_sumOfEvenings_58 (by decide) ?_
      refine V_lvw (by repeat (first | exact trivial | refine ⟨rfl, ?_⟩)) (J15 _ _ _ _ _ trivial p32 (by first | omega | assumption))
set_option maxRecDepth 100000 in
set_option maxHeartbeats 8000000 in
theorem s_soonest (l : Launch) (Γ : GC) (S : PS) {h B : Nat} {L : Int32} (I : IV Γ.2.2.2.2.1 h B L S) (x y : Int32) : CT l Γ yX11_soonest cX11_soonest 7 (some .int) (5) (0) (0) [.ref h, .int x, .int y] S (RI (fun r S' => IV Γ.2.2.2.2.1 h B L S')) := by
  refine CT.of RX11 "soonest" [some (.ref h), some (.int x), some (.int y), none, none, none, none] (by decide +kernel) rfl rfl (Nat.le_of_ble_eq_true rfl) rfl (fun M hM => ?_)
  subst hM
  have F := I.f
  have J3 : ∀ (S1 : PS) (x4 : Int32) (x5 : Int32) (x6 : Int32) (x7 : Int32), FT [] [] S S1 → (IV Γ.2.2.2.2.1 h B L S1) → V M Γ (7, RX11, "soonest", (some .int), RM (5) (0) (0)) cX11_soonest (RQ M Γ (RI (fun r S' => IV Γ.2.2.2.2.1 h B L S')) (0) (0)) 0 0 S1 80 [some (.ref h), some (.int x), some (.int y), some (.int x4), some (.int x5), some (.int x6), none] [.int x7] := by
    intro S1 x4 x5 x6 x7 h2 p8
    refine V_iret 80 .int dX11_soonest_80 rfl rfl (Nat.le_of_ble_eq_true rfl) (Nat.le_of_ble_eq_true rfl) (RI.mk p8)
  have J11 : ∀ (S9 : PS) , FT [] [] S S9 → (IV Γ.2.2.2.2.1 h B L S9) → V M Γ (7, RX11, "soonest", (some .int), RM (5) (0) (0)) cX11_soonest (RQ M Γ (RI (fun r S' => IV Γ.2.2.2.2.1 h B L S')) (0) (0)) 0 0 S9 20 [some (.ref h), some (.int x), some (.int y), none, none, none, none] [] := by
    intro S9  h10 p12
    refine V_iconst 20 (-1) dX11_soonest_20 (by decide) ?_
    refine V_iret 21 .int dX11_soonest_21 rfl rfl (Nat.le_of_ble_eq_true rfl) (Nat.le_of_ble_eq_true rfl) (RI.mk p12)
  refine V_iload_1 0 dX11_soonest_0 ?_
  refine V_iconst 1 (1) dX11_soonest_1 (by decide) ?_
  refine V_icmp_lt 2 20 dX11_soonest_2 (by decide) (fun c13 => ?_) (fun c13 => ?_)
  ·
    refine V_lvw (by repeat (first | exact trivial | refine ⟨rfl, ?_⟩)) (J11 _ trivial I)
  ·
    refine V_iload_1 5 dX11_soonest_5 ?_
    refine V_bipush 6 (30) dX11_soonest_6 (by decide) ?_
    refine V_icmp_gt 8 20 dX11_soonest_8 (by decide) (fun c15 => ?_) (fun c15 => ?_)
    ·
      refine V_lvw (by repeat (first | exact trivial | refine ⟨rfl, ?_⟩)) (J11 _ trivial I)
    ·
      refine V_iload_2 11 dX11_soonest_11 ?_
      refine V_if_lt 12 20 dX11_soonest_12 (by decide) (fun c17 => ?_) (fun c17 => ?_)
      ·
        refine V_lvw (by repeat (first | exact trivial | refine ⟨rfl, ?_⟩)) (J11 _ trivial I)
      ·
        refine V_iload_2 15 dX11_soonest_15 ?_
        refine V_iconst 16 (1) dX11_soonest_16 (by decide) ?_
        refine V_icmp_le 17 22 dX11_soonest_17 (by decide) (fun c19 => ?_) (fun c19 => ?_)
        ·
          refine V_iconst 22 (0) dX11_soonest_22 (by decide) ?_
          refine V_istore_3 23 dX11_soonest_23 rfl (Nat.le_of_ble_eq_true rfl) ?_
          refine V_aload_0 24 dX11_soonest_24 ?_
          refine V_iload_1 25 dX11_soonest_25 ?_
          refine V_iconst 26 (0) dX11_soonest_26 (by decide) ?_
          refine V_callV 27 (ci := 11) [.int _, .int _] _ (s_sumOfEvenings M.2.1 Γ S I _ _) dX11_soonest_27 cb_X11_sumOfEvenings ml_RX11_229 im_yX11_sumOfEvenings se_yX11_sumOfEvenings (F.m 0 (Nat.le_of_ble_eq_true rfl)) (F.k 0 11 rfl) (Nat.le_of_ble_eq_true rfl) ⟨(Nat.le_of_ble_eq_true rfl), (Nat.le_of_ble_eq_true rfl)⟩ rfl rfl (Nat.le_of_ble_eq_true rfl) ⟨(Nat.le_of_ble_eq_true rfl), (Nat.le_of_ble_eq_true rfl)⟩ (RI.go (fun r22 S20 q21 => ?_))
          have h23 : FT [] [] S S20 := trivial
          have p24 : (IV Γ.2.2.2.2.1 h B L S20) := by exact q21
          refine V_istore_4 30 dX11_soonest_30 rfl (Nat.le_of_ble_eq_true rfl) ?_
          refine V_iconst 32 (1) dX11_soonest_32 (by decide) ?_
          refine V_istore_5 33 dX11_soonest_33 rfl (Nat.le_of_ble_eq_true rfl) ?_
          refine V_lvw (by repeat (first | exact trivial | refine ⟨rfl, ?_⟩)) (V_while (α := Nat × PS × Int32 × Int32) (fun z25 => 4 - z25.1) (fun z25 => z25.1 ≤ 4 ∧ FT [] [] S z25.2.1 ∧ (IV Γ.2.2.2.2.1 h B L z25.2.1)) (fun z25 => z25.2.1) (fun z25 => [some (.ref h), some (.int x), some (.int y), some (.int z25.2.2.1), some (.int z25.2.2.2), some (.int (nI z25.1)), none]) (1, _, _, _) ⟨(by dsimp only; omega), trivial, p24⟩ (fun z25 hx33 ih30 => ?b34))
          obtain ⟨i26, S27, w31, w32⟩ := z25
          obtain ⟨hi28, h29, p36⟩ := hx33
          dsimp only at hi28 h29 p36 ih30 ⊢
          have J39 : ∀ (S37 : PS) (x40 : Int32) (x41 : Int32) (x42 : Int32), FT [] [] S S37 → (IV Γ.2.2.2.2.1 h B L S37) → i26 < 4 → V M Γ (7, RX11, "soonest", (some .int), RM (5) (0) (0)) cX11_soonest (RQ M Γ (RI (fun r S' => IV Γ.2.2.2.2.1 h B L S')) (0) (0)) 0 0 S37 64 [some (.ref h), some (.int x), some (.int y), some (.int x40), some (.int x41), some (.int (nI i26)), some (.int x42)] [] := by
            intro S37 x40 x41 x42 h38 p43 lt44
            refine V_iinc_5 64 (1) dX11_soonest_64 (by decide) rfl (Nat.le_of_ble_eq_true rfl) ?_
            refine V_goto 67 35 dX11_soonest_67 (by decide) ?_
            rw [← nI_succ]
            refine V_lvw (by repeat (first | exact trivial | refine ⟨rfl, ?_⟩)) (ih30 (i26 + 1, _, _, _) ⟨by dsimp only; omega, trivial, p43⟩ (by dsimp only; omega))
          refine V_iload_5 35 dX11_soonest_35 ?_
          refine V_iconst 37 (3) dX11_soonest_37 (by decide) ?_
          refine V_icmp_gt 38 70 dX11_soonest_38 (by decide) (fun c45 => ?_) (fun c45 => ?_)
          ·
            refine V_iload_2 70 dX11_soonest_70 ?_
            refine V_if_ne 71 78 dX11_soonest_71 (by decide) (fun c46 => ?_) (fun c46 => ?_)
            ·
              refine V_iload_4 78 dX11_soonest_78 ?_
              refine V_lvw (by repeat (first | exact trivial | refine ⟨rfl, ?_⟩)) (J3 _ _ _ _ _ trivial p36)
            ·
              refine V_iload_3 74 dX11_soonest_74 ?_
              refine V_goto 75 80 dX11_soonest_75 (by decide) ?_
              refine V_lvw (by repeat (first | exact trivial | refine ⟨rfl, ?_⟩)) (J3 _ _ _ _ _ trivial p36)
          ·
            have lt49 := nI_ltg (n := 3) (by decide) hi28 c45
            refine V_aload_0 41 dX11_soonest_41 ?_
            refine V_iload_1 42 dX11_soonest_42 ?_
            refine V_iload_5 43 dX11_soonest_43 ?_
            refine V_callV 45 (ci := 11) [.int _, .int _] _ (s_sumOfEvenings M.2.1 Γ S27 p36 _ _) dX11_soonest_45 cb_X11_sumOfEvenings ml_RX11_229 im_yX11_sumOfEvenings se_yX11_sumOfEvenings ((IV.f p36).m 0 (Nat.le_of_ble_eq_true rfl)) ((IV.f p36).k 0 11 rfl) (Nat.le_of_ble_eq_true rfl) ⟨(Nat.le_of_ble_eq_true rfl), (Nat.le_of_ble_eq_true rfl)⟩ rfl rfl (Nat.le_of_ble_eq_true rfl) ⟨(Nat.le_of_ble_eq_true rfl), (Nat.le_of_ble_eq_true rfl)⟩ (RI.go (fun r52 S50 q51 => ?_))
            have h53 : FT [] [] S S50 := trivial
            have p54 : (IV Γ.2.2.2.2.1 h B L S50) := by exact q51
            refine V_istore_6 48 dX11_soonest_48 rfl (Nat.le_of_ble_eq_true rfl) ?_
            refine V_iload_6 50 dX11_soonest_50 ?_
            refine V_iload_4 52 dX11_soonest_52 ?_
            refine V_icmp_ge 54 64 dX11_soonest_54 (by decide) (fun c55 => ?_) (fun c55 => ?_)
            ·
              refine V_lvw (by repeat (first | exact trivial | refine ⟨rfl, ?_⟩)) (J39 _ _ _ _ trivial p54 (by first | omega | assumption))
            ·
              refine V_iload_5 57 dX11_soonest_57 ?_
              refine V_istore_3 59 dX11_soonest_59 rfl (Nat.le_of_ble_eq_true rfl) ?_
              refine V_iload_6 60 dX11_soonest_60 ?_
              refine V_istore_4 62 dX11_soonest_62 rfl (Nat.le_of_ble_eq_true rfl) ?_
              refine V_lvw (by repeat (first | exact trivial | refine ⟨rfl, ?_⟩)) (J39 _ _ _ _ trivial p54 (by first | omega | assumption))
        ·
          refine V_lvw (by repeat (first | exact trivial | refine ⟨rfl, ?_⟩)) (J11 _ trivial I)
set_option maxRecDepth 100000 in
set_option maxHeartbeats 8000000 in
theorem s_line (l : Launch) (Γ : GC) (S : PS) {h B : Nat} {L : Int32} (I : IV Γ.2.2.2.2.1 h B L S) : CT l Γ yX11_line cX11_line 1 (some .int) (2) (0) (0) [.ref h] S (RI (fun r S' => IV Γ.2.2.2.2.1 h B L S')) := by
  refine CT.of RX11 "line" [some (.ref h)] (by decide +kernel) rfl rfl (Nat.le_of_ble_eq_true rfl) rfl (fun M hM => ?_)
  subst hM
  have F := I.f
  refine V_aload_0 0 dX11_line_0 ?_
  refine V_getR 1 (c := 11) 3 (F.r 0 3 27 rfl) dX11_line_1 fl_RX11_31 (F.m 0 (Nat.le_of_ble_eq_true rfl)) (F.k 0 11 rfl) (Nat.le_of_ble_eq_true rfl) (Nat.le_of_ble_eq_true rfl) rfl ?_
  refine V_iconst 4 (0) dX11_line_4 (by decide) ?_
  refine V_iconst 5 (0) dX11_line_5 (by decide) ?_
  refine V_callV 6 (ci := 10) [.int _, .int _] _ (s_X10_mostOut M.2.1 Γ S (suTo F) _ _) dX11_line_6 cb_X10_mostOut ml_RX11_232 im_yX10_mostOut se_yX10_mostOut (F.m 27 (Nat.le_of_ble_eq_true rfl)) (F.k 27 10 rfl) (Nat.le_of_ble_eq_true rfl) ⟨(Nat.le_of_ble_eq_true rfl), (Nat.le_of_ble_eq_true rfl)⟩ rfl rfl (Nat.le_of_ble_eq_true rfl) ⟨(Nat.le_of_ble_eq_true rfl), (Nat.le_of_ble_eq_true rfl)⟩ (RI.go (fun r3 S1 q2 => ?_))
  have h4 : FZ [h + 36] [] S S1 := (FZ.rf (X := [h + 36]) (Y := []) (S := S)).tr (q2.sub (by simp) (by simp))
  refine V_iret 9 .int dX11_line_9 rfl rfl (Nat.le_of_ble_eq_true rfl) (Nat.le_of_ble_eq_true rfl) (RI.mk (IV.z I [36] [] h4 rfl rfl rfl rfl))
set_option maxRecDepth 100000 in
set_option maxHeartbeats 8000000 in
theorem s_exchange (l : Launch) (Γ : GC) (S : PS) {h B : Nat} {L : Int32} (I : IV Γ.2.2.2.2.1 h B L S) (x : Int32) : CT l Γ yX11_exchange cX11_exchange 7 (some .int) (2) (0) (0) [.ref h, .int x] S (RI (fun r S' => IV Γ.2.2.2.2.1 h B L S')) := by
  refine CT.of RX11 "exchange" [some (.ref h), some (.int x), none, none, none, none, none] (by decide +kernel) rfl rfl (Nat.le_of_ble_eq_true rfl) rfl (fun M hM => ?_)
  subst hM
  have F := I.f
  have J3 : ∀ (S1 : PS) (x4 : Int32) (x5 : Int32) (x6 : Int32) (x7 : Int32), FZ [h + 36] [] S S1 → V M Γ (7, RX11, "exchange", (some .int), RM (2) (0) (0)) cX11_exchange (RQ M Γ (RI (fun r S' => IV Γ.2.2.2.2.1 h B L S')) (0) (0)) 0 0 S1 109 [some (.ref h), some (.int x), some (.int x4), some (.int x5), some (.int x6), none, none] [.int x7] := by
    intro S1 x4 x5 x6 x7 h2
    refine V_iret 109 .int dX11_exchange_109 rfl rfl (Nat.le_of_ble_eq_true rfl) (Nat.le_of_ble_eq_true rfl) (RI.mk (IV.z I [36] [] h2 rfl rfl rfl rfl))
  have J10 : ∀ (S8 : PS) , FZ [h + 36] [] S S8 → V M Γ (7, RX11, "exchange", (some .int), RM (2) (0) (0)) cX11_exchange (RQ M Γ (RI (fun r S' => IV Γ.2.2.2.2.1 h B L S')) (0) (0)) 0 0 S8 9 [some (.ref h), some (.int x), none, none, none, none, none] [] := by
    intro S8  h9
    refine V_iconst 9 (-1) dX11_exchange_9 (by decide) ?_
    refine V_iret 10 .int dX11_exchange_10 rfl rfl (Nat.le_of_ble_eq_true rfl) (Nat.le_of_ble_eq_true rfl) (RI.mk (IV.z I [36] [] h9 rfl rfl rfl rfl))
  refine V_iload_1 0 dX11_exchange_0 ?_
  refine V_if_lt 1 9 dX11_exchange_1 (by decide) (fun c11 => ?_) (fun c11 => ?_)
  ·
    refine V_lvw (by repeat (first | exact trivial | refine ⟨rfl, ?_⟩)) (J10 _ FZ.rf)
  ·
    refine V_iload_1 4 dX11_exchange_4 ?_
    refine V_iconst 5 (1) dX11_exchange_5 (by decide) ?_
    refine V_icmp_le 6 11 dX11_exchange_6 (by decide) (fun c13 => ?_) (fun c13 => ?_)
    ·
      refine V_aload_0 11 dX11_exchange_11 ?_
      refine V_getR 12 (c := 11) 3 (F.r 0 3 27 rfl) dX11_exchange_12 fl_RX11_31 (F.m 0 (Nat.le_of_ble_eq_true rfl)) (F.k 0 11 rfl) (Nat.le_of_ble_eq_true rfl) (Nat.le_of_ble_eq_true rfl) rfl ?_
      refine V_iconst 15 (0) dX11_exchange_15 (by decide) ?_
      refine V_iconst 16 (0) dX11_exchange_16 (by decide) ?_
      refine V_callV 17 (ci := 10) [.int _, .int _] _ (s_X10_mostOut M.2.1 Γ S (suTo F) _ _) dX11_exchange_17 cb_X10_mostOut ml_RX11_232 im_yX10_mostOut se_yX10_mostOut (F.m 27 (Nat.le_of_ble_eq_true rfl)) (F.k 27 10 rfl) (Nat.le_of_ble_eq_true rfl) ⟨(Nat.le_of_ble_eq_true rfl), (Nat.le_of_ble_eq_true rfl)⟩ rfl rfl (Nat.le_of_ble_eq_true rfl) ⟨(Nat.le_of_ble_eq_true rfl), (Nat.le_of_ble_eq_true rfl)⟩ (RI.go (fun r16 S14 q15 => ?_))
      have h17 : FZ [h + 36] [] S S14 := (FZ.rf (X := [h + 36]) (Y := []) (S := S)).tr (q15.sub (by simp) (by simp))
      refine V_istore_2 20 dX11_exchange_20 rfl (Nat.le_of_ble_eq_true rfl) ?_
      refine V_bipush 21 (-2) dX11_exchange_21 (by decide) ?_
      refine V_istore_3 23 dX11_exchange_23 rfl (Nat.le_of_ble_eq_true rfl) ?_
      refine V_iconst 24 (0) dX11_exchange_24 (by decide) ?_
      refine V_istore_4 25 dX11_exchange_25 rfl (Nat.le_of_ble_eq_true rfl) ?_
      refine V_lvw (by repeat (first | exact trivial | refine ⟨rfl, ?_⟩)) (V_while (α := Int32 × PS × Int32 × Int32) (fun z18 => ((sI S (h + 27) 13).toInt - z18.1.toInt).toNat) (fun z18 => FZ [h + 36] [] S z18.2.1) (fun z18 => z18.2.1) (fun z18 => [some (.ref h), some (.int x), some (.int z18.2.2.1), some (.int z18.2.2.2), some (.int z18.1), none, none]) (_, _, _, _) (h17) (fun z18 h22 ih23 => ?b27))
      obtain ⟨i19, S20, w24, w25⟩ := z18
      dsimp only at h22 ih23 ⊢
      refine V_iload_4 27 dX11_exchange_27 ?_
      refine V_aload_0 29 dX11_exchange_29 ?_
      refine V_getR 30 (c := 11) 3 ((F.ss h22.1).r 0 3 27 rfl) dX11_exchange_30 fl_RX11_31 ((F.ss h22.1).m 0 (Nat.le_of_ble_eq_true rfl)) ((F.ss h22.1).k 0 11 rfl) (Nat.le_of_ble_eq_true rfl) (Nat.le_of_ble_eq_true rfl) rfl ?_
      refine V_getI 33 (c := 10) 13 dX11_exchange_33 fl_RX11_235 ((F.ss h22.1).m 27 (Nat.le_of_ble_eq_true rfl)) ((F.ss h22.1).k 27 10 rfl) (Nat.le_of_ble_eq_true rfl) (Nat.le_of_ble_eq_true rfl) rfl ?_
      refine V_icmp_ge 36 100 dX11_exchange_36 (by decide) (fun c29 => ?_) (fun c29 => ?_)
      ·
        refine V_iload_1 100 dX11_exchange_100 ?_
        refine V_if_ne 101 108 dX11_exchange_101 (by decide) (fun c30 => ?_) (fun c30 => ?_)
        ·
          refine V_iload_2 108 dX11_exchange_108 ?_
          refine V_lvw (by repeat (first | exact trivial | refine ⟨rfl, ?_⟩)) (J3 _ _ _ _ _ h22)
        ·
          refine V_iload_3 104 dX11_exchange_104 ?_
          refine V_goto 105 109 dX11_exchange_105 (by decide) ?_
          refine V_lvw (by repeat (first | exact trivial | refine ⟨rfl, ?_⟩)) (J3 _ _ _ _ _ h22)
      ·
        refine V_iload_4 39 dX11_exchange_39 ?_
        refine V_iconst 41 (1) dX11_exchange_41 (by decide) ?_
        refine V_iadd 42 dX11_exchange_42 ?_
        refine V_istore_5 43 dX11_exchange_43 rfl (Nat.le_of_ble_eq_true rfl) ?_
        refine V_lvw (by repeat (first | exact trivial | refine ⟨rfl, ?_⟩)) (V_while (α := Int32 × PS × Int32 × Int32) (fun z33 => ((sI S (h + 27) 13).toInt - z33.1.toInt).toNat) (fun z33 => FZ [h + 36] [] S z33.2.1) (fun z33 => z33.2.1) (fun z33 => [some (.ref h), some (.int x), some (.int z33.2.2.1), some (.int z33.2.2.2), some (.int i19), some (.int z33.1), none]) (_, _, _, _) (h22) (fun z33 h37 ih38 => ?b42))
        obtain ⟨i34, S35, w39, w40⟩ := z33
        dsimp only at h37 ih38 ⊢
        have J46 : ∀ (S44 : PS) (x47 : Int32) (x48 : Int32) (x49 : Int32), FZ [h + 36] [] S S44 → ¬ sI S (h + 27) 13 ≤ i34 → V M Γ (7, RX11, "exchange", (some .int), RM (2) (0) (0)) cX11_exchange (RQ M Γ (RI (fun r S' => IV Γ.2.2.2.2.1 h B L S')) (0) (0)) 0 0 S44 88 [some (.ref h), some (.int x), some (.int x47), some (.int x48), some (.int i19), some (.int i34), some (.int x49)] [] := by
          intro S44 x47 x48 x49 h45 lt50
          refine V_iinc_5 88 (1) dX11_exchange_88 (by decide) rfl (Nat.le_of_ble_eq_true rfl) ?_
          refine V_goto 91 45 dX11_exchange_91 (by decide) ?_
          refine V_lvw (by repeat (first | exact trivial | refine ⟨rfl, ?_⟩)) (ih38 (_, _, _, _) (h45) (up32 (by first | assumption | (rw [← h37.2.2 (h + 27) 13 (by simp)]; assumption))))
        refine V_iload_5 45 dX11_exchange_45 ?_
        refine V_aload_0 47 dX11_exchange_47 ?_
        refine V_getR 48 (c := 11) 3 ((F.ss h37.1).r 0 3 27 rfl) dX11_exchange_48 fl_RX11_31 ((F.ss h37.1).m 0 (Nat.le_of_ble_eq_true rfl)) ((F.ss h37.1).k 0 11 rfl) (Nat.le_of_ble_eq_true rfl) (Nat.le_of_ble_eq_true rfl) rfl ?_
        refine V_getI 51 (c := 10) 13 dX11_exchange_51 fl_RX11_235 ((F.ss h37.1).m 27 (Nat.le_of_ble_eq_true rfl)) ((F.ss h37.1).k 27 10 rfl) (Nat.le_of_ble_eq_true rfl) (Nat.le_of_ble_eq_true rfl) rfl ?_
        refine V_icmp_ge 54 94 dX11_exchange_54 (by decide) (fun c51 => ?_) (fun c51 => ?_)
        ·
          refine V_iinc_4 94 (1) dX11_exchange_94 (by decide) rfl (Nat.le_of_ble_eq_true rfl) ?_
          refine V_goto 97 27 dX11_exchange_97 (by decide) ?_
          refine V_lvw (by repeat (first | exact trivial | refine ⟨rfl, ?_⟩)) (ih23 (_, _, _, _) (h37) (up32 (by first | assumption | (rw [← h22.2.2 (h + 27) 13 (by simp)]; assumption))))
        ·
          refine V_aload_0 57 dX11_exchange_57 ?_
          refine V_getR 58 (c := 11) 3 ((F.ss h37.1).r 0 3 27 rfl) dX11_exchange_58 fl_RX11_31 ((F.ss h37.1).m 0 (Nat.le_of_ble_eq_true rfl)) ((F.ss h37.1).k 0 11 rfl) (Nat.le_of_ble_eq_true rfl) (Nat.le_of_ble_eq_true rfl) rfl ?_
          refine V_iload_4 61 dX11_exchange_61 ?_
          refine V_iload_5 63 dX11_exchange_63 ?_
          refine V_callV 65 (ci := 10) [.int _, .int _] _ (s_X10_mostOut M.2.1 Γ S35 (suTo (F.ss h37.1)) _ _) dX11_exchange_65 cb_X10_mostOut ml_RX11_232 im_yX10_mostOut se_yX10_mostOut ((F.ss h37.1).m 27 (Nat.le_of_ble_eq_true rfl)) ((F.ss h37.1).k 27 10 rfl) (Nat.le_of_ble_eq_true rfl) ⟨(Nat.le_of_ble_eq_true rfl), (Nat.le_of_ble_eq_true rfl)⟩ rfl rfl (Nat.le_of_ble_eq_true rfl) ⟨(Nat.le_of_ble_eq_true rfl), (Nat.le_of_ble_eq_true rfl)⟩ (RI.go (fun r54 S52 q53 => ?_))
          have h55 : FZ [h + 36] [] S S52 := h37.tr (q53.sub (by simp) (by simp))
          refine V_istore_6 68 dX11_exchange_68 rfl (Nat.le_of_ble_eq_true rfl) ?_
          refine V_iload_6 70 dX11_exchange_70 ?_
          refine V_iload_2 72 dX11_exchange_72 ?_
          refine V_icmp_ge 73 88 dX11_exchange_73 (by decide) (fun c56 => ?_) (fun c56 => ?_)
          ·
            refine V_lvw (by repeat (first | exact trivial | refine ⟨rfl, ?_⟩)) (J46 _ _ _ _ h55 (by first | omega | assumption | (rw [← h37.2.2 (h + 27) 13 (by simp)]; assumption)))
          ·
            refine V_iload_6 76 dX11_exchange_76 ?_
            refine V_istore_2 78 dX11_exchange_78 rfl (Nat.le_of_ble_eq_true rfl) ?_
            refine V_bipush 79 (100) dX11_exchange_79 (by decide) ?_
            refine V_iload_4 81 dX11_exchange_81 ?_
            refine V_imul 83 dX11_exchange_83 ?_
            refine V_iload_5 84 dX11_exchange_84 ?_
            refine V_iadd 86 dX11_exchange_86 ?_
            refine V_istore_3 87 dX11_exchange_87 rfl (Nat.le_of_ble_eq_true rfl) ?_
            refine V_lvw (by repeat (first | exact trivial | refine ⟨rfl, ?_⟩)) (J46 _ _ _ _ h55 (by first | omega | assumption | (rw [← h37.2.2 (h + 27) 13 (by simp)]; assumption)))
    ·
      refine V_lvw (by repeat (first | exact trivial | refine ⟨rfl, ?_⟩)) (J10 _ FZ.rf)
set_option maxRecDepth 100000 in
set_option maxHeartbeats 8000000 in
theorem s_odd (l : Launch) (Γ : GC) (S : PS) {h B : Nat} {L : Int32} (I : IV Γ.2.2.2.2.1 h B L S) (x : Int32) : CT l Γ yX11_odd cX11_odd 2 (some .int) (6) (0) (0) [.ref h, .int x] S (RI (fun r S' => IV Γ.2.2.2.2.1 h B L S')) := by
  refine CT.of RX11 "odd" [some (.ref h), some (.int x)] (by decide +kernel) rfl rfl (Nat.le_of_ble_eq_true rfl) rfl (fun M hM => ?_)
  subst hM
  have F := I.f
  have J3 : ∀ (S1 : PS) (x4 : Int32), FZ [h + 64, h + 65, h + 66, h + 67] [(h + 63, 3), (h + 62, 2), (h + 62, 3)] S S1 → V M Γ (2, RX11, "odd", (some .int), RM (6) (0) (0)) cX11_odd (RQ M Γ (RI (fun r S' => IV Γ.2.2.2.2.1 h B L S')) (0) (0)) 0 0 S1 50 [some (.ref h), some (.int x)] [.int x4] := by
    intro S1 x4 h2
    refine V_iret 50 .int dX11_odd_50 rfl rfl (Nat.le_of_ble_eq_true rfl) (Nat.le_of_ble_eq_true rfl) (RI.mk (IV.z I [64, 65, 66, 67] [(63, 3), (62, 2), (62, 3)] h2 rfl rfl rfl rfl))
  have J7 : ∀ (S5 : PS) , FZ [h + 64, h + 65, h + 66, h + 67] [(h + 63, 3), (h + 62, 2), (h + 62, 3)] S S5 → V M Γ (2, RX11, "odd", (some .int), RM (6) (0) (0)) cX11_odd (RQ M Γ (RI (fun r S' => IV Γ.2.2.2.2.1 h B L S')) (0) (0)) 0 0 S5 9 [some (.ref h), some (.int x)] [] := by
    intro S5  h6
    refine V_iconst 9 (-1) dX11_odd_9 (by decide) ?_
    refine V_iret 10 .int dX11_odd_10 rfl rfl (Nat.le_of_ble_eq_true rfl) (Nat.le_of_ble_eq_true rfl) (RI.mk (IV.z I [64, 65, 66, 67] [(63, 3), (62, 2), (62, 3)] h6 rfl rfl rfl rfl))
  refine V_iload_1 0 dX11_odd_0 ?_
  refine V_if_lt 1 9 dX11_odd_1 (by decide) (fun c8 => ?_) (fun c8 => ?_)
  ·
    refine V_lvw (by repeat (first | exact trivial | refine ⟨rfl, ?_⟩)) (J7 _ FZ.rf)
  ·
    refine V_iload_1 4 dX11_odd_4 ?_
    refine V_iconst 5 (1) dX11_odd_5 (by decide) ?_
    refine V_icmp_le 6 11 dX11_odd_6 (by decide) (fun c10 => ?_) (fun c10 => ?_)
    ·
      refine V_aload_0 11 dX11_odd_11 ?_
      refine V_getR 12 (c := 11) 13 (F.r 0 13 62 rfl) dX11_odd_12 fl_RX11_70 (F.m 0 (Nat.le_of_ble_eq_true rfl)) (F.k 0 11 rfl) (Nat.le_of_ble_eq_true rfl) (Nat.le_of_ble_eq_true rfl) rfl ?_
      refine V_aload_0 15 dX11_odd_15 ?_
      refine V_getR 16 (c := 11) 5 (F.r 0 5 41 rfl) dX11_odd_16 fl_RX11_42 (F.m 0 (Nat.le_of_ble_eq_true rfl)) (F.k 0 11 rfl) (Nat.le_of_ble_eq_true rfl) (Nat.le_of_ble_eq_true rfl) rfl ?_
      refine V_getR 19 (c := 7) 1 (F.r 41 1 43 rfl) dX11_odd_19 fl_RX11_139 (F.m 41 (Nat.le_of_ble_eq_true rfl)) (F.k 41 7 rfl) (Nat.le_of_ble_eq_true rfl) (Nat.le_of_ble_eq_true rfl) rfl ?_
      refine V_aload_0 22 dX11_odd_22 ?_
      refine V_getR 23 (c := 11) 3 (F.r 0 3 27 rfl) dX11_odd_23 fl_RX11_31 (F.m 0 (Nat.le_of_ble_eq_true rfl)) (F.k 0 11 rfl) (Nat.le_of_ble_eq_true rfl) (Nat.le_of_ble_eq_true rfl) rfl ?_
      refine V_callV 26 (ci := 4) [.ref _, .ref _] _ (s_pairUp M.2.1 Γ S (suOd F) (F.m 43 (Nat.le_of_ble_eq_true rfl)) (F.k 43 14 rfl) (F.l 43 8 rfl) (suTo F)) dX11_odd_26 cb_X4_pairUp ml_RX11_238 im_yX4_pairUp se_yX4_pairUp (F.m 62 (Nat.le_of_ble_eq_true rfl)) (F.k 62 4 rfl) (Nat.le_of_ble_eq_true rfl) ⟨(Nat.le_of_ble_eq_true rfl), (Nat.le_of_ble_eq_true rfl)⟩ rfl rfl (Nat.le_of_ble_eq_true rfl) ⟨(Nat.le_of_ble_eq_true rfl), (Nat.le_of_ble_eq_true rfl)⟩ (RV.go (fun S11 q12 => ?_))
      have h14 : FZ [h + 64, h + 65, h + 66, h + 67] [(h + 63, 3), (h + 62, 2), (h + 62, 3)] S S11 := (FZ.rf (X := [h + 64, h + 65, h + 66, h + 67]) (Y := [(h + 63, 3), (h + 62, 2), (h + 62, 3)]) (S := S)).tr (q12.sub (by simp) (by simp))
      refine V_iload_1 29 dX11_odd_29 ?_
      refine V_if_ne 30 43 dX11_odd_30 (by decide) (fun c15 => ?_) (fun c15 => ?_)
      ·
        refine V_aload_0 43 dX11_odd_43 ?_
        refine V_getR 44 (c := 11) 13 ((F.ss h14.1).r 0 13 62 rfl) dX11_odd_44 fl_RX11_70 ((F.ss h14.1).m 0 (Nat.le_of_ble_eq_true rfl)) ((F.ss h14.1).k 0 11 rfl) (Nat.le_of_ble_eq_true rfl) (Nat.le_of_ble_eq_true rfl) rfl ?_
        refine V_getI 47 (c := 4) 3 dX11_odd_47 fl_RX11_245 ((F.ss h14.1).m 62 (Nat.le_of_ble_eq_true rfl)) ((F.ss h14.1).k 62 4 rfl) (Nat.le_of_ble_eq_true rfl) (Nat.le_of_ble_eq_true rfl) rfl ?_
        refine V_lvw (by repeat (first | exact trivial | refine ⟨rfl, ?_⟩)) (J3 _ _ h14)
      ·
        refine V_aload_0 33 dX11_odd_33 ?_
        refine V_getR 34 (c := 11) 13 ((F.ss h14.1).r 0 13 62 rfl) dX11_odd_34 fl_RX11_70 ((F.ss h14.1).m 0 (Nat.le_of_ble_eq_true rfl)) ((F.ss h14.1).k 0 11 rfl) (Nat.le_of_ble_eq_true rfl) (Nat.le_of_ble_eq_true rfl) rfl ?_
        refine V_getI 37 (c := 4) 2 dX11_odd_37 fl_RX11_242 ((F.ss h14.1).m 62 (Nat.le_of_ble_eq_true rfl)) ((F.ss h14.1).k 62 4 rfl) (Nat.le_of_ble_eq_true rfl) (Nat.le_of_ble_eq_true rfl) rfl ?_
        refine V_goto 40 50 dX11_odd_40 (by decide) ?_
        refine V_lvw (by repeat (first | exact trivial | refine ⟨rfl, ?_⟩)) (J3 _ _ h14)
    ·
      refine V_lvw (by repeat (first | exact trivial | refine ⟨rfl, ?_⟩)) (J7 _ FZ.rf)
set_option maxRecDepth 100000 in
set_option maxHeartbeats 8000000 in
theorem s_lost (l : Launch) (Γ : GC) (S : PS) {h B : Nat} {L : Int32} (I : IV Γ.2.2.2.2.1 h B L S) (hB : B * 16 < 2147483647) (x y z : Int32) : CT l Γ yX11_lost cX11_lost 4 (some .long) (4) (0) (0) [.ref h, .int x, .int y, .int z] S (RLg (fun r S' => IV Γ.2.2.2.2.1 h B L S')) := by
  refine CT.of RX11 "lost" [some (.ref h), some (.int x), some (.int y), some (.int z)] (by decide +kernel) rfl rfl (Nat.le_of_ble_eq_true rfl) rfl (fun M hM => ?_)
  subst hM
  have F := I.f
  have J3 : ∀ (S1 : PS) , FT [] [] S S1 → (IV Γ.2.2.2.2.1 h B L S1) → V M Γ (4, RX11, "lost", (some .long), RM (4) (0) (0)) cX11_lost (RQ M Γ (RLg (fun r S' => IV Γ.2.2.2.2.1 h B L S')) (0) (0)) 0 0 S1 30 [some (.ref h), some (.int x), some (.int y), some (.int z)] [] := by
    intro S1  h2 p4
    refine V_ldc2_w 30 dX11_lost_30 kL_RX11_205 ?_
    refine V_lret 33 dX11_lost_33 rfl (Nat.le_of_ble_eq_true rfl) (Nat.le_of_ble_eq_true rfl) (RLg.mk p4)
  refine V_iload_1 0 dX11_lost_0 ?_
  refine V_if_lt 1 30 dX11_lost_1 (by decide) (fun c5 => ?_) (fun c5 => ?_)
  ·
    refine V_lvw (by repeat (first | exact trivial | refine ⟨rfl, ?_⟩)) (J3 _ trivial I)
  ·
    refine V_iload_1 4 dX11_lost_4 ?_
    refine V_bipush 5 (18) dX11_lost_5 (by decide) ?_
    refine V_icmp_gt 7 30 dX11_lost_7 (by decide) (fun c7 => ?_) (fun c7 => ?_)
    ·
      refine V_lvw (by repeat (first | exact trivial | refine ⟨rfl, ?_⟩)) (J3 _ trivial I)
    ·
      refine V_iload_3 10 dX11_lost_10 ?_
      refine V_iconst 11 (1) dX11_lost_11 (by decide) ?_
      refine V_icmp_lt 12 30 dX11_lost_12 (by decide) (fun c9 => ?_) (fun c9 => ?_)
      ·
        refine V_lvw (by repeat (first | exact trivial | refine ⟨rfl, ?_⟩)) (J3 _ trivial I)
      ·
        refine V_iload_3 15 dX11_lost_15 ?_
        refine V_bipush 16 (9) dX11_lost_16 (by decide) ?_
        refine V_icmp_gt 18 30 dX11_lost_18 (by decide) (fun c11 => ?_) (fun c11 => ?_)
        ·
          refine V_lvw (by repeat (first | exact trivial | refine ⟨rfl, ?_⟩)) (J3 _ trivial I)
        ·
          refine V_iload_2 21 dX11_lost_21 ?_
          refine V_if_lt 22 30 dX11_lost_22 (by decide) (fun c13 => ?_) (fun c13 => ?_)
          ·
            refine V_lvw (by repeat (first | exact trivial | refine ⟨rfl, ?_⟩)) (J3 _ trivial I)
          ·
            refine V_iload_2 25 dX11_lost_25 ?_
            refine V_iload_3 26 dX11_lost_26 ?_
            refine V_icmp_le 27 34 dX11_lost_27 (by decide) (fun c15 => ?_) (fun c15 => ?_)
            ·
              refine V_aload_0 34 dX11_lost_34 ?_
              refine V_getR 35 (c := 11) 14 (F.r 0 14 68 rfl) dX11_lost_35 fl_RX11_77 (F.m 0 (Nat.le_of_ble_eq_true rfl)) (F.k 0 11 rfl) (Nat.le_of_ble_eq_true rfl) (Nat.le_of_ble_eq_true rfl) rfl ?_
              refine V_aload_0 38 dX11_lost_38 ?_
              refine V_getR 39 (c := 11) 5 (F.r 0 5 41 rfl) dX11_lost_39 fl_RX11_42 (F.m 0 (Nat.le_of_ble_eq_true rfl)) (F.k 0 11 rfl) (Nat.le_of_ble_eq_true rfl) (Nat.le_of_ble_eq_true rfl) rfl ?_
              refine V_aload_0 42 dX11_lost_42 ?_
              refine V_getR 43 (c := 11) 3 (F.r 0 3 27 rfl) dX11_lost_43 fl_RX11_31 (F.m 0 (Nat.le_of_ble_eq_true rfl)) (F.k 0 11 rfl) (Nat.le_of_ble_eq_true rfl) (Nat.le_of_ble_eq_true rfl) rfl ?_
              refine V_iload_1 46 dX11_lost_46 ?_
              refine V_iload_2 47 dX11_lost_47 ?_
              refine V_iload_3 48 dX11_lost_48 ?_
              refine V_callV 49 (ci := 3) [.ref _, .ref _, .int _, .int _, .int _] _ (s_waysWithout M.2.1 Γ S (suLo F) (IV.wl I) (suNo F) (suTo F) B (IV.now I) (by omega) _ _ _) dX11_lost_49 cb_X3_waysWithout ml_RX11_248 im_yX3_waysWithout se_yX3_waysWithout (F.m 68 (Nat.le_of_ble_eq_true rfl)) (F.k 68 3 rfl) (Nat.le_of_ble_eq_true rfl) ⟨(Nat.le_of_ble_eq_true rfl), (Nat.le_of_ble_eq_true rfl)⟩ rfl rfl (Nat.le_of_ble_eq_true rfl) ⟨(Nat.le_of_ble_eq_true rfl), (Nat.le_of_ble_eq_true rfl)⟩ (RLg.go (fun r18 S16 q17 => ?_))
              have h19 : FT [] [] S S16 := trivial
              have p20 : (IV Γ.2.2.2.2.1 h B L S16) := by exact IV.onLost I q17.1 q17.2.1 q17.2.2
              refine V_lret 52 dX11_lost_52 rfl (Nat.le_of_ble_eq_true rfl) (Nat.le_of_ble_eq_true rfl) (RLg.mk p20)
            ·
              refine V_lvw (by repeat (first | exact trivial | refine ⟨rfl, ?_⟩)) (J3 _ trivial I)
set_option maxRecDepth 100000 in
set_option maxHeartbeats 8000000 in
theorem s_years (l : Launch) (Γ : GC) (S : PS) {h B : Nat} {L : Int32} (I : IV Γ.2.2.2.2.1 h B L S) (x y : Int32) : CT l Γ yX11_years cX11_years 3 (some .int) (5) (0) (0) [.ref h, .int x, .int y] S (RI (fun r S' => IV Γ.2.2.2.2.1 h B L S')) := by
  refine CT.of RX11 "years" [some (.ref h), some (.int x), some (.int y)] (by decide +kernel) rfl rfl (Nat.le_of_ble_eq_true rfl) rfl (fun M hM => ?_)
  subst hM
  have F := I.f
  have J3 : ∀ (S1 : PS) (x4 : Int32), FT [] [] S S1 → (IV Γ.2.2.2.2.1 h B L S1) → V M Γ (3, RX11, "years", (some .int), RM (5) (0) (0)) cX11_years (RQ M Γ (RI (fun r S' => IV Γ.2.2.2.2.1 h B L S')) (0) (0)) 0 0 S1 125 [some (.ref h), some (.int x), some (.int y)] [.int x4] := by
    intro S1 x4 h2 p5
    refine V_iret 125 .int dX11_years_125 rfl rfl (Nat.le_of_ble_eq_true rfl) (Nat.le_of_ble_eq_true rfl) (RI.mk p5)
  have J8 : ∀ (S6 : PS) , FT [] [] S S6 → (IV Γ.2.2.2.2.1 h B L S6) → V M Γ (3, RX11, "years", (some .int), RM (5) (0) (0)) cX11_years (RQ M Γ (RI (fun r S' => IV Γ.2.2.2.2.1 h B L S')) (0) (0)) 0 0 S6 123 [some (.ref h), some (.int x), some (.int y)] [] := by
    intro S6  h7 p9
    refine V_bipush 123 (-2) dX11_years_123 (by decide) ?_
    refine V_lvw (by repeat (first | exact trivial | refine ⟨rfl, ?_⟩)) (J3 _ _ trivial p9)
  have J13 : ∀ (S11 : PS) , FT [] [] S S11 → (IV Γ.2.2.2.2.1 h B L S11) → V M Γ (3, RX11, "years", (some .int), RM (5) (0) (0)) cX11_years (RQ M Γ (RI (fun r S' => IV Γ.2.2.2.2.1 h B L S')) (0) (0)) 0 0 S11 21 [some (.ref h), some (.int x), some (.int y)] [] := by
    intro S11  h12 p14
    refine V_iconst 21 (-1) dX11_years_21 (by decide) ?_
    refine V_iret 22 .int dX11_years_22 rfl rfl (Nat.le_of_ble_eq_true rfl) (Nat.le_of_ble_eq_true rfl) (RI.mk p14)
  refine V_iload_1 0 dX11_years_0 ?_
  refine V_iconst 1 (1) dX11_years_1 (by decide) ?_
  refine V_icmp_lt 2 21 dX11_years_2 (by decide) (fun c15 => ?_) (fun c15 => ?_)
  ·
    refine V_lvw (by repeat (first | exact trivial | refine ⟨rfl, ?_⟩)) (J13 _ trivial I)
  ·
    refine V_iload_1 5 dX11_years_5 ?_
    refine V_sipush 6 (200) dX11_years_6 (by decide) ?_
    refine V_icmp_gt 9 21 dX11_years_9 (by decide) (fun c17 => ?_) (fun c17 => ?_)
    ·
      refine V_lvw (by repeat (first | exact trivial | refine ⟨rfl, ?_⟩)) (J13 _ trivial I)
    ·
      refine V_iload_2 12 dX11_years_12 ?_
      refine V_if_lt 13 21 dX11_years_13 (by decide) (fun c19 => ?_) (fun c19 => ?_)
      ·
        refine V_lvw (by repeat (first | exact trivial | refine ⟨rfl, ?_⟩)) (J13 _ trivial I)
      ·
        refine V_iload_2 16 dX11_years_16 ?_
        refine V_iconst 17 (2) dX11_years_17 (by decide) ?_
        refine V_icmp_le 18 23 dX11_years_18 (by decide) (fun c21 => ?_) (fun c21 => ?_)
        ·
          refine V_aload_0 23 dX11_years_23 ?_
          refine V_getR 24 (c := 11) 14 (F.r 0 14 68 rfl) dX11_years_24 fl_RX11_77 (F.m 0 (Nat.le_of_ble_eq_true rfl)) (F.k 0 11 rfl) (Nat.le_of_ble_eq_true rfl) (Nat.le_of_ble_eq_true rfl) rfl ?_
          refine V_aload_0 27 dX11_years_27 ?_
          refine V_getR 28 (c := 11) 3 (F.r 0 3 27 rfl) dX11_years_28 fl_RX11_31 (F.m 0 (Nat.le_of_ble_eq_true rfl)) (F.k 0 11 rfl) (Nat.le_of_ble_eq_true rfl) (Nat.le_of_ble_eq_true rfl) rfl ?_
          refine V_iload_1 31 dX11_years_31 ?_
          refine V_callV 32 (ci := 3) [.ref _, .int _] _ (s_liveUntilX M.2.1 Γ S (suLo F) (suTo F) (IV.wk I) _ (yr200 (by assumption) (by assumption))) dX11_years_32 cb_X3_liveUntil ml_RX11_252 im_yX3_liveUntil se_yX3_liveUntil (F.m 68 (Nat.le_of_ble_eq_true rfl)) (F.k 68 3 rfl) (Nat.le_of_ble_eq_true rfl) ⟨(Nat.le_of_ble_eq_true rfl), (Nat.le_of_ble_eq_true rfl)⟩ rfl rfl (Nat.le_of_ble_eq_true rfl) ⟨(Nat.le_of_ble_eq_true rfl), (Nat.le_of_ble_eq_true rfl)⟩ (RV.go (fun S22 q23 => ?_))
          have h25 : FT [] [] S S22 := trivial
          have p26 : (IV Γ.2.2.2.2.1 h B L S22) := by exact IV.onWeeks I q23.1 [71, 72, 73, 74, 75, 40] rfl rfl rfl q23.2
          refine V_iload_2 35 dX11_years_35 ?_
          refine V_teq (0) (fun e27 => ?_) (fun e27 => ?_)
          ·
            refine V_lookup 36 64 (off := 28) dX11_years_36 (by decide) (by rw [e27]; decide) (by decide) ?_
            refine V_aload_0 64 dX11_years_64 ?_
            refine V_getR 65 (c := 11) 14 ((IV.f p26).r 0 14 68 rfl) dX11_years_65 fl_RX11_77 ((IV.f p26).m 0 (Nat.le_of_ble_eq_true rfl)) ((IV.f p26).k 0 11 rfl) (Nat.le_of_ble_eq_true rfl) (Nat.le_of_ble_eq_true rfl) rfl ?_
            refine V_getR 68 (c := 3) 7 ((IV.f p26).r 68 7 74 rfl) dX11_years_68 fl_RX11_256 ((IV.f p26).m 68 (Nat.le_of_ble_eq_true rfl)) ((IV.f p26).k 68 3 rfl) (Nat.le_of_ble_eq_true rfl) (Nat.le_of_ble_eq_true rfl) rfl ?_
            refine V_iload_1 71 dX11_years_71 ?_
            refine V_iconst 72 (1) dX11_years_72 (by decide) ?_
            refine V_isub 73 dX11_years_73 ?_
            refine V_callS 74 [.ref _, .int _] _ (c_at M.2.1 Γ S22 (a := (h + 74)) ((IV.f p26).m 74 (Nat.le_of_ble_eq_true rfl)) ((IV.f p26).k 74 14 rfl) (by rw [((IV.f p26).l 74 200 rfl)]; decide) _) dX11_years_74 cb_X11_at ml_RX11_135 sm_yX11_at ⟨(Nat.le_of_ble_eq_true rfl), (Nat.le_of_ble_eq_true rfl)⟩ rfl rfl (Nat.le_of_ble_eq_true rfl) ⟨(Nat.le_of_ble_eq_true rfl), (Nat.le_of_ble_eq_true rfl)⟩ (RI.go (fun r30 S28 q29 => ?_))
            rw [q29.2]
            refine V_iret 77 .int dX11_years_77 rfl rfl (Nat.le_of_ble_eq_true rfl) (Nat.le_of_ble_eq_true rfl) (RI.mk p26)
          refine V_teq (1) (fun e31 => ?_) (fun e31 => ?_)
          ·
            refine V_lookup 36 78 (off := 42) dX11_years_36 (by decide) (by rw [e31]; decide) (by decide) ?_
            refine V_aload_0 78 dX11_years_78 ?_
            refine V_getR 79 (c := 11) 14 ((IV.f p26).r 0 14 68 rfl) dX11_years_79 fl_RX11_77 ((IV.f p26).m 0 (Nat.le_of_ble_eq_true rfl)) ((IV.f p26).k 0 11 rfl) (Nat.le_of_ble_eq_true rfl) (Nat.le_of_ble_eq_true rfl) rfl ?_
            refine V_getR 82 (c := 3) 8 ((IV.f p26).r 68 8 75 rfl) dX11_years_82 fl_RX11_259 ((IV.f p26).m 68 (Nat.le_of_ble_eq_true rfl)) ((IV.f p26).k 68 3 rfl) (Nat.le_of_ble_eq_true rfl) (Nat.le_of_ble_eq_true rfl) rfl ?_
            refine V_iload_1 85 dX11_years_85 ?_
            refine V_iconst 86 (1) dX11_years_86 (by decide) ?_
            refine V_isub 87 dX11_years_87 ?_
            refine V_callS 88 [.ref _, .int _] _ (c_at M.2.1 Γ S22 (a := (h + 75)) ((IV.f p26).m 75 (Nat.le_of_ble_eq_true rfl)) ((IV.f p26).k 75 14 rfl) (by rw [((IV.f p26).l 75 200 rfl)]; decide) _) dX11_years_88 cb_X11_at ml_RX11_135 sm_yX11_at ⟨(Nat.le_of_ble_eq_true rfl), (Nat.le_of_ble_eq_true rfl)⟩ rfl rfl (Nat.le_of_ble_eq_true rfl) ⟨(Nat.le_of_ble_eq_true rfl), (Nat.le_of_ble_eq_true rfl)⟩ (RI.go (fun r34 S32 q33 => ?_))
            rw [q33.2]
            refine V_iret 91 .int dX11_years_91 rfl rfl (Nat.le_of_ble_eq_true rfl) (Nat.le_of_ble_eq_true rfl) (RI.mk p26)
          refine V_lookup 36 92 (off := 56) dX11_years_36 (by decide) (by simp [Op.lookupswitch.offset, Ne.symm e27, Ne.symm e31]) (by decide) ?_
          refine V_aload_0 92 dX11_years_92 ?_
          refine V_getR 93 (c := 11) 14 ((IV.f p26).r 0 14 68 rfl) dX11_years_93 fl_RX11_77 ((IV.f p26).m 0 (Nat.le_of_ble_eq_true rfl)) ((IV.f p26).k 0 11 rfl) (Nat.le_of_ble_eq_true rfl) (Nat.le_of_ble_eq_true rfl) rfl ?_
          refine V_getI 96 (c := 3) 6 dX11_years_96 fl_RX11_262 ((IV.f p26).m 68 (Nat.le_of_ble_eq_true rfl)) ((IV.f p26).k 68 3 rfl) (Nat.le_of_ble_eq_true rfl) (Nat.le_of_ble_eq_true rfl) rfl ?_
          refine V_if_lt 99 123 dX11_years_99 (by decide) (fun c35 => ?_) (fun c35 => ?_)
          ·
            refine V_lvw (by repeat (first | exact trivial | refine ⟨rfl, ?_⟩)) (J8 _ trivial p26)
          ·
            refine V_aload_0 102 dX11_years_102 ?_
            refine V_getR 103 (c := 11) 14 ((IV.f p26).r 0 14 68 rfl) dX11_years_103 fl_RX11_77 ((IV.f p26).m 0 (Nat.le_of_ble_eq_true rfl)) ((IV.f p26).k 0 11 rfl) (Nat.le_of_ble_eq_true rfl) (Nat.le_of_ble_eq_true rfl) rfl ?_
            refine V_getI 106 (c := 3) 6 dX11_years_106 fl_RX11_262 ((IV.f p26).m 68 (Nat.le_of_ble_eq_true rfl)) ((IV.f p26).k 68 3 rfl) (Nat.le_of_ble_eq_true rfl) (Nat.le_of_ble_eq_true rfl) rfl ?_
            refine V_iload_1 109 dX11_years_109 ?_
            refine V_icmp_ge 110 123 dX11_years_110 (by decide) (fun c37 => ?_) (fun c37 => ?_)
            ·
              refine V_lvw (by repeat (first | exact trivial | refine ⟨rfl, ?_⟩)) (J8 _ trivial p26)
            ·
              refine V_aload_0 113 dX11_years_113 ?_
              refine V_getR 114 (c := 11) 14 ((IV.f p26).r 0 14 68 rfl) dX11_years_114 fl_RX11_77 ((IV.f p26).m 0 (Nat.le_of_ble_eq_true rfl)) ((IV.f p26).k 0 11 rfl) (Nat.le_of_ble_eq_true rfl) (Nat.le_of_ble_eq_true rfl) rfl ?_
              refine V_getI 117 (c := 3) 6 dX11_years_117 fl_RX11_262 ((IV.f p26).m 68 (Nat.le_of_ble_eq_true rfl)) ((IV.f p26).k 68 3 rfl) (Nat.le_of_ble_eq_true rfl) (Nat.le_of_ble_eq_true rfl) rfl ?_
              refine V_goto 120 125 dX11_years_120 (by decide) ?_
              refine V_lvw (by repeat (first | exact trivial | refine ⟨rfl, ?_⟩)) (J3 _ _ trivial p26)
        ·
          refine V_lvw (by repeat (first | exact trivial | refine ⟨rfl, ?_⟩)) (J13 _ trivial I)
set_option maxRecDepth 100000 in
set_option maxHeartbeats 8000000 in
theorem s_see (l : Launch) (Γ : GC) (S : PS) {h B : Nat} {L : Int32} (I : IV Γ.2.2.2.2.1 h B L S) (x y : Int32) : CT l Γ yX11_see cX11_see 3 (some .int) (2) (0) (0) [.ref h, .int x, .int y] S (RI (fun r S' => IV Γ.2.2.2.2.1 h B L S')) := by
  refine CT.of RX11 "see" [some (.ref h), some (.int x), some (.int y)] (by decide +kernel) rfl rfl (Nat.le_of_ble_eq_true rfl) rfl (fun M hM => ?_)
  subst hM
  have F := I.f
  have J3 : ∀ (S1 : PS) , FZ [h + 77, h + 78] [(h + 76, 2)] S S1 → V M Γ (3, RX11, "see", (some .int), RM (2) (0) (0)) cX11_see (RQ M Γ (RI (fun r S' => IV Γ.2.2.2.2.1 h B L S')) (0) (0)) 0 0 S1 18 [some (.ref h), some (.int x), some (.int y)] [] := by
    intro S1  h2
    refine V_iconst 18 (-1) dX11_see_18 (by decide) ?_
    refine V_iret 19 .int dX11_see_19 rfl rfl (Nat.le_of_ble_eq_true rfl) (Nat.le_of_ble_eq_true rfl) (RI.mk (IV.z I [77, 78] [(76, 2)] h2 rfl rfl rfl rfl))
  refine V_aload_0 0 dX11_see_0 ?_
  refine V_iload_1 1 dX11_see_1 ?_
  refine V_callV 2 (ci := 11) [.int _] _ (s_isKind M.2.1 Γ S F _) dX11_see_2 cb_X11_isKind ml_RX11_127 im_yX11_isKind se_yX11_isKind (F.m 0 (Nat.le_of_ble_eq_true rfl)) (F.k 0 11 rfl) (Nat.le_of_ble_eq_true rfl) ⟨(Nat.le_of_ble_eq_true rfl), (Nat.le_of_ble_eq_true rfl)⟩ rfl rfl (Nat.le_of_ble_eq_true rfl) ⟨(Nat.le_of_ble_eq_true rfl), (Nat.le_of_ble_eq_true rfl)⟩ (RI.go (fun r6 S4 q5 => ?_))
  rw [q5.2]
  refine V_if_eq 5 18 dX11_see_5 (by decide) (fun c7 => ?_) (fun c7 => ?_)
  ·
    refine V_lvw (by repeat (first | exact trivial | refine ⟨rfl, ?_⟩)) (J3 _ FZ.rf)
  ·
    refine V_iload_2 8 dX11_see_8 ?_
    refine V_if_lt 9 18 dX11_see_9 (by decide) (fun c9 => ?_) (fun c9 => ?_)
    ·
      refine V_lvw (by repeat (first | exact trivial | refine ⟨rfl, ?_⟩)) (J3 _ FZ.rf)
    ·
      refine V_iload_2 12 dX11_see_12 ?_
      refine V_bipush 13 (18) dX11_see_13 (by decide) ?_
      refine V_icmp_le 15 20 dX11_see_15 (by decide) (fun c11 => ?_) (fun c11 => ?_)
      ·
        refine V_aload_0 20 dX11_see_20 ?_
        refine V_getR 21 (c := 11) 15 (F.r 0 15 76 rfl) dX11_see_21 fl_RX11_84 (F.m 0 (Nat.le_of_ble_eq_true rfl)) (F.k 0 11 rfl) (Nat.le_of_ble_eq_true rfl) (Nat.le_of_ble_eq_true rfl) rfl ?_
        refine V_iload_1 24 dX11_see_24 ?_
        refine V_iload_2 25 dX11_see_25 ?_
        refine V_callV 26 (ci := 6) [.int _, .int _] _ (s_note M.2.1 Γ S (suSe F) _ _) dX11_see_26 cb_X6_note ml_RX11_265 im_yX6_note se_yX6_note (F.m 76 (Nat.le_of_ble_eq_true rfl)) (F.k 76 6 rfl) (Nat.le_of_ble_eq_true rfl) ⟨(Nat.le_of_ble_eq_true rfl), (Nat.le_of_ble_eq_true rfl)⟩ rfl rfl (Nat.le_of_ble_eq_true rfl) ⟨(Nat.le_of_ble_eq_true rfl), (Nat.le_of_ble_eq_true rfl)⟩ (RI.go (fun r14 S12 q13 => ?_))
        have h15 : FZ [h + 77, h + 78] [(h + 76, 2)] S S12 := (FZ.rf (X := [h + 77, h + 78]) (Y := [(h + 76, 2)]) (S := S)).tr (q13.sub (by simp) (by simp))
        refine V_iret 29 .int dX11_see_29 rfl rfl (Nat.le_of_ble_eq_true rfl) (Nat.le_of_ble_eq_true rfl) (RI.mk (IV.z I [77, 78] [(76, 2)] h15 rfl rfl rfl rfl))
      ·
        refine V_lvw (by repeat (first | exact trivial | refine ⟨rfl, ?_⟩)) (J3 _ FZ.rf)
set_option maxRecDepth 100000 in
set_option maxHeartbeats 8000000 in
theorem s_forgetIt (l : Launch) (Γ : GC) (S : PS) {h B : Nat} {L : Int32} (I : IV Γ.2.2.2.2.1 h B L S) : CT l Γ yX11_forget cX11_forget 2 (some .int) (1) (0) (0) [.ref h] S (RI (fun r S' => IV Γ.2.2.2.2.1 h B L S')) := by
  refine CT.of RX11 "forget" [some (.ref h), none] (by decide +kernel) rfl rfl (Nat.le_of_ble_eq_true rfl) rfl (fun M hM => ?_)
  subst hM
  have F := I.f
  refine V_aload_0 0 dX11_forget_0 ?_
  refine V_getR 1 (c := 11) 15 (F.r 0 15 76 rfl) dX11_forget_1 fl_RX11_84 (F.m 0 (Nat.le_of_ble_eq_true rfl)) (F.k 0 11 rfl) (Nat.le_of_ble_eq_true rfl) (Nat.le_of_ble_eq_true rfl) rfl ?_
  refine V_getI 4 (c := 6) 2 dX11_forget_4 fl_RX11_268 (F.m 76 (Nat.le_of_ble_eq_true rfl)) (F.k 76 6 rfl) (Nat.le_of_ble_eq_true rfl) (Nat.le_of_ble_eq_true rfl) rfl ?_
  refine V_istore_1 7 dX11_forget_7 rfl (Nat.le_of_ble_eq_true rfl) ?_
  refine V_aload_0 8 dX11_forget_8 ?_
  refine V_getR 9 (c := 11) 15 (F.r 0 15 76 rfl) dX11_forget_9 fl_RX11_84 (F.m 0 (Nat.le_of_ble_eq_true rfl)) (F.k 0 11 rfl) (Nat.le_of_ble_eq_true rfl) (Nat.le_of_ble_eq_true rfl) rfl ?_
  refine V_iconst 12 (0) dX11_forget_12 (by decide) ?_
  refine V_putI 13 (c := 6) 2 dX11_forget_13 fl_RX11_268 (F.m 76 (Nat.le_of_ble_eq_true rfl)) (F.k 76 6 rfl) (Nat.le_of_ble_eq_true rfl) (Nat.le_of_ble_eq_true rfl) rfl (Or.inl rfl) ?_
  refine V_abs (FZ [] [(h + 76, 2)] S) ((FZ.rf (X := []) (Y := [(h + 76, 2)]) (S := S)).uI (by simp)) (fun S1 h2 => ?_)
  refine V_iload_1 16 dX11_forget_16 ?_
  refine V_iret 17 .int dX11_forget_17 rfl rfl (Nat.le_of_ble_eq_true rfl) (Nat.le_of_ble_eq_true rfl) (RI.mk (IV.z I [] [(76, 2)] h2 rfl rfl rfl rfl))
set_option maxRecDepth 100000 in
set_option maxHeartbeats 8000000 in
theorem s_rows (l : Launch) (Γ : GC) (S : PS) {h B : Nat} {L : Int32} (I : IV Γ.2.2.2.2.1 h B L S) (x y : Int32) : CT l Γ yX11_rows cX11_rows 3 (some .long) (4) (0) (0) [.ref h, .int x, .int y] S (RLg (fun r S' => IV Γ.2.2.2.2.1 h B L S')) := by
  refine CT.of RX11 "rows" [some (.ref h), some (.int x), some (.int y)] (by decide +kernel) rfl rfl (Nat.le_of_ble_eq_true rfl) rfl (fun M hM => ?_)
  subst hM
  have F := I.f
  have J3 : ∀ (S1 : PS) , FT [] [] S S1 → (IV Γ.2.2.2.2.1 h B L S1) → V M Γ (3, RX11, "rows", (some .long), RM (4) (0) (0)) cX11_rows (RQ M Γ (RLg (fun r S' => IV Γ.2.2.2.2.1 h B L S')) (0) (0)) 0 0 S1 25 [some (.ref h), some (.int x), some (.int y)] [] := by
    intro S1  h2 p4
    refine V_ldc2_w 25 dX11_rows_25 kL_RX11_205 ?_
    refine V_lret 28 dX11_rows_28 rfl (Nat.le_of_ble_eq_true rfl) (Nat.le_of_ble_eq_true rfl) (RLg.mk p4)
  refine V_iload_1 0 dX11_rows_0 ?_
  refine V_if_lt 1 25 dX11_rows_1 (by decide) (fun c5 => ?_) (fun c5 => ?_)
  ·
    refine V_lvw (by repeat (first | exact trivial | refine ⟨rfl, ?_⟩)) (J3 _ trivial I)
  ·
    refine V_iload_1 4 dX11_rows_4 ?_
    refine V_aload_0 5 dX11_rows_5 ?_
    refine V_getR 6 (c := 11) 15 (F.r 0 15 76 rfl) dX11_rows_6 fl_RX11_84 (F.m 0 (Nat.le_of_ble_eq_true rfl)) (F.k 0 11 rfl) (Nat.le_of_ble_eq_true rfl) (Nat.le_of_ble_eq_true rfl) rfl ?_
    refine V_getI 9 (c := 6) 2 dX11_rows_9 fl_RX11_268 (F.m 76 (Nat.le_of_ble_eq_true rfl)) (F.k 76 6 rfl) (Nat.le_of_ble_eq_true rfl) (Nat.le_of_ble_eq_true rfl) rfl ?_
    refine V_icmp_gt 12 25 dX11_rows_12 (by decide) (fun c7 => ?_) (fun c7 => ?_)
    ·
      refine V_lvw (by repeat (first | exact trivial | refine ⟨rfl, ?_⟩)) (J3 _ trivial I)
    ·
      refine V_iload_2 15 dX11_rows_15 ?_
      refine V_if_lt 16 25 dX11_rows_16 (by decide) (fun c9 => ?_) (fun c9 => ?_)
      ·
        refine V_lvw (by repeat (first | exact trivial | refine ⟨rfl, ?_⟩)) (J3 _ trivial I)
      ·
        refine V_iload_2 19 dX11_rows_19 ?_
        refine V_bipush 20 (18) dX11_rows_20 (by decide) ?_
        refine V_icmp_le 22 29 dX11_rows_22 (by decide) (fun c11 => ?_) (fun c11 => ?_)
        ·
          refine V_aload_0 29 dX11_rows_29 ?_
          refine V_getR 30 (c := 11) 15 (F.r 0 15 76 rfl) dX11_rows_30 fl_RX11_84 (F.m 0 (Nat.le_of_ble_eq_true rfl)) (F.k 0 11 rfl) (Nat.le_of_ble_eq_true rfl) (Nat.le_of_ble_eq_true rfl) rfl ?_
          refine V_aload_0 33 dX11_rows_33 ?_
          refine V_getR 34 (c := 11) 3 (F.r 0 3 27 rfl) dX11_rows_34 fl_RX11_31 (F.m 0 (Nat.le_of_ble_eq_true rfl)) (F.k 0 11 rfl) (Nat.le_of_ble_eq_true rfl) (Nat.le_of_ble_eq_true rfl) rfl ?_
          refine V_iload_1 37 dX11_rows_37 ?_
          refine V_iload_2 38 dX11_rows_38 ?_
          refine V_iconst 39 (-1) dX11_rows_39 (by decide) ?_
          refine V_iconst 40 (0) dX11_rows_40 (by decide) ?_
          refine V_callV 41 (ci := 6) [.ref _, .int _, .int _, .int _, .int _] _ (s_countRows M.2.1 Γ S (suSe F) (IV.ws I) (suTo F) (IV.num I) _ _ _ _) dX11_rows_41 cb_X6_countRows ml_RX11_271 im_yX6_countRows se_yX6_countRows (F.m 76 (Nat.le_of_ble_eq_true rfl)) (F.k 76 6 rfl) (Nat.le_of_ble_eq_true rfl) ⟨(Nat.le_of_ble_eq_true rfl), (Nat.le_of_ble_eq_true rfl)⟩ rfl rfl (Nat.le_of_ble_eq_true rfl) ⟨(Nat.le_of_ble_eq_true rfl), (Nat.le_of_ble_eq_true rfl)⟩ (RLg.go (fun r14 S12 q13 => ?_))
          have h15 : FT [] [] S S12 := trivial
          have p16 : (IV Γ.2.2.2.2.1 h B L S12) := by exact IV.onSeen I q13.1 q13.2.1 q13.2.2
          refine V_lret 44 dX11_rows_44 rfl (Nat.le_of_ble_eq_true rfl) (Nat.le_of_ble_eq_true rfl) (RLg.mk p16)
        ·
          refine V_lvw (by repeat (first | exact trivial | refine ⟨rfl, ?_⟩)) (J3 _ trivial I)
set_option maxRecDepth 100000 in
set_option maxHeartbeats 8000000 in
theorem s_span (l : Launch) (Γ : GC) (S : PS) {h B : Nat} {L : Int32} (I : IV Γ.2.2.2.2.1 h B L S) (x y z : Int32) : CT l Γ yX11_span cX11_span 7 (some .int) (4) (0) (0) [.ref h, .int x, .int y, .int z] S (RI (fun r S' => IV Γ.2.2.2.2.1 h B L S')) := by
  refine CT.of RX11 "span" [some (.ref h), some (.int x), some (.int y), some (.int z), none, none, none] (by decide +kernel) rfl rfl (Nat.le_of_ble_eq_true rfl) rfl (fun M hM => ?_)
  subst hM
  have F := I.f
  have J3 : ∀ (S1 : PS) (x4 : Int32) (x5 : Int32) (x6 : Int32) (x7 : Int32), FT [] [] S S1 → (IV Γ.2.2.2.2.1 h B L S1) → V M Γ (7, RX11, "span", (some .int), RM (4) (0) (0)) cX11_span (RQ M Γ (RI (fun r S' => IV Γ.2.2.2.2.1 h B L S')) (0) (0)) 0 0 S1 116 [some (.ref h), some (.int x), some (.int y), some (.int z), some (.int x4), some (.int x5), some (.int x6)] [.int x7] := by
    intro S1 x4 x5 x6 x7 h2 p8
    refine V_iret 116 .int dX11_span_116 rfl rfl (Nat.le_of_ble_eq_true rfl) (Nat.le_of_ble_eq_true rfl) (RI.mk p8)
  have J11 : ∀ (S9 : PS) , FT [] [] S S9 → (IV Γ.2.2.2.2.1 h B L S9) → V M Γ (7, RX11, "span", (some .int), RM (4) (0) (0)) cX11_span (RQ M Γ (RI (fun r S' => IV Γ.2.2.2.2.1 h B L S')) (0) (0)) 0 0 S9 33 [some (.ref h), some (.int x), some (.int y), some (.int z), none, none, none] [] := by
    intro S9  h10 p12
    refine V_iconst 33 (-1) dX11_span_33 (by decide) ?_
    refine V_iret 34 .int dX11_span_34 rfl rfl (Nat.le_of_ble_eq_true rfl) (Nat.le_of_ble_eq_true rfl) (RI.mk p12)
  refine V_iload_1 0 dX11_span_0 ?_
  refine V_if_lt 1 33 dX11_span_1 (by decide) (fun c13 => ?_) (fun c13 => ?_)
  ·
    refine V_lvw (by repeat (first | exact trivial | refine ⟨rfl, ?_⟩)) (J11 _ trivial I)
  ·
    refine V_iload_1 4 dX11_span_4 ?_
    refine V_aload_0 5 dX11_span_5 ?_
    refine V_getR 6 (c := 11) 15 (F.r 0 15 76 rfl) dX11_span_6 fl_RX11_84 (F.m 0 (Nat.le_of_ble_eq_true rfl)) (F.k 0 11 rfl) (Nat.le_of_ble_eq_true rfl) (Nat.le_of_ble_eq_true rfl) rfl ?_
    refine V_getI 9 (c := 6) 2 dX11_span_9 fl_RX11_268 (F.m 76 (Nat.le_of_ble_eq_true rfl)) (F.k 76 6 rfl) (Nat.le_of_ble_eq_true rfl) (Nat.le_of_ble_eq_true rfl) rfl ?_
    refine V_icmp_gt 12 33 dX11_span_12 (by decide) (fun c15 => ?_) (fun c15 => ?_)
    ·
      refine V_lvw (by repeat (first | exact trivial | refine ⟨rfl, ?_⟩)) (J11 _ trivial I)
    ·
      refine V_iload_2 15 dX11_span_15 ?_
      refine V_if_lt 16 33 dX11_span_16 (by decide) (fun c17 => ?_) (fun c17 => ?_)
      ·
        refine V_lvw (by repeat (first | exact trivial | refine ⟨rfl, ?_⟩)) (J11 _ trivial I)
      ·
        refine V_iload_2 19 dX11_span_19 ?_
        refine V_bipush 20 (18) dX11_span_20 (by decide) ?_
        refine V_icmp_gt 22 33 dX11_span_22 (by decide) (fun c19 => ?_) (fun c19 => ?_)
        ·
          refine V_lvw (by repeat (first | exact trivial | refine ⟨rfl, ?_⟩)) (J11 _ trivial I)
        ·
          refine V_aload_0 25 dX11_span_25 ?_
          refine V_iload_3 26 dX11_span_26 ?_
          refine V_callV 27 (ci := 11) [.int _] _ (s_isKind M.2.1 Γ S F _) dX11_span_27 cb_X11_isKind ml_RX11_127 im_yX11_isKind se_yX11_isKind (F.m 0 (Nat.le_of_ble_eq_true rfl)) (F.k 0 11 rfl) (Nat.le_of_ble_eq_true rfl) ⟨(Nat.le_of_ble_eq_true rfl), (Nat.le_of_ble_eq_true rfl)⟩ rfl rfl (Nat.le_of_ble_eq_true rfl) ⟨(Nat.le_of_ble_eq_true rfl), (Nat.le_of_ble_eq_true rfl)⟩ (RI.go (fun r23 S21 q22 => ?_))
          rw [q22.2]
          refine V_if_ne 30 35 dX11_span_30 (by decide) (fun c24 => ?_) (fun c24 => ?_)
          ·
            refine V_iconst 35 (-1) dX11_span_35 (by decide) ?_
            refine V_istore_4 36 dX11_span_36 rfl (Nat.le_of_ble_eq_true rfl) ?_
            refine V_iconst 38 (-1) dX11_span_38 (by decide) ?_
            refine V_istore_5 39 dX11_span_39 rfl (Nat.le_of_ble_eq_true rfl) ?_
            refine V_iconst 41 (0) dX11_span_41 (by decide) ?_
            refine V_istore_6 42 dX11_span_42 rfl (Nat.le_of_ble_eq_true rfl) ?_
            refine V_lvw (by repeat (first | exact trivial | refine ⟨rfl, ?_⟩)) (V_while (α := Nat × PS × Int32 × Int32) (fun z25 => 10 - z25.1) (fun z25 => z25.1 ≤ 10 ∧ FT [] [] S z25.2.1 ∧ (IV Γ.2.2.2.2.1 h B L z25.2.1)) (fun z25 => z25.2.1) (fun z25 => [some (.ref h), some (.int x), some (.int y), some (.int z), some (.int z25.2.2.1), some (.int z25.2.2.2), some (.int (nI z25.1))]) (0, _, _, _) ⟨Nat.zero_le _, trivial, I⟩ (fun z25 hx33 ih30 => ?b34))
            obtain ⟨i26, S27, w31, w32⟩ := z25
            obtain ⟨hi28, h29, p36⟩ := hx33
            dsimp only at hi28 h29 p36 ih30 ⊢
            have J39 : ∀ (S37 : PS) (x40 : Int32) (x41 : Int32), FT [] [] S S37 → (IV Γ.2.2.2.2.1 h B L S37) → i26 < 10 → V M Γ (7, RX11, "span", (some .int), RM (4) (0) (0)) cX11_span (RQ M Γ (RI (fun r S' => IV Γ.2.2.2.2.1 h B L S')) (0) (0)) 0 0 S37 91 [some (.ref h), some (.int x), some (.int y), some (.int z), some (.int x40), some (.int x41), some (.int (nI i26))] [] := by
              intro S37 x40 x41 h38 p42 lt43
              refine V_iinc_6 91 (1) dX11_span_91 (by decide) rfl (Nat.le_of_ble_eq_true rfl) ?_
              refine V_goto 94 44 dX11_span_94 (by decide) ?_
              rw [← nI_succ]
              refine V_lvw (by repeat (first | exact trivial | refine ⟨rfl, ?_⟩)) (ih30 (i26 + 1, _, _, _) ⟨by dsimp only; omega, trivial, p42⟩ (by dsimp only; omega))
            have J46 : ∀ (S44 : PS) (x47 : Int32) (x48 : Int32) (x49 : Int32), FT [] [] S S44 → (IV Γ.2.2.2.2.1 h B L S44) → i26 < 10 → V M Γ (7, RX11, "span", (some .int), RM (4) (0) (0)) cX11_span (RQ M Γ (RI (fun r S' => IV Γ.2.2.2.2.1 h B L S')) (0) (0)) 0 0 S44 85 [some (.ref h), some (.int x), some (.int y), some (.int z), some (.int x47), some (.int x48), some (.int (nI i26))] [.int x49] := by
              intro S44 x47 x48 x49 h45 p50 lt51
              refine V_istore_4 85 dX11_span_85 rfl (Nat.le_of_ble_eq_true rfl) ?_
              refine V_iload_6 87 dX11_span_87 ?_
              refine V_istore_5 89 dX11_span_89 rfl (Nat.le_of_ble_eq_true rfl) ?_
              refine V_lvw (by repeat (first | exact trivial | refine ⟨rfl, ?_⟩)) (J39 _ _ _ trivial p50 (by first | omega | assumption))
            refine V_iload_6 44 dX11_span_44 ?_
            refine V_bipush 46 (9) dX11_span_46 (by decide) ?_
            refine V_icmp_gt 48 97 dX11_span_48 (by decide) (fun c53 => ?_) (fun c53 => ?_)
            ·
              refine V_iload_4 97 dX11_span_97 ?_
              refine V_iconst 99 (-1) dX11_span_99 (by decide) ?_
              refine V_icmp_ne 100 108 dX11_span_100 (by decide) (fun c54 => ?_) (fun c54 => ?_)
              ·
                refine V_bipush 108 (100) dX11_span_108 (by decide) ?_
                refine V_iload_4 110 dX11_span_110 ?_
                refine V_imul 112 dX11_span_112 ?_
                refine V_iload_5 113 dX11_span_113 ?_
                refine V_iadd 115 dX11_span_115 ?_
                refine V_lvw (by repeat (first | exact trivial | refine ⟨rfl, ?_⟩)) (J3 _ _ _ _ _ trivial p36)
              ·
                refine V_bipush 103 (-2) dX11_span_103 (by decide) ?_
                refine V_goto 105 116 dX11_span_105 (by decide) ?_
                refine V_lvw (by repeat (first | exact trivial | refine ⟨rfl, ?_⟩)) (J3 _ _ _ _ _ trivial p36)
            ·
              have lt57 := nI_ltg (n := 9) (by decide) hi28 c53
              refine V_aload_0 51 dX11_span_51 ?_
              refine V_getR 52 (c := 11) 15 ((IV.f p36).r 0 15 76 rfl) dX11_span_52 fl_RX11_84 ((IV.f p36).m 0 (Nat.le_of_ble_eq_true rfl)) ((IV.f p36).k 0 11 rfl) (Nat.le_of_ble_eq_true rfl) (Nat.le_of_ble_eq_true rfl) rfl ?_
              refine V_aload_0 55 dX11_span_55 ?_
              refine V_getR 56 (c := 11) 3 ((IV.f p36).r 0 3 27 rfl) dX11_span_56 fl_RX11_31 ((IV.f p36).m 0 (Nat.le_of_ble_eq_true rfl)) ((IV.f p36).k 0 11 rfl) (Nat.le_of_ble_eq_true rfl) (Nat.le_of_ble_eq_true rfl) rfl ?_
              refine V_iload_1 59 dX11_span_59 ?_
              refine V_iload_2 60 dX11_span_60 ?_
              refine V_iload_3 61 dX11_span_61 ?_
              refine V_iload_6 62 dX11_span_62 ?_
              refine V_callV 64 (ci := 6) [.ref _, .int _, .int _, .int _, .int _] _ (s_countRows M.2.1 Γ S27 (suSe (IV.f p36)) (IV.ws p36) (suTo (IV.f p36)) (IV.num p36) _ _ _ _) dX11_span_64 cb_X6_countRows ml_RX11_271 im_yX6_countRows se_yX6_countRows ((IV.f p36).m 76 (Nat.le_of_ble_eq_true rfl)) ((IV.f p36).k 76 6 rfl) (Nat.le_of_ble_eq_true rfl) ⟨(Nat.le_of_ble_eq_true rfl), (Nat.le_of_ble_eq_true rfl)⟩ rfl rfl (Nat.le_of_ble_eq_true rfl) ⟨(Nat.le_of_ble_eq_true rfl), (Nat.le_of_ble_eq_true rfl)⟩ (RLg.go (fun r60 S58 q59 => ?_))
              have h61 : FT [] [] S S58 := trivial
              have p62 : (IV Γ.2.2.2.2.1 h B L S58) := by exact IV.onSeen p36 q59.1 q59.2.1 q59.2.2
              refine V_lconst 67 0 dX11_span_67 (by decide) ?_
              refine V_lcmp 68 dX11_span_68 ?_
              refine V_if_le 69 91 dX11_span_69 (by decide) (fun c63 => ?_) (fun c63 => ?_)
              ·
                refine V_lvw (by repeat (first | exact trivial | refine ⟨rfl, ?_⟩)) (J39 _ _ _ trivial p62 (by first | omega | assumption))
              ·
                refine V_iload_4 72 dX11_span_72 ?_
                refine V_iconst 74 (-1) dX11_span_74 (by decide) ?_
                refine V_icmp_ne 75 83 dX11_span_75 (by decide) (fun c65 => ?_) (fun c65 => ?_)
                ·
                  refine V_iload_4 83 dX11_span_83 ?_
                  refine V_lvw (by repeat (first | exact trivial | refine ⟨rfl, ?_⟩)) (J46 _ _ _ _ trivial p62 (by first | omega | assumption))
                ·
                  refine V_iload_6 78 dX11_span_78 ?_
                  refine V_goto 80 85 dX11_span_80 (by decide) ?_
                  refine V_lvw (by repeat (first | exact trivial | refine ⟨rfl, ?_⟩)) (J46 _ _ _ _ trivial p62 (by first | omega | assumption))
          ·
            refine V_lvw (by repeat (first | exact trivial | refine ⟨rfl, ?_⟩)) (J11 _ trivial I)
theorem slst {k : Nat} (h : k < 3) : 40 + k < 43 := by omega
theorem ge3 {x : Int32} (h : ¬ (3 : Int32) ≤ x) : x < 3 := Int32.not_le.mp h
set_option maxRecDepth 100000 in
set_option maxHeartbeats 8000000 in
theorem s_hold (l : Launch) (Γ : GC) (S : PS) {h B : Nat} {L : Int32} (I : IV Γ.2.2.2.2.1 h B L S) (x : Int32) : CT l Γ yX11_hold cX11_hold 2 (some .boolean) (2) (0) (0) [.ref h, .int x] S (RI (fun r S' => (r = if x < 0 ∨ 3 ≤ x then 0 else 1) ∧ IV Γ.2.2.2.2.1 h B L S')) := by
  refine CT.of RX11 "hold" [some (.ref h), some (.int x)] (by decide +kernel) rfl rfl (Nat.le_of_ble_eq_true rfl) rfl (fun M hM => ?_)
  subst hM
  have F := I.f
  refine V_iload_1 0 dX11_hold_0 ?_
  refine V_if_lt 1 9 dX11_hold_1 (by decide) (fun c1 => ?_) (fun c1 => ?_)
  ·
    refine V_iconst 9 (0) dX11_hold_9 (by decide) ?_
    refine V_iret 10 .boolean dX11_hold_10 rfl (nrwB (Or.inl rfl)) (Nat.le_of_ble_eq_true rfl) (Nat.le_of_ble_eq_true rfl) (RI.mk ⟨by first | exact hold0a (by assumption) | exact hold0b (by assumption) | exact hold1 (by assumption) (by assumption), I⟩)
  ·
    refine V_iload_1 4 dX11_hold_4 ?_
    refine V_iconst 5 (3) dX11_hold_5 (by decide) ?_
    refine V_icmp_lt 6 11 dX11_hold_6 (by decide) (fun c2 => ?_) (fun c2 => ?_)
    ·
      refine V_aload_0 11 dX11_hold_11 ?_
      refine V_getR 12 (c := 11) 10 (F.r 0 10 50 rfl) dX11_hold_12 fl_RX11_53 (F.m 0 (Nat.le_of_ble_eq_true rfl)) (F.k 0 11 rfl) (Nat.le_of_ble_eq_true rfl) (Nat.le_of_ble_eq_true rfl) rfl ?_
      refine V_iload_1 15 dX11_hold_15 ?_
      refine V_aaload2 16 (IV.sl I _ (s3 (by assumption) (by assumption))) dX11_hold_16 (F.m 50 (Nat.le_of_ble_eq_true rfl)) (F.k 50 17 rfl) (F.l 50 3 rfl) ?_ ?_
      · exact s3v (by assumption) (by assumption)
      refine V_aload_0 17 dX11_hold_17 ?_
      refine V_getR 18 (c := 11) 5 (F.r 0 5 41 rfl) dX11_hold_18 fl_RX11_42 (F.m 0 (Nat.le_of_ble_eq_true rfl)) (F.k 0 11 rfl) (Nat.le_of_ble_eq_true rfl) (Nat.le_of_ble_eq_true rfl) rfl ?_
      refine V_callV 21 (ci := 7) [.ref _] _ (s_stbecomeN M.2.1 Γ S (IV.st I (slst (s3 (by assumption) (by assumption)))) (suNo F) (Or.inr (by omega)) B (IV.sts I _ (slst (s3 (by assumption) (by assumption)))) (IV.now I)) dX11_hold_21 cb_X7_become ml_RX11_202 im_yX7_become se_yX7_become ((IV.st I (slst (s3 (by assumption) (by assumption)))).m 0 (Nat.le_of_ble_eq_true rfl)) ((IV.st I (slst (s3 (by assumption) (by assumption)))).k 0 7 rfl) (Nat.le_of_ble_eq_true rfl) ⟨(Nat.le_of_ble_eq_true rfl), (Nat.le_of_ble_eq_true rfl)⟩ rfl rfl (Nat.le_of_ble_eq_true rfl) ⟨(Nat.le_of_ble_eq_true rfl), (Nat.le_of_ble_eq_true rfl)⟩ (RV.go (fun S3 q4 => ?_))
      have h6 : FT [] [] S S3 := trivial
      have p7 : (IV Γ.2.2.2.2.1 h B L S3) := by exact IV.onSt I (slst (s3 (by assumption) (by assumption))) q4.1 q4.2
      refine V_aload_0 24 dX11_hold_24 ?_
      refine V_getR 25 (c := 11) 11 ((IV.f p7).r 0 11 51 rfl) dX11_hold_25 fl_RX11_56 ((IV.f p7).m 0 (Nat.le_of_ble_eq_true rfl)) ((IV.f p7).k 0 11 rfl) (Nat.le_of_ble_eq_true rfl) (Nat.le_of_ble_eq_true rfl) rfl ?_
      refine V_iload_1 28 dX11_hold_28 ?_
      refine V_iconst 29 (1) dX11_hold_29 (by decide) ?_
      refine V_zastore2 30 dX11_hold_30 ((IV.f p7).m 51 (Nat.le_of_ble_eq_true rfl)) ((IV.f p7).k 51 16 rfl) ((IV.f p7).l 51 3 rfl) ?_ (Or.inr rfl) ?_
      · exact s3v (by assumption) (by assumption)
      refine V_abs (fun T9 => FT [] [] S T9 ∧ (IV Γ.2.2.2.2.1 h B L T9)) ⟨trivial, by exact IV.pA p7 51 _ _ rfl⟩ (fun S8 hh11 => ?_)
      obtain ⟨h9, p10⟩ := hh11
      refine V_iconst 31 (1) dX11_hold_31 (by decide) ?_
      refine V_iret 32 .boolean dX11_hold_32 rfl (nrwB (Or.inr rfl)) (Nat.le_of_ble_eq_true rfl) (Nat.le_of_ble_eq_true rfl) (RI.mk ⟨by first | exact hold0a (by assumption) | exact hold0b (by assumption) | exact hold1 (by assumption) (by assumption), p10⟩)
    ·
      refine V_iconst 9 (0) dX11_hold_9 (by decide) ?_
      refine V_iret 10 .boolean dX11_hold_10 rfl (nrwB (Or.inl rfl)) (Nat.le_of_ble_eq_true rfl) (Nat.le_of_ble_eq_true rfl) (RI.mk ⟨by first | exact hold0a (by assumption) | exact hold0b (by assumption) | exact hold1 (by assumption) (by assumption), I⟩)
set_option maxRecDepth 100000 in
set_option maxHeartbeats 8000000 in
theorem s_restore (l : Launch) (Γ : GC) (S : PS) {h B : Nat} {L : Int32} (I : IV Γ.2.2.2.2.1 h B L S) (x : Int32) : CT l Γ yX11_restore cX11_restore 2 (some .boolean) (2) (0) (0) [.ref h, .int x] S (RI (fun r S' => IV Γ.2.2.2.2.1 h B L S')) := by
  refine CT.of RX11 "restore" [some (.ref h), some (.int x)] (by decide +kernel) rfl rfl (Nat.le_of_ble_eq_true rfl) rfl (fun M hM => ?_)
  subst hM
  have F := I.f
  have J3 : ∀ (S1 : PS) , FT [] [] S S1 → (IV Γ.2.2.2.2.1 h B L S1) → V M Γ (2, RX11, "restore", (some .boolean), RM (2) (0) (0)) cX11_restore (RQ M Γ (RI (fun r S' => IV Γ.2.2.2.2.1 h B L S')) (0) (0)) 0 0 S1 18 [some (.ref h), some (.int x)] [] := by
    intro S1  h2 p4
    refine V_iconst 18 (0) dX11_restore_18 (by decide) ?_
    refine V_iret 19 .boolean dX11_restore_19 rfl (nrwB (Or.inl rfl)) (Nat.le_of_ble_eq_true rfl) (Nat.le_of_ble_eq_true rfl) (RI.mk p4)
  refine V_iload_1 0 dX11_restore_0 ?_
  refine V_if_lt 1 18 dX11_restore_1 (by decide) (fun c5 => ?_) (fun c5 => ?_)
  ·
    refine V_lvw (by repeat (first | exact trivial | refine ⟨rfl, ?_⟩)) (J3 _ trivial I)
  ·
    refine V_iload_1 4 dX11_restore_4 ?_
    refine V_iconst 5 (3) dX11_restore_5 (by decide) ?_
    refine V_icmp_ge 6 18 dX11_restore_6 (by decide) (fun c7 => ?_) (fun c7 => ?_)
    ·
      refine V_lvw (by repeat (first | exact trivial | refine ⟨rfl, ?_⟩)) (J3 _ trivial I)
    ·
      refine V_aload_0 9 dX11_restore_9 ?_
      refine V_getR 10 (c := 11) 11 (F.r 0 11 51 rfl) dX11_restore_10 fl_RX11_56 (F.m 0 (Nat.le_of_ble_eq_true rfl)) (F.k 0 11 rfl) (Nat.le_of_ble_eq_true rfl) (Nat.le_of_ble_eq_true rfl) rfl ?_
      refine V_iload_1 13 dX11_restore_13 ?_
      refine V_zaload2 14 dX11_restore_14 (F.m 51 (Nat.le_of_ble_eq_true rfl)) (F.k 51 16 rfl) (F.l 51 3 rfl) ?_ ?_
      · exact s3v (by assumption) (ge3 (by assumption))
      refine V_if_ne 15 20 dX11_restore_15 (by decide) (fun c9 => ?_) (fun c9 => ?_)
      ·
        refine V_aload_0 20 dX11_restore_20 ?_
        refine V_getR 21 (c := 11) 5 (F.r 0 5 41 rfl) dX11_restore_21 fl_RX11_42 (F.m 0 (Nat.le_of_ble_eq_true rfl)) (F.k 0 11 rfl) (Nat.le_of_ble_eq_true rfl) (Nat.le_of_ble_eq_true rfl) rfl ?_
        refine V_aload_0 24 dX11_restore_24 ?_
        refine V_getR 25 (c := 11) 10 (F.r 0 10 50 rfl) dX11_restore_25 fl_RX11_53 (F.m 0 (Nat.le_of_ble_eq_true rfl)) (F.k 0 11 rfl) (Nat.le_of_ble_eq_true rfl) (Nat.le_of_ble_eq_true rfl) rfl ?_
        refine V_iload_1 28 dX11_restore_28 ?_
        refine V_aaload2 29 (IV.sl I _ (s3 (by assumption) (ge3 (by assumption)))) dX11_restore_29 (F.m 50 (Nat.le_of_ble_eq_true rfl)) (F.k 50 17 rfl) (F.l 50 3 rfl) ?_ ?_
        · exact s3v (by assumption) (ge3 (by assumption))
        refine V_callV 30 (ci := 7) [.ref _] _ (s_stbecomeN M.2.1 Γ S (suNo F) (IV.st I (slst (s3 (by assumption) (ge3 (by assumption))))) (Or.inl (by omega)) B (IV.now I) (IV.sts I _ (slst (s3 (by assumption) (ge3 (by assumption)))))) dX11_restore_30 cb_X7_become ml_RX11_202 im_yX7_become se_yX7_become (F.m 41 (Nat.le_of_ble_eq_true rfl)) (F.k 41 7 rfl) (Nat.le_of_ble_eq_true rfl) ⟨(Nat.le_of_ble_eq_true rfl), (Nat.le_of_ble_eq_true rfl)⟩ rfl rfl (Nat.le_of_ble_eq_true rfl) ⟨(Nat.le_of_ble_eq_true rfl), (Nat.le_of_ble_eq_true rfl)⟩ (RV.go (fun S10 q11 => ?_))
        have h13 : FT [] [] S S10 := trivial
        have p14 : (IV Γ.2.2.2.2.1 h B L S10) := by exact IV.onNow I q11.1 q11.2 (Nat.le_refl _)
        refine V_aload_0 33 dX11_restore_33 ?_
        refine V_iconst 34 (0) dX11_restore_34 (by decide) ?_
        refine V_putI 35 (c := 11) 9 dX11_restore_35 fl_RX11_193 ((IV.f p14).m 0 (Nat.le_of_ble_eq_true rfl)) ((IV.f p14).k 0 11 rfl) (Nat.le_of_ble_eq_true rfl) (Nat.le_of_ble_eq_true rfl) rfl (Or.inl rfl) ?_
        refine V_abs (fun T9 => FT [] [] S T9 ∧ (IV Γ.2.2.2.2.1 h B L T9)) ⟨trivial, by exact IV.pI p14 0 9 _ rfl⟩ (fun S15 hh18 => ?_)
        obtain ⟨h16, p17⟩ := hh18
        refine V_iconst 38 (1) dX11_restore_38 (by decide) ?_
        refine V_iret 39 .boolean dX11_restore_39 rfl (nrwB (Or.inr rfl)) (Nat.le_of_ble_eq_true rfl) (Nat.le_of_ble_eq_true rfl) (RI.mk p17)
      ·
        refine V_lvw (by repeat (first | exact trivial | refine ⟨rfl, ?_⟩)) (J3 _ trivial I)
set_option maxRecDepth 100000 in
set_option maxHeartbeats 8000000 in
theorem s_place (l : Launch) (Γ : GC) (S : PS) {h B : Nat} {L : Int32} (I : IV Γ.2.2.2.2.1 h B L S) : CT l Γ yX11_place cX11_place 1 (some .int) (0) (0) (0) [.ref h] S (RI (fun r S' => IV Γ.2.2.2.2.1 h B L S')) := by
  refine CT.of RX11 "place" [some (.ref h)] (by decide +kernel) rfl rfl (Nat.le_of_ble_eq_true rfl) rfl (fun M hM => ?_)
  subst hM
  have F := I.f
  refine V_aload_0 0 dX11_place_0 ?_
  refine V_getI 1 (c := 11) 4 dX11_place_1 fl_RX11_35 (F.m 0 (Nat.le_of_ble_eq_true rfl)) (F.k 0 11 rfl) (Nat.le_of_ble_eq_true rfl) (Nat.le_of_ble_eq_true rfl) rfl ?_
  refine V_iret 4 .int dX11_place_4 rfl rfl (Nat.le_of_ble_eq_true rfl) (Nat.le_of_ble_eq_true rfl) (RI.mk (IV.z I [] [] FZ.rf rfl rfl rfl rfl))
set_option maxRecDepth 100000 in
set_option maxHeartbeats 8000000 in
theorem s_kind (l : Launch) (Γ : GC) (S : PS) {h B : Nat} {L : Int32} (I : IV Γ.2.2.2.2.1 h B L S) (x y : Int32) : CT l Γ yX11_kind cX11_kind 3 (some .int) (2) (0) (0) [.ref h, .int x, .int y] S (RI (fun r S' => IV Γ.2.2.2.2.1 h B L S')) := by
  refine CT.of RX11 "kind" [some (.ref h), some (.int x), some (.int y)] (by decide +kernel) rfl rfl (Nat.le_of_ble_eq_true rfl) rfl (fun M hM => ?_)
  subst hM
  have F := I.f
  refine V_aload_0 0 dX11_kind_0 ?_
  refine V_iload_1 1 dX11_kind_1 ?_
  refine V_callV 2 (ci := 11) [.int _] _ (s_isKind M.2.1 Γ S F _) dX11_kind_2 cb_X11_isKind ml_RX11_127 im_yX11_isKind se_yX11_isKind (F.m 0 (Nat.le_of_ble_eq_true rfl)) (F.k 0 11 rfl) (Nat.le_of_ble_eq_true rfl) ⟨(Nat.le_of_ble_eq_true rfl), (Nat.le_of_ble_eq_true rfl)⟩ rfl rfl (Nat.le_of_ble_eq_true rfl) ⟨(Nat.le_of_ble_eq_true rfl), (Nat.le_of_ble_eq_true rfl)⟩ (RI.go (fun r3 S1 q2 => ?_))
  rw [q2.2]
  refine V_if_ne 5 10 dX11_kind_5 (by decide) (fun c4 => ?_) (fun c4 => ?_)
  ·
    refine V_iload_2 10 dX11_kind_10 ?_
    refine V_tsw (0) (5) (fun q5 => ?_) (fun q5 => ?_)
    ·
      refine V_tableOut 11 134 dX11_kind_11 q5 (by decide) ?_
      refine V_iconst 134 (-1) dX11_kind_134 (by decide) ?_
      refine V_iret 135 .int dX11_kind_135 rfl rfl (Nat.le_of_ble_eq_true rfl) (Nat.le_of_ble_eq_true rfl) (RI.mk (IV.z I [] [] FZ.rf rfl rfl rfl rfl))
    refine V_teq (0) (fun e6 => ?_) (fun e6 => ?_)
    ·
      refine V_tableIn 11 48 (off := 37) dX11_kind_11 (by omega) (by omega) (by rw [e6]; rfl) (by decide) ?_
      refine V_aload_0 48 dX11_kind_48 ?_
      refine V_getR 49 (c := 11) 5 (F.r 0 5 41 rfl) dX11_kind_49 fl_RX11_42 (F.m 0 (Nat.le_of_ble_eq_true rfl)) (F.k 0 11 rfl) (Nat.le_of_ble_eq_true rfl) (Nat.le_of_ble_eq_true rfl) rfl ?_
      refine V_getR 52 (c := 7) 0 (F.r 41 0 42 rfl) dX11_kind_52 fl_RX11_131 (F.m 41 (Nat.le_of_ble_eq_true rfl)) (F.k 41 7 rfl) (Nat.le_of_ble_eq_true rfl) (Nat.le_of_ble_eq_true rfl) rfl ?_
      refine V_iload_1 55 dX11_kind_55 ?_
      refine V_callS 56 [.ref _, .int _] _ (c_at M.2.1 Γ S (a := (h + 42)) (F.m 42 (Nat.le_of_ble_eq_true rfl)) (F.k 42 14 rfl) (by rw [(F.l 42 8 rfl)]; decide) _) dX11_kind_56 cb_X11_at ml_RX11_135 sm_yX11_at ⟨(Nat.le_of_ble_eq_true rfl), (Nat.le_of_ble_eq_true rfl)⟩ rfl rfl (Nat.le_of_ble_eq_true rfl) ⟨(Nat.le_of_ble_eq_true rfl), (Nat.le_of_ble_eq_true rfl)⟩ (RI.go (fun r9 S7 q8 => ?_))
      rw [q8.2]
      refine V_iret 59 .int dX11_kind_59 rfl rfl (Nat.le_of_ble_eq_true rfl) (Nat.le_of_ble_eq_true rfl) (RI.mk (IV.z I [] [] FZ.rf rfl rfl rfl rfl))
    refine V_teq (1) (fun e10 => ?_) (fun e10 => ?_)
    ·
      refine V_tableIn 11 60 (off := 49) dX11_kind_11 (by omega) (by omega) (by rw [e10]; rfl) (by decide) ?_
      refine V_aload_0 60 dX11_kind_60 ?_
      refine V_getR 61 (c := 11) 5 (F.r 0 5 41 rfl) dX11_kind_61 fl_RX11_42 (F.m 0 (Nat.le_of_ble_eq_true rfl)) (F.k 0 11 rfl) (Nat.le_of_ble_eq_true rfl) (Nat.le_of_ble_eq_true rfl) rfl ?_
      refine V_getR 64 (c := 7) 1 (F.r 41 1 43 rfl) dX11_kind_64 fl_RX11_139 (F.m 41 (Nat.le_of_ble_eq_true rfl)) (F.k 41 7 rfl) (Nat.le_of_ble_eq_true rfl) (Nat.le_of_ble_eq_true rfl) rfl ?_
      refine V_iload_1 67 dX11_kind_67 ?_
      refine V_callS 68 [.ref _, .int _] _ (c_at M.2.1 Γ S (a := (h + 43)) (F.m 43 (Nat.le_of_ble_eq_true rfl)) (F.k 43 14 rfl) (by rw [(F.l 43 8 rfl)]; decide) _) dX11_kind_68 cb_X11_at ml_RX11_135 sm_yX11_at ⟨(Nat.le_of_ble_eq_true rfl), (Nat.le_of_ble_eq_true rfl)⟩ rfl rfl (Nat.le_of_ble_eq_true rfl) ⟨(Nat.le_of_ble_eq_true rfl), (Nat.le_of_ble_eq_true rfl)⟩ (RI.go (fun r13 S11 q12 => ?_))
      rw [q12.2]
      refine V_iret 71 .int dX11_kind_71 rfl rfl (Nat.le_of_ble_eq_true rfl) (Nat.le_of_ble_eq_true rfl) (RI.mk (IV.z I [] [] FZ.rf rfl rfl rfl rfl))
    refine V_teq (2) (fun e14 => ?_) (fun e14 => ?_)
    ·
      refine V_tableIn 11 72 (off := 61) dX11_kind_11 (by omega) (by omega) (by rw [e14]; rfl) (by decide) ?_
      refine V_aload_0 72 dX11_kind_72 ?_
      refine V_getR 73 (c := 11) 3 (F.r 0 3 27 rfl) dX11_kind_73 fl_RX11_31 (F.m 0 (Nat.le_of_ble_eq_true rfl)) (F.k 0 11 rfl) (Nat.le_of_ble_eq_true rfl) (Nat.le_of_ble_eq_true rfl) rfl ?_
      refine V_getR 76 (c := 10) 2 (F.r 27 2 28 rfl) dX11_kind_76 fl_RX11_142 (F.m 27 (Nat.le_of_ble_eq_true rfl)) (F.k 27 10 rfl) (Nat.le_of_ble_eq_true rfl) (Nat.le_of_ble_eq_true rfl) rfl ?_
      refine V_iload_1 79 dX11_kind_79 ?_
      refine V_callS 80 [.ref _, .int _] _ (c_at M.2.1 Γ S (a := (h + 28)) (F.m 28 (Nat.le_of_ble_eq_true rfl)) (F.k 28 14 rfl) (by rw [(F.l 28 8 rfl)]; decide) _) dX11_kind_80 cb_X11_at ml_RX11_135 sm_yX11_at ⟨(Nat.le_of_ble_eq_true rfl), (Nat.le_of_ble_eq_true rfl)⟩ rfl rfl (Nat.le_of_ble_eq_true rfl) ⟨(Nat.le_of_ble_eq_true rfl), (Nat.le_of_ble_eq_true rfl)⟩ (RI.go (fun r17 S15 q16 => ?_))
      rw [q16.2]
      refine V_iret 83 .int dX11_kind_83 rfl rfl (Nat.le_of_ble_eq_true rfl) (Nat.le_of_ble_eq_true rfl) (RI.mk (IV.z I [] [] FZ.rf rfl rfl rfl rfl))
    refine V_teq (3) (fun e18 => ?_) (fun e18 => ?_)
    ·
      refine V_tableIn 11 84 (off := 73) dX11_kind_11 (by omega) (by omega) (by rw [e18]; rfl) (by decide) ?_
      refine V_aload_0 84 dX11_kind_84 ?_
      refine V_getR 85 (c := 11) 3 (F.r 0 3 27 rfl) dX11_kind_85 fl_RX11_31 (F.m 0 (Nat.le_of_ble_eq_true rfl)) (F.k 0 11 rfl) (Nat.le_of_ble_eq_true rfl) (Nat.le_of_ble_eq_true rfl) rfl ?_
      refine V_getR 88 (c := 10) 3 (F.r 27 3 29 rfl) dX11_kind_88 fl_RX11_145 (F.m 27 (Nat.le_of_ble_eq_true rfl)) (F.k 27 10 rfl) (Nat.le_of_ble_eq_true rfl) (Nat.le_of_ble_eq_true rfl) rfl ?_
      refine V_iload_1 91 dX11_kind_91 ?_
      refine V_callS 92 [.ref _, .int _] _ (c_at M.2.1 Γ S (a := (h + 29)) (F.m 29 (Nat.le_of_ble_eq_true rfl)) (F.k 29 14 rfl) (by rw [(F.l 29 8 rfl)]; decide) _) dX11_kind_92 cb_X11_at ml_RX11_135 sm_yX11_at ⟨(Nat.le_of_ble_eq_true rfl), (Nat.le_of_ble_eq_true rfl)⟩ rfl rfl (Nat.le_of_ble_eq_true rfl) ⟨(Nat.le_of_ble_eq_true rfl), (Nat.le_of_ble_eq_true rfl)⟩ (RI.go (fun r21 S19 q20 => ?_))
      rw [q20.2]
      refine V_iret 95 .int dX11_kind_95 rfl rfl (Nat.le_of_ble_eq_true rfl) (Nat.le_of_ble_eq_true rfl) (RI.mk (IV.z I [] [] FZ.rf rfl rfl rfl rfl))
    refine V_teq (4) (fun e22 => ?_) (fun e22 => ?_)
    ·
      refine V_tableIn 11 96 (off := 85) dX11_kind_11 (by omega) (by omega) (by rw [e22]; rfl) (by decide) ?_
      refine V_aload_0 96 dX11_kind_96 ?_
      refine V_getR 97 (c := 11) 5 (F.r 0 5 41 rfl) dX11_kind_97 fl_RX11_42 (F.m 0 (Nat.le_of_ble_eq_true rfl)) (F.k 0 11 rfl) (Nat.le_of_ble_eq_true rfl) (Nat.le_of_ble_eq_true rfl) rfl ?_
      refine V_getR 100 (c := 7) 2 (F.r 41 2 44 rfl) dX11_kind_100 fl_RX11_148 (F.m 41 (Nat.le_of_ble_eq_true rfl)) (F.k 41 7 rfl) (Nat.le_of_ble_eq_true rfl) (Nat.le_of_ble_eq_true rfl) rfl ?_
      refine V_iload_1 103 dX11_kind_103 ?_
      refine V_aload_0 104 dX11_kind_104 ?_
      refine V_getR 105 (c := 11) 3 (F.r 0 3 27 rfl) dX11_kind_105 fl_RX11_31 (F.m 0 (Nat.le_of_ble_eq_true rfl)) (F.k 0 11 rfl) (Nat.le_of_ble_eq_true rfl) (Nat.le_of_ble_eq_true rfl) rfl ?_
      refine V_getR 108 (c := 10) 3 (F.r 27 3 29 rfl) dX11_kind_108 fl_RX11_145 (F.m 27 (Nat.le_of_ble_eq_true rfl)) (F.k 27 10 rfl) (Nat.le_of_ble_eq_true rfl) (Nat.le_of_ble_eq_true rfl) rfl ?_
      refine V_iload_1 111 dX11_kind_111 ?_
      refine V_callS 112 [.ref _, .int _] _ (c_at M.2.1 Γ S (a := (h + 29)) (F.m 29 (Nat.le_of_ble_eq_true rfl)) (F.k 29 14 rfl) (by rw [(F.l 29 8 rfl)]; decide) _) dX11_kind_112 cb_X11_at ml_RX11_135 sm_yX11_at ⟨(Nat.le_of_ble_eq_true rfl), (Nat.le_of_ble_eq_true rfl)⟩ rfl rfl (Nat.le_of_ble_eq_true rfl) ⟨(Nat.le_of_ble_eq_true rfl), (Nat.le_of_ble_eq_true rfl)⟩ (RI.go (fun r25 S23 q24 => ?_))
      rw [q24.2]
      refine V_mmin 115 dX11_kind_115 ml_RX11_151 (Nat.le_of_ble_eq_true rfl) (Nat.le_of_ble_eq_true rfl) (Nat.le_of_ble_eq_true rfl) (Nat.le_of_ble_eq_true rfl) ?_
      refine V_callS 118 [.ref _, .int _] _ (c_at M.2.1 Γ S (a := (h + 44)) (F.m 44 (Nat.le_of_ble_eq_true rfl)) (F.k 44 14 rfl) (by rw [(F.l 44 8 rfl)]; decide) _) dX11_kind_118 cb_X11_at ml_RX11_135 sm_yX11_at ⟨(Nat.le_of_ble_eq_true rfl), (Nat.le_of_ble_eq_true rfl)⟩ rfl rfl (Nat.le_of_ble_eq_true rfl) ⟨(Nat.le_of_ble_eq_true rfl), (Nat.le_of_ble_eq_true rfl)⟩ (RI.go (fun r28 S26 q27 => ?_))
      rw [q27.2]
      refine V_iret 121 .int dX11_kind_121 rfl rfl (Nat.le_of_ble_eq_true rfl) (Nat.le_of_ble_eq_true rfl) (RI.mk (IV.z I [] [] FZ.rf rfl rfl rfl rfl))
    refine V_teq (5) (fun e29 => ?_) (fun e29 => ?_)
    ·
      refine V_tableIn 11 122 (off := 111) dX11_kind_11 (by omega) (by omega) (by rw [e29]; rfl) (by decide) ?_
      refine V_aload_0 122 dX11_kind_122 ?_
      refine V_getR 123 (c := 11) 3 (F.r 0 3 27 rfl) dX11_kind_123 fl_RX11_31 (F.m 0 (Nat.le_of_ble_eq_true rfl)) (F.k 0 11 rfl) (Nat.le_of_ble_eq_true rfl) (Nat.le_of_ble_eq_true rfl) rfl ?_
      refine V_getR 126 (c := 10) 4 (F.r 27 4 30 rfl) dX11_kind_126 fl_RX11_157 (F.m 27 (Nat.le_of_ble_eq_true rfl)) (F.k 27 10 rfl) (Nat.le_of_ble_eq_true rfl) (Nat.le_of_ble_eq_true rfl) rfl ?_
      refine V_iload_1 129 dX11_kind_129 ?_
      refine V_callS 130 [.ref _, .int _] _ (c_at M.2.1 Γ S (a := (h + 30)) (F.m 30 (Nat.le_of_ble_eq_true rfl)) (F.k 30 14 rfl) (by rw [(F.l 30 8 rfl)]; decide) _) dX11_kind_130 cb_X11_at ml_RX11_135 sm_yX11_at ⟨(Nat.le_of_ble_eq_true rfl), (Nat.le_of_ble_eq_true rfl)⟩ rfl rfl (Nat.le_of_ble_eq_true rfl) ⟨(Nat.le_of_ble_eq_true rfl), (Nat.le_of_ble_eq_true rfl)⟩ (RI.go (fun r32 S30 q31 => ?_))
      rw [q31.2]
      refine V_iret 133 .int dX11_kind_133 rfl rfl (Nat.le_of_ble_eq_true rfl) (Nat.le_of_ble_eq_true rfl) (RI.mk (IV.z I [] [] FZ.rf rfl rfl rfl rfl))
    exact absurd (by omega) q5
  ·
    refine V_iconst 8 (-1) dX11_kind_8 (by decide) ?_
    refine V_iret 9 .int dX11_kind_9 rfl rfl (Nat.le_of_ble_eq_true rfl) (Nat.le_of_ble_eq_true rfl) (RI.mk (IV.z I [] [] FZ.rf rfl rfl rfl rfl))
set_option maxRecDepth 100000 in
set_option maxHeartbeats 8000000 in
theorem s_unlike (l : Launch) (Γ : GC) (S : PS) {h B : Nat} {L : Int32} (I : IV Γ.2.2.2.2.1 h B L S) (x y : Int32) : CT l Γ yX11_unlike cX11_unlike 3 (some .int) (2) (0) (0) [.ref h, .int x, .int y] S (RI (fun r S' => IV Γ.2.2.2.2.1 h B L S')) := by
  refine CT.of RX11 "unlike" [some (.ref h), some (.int x), some (.int y)] (by decide +kernel) rfl rfl (Nat.le_of_ble_eq_true rfl) rfl (fun M hM => ?_)
  subst hM
  have F := I.f
  have J3 : ∀ (S1 : PS) , FZ [] [] S S1 → V M Γ (3, RX11, "unlike", (some .int), RM (2) (0) (0)) cX11_unlike (RQ M Γ (RI (fun r S' => IV Γ.2.2.2.2.1 h B L S')) (0) (0)) 0 0 S1 30 [some (.ref h), some (.int x), some (.int y)] [] := by
    intro S1  h2
    refine V_iconst 30 (-1) dX11_unlike_30 (by decide) ?_
    refine V_iret 31 .int dX11_unlike_31 rfl rfl (Nat.le_of_ble_eq_true rfl) (Nat.le_of_ble_eq_true rfl) (RI.mk (IV.z I [] [] h2 rfl rfl rfl rfl))
  refine V_iload_1 0 dX11_unlike_0 ?_
  refine V_if_lt 1 30 dX11_unlike_1 (by decide) (fun c4 => ?_) (fun c4 => ?_)
  ·
    refine V_lvw (by repeat (first | exact trivial | refine ⟨rfl, ?_⟩)) (J3 _ FZ.rf)
  ·
    refine V_iload_1 4 dX11_unlike_4 ?_
    refine V_aload_0 5 dX11_unlike_5 ?_
    refine V_getR 6 (c := 11) 3 (F.r 0 3 27 rfl) dX11_unlike_6 fl_RX11_31 (F.m 0 (Nat.le_of_ble_eq_true rfl)) (F.k 0 11 rfl) (Nat.le_of_ble_eq_true rfl) (Nat.le_of_ble_eq_true rfl) rfl ?_
    refine V_getI 9 (c := 10) 1 dX11_unlike_9 fl_RX11_160 (F.m 27 (Nat.le_of_ble_eq_true rfl)) (F.k 27 10 rfl) (Nat.le_of_ble_eq_true rfl) (Nat.le_of_ble_eq_true rfl) rfl ?_
    refine V_icmp_ge 12 30 dX11_unlike_12 (by decide) (fun c6 => ?_) (fun c6 => ?_)
    ·
      refine V_lvw (by repeat (first | exact trivial | refine ⟨rfl, ?_⟩)) (J3 _ FZ.rf)
    ·
      refine V_iload_2 15 dX11_unlike_15 ?_
      refine V_if_lt 16 30 dX11_unlike_16 (by decide) (fun c8 => ?_) (fun c8 => ?_)
      ·
        refine V_lvw (by repeat (first | exact trivial | refine ⟨rfl, ?_⟩)) (J3 _ FZ.rf)
      ·
        refine V_iload_2 19 dX11_unlike_19 ?_
        refine V_aload_0 20 dX11_unlike_20 ?_
        refine V_getR 21 (c := 11) 3 (F.r 0 3 27 rfl) dX11_unlike_21 fl_RX11_31 (F.m 0 (Nat.le_of_ble_eq_true rfl)) (F.k 0 11 rfl) (Nat.le_of_ble_eq_true rfl) (Nat.le_of_ble_eq_true rfl) rfl ?_
        refine V_getI 24 (c := 10) 1 dX11_unlike_24 fl_RX11_160 (F.m 27 (Nat.le_of_ble_eq_true rfl)) (F.k 27 10 rfl) (Nat.le_of_ble_eq_true rfl) (Nat.le_of_ble_eq_true rfl) rfl ?_
        refine V_icmp_lt 27 32 dX11_unlike_27 (by decide) (fun c10 => ?_) (fun c10 => ?_)
        ·
          refine V_aload_0 32 dX11_unlike_32 ?_
          refine V_getR 33 (c := 11) 3 (F.r 0 3 27 rfl) dX11_unlike_33 fl_RX11_31 (F.m 0 (Nat.le_of_ble_eq_true rfl)) (F.k 0 11 rfl) (Nat.le_of_ble_eq_true rfl) (Nat.le_of_ble_eq_true rfl) rfl ?_
          refine V_iload_1 36 dX11_unlike_36 ?_
          refine V_iload_2 37 dX11_unlike_37 ?_
          refine V_callV 38 (ci := 10) [.int _, .int _] _ (s_X10_unlikeness M.2.1 Γ S (suTo F) _ _) dX11_unlike_38 cb_X10_unlikeness ml_RX11_163 im_yX10_unlikeness se_yX10_unlikeness (F.m 27 (Nat.le_of_ble_eq_true rfl)) (F.k 27 10 rfl) (Nat.le_of_ble_eq_true rfl) ⟨(Nat.le_of_ble_eq_true rfl), (Nat.le_of_ble_eq_true rfl)⟩ rfl rfl (Nat.le_of_ble_eq_true rfl) ⟨(Nat.le_of_ble_eq_true rfl), (Nat.le_of_ble_eq_true rfl)⟩ (RI.go (fun r13 S11 q12 => ?_))
          have h14 : FZ [] [] S S11 := (FZ.rf (X := []) (Y := []) (S := S)).tr (q12.sub (by simp) (by simp))
          refine V_iret 41 .int dX11_unlike_41 rfl rfl (Nat.le_of_ble_eq_true rfl) (Nat.le_of_ble_eq_true rfl) (RI.mk (IV.z I [] [] h14 rfl rfl rfl rfl))
        ·
          refine V_lvw (by repeat (first | exact trivial | refine ⟨rfl, ?_⟩)) (J3 _ FZ.rf)
set_option maxRecDepth 100000 in
set_option maxHeartbeats 8000000 in
theorem s_count (l : Launch) (Γ : GC) (S : PS) {h B : Nat} {L : Int32} (I : IV Γ.2.2.2.2.1 h B L S) (x : Int32) : CT l Γ yX11_count cX11_count 2 (some .int) (2) (0) (0) [.ref h, .int x] S (RI (fun r S' => IV Γ.2.2.2.2.1 h B L S')) := by
  refine CT.of RX11 "count" [some (.ref h), some (.int x)] (by decide +kernel) rfl rfl (Nat.le_of_ble_eq_true rfl) rfl (fun M hM => ?_)
  subst hM
  have F := I.f
  refine V_iload_1 0 dX11_count_0 ?_
  refine V_tsw (0) (14) (fun q1 => ?_) (fun q1 => ?_)
  ·
    refine V_tableOut 1 202 dX11_count_1 q1 (by decide) ?_
    refine V_iconst 202 (-1) dX11_count_202 (by decide) ?_
    refine V_iret 203 .int dX11_count_203 rfl rfl (Nat.le_of_ble_eq_true rfl) (Nat.le_of_ble_eq_true rfl) (RI.mk (IV.z I [] [] FZ.rf rfl rfl rfl rfl))
  refine V_teq (0) (fun e2 => ?_) (fun e2 => ?_)
  ·
    refine V_tableIn 1 76 (off := 75) dX11_count_1 (by omega) (by omega) (by rw [e2]; rfl) (by decide) ?_
    refine V_aload_0 76 dX11_count_76 ?_
    refine V_getR 77 (c := 11) 3 (F.r 0 3 27 rfl) dX11_count_77 fl_RX11_31 (F.m 0 (Nat.le_of_ble_eq_true rfl)) (F.k 0 11 rfl) (Nat.le_of_ble_eq_true rfl) (Nat.le_of_ble_eq_true rfl) rfl ?_
    refine V_getI 80 (c := 10) 0 dX11_count_80 fl_RX11_275 (F.m 27 (Nat.le_of_ble_eq_true rfl)) (F.k 27 10 rfl) (Nat.le_of_ble_eq_true rfl) (Nat.le_of_ble_eq_true rfl) rfl ?_
    refine V_iret 83 .int dX11_count_83 rfl rfl (Nat.le_of_ble_eq_true rfl) (Nat.le_of_ble_eq_true rfl) (RI.mk (IV.z I [] [] FZ.rf rfl rfl rfl rfl))
  refine V_teq (1) (fun e3 => ?_) (fun e3 => ?_)
  ·
    refine V_tableIn 1 84 (off := 83) dX11_count_1 (by omega) (by omega) (by rw [e3]; rfl) (by decide) ?_
    refine V_aload_0 84 dX11_count_84 ?_
    refine V_getR 85 (c := 11) 3 (F.r 0 3 27 rfl) dX11_count_85 fl_RX11_31 (F.m 0 (Nat.le_of_ble_eq_true rfl)) (F.k 0 11 rfl) (Nat.le_of_ble_eq_true rfl) (Nat.le_of_ble_eq_true rfl) rfl ?_
    refine V_getI 88 (c := 10) 1 dX11_count_88 fl_RX11_160 (F.m 27 (Nat.le_of_ble_eq_true rfl)) (F.k 27 10 rfl) (Nat.le_of_ble_eq_true rfl) (Nat.le_of_ble_eq_true rfl) rfl ?_
    refine V_iret 91 .int dX11_count_91 rfl rfl (Nat.le_of_ble_eq_true rfl) (Nat.le_of_ble_eq_true rfl) (RI.mk (IV.z I [] [] FZ.rf rfl rfl rfl rfl))
  refine V_teq (2) (fun e4 => ?_) (fun e4 => ?_)
  ·
    refine V_tableIn 1 92 (off := 91) dX11_count_1 (by omega) (by omega) (by rw [e4]; rfl) (by decide) ?_
    refine V_aload_0 92 dX11_count_92 ?_
    refine V_getR 93 (c := 11) 3 (F.r 0 3 27 rfl) dX11_count_93 fl_RX11_31 (F.m 0 (Nat.le_of_ble_eq_true rfl)) (F.k 0 11 rfl) (Nat.le_of_ble_eq_true rfl) (Nat.le_of_ble_eq_true rfl) rfl ?_
    refine V_getR 96 (c := 10) 2 (F.r 27 2 28 rfl) dX11_count_96 fl_RX11_142 (F.m 27 (Nat.le_of_ble_eq_true rfl)) (F.k 27 10 rfl) (Nat.le_of_ble_eq_true rfl) (Nat.le_of_ble_eq_true rfl) rfl ?_
    refine V_callS 99 [.ref _] _ (c_total M.2.1 Γ S (a := (h + 28)) (F.m 28 (Nat.le_of_ble_eq_true rfl)) (F.k 28 14 rfl) (by rw [(F.l 28 8 rfl)]; decide)) dX11_count_99 cb_X11_total ml_RX11_180 sm_yX11_total ⟨(Nat.le_of_ble_eq_true rfl), (Nat.le_of_ble_eq_true rfl)⟩ rfl rfl (Nat.le_of_ble_eq_true rfl) ⟨(Nat.le_of_ble_eq_true rfl), (Nat.le_of_ble_eq_true rfl)⟩ (RI.go (fun r7 S5 q6 => ?_))
    rw [q6.2]
    refine V_iret 102 .int dX11_count_102 rfl rfl (Nat.le_of_ble_eq_true rfl) (Nat.le_of_ble_eq_true rfl) (RI.mk (IV.z I [] [] FZ.rf rfl rfl rfl rfl))
  refine V_teq (3) (fun e8 => ?_) (fun e8 => ?_)
  ·
    refine V_tableIn 1 103 (off := 102) dX11_count_1 (by omega) (by omega) (by rw [e8]; rfl) (by decide) ?_
    refine V_aload_0 103 dX11_count_103 ?_
    refine V_getR 104 (c := 11) 5 (F.r 0 5 41 rfl) dX11_count_104 fl_RX11_42 (F.m 0 (Nat.le_of_ble_eq_true rfl)) (F.k 0 11 rfl) (Nat.le_of_ble_eq_true rfl) (Nat.le_of_ble_eq_true rfl) rfl ?_
    refine V_getR 107 (c := 7) 0 (F.r 41 0 42 rfl) dX11_count_107 fl_RX11_131 (F.m 41 (Nat.le_of_ble_eq_true rfl)) (F.k 41 7 rfl) (Nat.le_of_ble_eq_true rfl) (Nat.le_of_ble_eq_true rfl) rfl ?_
    refine V_callS 110 [.ref _] _ (c_total M.2.1 Γ S (a := (h + 42)) (F.m 42 (Nat.le_of_ble_eq_true rfl)) (F.k 42 14 rfl) (by rw [(F.l 42 8 rfl)]; decide)) dX11_count_110 cb_X11_total ml_RX11_180 sm_yX11_total ⟨(Nat.le_of_ble_eq_true rfl), (Nat.le_of_ble_eq_true rfl)⟩ rfl rfl (Nat.le_of_ble_eq_true rfl) ⟨(Nat.le_of_ble_eq_true rfl), (Nat.le_of_ble_eq_true rfl)⟩ (RI.go (fun r11 S9 q10 => ?_))
    rw [q10.2]
    refine V_iret 113 .int dX11_count_113 rfl rfl (Nat.le_of_ble_eq_true rfl) (Nat.le_of_ble_eq_true rfl) (RI.mk (IV.z I [] [] FZ.rf rfl rfl rfl rfl))
  refine V_teq (4) (fun e12 => ?_) (fun e12 => ?_)
  ·
    refine V_tableIn 1 114 (off := 113) dX11_count_1 (by omega) (by omega) (by rw [e12]; rfl) (by decide) ?_
    refine V_aload_0 114 dX11_count_114 ?_
    refine V_getR 115 (c := 11) 5 (F.r 0 5 41 rfl) dX11_count_115 fl_RX11_42 (F.m 0 (Nat.le_of_ble_eq_true rfl)) (F.k 0 11 rfl) (Nat.le_of_ble_eq_true rfl) (Nat.le_of_ble_eq_true rfl) rfl ?_
    refine V_getR 118 (c := 7) 1 (F.r 41 1 43 rfl) dX11_count_118 fl_RX11_139 (F.m 41 (Nat.le_of_ble_eq_true rfl)) (F.k 41 7 rfl) (Nat.le_of_ble_eq_true rfl) (Nat.le_of_ble_eq_true rfl) rfl ?_
    refine V_callS 121 [.ref _] _ (c_total M.2.1 Γ S (a := (h + 43)) (F.m 43 (Nat.le_of_ble_eq_true rfl)) (F.k 43 14 rfl) (by rw [(F.l 43 8 rfl)]; decide)) dX11_count_121 cb_X11_total ml_RX11_180 sm_yX11_total ⟨(Nat.le_of_ble_eq_true rfl), (Nat.le_of_ble_eq_true rfl)⟩ rfl rfl (Nat.le_of_ble_eq_true rfl) ⟨(Nat.le_of_ble_eq_true rfl), (Nat.le_of_ble_eq_true rfl)⟩ (RI.go (fun r15 S13 q14 => ?_))
    rw [q14.2]
    refine V_iret 124 .int dX11_count_124 rfl rfl (Nat.le_of_ble_eq_true rfl) (Nat.le_of_ble_eq_true rfl) (RI.mk (IV.z I [] [] FZ.rf rfl rfl rfl rfl))
  refine V_teq (5) (fun e16 => ?_) (fun e16 => ?_)
  ·
    refine V_tableIn 1 125 (off := 124) dX11_count_1 (by omega) (by omega) (by rw [e16]; rfl) (by decide) ?_
    refine V_aload_0 125 dX11_count_125 ?_
    refine V_getR 126 (c := 11) 5 (F.r 0 5 41 rfl) dX11_count_126 fl_RX11_42 (F.m 0 (Nat.le_of_ble_eq_true rfl)) (F.k 0 11 rfl) (Nat.le_of_ble_eq_true rfl) (Nat.le_of_ble_eq_true rfl) rfl ?_
    refine V_getR 129 (c := 7) 2 (F.r 41 2 44 rfl) dX11_count_129 fl_RX11_148 (F.m 41 (Nat.le_of_ble_eq_true rfl)) (F.k 41 7 rfl) (Nat.le_of_ble_eq_true rfl) (Nat.le_of_ble_eq_true rfl) rfl ?_
    refine V_callS 132 [.ref _] _ (c_total M.2.1 Γ S (a := (h + 44)) (F.m 44 (Nat.le_of_ble_eq_true rfl)) (F.k 44 14 rfl) (by rw [(F.l 44 8 rfl)]; decide)) dX11_count_132 cb_X11_total ml_RX11_180 sm_yX11_total ⟨(Nat.le_of_ble_eq_true rfl), (Nat.le_of_ble_eq_true rfl)⟩ rfl rfl (Nat.le_of_ble_eq_true rfl) ⟨(Nat.le_of_ble_eq_true rfl), (Nat.le_of_ble_eq_true rfl)⟩ (RI.go (fun r19 S17 q18 => ?_))
    rw [q18.2]
    refine V_iret 135 .int dX11_count_135 rfl rfl (Nat.le_of_ble_eq_true rfl) (Nat.le_of_ble_eq_true rfl) (RI.mk (IV.z I [] [] FZ.rf rfl rfl rfl rfl))
  refine V_teq (6) (fun e20 => ?_) (fun e20 => ?_)
  ·
    refine V_tableIn 1 136 (off := 135) dX11_count_1 (by omega) (by omega) (by rw [e20]; rfl) (by decide) ?_
    refine V_aload_0 136 dX11_count_136 ?_
    refine V_getR 137 (c := 11) 3 (F.r 0 3 27 rfl) dX11_count_137 fl_RX11_31 (F.m 0 (Nat.le_of_ble_eq_true rfl)) (F.k 0 11 rfl) (Nat.le_of_ble_eq_true rfl) (Nat.le_of_ble_eq_true rfl) rfl ?_
    refine V_getI 140 (c := 10) 9 dX11_count_140 fl_RX11_278 (F.m 27 (Nat.le_of_ble_eq_true rfl)) (F.k 27 10 rfl) (Nat.le_of_ble_eq_true rfl) (Nat.le_of_ble_eq_true rfl) rfl ?_
    refine V_iret 143 .int dX11_count_143 rfl rfl (Nat.le_of_ble_eq_true rfl) (Nat.le_of_ble_eq_true rfl) (RI.mk (IV.z I [] [] FZ.rf rfl rfl rfl rfl))
  refine V_teq (7) (fun e21 => ?_) (fun e21 => ?_)
  ·
    refine V_tableIn 1 144 (off := 143) dX11_count_1 (by omega) (by omega) (by rw [e21]; rfl) (by decide) ?_
    refine V_aload_0 144 dX11_count_144 ?_
    refine V_getR 145 (c := 11) 3 (F.r 0 3 27 rfl) dX11_count_145 fl_RX11_31 (F.m 0 (Nat.le_of_ble_eq_true rfl)) (F.k 0 11 rfl) (Nat.le_of_ble_eq_true rfl) (Nat.le_of_ble_eq_true rfl) rfl ?_
    refine V_getI 148 (c := 10) 10 dX11_count_148 fl_RX11_173 (F.m 27 (Nat.le_of_ble_eq_true rfl)) (F.k 27 10 rfl) (Nat.le_of_ble_eq_true rfl) (Nat.le_of_ble_eq_true rfl) rfl ?_
    refine V_iret 151 .int dX11_count_151 rfl rfl (Nat.le_of_ble_eq_true rfl) (Nat.le_of_ble_eq_true rfl) (RI.mk (IV.z I [] [] FZ.rf rfl rfl rfl rfl))
  refine V_teq (8) (fun e22 => ?_) (fun e22 => ?_)
  ·
    refine V_tableIn 1 152 (off := 151) dX11_count_1 (by omega) (by omega) (by rw [e22]; rfl) (by decide) ?_
    refine V_aload_0 152 dX11_count_152 ?_
    refine V_getR 153 (c := 11) 5 (F.r 0 5 41 rfl) dX11_count_153 fl_RX11_42 (F.m 0 (Nat.le_of_ble_eq_true rfl)) (F.k 0 11 rfl) (Nat.le_of_ble_eq_true rfl) (Nat.le_of_ble_eq_true rfl) rfl ?_
    refine V_getI 156 (c := 7) 3 dX11_count_156 fl_RX11_281 (F.m 41 (Nat.le_of_ble_eq_true rfl)) (F.k 41 7 rfl) (Nat.le_of_ble_eq_true rfl) (Nat.le_of_ble_eq_true rfl) rfl ?_
    refine V_iret 159 .int dX11_count_159 rfl rfl (Nat.le_of_ble_eq_true rfl) (Nat.le_of_ble_eq_true rfl) (RI.mk (IV.z I [] [] FZ.rf rfl rfl rfl rfl))
  refine V_teq (9) (fun e23 => ?_) (fun e23 => ?_)
  ·
    refine V_tableIn 1 160 (off := 159) dX11_count_1 (by omega) (by omega) (by rw [e23]; rfl) (by decide) ?_
    refine V_aload_0 160 dX11_count_160 ?_
    refine V_getR 161 (c := 11) 3 (F.r 0 3 27 rfl) dX11_count_161 fl_RX11_31 (F.m 0 (Nat.le_of_ble_eq_true rfl)) (F.k 0 11 rfl) (Nat.le_of_ble_eq_true rfl) (Nat.le_of_ble_eq_true rfl) rfl ?_
    refine V_getI 164 (c := 10) 13 dX11_count_164 fl_RX11_235 (F.m 27 (Nat.le_of_ble_eq_true rfl)) (F.k 27 10 rfl) (Nat.le_of_ble_eq_true rfl) (Nat.le_of_ble_eq_true rfl) rfl ?_
    refine V_iret 167 .int dX11_count_167 rfl rfl (Nat.le_of_ble_eq_true rfl) (Nat.le_of_ble_eq_true rfl) (RI.mk (IV.z I [] [] FZ.rf rfl rfl rfl rfl))
  refine V_teq (10) (fun e24 => ?_) (fun e24 => ?_)
  ·
    refine V_tableIn 1 168 (off := 167) dX11_count_1 (by omega) (by omega) (by rw [e24]; rfl) (by decide) ?_
    refine V_aload_0 168 dX11_count_168 ?_
    refine V_getR 169 (c := 11) 3 (F.r 0 3 27 rfl) dX11_count_169 fl_RX11_31 (F.m 0 (Nat.le_of_ble_eq_true rfl)) (F.k 0 11 rfl) (Nat.le_of_ble_eq_true rfl) (Nat.le_of_ble_eq_true rfl) rfl ?_
    refine V_getI 172 (c := 10) 8 dX11_count_172 fl_RX11_284 (F.m 27 (Nat.le_of_ble_eq_true rfl)) (F.k 27 10 rfl) (Nat.le_of_ble_eq_true rfl) (Nat.le_of_ble_eq_true rfl) rfl ?_
    refine V_iret 175 .int dX11_count_175 rfl rfl (Nat.le_of_ble_eq_true rfl) (Nat.le_of_ble_eq_true rfl) (RI.mk (IV.z I [] [] FZ.rf rfl rfl rfl rfl))
  refine V_teq (11) (fun e25 => ?_) (fun e25 => ?_)
  ·
    refine V_tableIn 1 176 (off := 175) dX11_count_1 (by omega) (by omega) (by rw [e25]; rfl) (by decide) ?_
    refine V_aload_0 176 dX11_count_176 ?_
    refine V_getR 177 (c := 11) 2 (F.r 0 2 3 rfl) dX11_count_177 fl_RX11_27 (F.m 0 (Nat.le_of_ble_eq_true rfl)) (F.k 0 11 rfl) (Nat.le_of_ble_eq_true rfl) (Nat.le_of_ble_eq_true rfl) rfl ?_
    refine V_getI 180 (c := 8) 1 dX11_count_180 fl_RX11_88 (F.m 3 (Nat.le_of_ble_eq_true rfl)) (F.k 3 8 rfl) (Nat.le_of_ble_eq_true rfl) (Nat.le_of_ble_eq_true rfl) rfl ?_
    refine V_iret 183 .int dX11_count_183 rfl rfl (Nat.le_of_ble_eq_true rfl) (Nat.le_of_ble_eq_true rfl) (RI.mk (IV.z I [] [] FZ.rf rfl rfl rfl rfl))
  refine V_teq (12) (fun e26 => ?_) (fun e26 => ?_)
  ·
    refine V_tableIn 1 184 (off := 183) dX11_count_1 (by omega) (by omega) (by rw [e26]; rfl) (by decide) ?_
    refine V_aload_0 184 dX11_count_184 ?_
    refine V_getI 185 (c := 11) 9 dX11_count_185 fl_RX11_193 (F.m 0 (Nat.le_of_ble_eq_true rfl)) (F.k 0 11 rfl) (Nat.le_of_ble_eq_true rfl) (Nat.le_of_ble_eq_true rfl) rfl ?_
    refine V_iret 188 .int dX11_count_188 rfl rfl (Nat.le_of_ble_eq_true rfl) (Nat.le_of_ble_eq_true rfl) (RI.mk (IV.z I [] [] FZ.rf rfl rfl rfl rfl))
  refine V_teq (13) (fun e27 => ?_) (fun e27 => ?_)
  ·
    refine V_tableIn 1 189 (off := 188) dX11_count_1 (by omega) (by omega) (by rw [e27]; rfl) (by decide) ?_
    refine V_aload_0 189 dX11_count_189 ?_
    refine V_getR 190 (c := 11) 15 (F.r 0 15 76 rfl) dX11_count_190 fl_RX11_84 (F.m 0 (Nat.le_of_ble_eq_true rfl)) (F.k 0 11 rfl) (Nat.le_of_ble_eq_true rfl) (Nat.le_of_ble_eq_true rfl) rfl ?_
    refine V_getI 193 (c := 6) 2 dX11_count_193 fl_RX11_268 (F.m 76 (Nat.le_of_ble_eq_true rfl)) (F.k 76 6 rfl) (Nat.le_of_ble_eq_true rfl) (Nat.le_of_ble_eq_true rfl) rfl ?_
    refine V_iret 196 .int dX11_count_196 rfl rfl (Nat.le_of_ble_eq_true rfl) (Nat.le_of_ble_eq_true rfl) (RI.mk (IV.z I [] [] FZ.rf rfl rfl rfl rfl))
  refine V_teq (14) (fun e28 => ?_) (fun e28 => ?_)
  ·
    refine V_tableIn 1 197 (off := 196) dX11_count_1 (by omega) (by omega) (by rw [e28]; rfl) (by decide) ?_
    refine V_aload_0 197 dX11_count_197 ?_
    refine V_callV 198 (ci := 11) [] _ (s_slotsHeld M.2.1 Γ S F) dX11_count_198 cb_X11_slotsHeld ml_RX11_287 im_yX11_slotsHeld se_yX11_slotsHeld (F.m 0 (Nat.le_of_ble_eq_true rfl)) (F.k 0 11 rfl) (Nat.le_of_ble_eq_true rfl) ⟨(Nat.le_of_ble_eq_true rfl), (Nat.le_of_ble_eq_true rfl)⟩ rfl rfl (Nat.le_of_ble_eq_true rfl) ⟨(Nat.le_of_ble_eq_true rfl), (Nat.le_of_ble_eq_true rfl)⟩ (RI.go (fun r31 S29 q30 => ?_))
    have h32 : FZ [] [] S S29 := (FZ.rf (X := []) (Y := []) (S := S)).tr (q30.sub (by simp) (by simp))
    refine V_iret 201 .int dX11_count_201 rfl rfl (Nat.le_of_ble_eq_true rfl) (Nat.le_of_ble_eq_true rfl) (RI.mk (IV.z I [] [] h32 rfl rfl rfl rfl))
  exact absurd (by omega) q1

