/-! SockTable's small methods, each keeping what every state keeps -/
def shF (i : Nat) : Int32 := 24 - 8 * nI i
set_option maxRecDepth 100000 in
set_option maxHeartbeats 8000000 in
theorem s_addFour (l : Launch) (Γ : GC) (S : PS) {t : Nat} (F : isL lyTape Γ.2.2.2.2.1 S t) (v : Int32) : CT l Γ yX8_addFour cX8_addFour 3 none (1) (0) (0) [.ref t, .int v] S (RV (fun S' => FZ [t + 1] [(t, 1)] S S' ∧ sI S' t 1 = sI S t 1 + 4)) := by
  refine CT.of RX8 "addFour" [some (.ref t), some (.int v), none] (by decide +kernel) rfl rfl (Nat.le_of_ble_eq_true rfl) rfl (fun M hM => ?_)
  subst hM
  refine V_bipush 0 (24) dX8_addFour_0 (by decide) ?_
  refine V_istore_2 2 dX8_addFour_2 rfl (Nat.le_of_ble_eq_true rfl) ?_
  rw [show (24 : Int32) = shF 0 by decide]
  refine V_while (α := Nat × PS) (fun x => 4 - x.1) (fun x => x.1 ≤ 4 ∧ FZ [t + 1] [(t, 1)] S x.2 ∧ sI x.2 t 1 = sI S t 1 + nI x.1) (fun x => x.2) (fun x => [some (.ref t), some (.int v), some (.int (shF x.1))]) (0, S) ⟨Nat.zero_le _, FZ.rf, by rw [nI_0]; exact (Int32.add_zero _).symm⟩ (fun x hx ih => ?_)
  obtain ⟨i, S2⟩ := x
  obtain ⟨hi, hR, hv⟩ := hx
  dsimp only at hi hR hv ih ⊢
  have F2 := F.ss hR.1
  refine V_iload_2 3 dX8_addFour_3 ?_
  refine V_if_lt 4 41 dX8_addFour_4 (by decide) (fun c => ?_) (fun c => ?_)
  ·
    have hi2 : i = 4 := by
      rcases (show i = 0 ∨ i = 1 ∨ i = 2 ∨ i = 3 ∨ i = 4 by omega) with rfl | rfl | rfl | rfl | rfl
      · exact absurd c (by decide)
      · exact absurd c (by decide)
      · exact absurd c (by decide)
      · exact absurd c (by decide)
      · rfl
    subst hi2
    refine V_vret 41 dX8_addFour_41 rfl (Nat.le_of_ble_eq_true rfl) (Nat.le_of_ble_eq_true rfl) (RV.mk ⟨hR, hv⟩)
  ·
    have hi2 : i < 4 := by
      rcases Nat.lt_or_ge i 4 with q | q
      · exact q
      · have : i = 4 := by omega
        subst this
        exact absurd (by decide) c
    have hsh : shF i + (-8) = shF (i + 1) := by
      rcases (show i = 0 ∨ i = 1 ∨ i = 2 ∨ i = 3 by omega) with rfl | rfl | rfl | rfl <;> decide
    refine V_aload_0 7 dX8_addFour_7 ?_
    refine V_getR 8 (c := 8) 0 (F2.r 0 0 1 rfl) dX8_addFour_8 fl_RX8_9 (F2.m 0 (Nat.le_of_ble_eq_true rfl)) (F2.k 0 8 rfl) (Nat.le_of_ble_eq_true rfl) (Nat.le_of_ble_eq_true rfl) rfl ?_
    refine V_aload_0 11 dX8_addFour_11 ?_
    refine V_getI 12 (c := 8) 1 dX8_addFour_12 fl_RX8_44 (F2.m 0 (Nat.le_of_ble_eq_true rfl)) (F2.k 0 8 rfl) (Nat.le_of_ble_eq_true rfl) (Nat.le_of_ble_eq_true rfl) rfl ?_
    refine V_iload_1 15 dX8_addFour_15 ?_
    refine V_iload_2 16 dX8_addFour_16 ?_
    refine V_iushr 17 dX8_addFour_17 ?_
    refine V_sipush 18 (255) dX8_addFour_18 (by decide) ?_
    refine V_iand 21 dX8_addFour_21 ?_
    refine V_callSN 22 [.ref _, .int _, .int _] _ (c_put M.2.1 Γ S2 (a := t + 1) (F2.m 1 (by decide)) (F2.k 1 14 rfl) (by rw [F2.l 1 2000 rfl]; decide) _ _) dX8_addFour_22 cb_X11_put ne_RX8_47 sm_yX11_put ⟨(Nat.le_of_ble_eq_true rfl), (Nat.le_of_ble_eq_true rfl)⟩ rfl rfl (Nat.le_of_ble_eq_true rfl) ⟨(Nat.le_of_ble_eq_true rfl), (Nat.le_of_ble_eq_true rfl)⟩ (RV.go (fun S3 hq => ?_))
    have R3 := fr_put hq
    have F3 := F2.ss R3.1
    refine V_aload_0 25 dX8_addFour_25 ?_
    refine V_dup 26 dX8_addFour_26 rfl ?_
    refine V_getI 27 (c := 8) 1 dX8_addFour_27 fl_RX8_44 (F3.m 0 (Nat.le_of_ble_eq_true rfl)) (F3.k 0 8 rfl) (Nat.le_of_ble_eq_true rfl) (Nat.le_of_ble_eq_true rfl) rfl ?_
    refine V_iconst 30 (1) dX8_addFour_30 (by decide) ?_
    refine V_iadd 31 dX8_addFour_31 ?_
    refine V_putI 32 (c := 8) 1 dX8_addFour_32 fl_RX8_44 (F3.m 0 (Nat.le_of_ble_eq_true rfl)) (F3.k 0 8 rfl) (Nat.le_of_ble_eq_true rfl) (Nat.le_of_ble_eq_true rfl) rfl (Or.inl rfl) ?_
    refine V_iinc_2 35 (-8) dX8_addFour_35 (by decide) rfl (Nat.le_of_ble_eq_true rfl) ?_
    refine V_goto 38 3 dX8_addFour_38 (by decide) ?_
    rw [hsh]
    refine ih (i + 1, _) ⟨by dsimp only; omega, (hR.tr (R3.sub (by simp) (by simp))).uI (by simp), ?_⟩ (by dsimp only; omega)
    show sI (uI S3 t 1 (sI S3 t 1 + 1)) t 1 = _
    rw [sI_uI, up2_s, R3.2.2 t 1 (by simp), hv, nI_succ, Int32.add_assoc]
set_option maxRecDepth 100000 in
set_option maxHeartbeats 8000000 in
theorem s_isKind (l : Launch) (Γ : GC) (S : PS) {h : Nat} (F : isL lySockTableW Γ.2.2.2.2.1 S h) (x : Int32) : CT l Γ yX11_isKind cX11_isKind 2 (some .boolean) (0) (0) (0) [.ref h, .int x] S (RI (fun r S' => (r = 0 ∨ r = 1) ∧ S' = S)) := by
  refine CT.of RX11 "isKind" [some (.ref h), some (.int x)] (by decide +kernel) rfl rfl (Nat.le_of_ble_eq_true rfl) rfl (fun M hM => ?_)
  subst hM
  refine V_iload_1 0 dX11_isKind_0 ?_
  refine V_if_lt 1 19 dX11_isKind_1 (by decide) (fun c1 => ?_) (fun c1 => ?_)
  ·
    refine V_iconst 19 (0) dX11_isKind_19 (by decide) ?_
    refine V_iret 20 .boolean dX11_isKind_20 rfl (nrwB (Or.inl rfl)) (Nat.le_of_ble_eq_true rfl) (Nat.le_of_ble_eq_true rfl) (RI.mk ⟨(Or.inl rfl), rfl⟩)
  ·
    refine V_iload_1 4 dX11_isKind_4 ?_
    refine V_aload_0 5 dX11_isKind_5 ?_
    refine V_getR 6 (c := 11) 3 (F.r 0 3 27 rfl) dX11_isKind_6 fl_RX11_31 (F.m 0 (Nat.le_of_ble_eq_true rfl)) (F.k 0 11 rfl) (Nat.le_of_ble_eq_true rfl) (Nat.le_of_ble_eq_true rfl) rfl ?_
    refine V_getI 9 (c := 10) 0 dX11_isKind_9 fl_RX11_275 (F.m 27 (Nat.le_of_ble_eq_true rfl)) (F.k 27 10 rfl) (Nat.le_of_ble_eq_true rfl) (Nat.le_of_ble_eq_true rfl) rfl ?_
    refine V_icmp_ge 12 19 dX11_isKind_12 (by decide) (fun c2 => ?_) (fun c2 => ?_)
    ·
      refine V_iconst 19 (0) dX11_isKind_19 (by decide) ?_
      refine V_iret 20 .boolean dX11_isKind_20 rfl (nrwB (Or.inl rfl)) (Nat.le_of_ble_eq_true rfl) (Nat.le_of_ble_eq_true rfl) (RI.mk ⟨(Or.inl rfl), rfl⟩)
    ·
      refine V_iconst 15 (1) dX11_isKind_15 (by decide) ?_
      refine V_goto 16 20 dX11_isKind_16 (by decide) ?_
      refine V_iret 20 .boolean dX11_isKind_20 rfl (nrwB (Or.inr rfl)) (Nat.le_of_ble_eq_true rfl) (Nat.le_of_ble_eq_true rfl) (RI.mk ⟨(Or.inr rfl), rfl⟩)
set_option maxRecDepth 100000 in
set_option maxHeartbeats 8000000 in
theorem s_slotsHeld (l : Launch) (Γ : GC) (S : PS) {h : Nat} (F : isL lySockTableW Γ.2.2.2.2.1 S h) : CT l Γ yX11_slotsHeld cX11_slotsHeld 3 (some .int) (0) (0) (0) [.ref h] S (RI (fun r S' => FZ [] [] S S')) := by
  refine CT.of RX11 "slotsHeld" [some (.ref h), none, none] (by decide +kernel) rfl rfl (Nat.le_of_ble_eq_true rfl) rfl (fun M hM => ?_)
  subst hM
  refine V_iconst 0 (0) dX11_slotsHeld_0 (by decide) ?_
  refine V_istore_1 1 dX11_slotsHeld_1 rfl (Nat.le_of_ble_eq_true rfl) ?_
  refine V_iconst 2 (0) dX11_slotsHeld_2 (by decide) ?_
  refine V_istore_2 3 dX11_slotsHeld_3 rfl (Nat.le_of_ble_eq_true rfl) ?_
  refine V_lvw (by repeat (first | exact trivial | refine ⟨rfl, ?_⟩)) (V_while (α := Nat × PS × Int32) (fun z1 => 3 - z1.1) (fun z1 => z1.1 ≤ 3 ∧ FZ [] [] S z1.2.1) (fun z1 => z1.2.1) (fun z1 => [some (.ref h), some (.int z1.2.2), some (.int (nI z1.1))]) (0, _, _) ⟨Nat.zero_le _, FZ.rf⟩ (fun z1 hx8 ih6 => ?b9))
  obtain ⟨i2, S3, w7⟩ := z1
  obtain ⟨hi4, h5⟩ := hx8
  dsimp only at hi4 h5 ih6 ⊢
  have J13 : ∀ (S11 : PS) (x14 : Int32) (x15 : Int32) (x16 : Int32), FZ [] [] S S11 → i2 < 3 → V M Γ (3, RX11, "slotsHeld", (some .int), RM (0) (0) (0)) cX11_slotsHeld (RQ M Γ (RI (fun r S' => FZ [] [] S S')) (0) (0)) 0 0 S11 28 [some (.ref h), some (.int x14), some (.int (nI i2))] [.int x16, .int x15] := by
    intro S11 x14 x15 x16 h12 lt17
    refine V_iadd 28 dX11_slotsHeld_28 ?_
    refine V_istore_1 29 dX11_slotsHeld_29 rfl (Nat.le_of_ble_eq_true rfl) ?_
    refine V_iinc_2 30 (1) dX11_slotsHeld_30 (by decide) rfl (Nat.le_of_ble_eq_true rfl) ?_
    refine V_goto 33 4 dX11_slotsHeld_33 (by decide) ?_
    rw [← nI_succ]
    refine V_lvw (by repeat (first | exact trivial | refine ⟨rfl, ?_⟩)) (ih6 (i2 + 1, _, _) ⟨by dsimp only; omega, h12⟩ (by dsimp only; omega))
  refine V_iload_2 4 dX11_slotsHeld_4 ?_
  refine V_aload_0 5 dX11_slotsHeld_5 ?_
  refine V_getR 6 (c := 11) 11 ((F.ss h5.1).r 0 11 51 rfl) dX11_slotsHeld_6 fl_RX11_56 ((F.ss h5.1).m 0 (Nat.le_of_ble_eq_true rfl)) ((F.ss h5.1).k 0 11 rfl) (Nat.le_of_ble_eq_true rfl) (Nat.le_of_ble_eq_true rfl) rfl ?_
  refine V_alen2 9 dX11_slotsHeld_9 ((F.ss h5.1).m 51 (Nat.le_of_ble_eq_true rfl)) ((F.ss h5.1).k 51 16 rfl) (Nat.le_of_ble_eq_true rfl) (Nat.le_of_ble_eq_true rfl) ((F.ss h5.1).l 51 3 rfl) ?_
  refine V_icmp_ge 10 36 dX11_slotsHeld_10 (by decide) (fun c18 => ?_) (fun c18 => ?_)
  ·
    refine V_iload_1 36 dX11_slotsHeld_36 ?_
    refine V_iret 37 .int dX11_slotsHeld_37 rfl rfl (Nat.le_of_ble_eq_true rfl) (Nat.le_of_ble_eq_true rfl) (RI.mk h5)
  ·
    have lt19 := nI_lt8 (by decide) hi4 c18
    refine V_iload_1 13 dX11_slotsHeld_13 ?_
    refine V_aload_0 14 dX11_slotsHeld_14 ?_
    refine V_getR 15 (c := 11) 11 ((F.ss h5.1).r 0 11 51 rfl) dX11_slotsHeld_15 fl_RX11_56 ((F.ss h5.1).m 0 (Nat.le_of_ble_eq_true rfl)) ((F.ss h5.1).k 0 11 rfl) (Nat.le_of_ble_eq_true rfl) (Nat.le_of_ble_eq_true rfl) rfl ?_
    refine V_iload_2 18 dX11_slotsHeld_18 ?_
    refine V_zaload2 19 dX11_slotsHeld_19 ((F.ss h5.1).m 51 (Nat.le_of_ble_eq_true rfl)) ((F.ss h5.1).k 51 16 rfl) ((F.ss h5.1).l 51 3 rfl) ?_ ?_
    · exact vp_in_nI (by omega) (by decide)
    refine V_if_eq 20 27 dX11_slotsHeld_20 (by decide) (fun c20 => ?_) (fun c20 => ?_)
    ·
      refine V_iconst 27 (0) dX11_slotsHeld_27 (by decide) ?_
      refine V_lvw (by repeat (first | exact trivial | refine ⟨rfl, ?_⟩)) (J13 _ _ _ _ h5 (by first | omega | assumption))
    ·
      refine V_iconst 23 (1) dX11_slotsHeld_23 (by decide) ?_
      refine V_goto 24 28 dX11_slotsHeld_24 (by decide) ?_
      refine V_lvw (by repeat (first | exact trivial | refine ⟨rfl, ?_⟩)) (J13 _ _ _ _ h5 (by first | omega | assumption))
set_option maxRecDepth 100000 in
set_option maxHeartbeats 8000000 in
theorem s_playOut (l : Launch) (Γ : GC) (S : PS) {s t : Nat} (F : isL lyState Γ.2.2.2.2.1 S s) (Ft : isL lyText Γ.2.2.2.2.1 S t) (x y z : Int32) : CT l Γ yX7_playOut cX7_playOut 6 (some .int) (3) (0) (0) [.ref s, .ref t, .int x, .int y, .int z] S (RI (fun r S' => FZ [s + 1, s + 2, s + 3] [(s, 3), (s, 4)] S S')) := by
  refine CT.of RX7 "playOut" [some (.ref s), some (.ref t), some (.int x), some (.int y), some (.int z), none] (by decide +kernel) rfl rfl (Nat.le_of_ble_eq_true rfl) rfl (fun M hM => ?_)
  subst hM
  have J3 : ∀ (S1 : PS) (x4 : Int32), FZ [s + 1, s + 2, s + 3] [(s, 3), (s, 4)] S S1 → V M Γ (6, RX7, "playOut", (some .int), RM (3) (0) (0)) cX7_playOut (RQ M Γ (RI (fun r S' => FZ [s + 1, s + 2, s + 3] [(s, 3), (s, 4)] S S')) (0) (0)) 0 0 S1 45 [some (.ref s), some (.ref t), some (.int x), some (.int y), some (.int z), some (.int x4)] [] := by
    intro S1 x4 h2
    refine V_iload_5 45 dX7_playOut_45 ?_
    refine V_iret 47 .int dX7_playOut_47 rfl rfl (Nat.le_of_ble_eq_true rfl) (Nat.le_of_ble_eq_true rfl) (RI.mk h2)
  refine V_iconst 0 (0) dX7_playOut_0 (by decide) ?_
  refine V_istore_5 1 dX7_playOut_1 rfl (Nat.le_of_ble_eq_true rfl) ?_
  refine V_lvw (by repeat (first | exact trivial | refine ⟨rfl, ?_⟩)) (V_while (α := Int32 × PS) (fun z5 => ((z).toInt - z5.1.toInt).toNat) (fun z5 => FZ [s + 1, s + 2, s + 3] [(s, 3), (s, 4)] S z5.2) (fun z5 => z5.2) (fun z5 => [some (.ref s), some (.ref t), some (.int x), some (.int y), some (.int z), some (.int z5.1)]) (_, _) (FZ.rf) (fun z5 h9 ih10 => ?b12))
  obtain ⟨i6, S7⟩ := z5
  dsimp only at h9 ih10 ⊢
  refine V_iload_5 3 dX7_playOut_3 ?_
  refine V_iload_4 5 dX7_playOut_5 ?_
  refine V_icmp_ge 7 45 dX7_playOut_7 (by decide) (fun c14 => ?_) (fun c14 => ?_)
  ·
    refine V_lvw (by repeat (first | exact trivial | refine ⟨rfl, ?_⟩)) (J3 _ _ h9)
  ·
    refine V_aload_0 10 dX7_playOut_10 ?_
    refine V_getI 11 (c := 7) 4 dX7_playOut_11 fl_RX7_34 ((F.ss h9.1).m 0 (Nat.le_of_ble_eq_true rfl)) ((F.ss h9.1).k 0 7 rfl) (Nat.le_of_ble_eq_true rfl) (Nat.le_of_ble_eq_true rfl) rfl ?_
    refine V_if_ne 14 45 dX7_playOut_14 (by decide) (fun c16 => ?_) (fun c16 => ?_)
    ·
      refine V_lvw (by repeat (first | exact trivial | refine ⟨rfl, ?_⟩)) (J3 _ _ h9)
    ·
      refine V_aload_0 17 dX7_playOut_17 ?_
      refine V_getR 18 (c := 7) 0 ((F.ss h9.1).r 0 0 1 rfl) dX7_playOut_18 fl_RX7_9 ((F.ss h9.1).m 0 (Nat.le_of_ble_eq_true rfl)) ((F.ss h9.1).k 0 7 rfl) (Nat.le_of_ble_eq_true rfl) (Nat.le_of_ble_eq_true rfl) rfl ?_
      refine V_callSN 21 [.ref _] _ (c_total M.2.1 Γ S7 (a := (s + 1)) ((F.ss h9.1).m 1 (Nat.le_of_ble_eq_true rfl)) ((F.ss h9.1).k 1 14 rfl) (by rw [((F.ss h9.1).l 1 8 rfl)]; decide)) dX7_playOut_21 cb_X11_total ne_RX7_55 sm_yX11_total ⟨(Nat.le_of_ble_eq_true rfl), (Nat.le_of_ble_eq_true rfl)⟩ rfl rfl (Nat.le_of_ble_eq_true rfl) ⟨(Nat.le_of_ble_eq_true rfl), (Nat.le_of_ble_eq_true rfl)⟩ (RI.go (fun r20 S18 q19 => ?_))
      rw [q19.2]
      refine V_if_le 24 45 dX7_playOut_24 (by decide) (fun c21 => ?_) (fun c21 => ?_)
      ·
        refine V_lvw (by repeat (first | exact trivial | refine ⟨rfl, ?_⟩)) (J3 _ _ h9)
      ·
        refine V_aload_0 27 dX7_playOut_27 ?_
        refine V_aload_1 28 dX7_playOut_28 ?_
        refine V_aload_0 29 dX7_playOut_29 ?_
        refine V_iload_2 30 dX7_playOut_30 ?_
        refine V_callV 31 (ci := 7) [.int _] _ (s_X7_pick M.2.1 Γ S7 (F.ss h9.1) _) dX7_playOut_31 cb_X7_pick ml_RX7_70 im_yX7_pick se_yX7_pick ((F.ss h9.1).m 0 (Nat.le_of_ble_eq_true rfl)) ((F.ss h9.1).k 0 7 rfl) (Nat.le_of_ble_eq_true rfl) ⟨(Nat.le_of_ble_eq_true rfl), (Nat.le_of_ble_eq_true rfl)⟩ rfl rfl (Nat.le_of_ble_eq_true rfl) ⟨(Nat.le_of_ble_eq_true rfl), (Nat.le_of_ble_eq_true rfl)⟩ (RI.go (fun r25 S23 q24 => ?_))
        have h26 : FZ [s + 1, s + 2, s + 3] [(s, 3), (s, 4)] S S23 := h9.tr (q24.sub (by simp) (by simp))
        refine V_iload_3 34 dX7_playOut_34 ?_
        refine V_callV 35 (ci := 7) [.ref _, .int _, .int _] _ (s_X7_drawOne M.2.1 Γ S23 (F.ss h26.1) (Ft.ss h26.1) _ _) dX7_playOut_35 cb_X7_drawOne ml_RX7_74 im_yX7_drawOne se_yX7_drawOne ((F.ss h26.1).m 0 (Nat.le_of_ble_eq_true rfl)) ((F.ss h26.1).k 0 7 rfl) (Nat.le_of_ble_eq_true rfl) ⟨(Nat.le_of_ble_eq_true rfl), (Nat.le_of_ble_eq_true rfl)⟩ rfl rfl (Nat.le_of_ble_eq_true rfl) ⟨(Nat.le_of_ble_eq_true rfl), (Nat.le_of_ble_eq_true rfl)⟩ (RI.go (fun r29 S27 q28 => ?_))
        have h30 : FZ [s + 1, s + 2, s + 3] [(s, 3), (s, 4)] S S27 := h26.tr (q28.sub (by simp) (by simp))
        refine V_pop 38 dX7_playOut_38 rfl ?_
        refine V_iinc_5 39 (1) dX7_playOut_39 (by decide) rfl (Nat.le_of_ble_eq_true rfl) ?_
        refine V_goto 42 3 dX7_playOut_42 (by decide) ?_
        refine V_lvw (by repeat (first | exact trivial | refine ⟨rfl, ?_⟩)) (ih10 (_, _) (h30) (up32 (by first | assumption | (assumption))))
theorem s_liveUntilX (l : Launch) (Γ : GC) (S : PS) {o t : Nat} (F : isL lyLossesW Γ.2.2.2.2.1 S o) (Ft : isL lyText Γ.2.2.2.2.1 S t) (hw : WK o S) (x : Int32) (hx : ∃ n, n ≤ 200 ∧ x = nI n) : CT l Γ yX3_liveUntil cX3_liveUntil 4 none (4) (0) (0) [.ref o, .ref t, .int x] S (RV (fun S' => FZ [o + 3, o + 4, o + 5, o + 6, o + 7, t + 13] [(o, 5), (o, 6)] S S' ∧ WK o S')) := by
  obtain ⟨n, hn, rfl⟩ := hx
  exact s_liveUntil l Γ S F Ft hw n hn
theorem yr200 {x : Int32} (h1 : ¬ x < 1) (h2 : ¬ 200 < x) : ∃ n, n ≤ 200 ∧ x = nI n := by
  have a1 : ¬ x.toInt < (1 : Int32).toInt := fun q => h1 (Int32.lt_iff_toInt_lt.mpr q)
  have a2 : ¬ (200 : Int32).toInt < x.toInt := fun q => h2 (Int32.lt_iff_toInt_lt.mpr q)
  rw [show (1 : Int32).toInt = 1 from by decide] at a1
  rw [show (200 : Int32).toInt = 200 from by decide] at a2
  obtain ⟨j, hj, rfl⟩ := nI_of (x := x) (fun q => by
    have := Int32.lt_iff_toInt_lt.mp q
    rw [show (0 : Int32).toInt = 0 from by decide] at this
    omega)
  rw [nI_toInt hj] at a2
  exact ⟨j, by omega, rfl⟩
theorem fm43 {r : Int32} (q : ¬ r < 0 ∧ ¬ nI 40 ≤ r) : r.toNatClampNeg < 40 := by
  obtain ⟨j, hj, rfl⟩ := nI_of q.1
  rw [nI_clamp hj]
  rcases Nat.lt_or_ge j 40 with h | h
  · exact h
  · exact absurd (nI_le (show 40 ≤ j from h) hj) q.2
theorem NUM.cpT {u t : Nat} {S S2 : PS} (h : NUM u S) (e : S2 = cpA S (u + 1) (t + 1) (sL S (u + 1))) (hl : sL S (u + 1) = 8) : NUM t S2 := fun i hi => by
  have q : sA S2 (t + 1) i = sA S (u + 1) i := by
    rw [e]
    show (if t + 1 = t + 1 ∧ i < sL S (u + 1) then sA S (u + 1) i else _) = _
    rw [if_pos ⟨rfl, by rw [hl]; exact hi⟩]
  rw [q]; exact h i hi
set_option maxRecDepth 100000 in
set_option maxHeartbeats 8000000 in
theorem s_X10_becomeN (l : Launch) (Γ : GC) (S : PS) {t u : Nat} (F : isL lyText Γ.2.2.2.2.1 S t) (G : isL lyText Γ.2.2.2.2.1 S u) (hd : u + 14 ≤ t) (hn : NUM u S) (hn2 : NUM t S) : CT l Γ yX10_become cX10_become 2 none (2) (0) (0) [.ref t, .ref u] S (RV (fun S' => FZ [t + 1, t + 2, t + 3, t + 6, t + 7, t + 11, t + 12] [(t, 0), (t, 1), (t, 8), (t, 9), (t, 10), (t, 11), (t, 13), (t + 10, 2)] S S' ∧ NUM t S')) := by
  refine CT.of RX10 "become" [some (.ref t), some (.ref u)] (by decide +kernel) rfl rfl (Nat.le_of_ble_eq_true rfl) rfl (fun M hM => ?_)
  subst hM
  refine V_aload_0 0 dX10_become_0 ?_
  refine V_aload_1 1 dX10_become_1 ?_
  refine V_getI 2 (c := 10) 0 dX10_become_2 fl_RX10_50 (G.m 0 (Nat.le_of_ble_eq_true rfl)) (G.k 0 10 rfl) (Nat.le_of_ble_eq_true rfl) (Nat.le_of_ble_eq_true rfl) rfl ?_
  refine V_putI 5 (c := 10) 0 dX10_become_5 fl_RX10_50 (F.m 0 (Nat.le_of_ble_eq_true rfl)) (F.k 0 10 rfl) (Nat.le_of_ble_eq_true rfl) (Nat.le_of_ble_eq_true rfl) rfl (Or.inl rfl) ?_
  refine V_abs (fun T9 => FZ [t + 1, t + 2, t + 3, t + 6, t + 7, t + 11, t + 12] [(t, 0), (t, 1), (t, 8), (t, 9), (t, 10), (t, 11), (t, 13), (t + 10, 2)] S T9 ∧ ((fun T => NUM u T ∧ NUM t T) T9)) ⟨(FZ.rf (X := [t + 1, t + 2, t + 3, t + 6, t + 7, t + 11, t + 12]) (Y := [(t, 0), (t, 1), (t, 8), (t, 9), (t, 10), (t, 11), (t, 13), (t + 10, 2)]) (S := S)).uI (by simp), by exact (And.intro hn hn2)⟩ (fun S1 hh4 => ?_)
  obtain ⟨h2, p3⟩ := hh4
  refine V_aload_0 8 dX10_become_8 ?_
  refine V_aload_1 9 dX10_become_9 ?_
  refine V_getI 10 (c := 10) 1 dX10_become_10 fl_RX10_54 ((G.ss h2.1).m 0 (Nat.le_of_ble_eq_true rfl)) ((G.ss h2.1).k 0 10 rfl) (Nat.le_of_ble_eq_true rfl) (Nat.le_of_ble_eq_true rfl) rfl ?_
  refine V_putI 13 (c := 10) 1 dX10_become_13 fl_RX10_54 ((F.ss h2.1).m 0 (Nat.le_of_ble_eq_true rfl)) ((F.ss h2.1).k 0 10 rfl) (Nat.le_of_ble_eq_true rfl) (Nat.le_of_ble_eq_true rfl) rfl (Or.inl rfl) ?_
  refine V_abs (fun T9 => FZ [t + 1, t + 2, t + 3, t + 6, t + 7, t + 11, t + 12] [(t, 0), (t, 1), (t, 8), (t, 9), (t, 10), (t, 11), (t, 13), (t + 10, 2)] S T9 ∧ ((fun T => NUM u T ∧ NUM t T) T9)) ⟨h2.uI (by simp), by exact p3⟩ (fun S5 hh8 => ?_)
  obtain ⟨h6, p7⟩ := hh8
  refine V_aload_1 16 dX10_become_16 ?_
  refine V_getR 17 (c := 10) 2 ((G.ss h6.1).r 0 2 1 rfl) dX10_become_17 fl_RX10_9 ((G.ss h6.1).m 0 (Nat.le_of_ble_eq_true rfl)) ((G.ss h6.1).k 0 10 rfl) (Nat.le_of_ble_eq_true rfl) (Nat.le_of_ble_eq_true rfl) rfl ?_
  refine V_aload_0 20 dX10_become_20 ?_
  refine V_getR 21 (c := 10) 2 ((F.ss h6.1).r 0 2 1 rfl) dX10_become_21 fl_RX10_9 ((F.ss h6.1).m 0 (Nat.le_of_ble_eq_true rfl)) ((F.ss h6.1).k 0 10 rfl) (Nat.le_of_ble_eq_true rfl) (Nat.le_of_ble_eq_true rfl) rfl ?_
  refine V_callSN 24 [.ref _, .ref _] _ (c_copyRow M.2.1 Γ S5 (a := (u + 1)) (b := (t + 1)) ((G.ss h6.1).m 1 (Nat.le_of_ble_eq_true rfl)) ((G.ss h6.1).k 1 14 rfl) (by rw [((G.ss h6.1).l 1 8 rfl)]; decide) ((F.ss h6.1).m 1 (Nat.le_of_ble_eq_true rfl)) ((F.ss h6.1).k 1 14 rfl) ((((F.ss h6.1).l 1 8 rfl)).trans (((G.ss h6.1).l 1 8 rfl)).symm)) dX10_become_24 cb_X11_copyRow ne_RX10_77 sm_yX11_copyRow ⟨(Nat.le_of_ble_eq_true rfl), (Nat.le_of_ble_eq_true rfl)⟩ rfl rfl (Nat.le_of_ble_eq_true rfl) ⟨(Nat.le_of_ble_eq_true rfl), (Nat.le_of_ble_eq_true rfl)⟩ (RV.go (fun S9 q10 => ?_))
  have h12 : FZ [t + 1, t + 2, t + 3, t + 6, t + 7, t + 11, t + 12] [(t, 0), (t, 1), (t, 8), (t, 9), (t, 10), (t, 11), (t, 13), (t + 10, 2)] S S9 := h6.tr ((fr_cpy q10).sub (by simp) (by simp))
  have p13 : ((fun T => NUM u T ∧ NUM t T) S9) := by exact ⟨p7.1.fz (fr_cpy q10) (by simp <;> omega), p7.1.cpT q10 ((G.ss h6.1).l 1 8 rfl)⟩
  refine V_aload_1 27 dX10_become_27 ?_
  refine V_getR 28 (c := 10) 3 ((G.ss h12.1).r 0 3 2 rfl) dX10_become_28 fl_RX10_15 ((G.ss h12.1).m 0 (Nat.le_of_ble_eq_true rfl)) ((G.ss h12.1).k 0 10 rfl) (Nat.le_of_ble_eq_true rfl) (Nat.le_of_ble_eq_true rfl) rfl ?_
  refine V_aload_0 31 dX10_become_31 ?_
  refine V_getR 32 (c := 10) 3 ((F.ss h12.1).r 0 3 2 rfl) dX10_become_32 fl_RX10_15 ((F.ss h12.1).m 0 (Nat.le_of_ble_eq_true rfl)) ((F.ss h12.1).k 0 10 rfl) (Nat.le_of_ble_eq_true rfl) (Nat.le_of_ble_eq_true rfl) rfl ?_
  refine V_callSN 35 [.ref _, .ref _] _ (c_copyRow M.2.1 Γ S9 (a := (u + 2)) (b := (t + 2)) ((G.ss h12.1).m 2 (Nat.le_of_ble_eq_true rfl)) ((G.ss h12.1).k 2 14 rfl) (by rw [((G.ss h12.1).l 2 8 rfl)]; decide) ((F.ss h12.1).m 2 (Nat.le_of_ble_eq_true rfl)) ((F.ss h12.1).k 2 14 rfl) ((((F.ss h12.1).l 2 8 rfl)).trans (((G.ss h12.1).l 2 8 rfl)).symm)) dX10_become_35 cb_X11_copyRow ne_RX10_77 sm_yX11_copyRow ⟨(Nat.le_of_ble_eq_true rfl), (Nat.le_of_ble_eq_true rfl)⟩ rfl rfl (Nat.le_of_ble_eq_true rfl) ⟨(Nat.le_of_ble_eq_true rfl), (Nat.le_of_ble_eq_true rfl)⟩ (RV.go (fun S14 q15 => ?_))
  have h17 : FZ [t + 1, t + 2, t + 3, t + 6, t + 7, t + 11, t + 12] [(t, 0), (t, 1), (t, 8), (t, 9), (t, 10), (t, 11), (t, 13), (t + 10, 2)] S S14 := h12.tr ((fr_cpy q15).sub (by simp) (by simp))
  have p18 : ((fun T => NUM u T ∧ NUM t T) S14) := by exact ⟨p13.1.fz (fr_cpy q15) (by simp <;> omega), p13.2.fz (fr_cpy q15) (by simp)⟩
  refine V_aload_1 38 dX10_become_38 ?_
  refine V_getR 39 (c := 10) 4 ((G.ss h17.1).r 0 4 3 rfl) dX10_become_39 fl_RX10_18 ((G.ss h17.1).m 0 (Nat.le_of_ble_eq_true rfl)) ((G.ss h17.1).k 0 10 rfl) (Nat.le_of_ble_eq_true rfl) (Nat.le_of_ble_eq_true rfl) rfl ?_
  refine V_aload_0 42 dX10_become_42 ?_
  refine V_getR 43 (c := 10) 4 ((F.ss h17.1).r 0 4 3 rfl) dX10_become_43 fl_RX10_18 ((F.ss h17.1).m 0 (Nat.le_of_ble_eq_true rfl)) ((F.ss h17.1).k 0 10 rfl) (Nat.le_of_ble_eq_true rfl) (Nat.le_of_ble_eq_true rfl) rfl ?_
  refine V_callSN 46 [.ref _, .ref _] _ (c_copyRow M.2.1 Γ S14 (a := (u + 3)) (b := (t + 3)) ((G.ss h17.1).m 3 (Nat.le_of_ble_eq_true rfl)) ((G.ss h17.1).k 3 14 rfl) (by rw [((G.ss h17.1).l 3 8 rfl)]; decide) ((F.ss h17.1).m 3 (Nat.le_of_ble_eq_true rfl)) ((F.ss h17.1).k 3 14 rfl) ((((F.ss h17.1).l 3 8 rfl)).trans (((G.ss h17.1).l 3 8 rfl)).symm)) dX10_become_46 cb_X11_copyRow ne_RX10_77 sm_yX11_copyRow ⟨(Nat.le_of_ble_eq_true rfl), (Nat.le_of_ble_eq_true rfl)⟩ rfl rfl (Nat.le_of_ble_eq_true rfl) ⟨(Nat.le_of_ble_eq_true rfl), (Nat.le_of_ble_eq_true rfl)⟩ (RV.go (fun S19 q20 => ?_))
  have h22 : FZ [t + 1, t + 2, t + 3, t + 6, t + 7, t + 11, t + 12] [(t, 0), (t, 1), (t, 8), (t, 9), (t, 10), (t, 11), (t, 13), (t + 10, 2)] S S19 := h17.tr ((fr_cpy q20).sub (by simp) (by simp))
  have p23 : ((fun T => NUM u T ∧ NUM t T) S19) := by exact ⟨p18.1.fz (fr_cpy q20) (by simp <;> omega), p18.2.fz (fr_cpy q20) (by simp)⟩
  refine V_aload_1 49 dX10_become_49 ?_
  refine V_getR 50 (c := 10) 7 ((G.ss h22.1).r 0 7 6 rfl) dX10_become_50 fl_RX10_28 ((G.ss h22.1).m 0 (Nat.le_of_ble_eq_true rfl)) ((G.ss h22.1).k 0 10 rfl) (Nat.le_of_ble_eq_true rfl) (Nat.le_of_ble_eq_true rfl) rfl ?_
  refine V_aload_0 53 dX10_become_53 ?_
  refine V_getR 54 (c := 10) 7 ((F.ss h22.1).r 0 7 6 rfl) dX10_become_54 fl_RX10_28 ((F.ss h22.1).m 0 (Nat.le_of_ble_eq_true rfl)) ((F.ss h22.1).k 0 10 rfl) (Nat.le_of_ble_eq_true rfl) (Nat.le_of_ble_eq_true rfl) rfl ?_
  refine V_callSN 57 [.ref _, .ref _] _ (c_copyRow M.2.1 Γ S19 (a := (u + 6)) (b := (t + 6)) ((G.ss h22.1).m 6 (Nat.le_of_ble_eq_true rfl)) ((G.ss h22.1).k 6 14 rfl) (by rw [((G.ss h22.1).l 6 64 rfl)]; decide) ((F.ss h22.1).m 6 (Nat.le_of_ble_eq_true rfl)) ((F.ss h22.1).k 6 14 rfl) ((((F.ss h22.1).l 6 64 rfl)).trans (((G.ss h22.1).l 6 64 rfl)).symm)) dX10_become_57 cb_X11_copyRow ne_RX10_77 sm_yX11_copyRow ⟨(Nat.le_of_ble_eq_true rfl), (Nat.le_of_ble_eq_true rfl)⟩ rfl rfl (Nat.le_of_ble_eq_true rfl) ⟨(Nat.le_of_ble_eq_true rfl), (Nat.le_of_ble_eq_true rfl)⟩ (RV.go (fun S24 q25 => ?_))
  have h27 : FZ [t + 1, t + 2, t + 3, t + 6, t + 7, t + 11, t + 12] [(t, 0), (t, 1), (t, 8), (t, 9), (t, 10), (t, 11), (t, 13), (t + 10, 2)] S S24 := h22.tr ((fr_cpy q25).sub (by simp) (by simp))
  have p28 : ((fun T => NUM u T ∧ NUM t T) S24) := by exact ⟨p23.1.fz (fr_cpy q25) (by simp <;> omega), p23.2.fz (fr_cpy q25) (by simp)⟩
  refine V_aload_0 60 dX10_become_60 ?_
  refine V_aload_1 61 dX10_become_61 ?_
  refine V_getI 62 (c := 10) 8 dX10_become_62 fl_RX10_61 ((G.ss h27.1).m 0 (Nat.le_of_ble_eq_true rfl)) ((G.ss h27.1).k 0 10 rfl) (Nat.le_of_ble_eq_true rfl) (Nat.le_of_ble_eq_true rfl) rfl ?_
  refine V_putI 65 (c := 10) 8 dX10_become_65 fl_RX10_61 ((F.ss h27.1).m 0 (Nat.le_of_ble_eq_true rfl)) ((F.ss h27.1).k 0 10 rfl) (Nat.le_of_ble_eq_true rfl) (Nat.le_of_ble_eq_true rfl) rfl (Or.inl rfl) ?_
  refine V_abs (fun T9 => FZ [t + 1, t + 2, t + 3, t + 6, t + 7, t + 11, t + 12] [(t, 0), (t, 1), (t, 8), (t, 9), (t, 10), (t, 11), (t, 13), (t + 10, 2)] S T9 ∧ ((fun T => NUM u T ∧ NUM t T) T9)) ⟨h27.uI (by simp), by exact p28⟩ (fun S29 hh32 => ?_)
  obtain ⟨h30, p31⟩ := hh32
  refine V_aload_0 68 dX10_become_68 ?_
  refine V_aload_1 69 dX10_become_69 ?_
  refine V_getI 70 (c := 10) 9 dX10_become_70 fl_RX10_64 ((G.ss h30.1).m 0 (Nat.le_of_ble_eq_true rfl)) ((G.ss h30.1).k 0 10 rfl) (Nat.le_of_ble_eq_true rfl) (Nat.le_of_ble_eq_true rfl) rfl ?_
  refine V_putI 73 (c := 10) 9 dX10_become_73 fl_RX10_64 ((F.ss h30.1).m 0 (Nat.le_of_ble_eq_true rfl)) ((F.ss h30.1).k 0 10 rfl) (Nat.le_of_ble_eq_true rfl) (Nat.le_of_ble_eq_true rfl) rfl (Or.inl rfl) ?_
  refine V_abs (fun T9 => FZ [t + 1, t + 2, t + 3, t + 6, t + 7, t + 11, t + 12] [(t, 0), (t, 1), (t, 8), (t, 9), (t, 10), (t, 11), (t, 13), (t + 10, 2)] S T9 ∧ ((fun T => NUM u T ∧ NUM t T) T9)) ⟨h30.uI (by simp), by exact p31⟩ (fun S33 hh36 => ?_)
  obtain ⟨h34, p35⟩ := hh36
  refine V_aload_0 76 dX10_become_76 ?_
  refine V_aload_1 77 dX10_become_77 ?_
  refine V_getI 78 (c := 10) 10 dX10_become_78 fl_RX10_67 ((G.ss h34.1).m 0 (Nat.le_of_ble_eq_true rfl)) ((G.ss h34.1).k 0 10 rfl) (Nat.le_of_ble_eq_true rfl) (Nat.le_of_ble_eq_true rfl) rfl ?_
  refine V_putI 81 (c := 10) 10 dX10_become_81 fl_RX10_67 ((F.ss h34.1).m 0 (Nat.le_of_ble_eq_true rfl)) ((F.ss h34.1).k 0 10 rfl) (Nat.le_of_ble_eq_true rfl) (Nat.le_of_ble_eq_true rfl) rfl (Or.inl rfl) ?_
  refine V_abs (fun T9 => FZ [t + 1, t + 2, t + 3, t + 6, t + 7, t + 11, t + 12] [(t, 0), (t, 1), (t, 8), (t, 9), (t, 10), (t, 11), (t, 13), (t + 10, 2)] S T9 ∧ ((fun T => NUM u T ∧ NUM t T) T9)) ⟨h34.uI (by simp), by exact p35⟩ (fun S37 hh40 => ?_)
  obtain ⟨h38, p39⟩ := hh40
  refine V_aload_0 84 dX10_become_84 ?_
  refine V_aload_1 85 dX10_become_85 ?_
  refine V_getI 86 (c := 10) 11 dX10_become_86 fl_RX10_70 ((G.ss h38.1).m 0 (Nat.le_of_ble_eq_true rfl)) ((G.ss h38.1).k 0 10 rfl) (Nat.le_of_ble_eq_true rfl) (Nat.le_of_ble_eq_true rfl) rfl ?_
  refine V_putI 89 (c := 10) 11 dX10_become_89 fl_RX10_70 ((F.ss h38.1).m 0 (Nat.le_of_ble_eq_true rfl)) ((F.ss h38.1).k 0 10 rfl) (Nat.le_of_ble_eq_true rfl) (Nat.le_of_ble_eq_true rfl) rfl (Or.inl rfl) ?_
  refine V_abs (fun T9 => FZ [t + 1, t + 2, t + 3, t + 6, t + 7, t + 11, t + 12] [(t, 0), (t, 1), (t, 8), (t, 9), (t, 10), (t, 11), (t, 13), (t + 10, 2)] S T9 ∧ ((fun T => NUM u T ∧ NUM t T) T9)) ⟨h38.uI (by simp), by exact p39⟩ (fun S41 hh44 => ?_)
  obtain ⟨h42, p43⟩ := hh44
  refine V_aload_1 92 dX10_become_92 ?_
  refine V_getR 93 (c := 10) 12 ((G.ss h42.1).r 0 12 7 rfl) dX10_become_93 fl_RX10_31 ((G.ss h42.1).m 0 (Nat.le_of_ble_eq_true rfl)) ((G.ss h42.1).k 0 10 rfl) (Nat.le_of_ble_eq_true rfl) (Nat.le_of_ble_eq_true rfl) rfl ?_
  refine V_aload_0 96 dX10_become_96 ?_
  refine V_getR 97 (c := 10) 12 ((F.ss h42.1).r 0 12 7 rfl) dX10_become_97 fl_RX10_31 ((F.ss h42.1).m 0 (Nat.le_of_ble_eq_true rfl)) ((F.ss h42.1).k 0 10 rfl) (Nat.le_of_ble_eq_true rfl) (Nat.le_of_ble_eq_true rfl) rfl ?_
  refine V_callSN 100 [.ref _, .ref _] _ (c_copyRow M.2.1 Γ S41 (a := (u + 7)) (b := (t + 7)) ((G.ss h42.1).m 7 (Nat.le_of_ble_eq_true rfl)) ((G.ss h42.1).k 7 14 rfl) (by rw [((G.ss h42.1).l 7 18 rfl)]; decide) ((F.ss h42.1).m 7 (Nat.le_of_ble_eq_true rfl)) ((F.ss h42.1).k 7 14 rfl) ((((F.ss h42.1).l 7 18 rfl)).trans (((G.ss h42.1).l 7 18 rfl)).symm)) dX10_become_100 cb_X11_copyRow ne_RX10_77 sm_yX11_copyRow ⟨(Nat.le_of_ble_eq_true rfl), (Nat.le_of_ble_eq_true rfl)⟩ rfl rfl (Nat.le_of_ble_eq_true rfl) ⟨(Nat.le_of_ble_eq_true rfl), (Nat.le_of_ble_eq_true rfl)⟩ (RV.go (fun S45 q46 => ?_))
  have h48 : FZ [t + 1, t + 2, t + 3, t + 6, t + 7, t + 11, t + 12] [(t, 0), (t, 1), (t, 8), (t, 9), (t, 10), (t, 11), (t, 13), (t + 10, 2)] S S45 := h42.tr ((fr_cpy q46).sub (by simp) (by simp))
  have p49 : ((fun T => NUM u T ∧ NUM t T) S45) := by exact ⟨p43.1.fz (fr_cpy q46) (by simp <;> omega), p43.2.fz (fr_cpy q46) (by simp)⟩
  refine V_aload_0 103 dX10_become_103 ?_
  refine V_aload_1 104 dX10_become_104 ?_
  refine V_getI 105 (c := 10) 13 dX10_become_105 fl_RX10_81 ((G.ss h48.1).m 0 (Nat.le_of_ble_eq_true rfl)) ((G.ss h48.1).k 0 10 rfl) (Nat.le_of_ble_eq_true rfl) (Nat.le_of_ble_eq_true rfl) rfl ?_
  refine V_putI 108 (c := 10) 13 dX10_become_108 fl_RX10_81 ((F.ss h48.1).m 0 (Nat.le_of_ble_eq_true rfl)) ((F.ss h48.1).k 0 10 rfl) (Nat.le_of_ble_eq_true rfl) (Nat.le_of_ble_eq_true rfl) rfl (Or.inl rfl) ?_
  refine V_abs (fun T9 => FZ [t + 1, t + 2, t + 3, t + 6, t + 7, t + 11, t + 12] [(t, 0), (t, 1), (t, 8), (t, 9), (t, 10), (t, 11), (t, 13), (t + 10, 2)] S T9 ∧ ((fun T => NUM u T ∧ NUM t T) T9)) ⟨h48.uI (by simp), by exact p49⟩ (fun S50 hh53 => ?_)
  obtain ⟨h51, p52⟩ := hh53
  refine V_aload_0 111 dX10_become_111 ?_
  refine V_getR 112 (c := 10) 16 ((F.ss h51.1).r 0 16 10 rfl) dX10_become_112 fl_RX10_43 ((F.ss h51.1).m 0 (Nat.le_of_ble_eq_true rfl)) ((F.ss h51.1).k 0 10 rfl) (Nat.le_of_ble_eq_true rfl) (Nat.le_of_ble_eq_true rfl) rfl ?_
  refine V_aload_1 115 dX10_become_115 ?_
  refine V_getR 116 (c := 10) 16 ((G.ss h51.1).r 0 16 10 rfl) dX10_become_116 fl_RX10_43 ((G.ss h51.1).m 0 (Nat.le_of_ble_eq_true rfl)) ((G.ss h51.1).k 0 10 rfl) (Nat.le_of_ble_eq_true rfl) (Nat.le_of_ble_eq_true rfl) rfl ?_
  refine V_callV 119 (ci := 2) [.ref _] _ (s_lawbecome M.2.1 Γ S50 ((F.ss h51.1).sub 10 lyLaw rfl (by decide)) ((G.ss h51.1).sub 10 lyLaw rfl (by decide))) dX10_become_119 cb_X2_become ml_RX10_84 im_yX2_become se_yX2_become ((F.ss h51.1).m 10 (Nat.le_of_ble_eq_true rfl)) ((F.ss h51.1).k 10 2 rfl) (Nat.le_of_ble_eq_true rfl) ⟨(Nat.le_of_ble_eq_true rfl), (Nat.le_of_ble_eq_true rfl)⟩ rfl rfl (Nat.le_of_ble_eq_true rfl) ⟨(Nat.le_of_ble_eq_true rfl), (Nat.le_of_ble_eq_true rfl)⟩ (RV.go (fun S54 q55 => ?_))
  have h57 : FZ [t + 1, t + 2, t + 3, t + 6, t + 7, t + 11, t + 12] [(t, 0), (t, 1), (t, 8), (t, 9), (t, 10), (t, 11), (t, 13), (t + 10, 2)] S S54 := h51.tr (q55.sub (by simp) (by simp))
  have p58 : ((fun T => NUM u T ∧ NUM t T) S54) := by exact ⟨p52.1.fz q55 (by simp <;> omega), p52.2.fz q55 (by simp)⟩
  refine V_vret 122 dX10_become_122 rfl (Nat.le_of_ble_eq_true rfl) (Nat.le_of_ble_eq_true rfl) (RV.mk ⟨h57, p58.2⟩)

