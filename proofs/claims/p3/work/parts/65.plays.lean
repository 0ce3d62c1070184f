/-! The reference's restore, draw, lot, take, evenings -/
theorem restEnd {lo m tp k i : Nat} {g : MG} {S T : PS} (I : MV lo m g tp S) (e : FZ [m + 37] [(m, 57)] S T) (hk : k ≤ 2) (hb : ¬ sA S (m + 55) k = 0) (p : ∀ j, j < i → sA T (m + 37) j = sA S (m + 56) (30 * k + j)) (hi : 30 ≤ i) (ez : sI T m 57 = nI 0) : MV lo m g tp T :=
  I.onNow (e.sub (by simp) (by simp)) ((I.held k (by omega) hb).cp (fun j hj => by rw [Nat.zero_add]; exact p j (by omega))) (u := 0) (by omega) ez (fun _ h => absurd h (Nat.not_lt_zero _))
set_option maxRecDepth 100000 in
set_option maxHeartbeats 8000000 in
theorem s_mrestore (l : Launch) (Γ : GC) (S : PS) {m tp : Nat} {g : MG} (I : MV Γ.2.2.2.2.1 m g tp S) (x : Int32) : CT l Γ yX12_restore cX12_restore 3 (some .boolean) (1) (0) (0) [.ref m, .int x] S (RI (fun r S' => MV Γ.2.2.2.2.1 m g tp S')) := by
  refine CT.of RX12 "restore" [some (.ref m), some (.int x), none] (by decide +kernel) rfl rfl (Nat.le_of_ble_eq_true rfl) rfl (fun M hM => ?_)
  subst hM
  have F := I.f
  have J18 : V M Γ (3, RX12, "restore", (some .boolean), RM (1) (0) (0)) cX12_restore (RQ M Γ (RI (fun r S' => MV Γ.2.2.2.2.1 m g tp S')) (0) (0)) 0 0 S 18 [some (.ref m), some (.int x), none] [] := by
    refine V_iconst 18 (0) dX12_restore_18 (by decide) ?_
    refine V_iret 19 .boolean dX12_restore_19 rfl (nrwB (Or.inl rfl)) (Nat.le_of_ble_eq_true rfl) (Nat.le_of_ble_eq_true rfl) (RI.mk I)
  refine V_iload_1 0 dX12_restore_0 ?_
  refine V_iconst 1 (0) dX12_restore_1 (by decide) ?_
  refine V_iconst 2 (2) dX12_restore_2 (by decide) ?_
  refine V_callS 3 [.int _, .int _, .int _] _ (s_min2 M.2.1 Γ S _ _ _) dX12_restore_3 cb_X12_in ml_RX12_335 sm_yX12_in ⟨(Nat.le_of_ble_eq_true rfl), (Nat.le_of_ble_eq_true rfl)⟩ rfl rfl (Nat.le_of_ble_eq_true rfl) ⟨(Nat.le_of_ble_eq_true rfl), (Nat.le_of_ble_eq_true rfl)⟩ (RI.go (fun r1 S1 q1 => ?_))
  rw [q1.2]
  have q1 := q1.1
  refine V_if_eq 6 18 dX12_restore_6 (by decide) (fun c => ?_) (fun c => ?_)
  · exact J18
  · have q2 := q1.resolve_left (fun z => c z.1)
    obtain ⟨k, hk, ek⟩ := inN (n := 2) (by decide) q2.2.1 q2.2.2
    refine V_aload_0 9 dX12_restore_9 ?_
    refine V_getR 10 (c := 12) 75 (F.r 0 75 55 rfl) dX12_restore_10 fl_RX12_183 (F.m 0 (Nat.le_of_ble_eq_true rfl)) (F.k 0 12 rfl) (Nat.le_of_ble_eq_true rfl) (Nat.le_of_ble_eq_true rfl) rfl ?_
    refine V_iload_1 13 dX12_restore_13 ?_
    refine V_zaload2 14 dX12_restore_14 (F.m 55 (Nat.le_of_ble_eq_true rfl)) (F.k 55 16 rfl) (F.l 55 3 rfl) ?_ ?_
    · exact vpN ek (by omega) (by decide)
    rw [clN ek (by omega)]
    refine V_if_ne 15 20 dX12_restore_15 (by decide) (fun c2 => ?_) (fun c2 => ?_)
    ·
      have p1 : ((fun T9 => ∀ j, j < 0 → sA T9 (m + 37) j = sA S (m + 56) (30 * k + j)) S) := fun j hj => absurd hj (Nat.not_lt_zero _)
      refine V_iconst 20 (0) dX12_restore_20 (by decide) ?_
      refine V_istore_2 21 dX12_restore_21 rfl (Nat.le_of_ble_eq_true rfl) ?_
      refine V_lvw (by repeat (first | exact trivial | refine ⟨rfl, ?_⟩)) (V_while (α := Nat × PS) (fun z2 => 30 - z2.1) (fun z2 => z2.1 ≤ 30 ∧ FZ [m + 37] [(m, 57)] S z2.2 ∧ ((fun T9 => ∀ j, j < z2.1 → sA T9 (m + 37) j = sA S (m + 56) (30 * k + j)) z2.2)) (fun z2 => z2.2) (fun z2 => [some (.ref m), some (.int x), some (.int (nI z2.1))]) (0, _) ⟨Nat.zero_le _, FZ.rf, p1⟩ (fun z2 hx8 ih7 => ?b9))
      obtain ⟨i3, S4⟩ := z2
      obtain ⟨hi5, h6, p11⟩ := hx8
      dsimp only at hi5 h6 p11 ih7 ⊢
      refine V_iload_2 22 dX12_restore_22 ?_
      refine V_bipush 23 (30) dX12_restore_23 (by decide) ?_
      refine V_icmp_ge 25 51 dX12_restore_25 (by decide) (fun c12 => ?_) (fun c12 => ?_)
      ·
        try have nf13 := (nI_leE (show (30 : Int32) = nI 30 from rfl) (Eq.refl (nI i3)) (by omega) (by omega)).mp c12
        refine V_aload_0 51 dX12_restore_51 ?_
        refine V_iconst 52 (0) dX12_restore_52 (by decide) ?_
        refine V_putI 53 (c := 12) 57 dX12_restore_53 fl_RX12_279 ((F.ss h6.1).m 0 (Nat.le_of_ble_eq_true rfl)) ((F.ss h6.1).k 0 12 rfl) (Nat.le_of_ble_eq_true rfl) (Nat.le_of_ble_eq_true rfl) rfl (Or.inl rfl) ?_
        refine V_abs (fun T9 => FZ [m + 37] [(m, 57)] S T9 ∧ ((fun T9 => (∀ j, j < i3 → sA T9 (m + 37) j = sA S (m + 56) (30 * k + j)) ∧ sI T9 m 57 = nI 0) T9)) ⟨h6.uI (by simp), by exact ⟨p11, up2_s _ _ _ _⟩⟩ (fun S14 hh17 => ?_)
        obtain ⟨h15, p16⟩ := hh17
        refine V_iconst 56 (1) dX12_restore_56 (by decide) ?_
        refine V_iret 57 .boolean dX12_restore_57 rfl (nrwB (Or.inr rfl)) (Nat.le_of_ble_eq_true rfl) (Nat.le_of_ble_eq_true rfl) (RI.mk (restEnd I h15 hk c2 p16.1 (by omega) p16.2))
      ·
        try have nf18 := mt (nI_leE (show (30 : Int32) = nI 30 from rfl) (Eq.refl (nI i3)) (by omega) (by omega)).mpr c12
        have lt19 := nI_lt8 (by decide) hi5 c12
        refine V_aload_0 28 dX12_restore_28 ?_
        refine V_getR 29 (c := 12) 53 ((F.ss h6.1).r 0 53 37 rfl) dX12_restore_29 fl_RX12_128 ((F.ss h6.1).m 0 (Nat.le_of_ble_eq_true rfl)) ((F.ss h6.1).k 0 12 rfl) (Nat.le_of_ble_eq_true rfl) (Nat.le_of_ble_eq_true rfl) rfl ?_
        refine V_iload_2 32 dX12_restore_32 ?_
        refine V_aload_0 33 dX12_restore_33 ?_
        refine V_getR 34 (c := 12) 76 ((F.ss h6.1).r 0 76 56 rfl) dX12_restore_34 fl_RX12_186 ((F.ss h6.1).m 0 (Nat.le_of_ble_eq_true rfl)) ((F.ss h6.1).k 0 12 rfl) (Nat.le_of_ble_eq_true rfl) (Nat.le_of_ble_eq_true rfl) rfl ?_
        refine V_bipush 37 (30) dX12_restore_37 (by decide) ?_
        refine V_iload_1 39 dX12_restore_39 ?_
        refine V_imul 40 dX12_restore_40 ?_
        refine V_iload_2 41 dX12_restore_41 ?_
        refine V_iadd 42 dX12_restore_42 ?_
        refine V_iaload2 43 dX12_restore_43 ((F.ss h6.1).m 56 (Nat.le_of_ble_eq_true rfl)) ((F.ss h6.1).k 56 14 rfl) ((F.ss h6.1).l 56 90 rfl) ?_ ?_
        · exact vpN (eqAdd (eqMul (show (30 : Int32) = nI 30 from rfl) ek) (Eq.refl (nI i3))) (by omega) (by decide)
        rw [clN (eqAdd (eqMul (show (30 : Int32) = nI 30 from rfl) ek) (Eq.refl (nI i3))) (by omega)]
        refine V_iastore2 44 dX12_restore_44 ((F.ss h6.1).m 37 (Nat.le_of_ble_eq_true rfl)) ((F.ss h6.1).k 37 14 rfl) ((F.ss h6.1).l 37 30 rfl) ?_ ?_
        · exact vp_in_nI (by omega) (by decide)
        refine V_abs (fun T9 => FZ [m + 37] [(m, 57)] S T9 ∧ ((fun T9 => ∀ j, j < i3 + 1 → sA T9 (m + 37) j = sA S (m + 56) (30 * k + j)) T9)) ⟨h6.uA (by simp), by exact cpO p11 (h6.2.1 (m + 56) (by simp)) (nI_clamp (by omega))⟩ (fun S20 hh23 => ?_)
        obtain ⟨h21, p22⟩ := hh23
        refine V_iinc_2 45 (1) dX12_restore_45 (by decide) rfl (Nat.le_of_ble_eq_true rfl) ?_
        refine V_goto 48 22 dX12_restore_48 (by decide) ?_
        rw [← nI_succ]
        refine V_lvw (by repeat (first | exact trivial | refine ⟨rfl, ?_⟩)) (ih7 (i3 + 1, _) ⟨by dsimp only; omega, h21, p22⟩ (by dsimp only; omega))
    · exact J18
theorem cpRow {m : Nat} {x y : Nat → Nat} {S S1 : PS} (hn : ROW (m + 37) 0 x y S) (h : ∀ j, j < 30 → sA S1 (m + 38) j = sA S (m + 37) j) : ROW (m + 38) 0 x y S1 := fun k hk => by
  rw [h _ (by omega), h _ (by omega)]; exact hn k hk
theorem nzN {v : Nat} (h : v < 2 ^ 31) (c : ¬ nI v = 0) : 0 < v := by
  rcases Nat.eq_zero_or_pos v with q | q
  · subst q; exact absurd nI_0 c
  · exact q
set_option maxRecDepth 100000 in
set_option maxHeartbeats 8000000 in
theorem s_mdraw (l : Launch) (Γ : GC) (S : PS) {m tp : Nat} {g : MG} (I : MV Γ.2.2.2.2.1 m g tp S) (x : Int32) : CT l Γ yX12_draw cX12_draw 3 (some .int) (3) (0) (0) [.ref m, .int x] S (RI (fun r S' => MV Γ.2.2.2.2.1 m g tp S')) := by
  refine CT.of RX12 "draw" [some (.ref m), some (.int x), none] (by decide +kernel) rfl rfl (Nat.le_of_ble_eq_true rfl) rfl (fun M hM => ?_)
  subst hM
  have F := I.f
  have hK := I.t.k8
  obtain ⟨x0, y0, hn, ok⟩ := I.now
  have J17 : ∀ (w : Option Value), V M Γ (3, RX12, "draw", (some .int), RM (3) (0) (0)) cX12_draw (RQ M Γ (RI (fun r S' => MV Γ.2.2.2.2.1 m g tp S')) (0) (0)) 0 0 S 17 [some (.ref m), some (.int x), w] [] := by
    intro w
    refine V_iconst 17 (-1) dX12_draw_17 (by decide) ?_
    refine V_iret 18 .int dX12_draw_18 rfl rfl (Nat.le_of_ble_eq_true rfl) (Nat.le_of_ble_eq_true rfl) (RI.mk I)
  refine V_aload_0 0 dX12_draw_0 ?_
  refine V_iload_1 1 dX12_draw_1 ?_
  refine V_callV 2 (ci := 12) [.int _] _ (s_misKind M.2.1 Γ S F I.t _) dX12_draw_2 cb_X12_isKind ml_RX12_361 im_yX12_isKind se_yX12_isKind (F.m 0 (Nat.le_of_ble_eq_true rfl)) (F.k 0 12 rfl) (Nat.le_of_ble_eq_true rfl) ⟨(Nat.le_of_ble_eq_true rfl), (Nat.le_of_ble_eq_true rfl)⟩ rfl rfl (Nat.le_of_ble_eq_true rfl) ⟨(Nat.le_of_ble_eq_true rfl), (Nat.le_of_ble_eq_true rfl)⟩ (RI.go (fun r1 S1 q1 => ?_))
  rw [q1.2]
  have q1 := q1.1
  refine V_if_eq 5 17 dX12_draw_5 (by decide) (fun c => ?_) (fun c => ?_)
  · exact J17 _
  · obtain ⟨k, hk, ek⟩ := (q1.resolve_left c).2
    have hk8 : k < 8 := by omega
    have hk18 := OKR.k18 I.t ok hk8
    refine V_aload_0 8 dX12_draw_8 ?_
    refine V_getR 9 (c := 12) 53 (F.r 0 53 37 rfl) dX12_draw_9 fl_RX12_128 (F.m 0 (Nat.le_of_ble_eq_true rfl)) (F.k 0 12 rfl) (Nat.le_of_ble_eq_true rfl) (Nat.le_of_ble_eq_true rfl) rfl ?_
    refine V_iload_1 12 dX12_draw_12 ?_
    refine V_iaload2 13 dX12_draw_13 (F.m 37 (Nat.le_of_ble_eq_true rfl)) (F.k 37 14 rfl) (F.l 37 30 rfl) ?_ ?_
    · exact vpN ek (by omega) (by decide)
    rw [clN ek (by omega), hn.gx hk8]
    refine V_if_ne 14 19 dX12_draw_14 (by decide) (fun c2 => ?_) (fun c2 => ?_)
    · have hx := nzN (by omega) c2
      refine V_aload_0 19 dX12_draw_19 ?_
      refine V_getR 20 (c := 12) 53 (F.r 0 53 37 rfl) dX12_draw_20 fl_RX12_128 (F.m 0 (Nat.le_of_ble_eq_true rfl)) (F.k 0 12 rfl) (Nat.le_of_ble_eq_true rfl) (Nat.le_of_ble_eq_true rfl) rfl ?_
      refine V_bipush 23 (25) dX12_draw_23 (by decide) ?_
      refine V_iaload2 25 dX12_draw_25 (F.m 37 (Nat.le_of_ble_eq_true rfl)) (F.k 37 14 rfl) (F.l 37 30 rfl) ?_ ?_
      · exact (by unfold vp_in; decide)
      refine V_iconst 26 (1) dX12_draw_26 (by decide) ?_
      refine V_icmp_ne 27 32 dX12_draw_27 (by decide) (fun c3 => ?_) (fun c3 => ?_)
      ·
        refine V_aload_0 32 dX12_draw_32 ?_
        refine V_callV 33 (ci := 12) [] _ (s_mcopies M.2.1 Γ S F I.t) dX12_draw_33 cb_X12_copies ml_RX12_364 im_yX12_copies se_yX12_copies (F.m 0 (Nat.le_of_ble_eq_true rfl)) (F.k 0 12 rfl) (Nat.le_of_ble_eq_true rfl) ⟨(Nat.le_of_ble_eq_true rfl), (Nat.le_of_ble_eq_true rfl)⟩ rfl rfl (Nat.le_of_ble_eq_true rfl) ⟨(Nat.le_of_ble_eq_true rfl), (Nat.le_of_ble_eq_true rfl)⟩ (RV.go (fun S2 h2 => ?_))
        have I2 := MV.z I [38] [(0, 55), (0, 56)] h2.1 rfl rfl rfl rfl
        have F2 := I2.f
        rw [ek]
        refine V_aload_0 36 dX12_draw_36 ?_
        refine V_iload_1 37 dX12_draw_37 ?_
        refine V_callV 38 (ci := 12) [.int _] _ (s_mdraws M.2.1 Γ S2 F2 I2.t x0 y0 (cpRow hn h2.2) ok hk hx) dX12_draw_38 cb_X12_draws ml_RX12_367 im_yX12_draws se_yX12_draws (F2.m 0 (Nat.le_of_ble_eq_true rfl)) (F2.k 0 12 rfl) (Nat.le_of_ble_eq_true rfl) ⟨(Nat.le_of_ble_eq_true rfl), (Nat.le_of_ble_eq_true rfl)⟩ rfl rfl (Nat.le_of_ble_eq_true rfl) ⟨(Nat.le_of_ble_eq_true rfl), (Nat.le_of_ble_eq_true rfl)⟩ (RI.go (fun r3 S3 h3 => ?_))
        refine V_istore_2 41 dX12_draw_41 rfl (Nat.le_of_ble_eq_true rfl) ?_
        have I3 := MV.z I2 [38] [] h3.1 rfl rfl rfl rfl
        have F3 := I3.f
        refine V_aload_0 42 dX12_draw_42 ?_
        refine V_callV 43 (ci := 12) [] _ (s_mkeeps M.2.1 Γ S3 I3 h3.2) dX12_draw_43 cb_X12_keeps ml_RX12_370 im_yX12_keeps se_yX12_keeps (F3.m 0 (Nat.le_of_ble_eq_true rfl)) (F3.k 0 12 rfl) (Nat.le_of_ble_eq_true rfl) ⟨(Nat.le_of_ble_eq_true rfl), (Nat.le_of_ble_eq_true rfl)⟩ rfl rfl (Nat.le_of_ble_eq_true rfl) ⟨(Nat.le_of_ble_eq_true rfl), (Nat.le_of_ble_eq_true rfl)⟩ (RV.go (fun S4 h4 => ?_))
        refine V_iload_2 46 dX12_draw_46 ?_
        refine V_iret 47 .int dX12_draw_47 rfl rfl (Nat.le_of_ble_eq_true rfl) (Nat.le_of_ble_eq_true rfl) (RI.mk h4)
      ·
        refine V_iconst 30 (3) dX12_draw_30 (by decide) ?_
        refine V_iret 31 .int dX12_draw_31 rfl rfl (Nat.le_of_ble_eq_true rfl) (Nat.le_of_ble_eq_true rfl) (RI.mk I)
    · exact J17 _
set_option maxRecDepth 100000 in
set_option maxHeartbeats 8000000 in
theorem s_mlot (l : Launch) (Γ : GC) (S : PS) {m tp : Nat} {g : MG} (I : MV Γ.2.2.2.2.1 m g tp S) : CT l Γ yX12_lot cX12_lot 3 (some .int) (3) (0) (0) [.ref m] S (RI (fun r S' => MV Γ.2.2.2.2.1 m g tp S')) := by
  refine CT.of RX12 "lot" [some (.ref m), none, none] (by decide +kernel) rfl rfl (Nat.le_of_ble_eq_true rfl) rfl (fun M hM => ?_)
  subst hM
  have F := I.f
  have hK := I.t.k8
  obtain ⟨x0, y0, hn, ok⟩ := I.now
  have hs := OKR.s18 I.t ok
  refine V_aload_0 0 dX12_lot_0 ?_
  refine V_callV 1 (ci := 12) [] _ (s_mcopies M.2.1 Γ S F I.t) dX12_lot_1 cb_X12_copies ml_RX12_364 im_yX12_copies se_yX12_copies (F.m 0 (Nat.le_of_ble_eq_true rfl)) (F.k 0 12 rfl) (Nat.le_of_ble_eq_true rfl) ⟨(Nat.le_of_ble_eq_true rfl), (Nat.le_of_ble_eq_true rfl)⟩ rfl rfl (Nat.le_of_ble_eq_true rfl) ⟨(Nat.le_of_ble_eq_true rfl), (Nat.le_of_ble_eq_true rfl)⟩ (RV.go (fun S2 h2 => ?_))
  have I2 := MV.z I [38] [(0, 55), (0, 56)] h2.1 rfl rfl rfl rfl
  have F2 := I2.f
  have hr := cpRow hn h2.2
  refine V_aload_0 4 dX12_lot_4 ?_
  refine V_iconst 5 (0) dX12_lot_5 (by decide) ?_
  refine V_callV 6 (ci := 12) [.int _] _ (s_msumOn M.2.1 Γ S2 F2 x0 0 (by decide) hr.fx) dX12_lot_6 cb_X12_sumOn ml_RX12_352 im_yX12_sumOn se_yX12_sumOn (F2.m 0 (Nat.le_of_ble_eq_true rfl)) (F2.k 0 12 rfl) (Nat.le_of_ble_eq_true rfl) ⟨(Nat.le_of_ble_eq_true rfl), (Nat.le_of_ble_eq_true rfl)⟩ rfl rfl (Nat.le_of_ble_eq_true rfl) ⟨(Nat.le_of_ble_eq_true rfl), (Nat.le_of_ble_eq_true rfl)⟩ (RI.go (fun r1 S1 q1 => ?_))
  rw [q1.2, q1.1]
  refine V_if_ne 9 15 dX12_lot_9 (by decide) (fun c => ?_) (fun c => ?_)
  · have hx := nzN (by omega) c
    refine V_aload_0 15 dX12_lot_15 ?_
    refine V_getR 16 (c := 12) 54 (F2.r 0 54 38 rfl) dX12_lot_16 fl_RX12_131 (F2.m 0 (Nat.le_of_ble_eq_true rfl)) (F2.k 0 12 rfl) (Nat.le_of_ble_eq_true rfl) (Nat.le_of_ble_eq_true rfl) rfl ?_
    refine V_bipush 19 (25) dX12_lot_19 (by decide) ?_
    refine V_iaload2 21 dX12_lot_21 (F2.m 38 (Nat.le_of_ble_eq_true rfl)) (F2.k 38 14 rfl) (F2.l 38 30 rfl) ?_ ?_
    · exact (by unfold vp_in; decide)
    refine V_iconst 22 (1) dX12_lot_22 (by decide) ?_
    refine V_icmp_ne 23 28 dX12_lot_23 (by decide) (fun c3 => ?_) (fun c3 => ?_)
    ·
      refine V_aload_0 28 dX12_lot_28 ?_
      refine V_callV 29 (ci := 12) [] _ (s_mkindByLot M.2.1 Γ S2 F2 x0 y0 hr hx (by omega)) dX12_lot_29 cb_X12_kindByLot ml_RX12_373 im_yX12_kindByLot se_yX12_kindByLot (F2.m 0 (Nat.le_of_ble_eq_true rfl)) (F2.k 0 12 rfl) (Nat.le_of_ble_eq_true rfl) ⟨(Nat.le_of_ble_eq_true rfl), (Nat.le_of_ble_eq_true rfl)⟩ rfl rfl (Nat.le_of_ble_eq_true rfl) ⟨(Nat.le_of_ble_eq_true rfl), (Nat.le_of_ble_eq_true rfl)⟩ (RI.go (fun r3 S3 q3 => ?_))
      rw [q3.2]
      refine V_istore_1 32 dX12_lot_32 rfl (Nat.le_of_ble_eq_true rfl) ?_
      obtain ⟨⟨k, hk8, hxk, ek⟩, -⟩ := q3
      subst ek
      have hk := OKR.K ok hk8 (by omega)
      refine V_aload_0 33 dX12_lot_33 ?_
      refine V_iload_1 34 dX12_lot_34 ?_
      refine V_callV 35 (ci := 12) [.int _] _ (s_mdraws M.2.1 Γ S2 F2 I2.t x0 y0 hr ok hk hxk) dX12_lot_35 cb_X12_draws ml_RX12_367 im_yX12_draws se_yX12_draws (F2.m 0 (Nat.le_of_ble_eq_true rfl)) (F2.k 0 12 rfl) (Nat.le_of_ble_eq_true rfl) ⟨(Nat.le_of_ble_eq_true rfl), (Nat.le_of_ble_eq_true rfl)⟩ rfl rfl (Nat.le_of_ble_eq_true rfl) ⟨(Nat.le_of_ble_eq_true rfl), (Nat.le_of_ble_eq_true rfl)⟩ (RI.go (fun r4 S4 h4 => ?_))
      refine V_istore_2 38 dX12_lot_38 rfl (Nat.le_of_ble_eq_true rfl) ?_
      have I4 := MV.z I2 [38] [] h4.1 rfl rfl rfl rfl
      have F4 := I4.f
      refine V_aload_0 39 dX12_lot_39 ?_
      refine V_callV 40 (ci := 12) [] _ (s_mkeeps M.2.1 Γ S4 I4 h4.2) dX12_lot_40 cb_X12_keeps ml_RX12_370 im_yX12_keeps se_yX12_keeps (F4.m 0 (Nat.le_of_ble_eq_true rfl)) (F4.k 0 12 rfl) (Nat.le_of_ble_eq_true rfl) ⟨(Nat.le_of_ble_eq_true rfl), (Nat.le_of_ble_eq_true rfl)⟩ rfl rfl (Nat.le_of_ble_eq_true rfl) ⟨(Nat.le_of_ble_eq_true rfl), (Nat.le_of_ble_eq_true rfl)⟩ (RV.go (fun S5 h5 => ?_))
      refine V_bipush 43 (10) dX12_lot_43 (by decide) ?_
      refine V_iload_1 45 dX12_lot_45 ?_
      refine V_imul 46 dX12_lot_46 ?_
      refine V_iload_2 47 dX12_lot_47 ?_
      refine V_iadd 48 dX12_lot_48 ?_
      refine V_iret 49 .int dX12_lot_49 rfl rfl (Nat.le_of_ble_eq_true rfl) (Nat.le_of_ble_eq_true rfl) (RI.mk h5)
    ·
      refine V_iconst 26 (3) dX12_lot_26 (by decide) ?_
      refine V_iret 27 .int dX12_lot_27 rfl rfl (Nat.le_of_ble_eq_true rfl) (Nat.le_of_ble_eq_true rfl) (RI.mk I2)
  ·
    refine V_bipush 12 (-2) dX12_lot_12 (by decide) ?_
    refine V_iret 14 .int dX12_lot_14 rfl rfl (Nat.le_of_ble_eq_true rfl) (Nat.le_of_ble_eq_true rfl) (RI.mk I2)
theorem okTake {g : MG} {x y : Nat → Nat} {k : Nat} (ok : OKR g x y) (hy : 0 < y k) : OKR g (fU x k (x k + 1)) (fU y k (y k - 1)) := fun j hj => by
  have h := ok j hj
  unfold fU
  by_cases q : j = k
  · subst q; rw [if_pos rfl, if_pos rfl]; omega
  · rw [if_neg q, if_neg q]; exact h
set_option maxRecDepth 100000 in
set_option maxHeartbeats 8000000 in
theorem s_mtake (l : Launch) (Γ : GC) (S : PS) {m tp : Nat} {g : MG} (I : MV Γ.2.2.2.2.1 m g tp S) (x : Int32) : CT l Γ yX12_take cX12_take 2 (some .boolean) (3) (0) (0) [.ref m, .int x] S (RI (fun r S' => MV Γ.2.2.2.2.1 m g tp S')) := by
  refine CT.of RX12 "take" [some (.ref m), some (.int x)] (by decide +kernel) rfl rfl (Nat.le_of_ble_eq_true rfl) rfl (fun M hM => ?_)
  subst hM
  have F := I.f
  have hK := I.t.k8
  obtain ⟨x0, y0, hn, ok⟩ := I.now
  have J20 : V M Γ (2, RX12, "take", (some .boolean), RM (3) (0) (0)) cX12_take (RQ M Γ (RI (fun r S' => MV Γ.2.2.2.2.1 m g tp S')) (0) (0)) 0 0 S 20 [some (.ref m), some (.int x)] [] := by
    refine V_iconst 20 (0) dX12_take_20 (by decide) ?_
    refine V_iret 21 .boolean dX12_take_21 rfl (nrwB (Or.inl rfl)) (Nat.le_of_ble_eq_true rfl) (Nat.le_of_ble_eq_true rfl) (RI.mk I)
  refine V_aload_0 0 dX12_take_0 ?_
  refine V_iload_1 1 dX12_take_1 ?_
  refine V_callV 2 (ci := 12) [.int _] _ (s_misKind M.2.1 Γ S F I.t _) dX12_take_2 cb_X12_isKind ml_RX12_361 im_yX12_isKind se_yX12_isKind (F.m 0 (Nat.le_of_ble_eq_true rfl)) (F.k 0 12 rfl) (Nat.le_of_ble_eq_true rfl) ⟨(Nat.le_of_ble_eq_true rfl), (Nat.le_of_ble_eq_true rfl)⟩ rfl rfl (Nat.le_of_ble_eq_true rfl) ⟨(Nat.le_of_ble_eq_true rfl), (Nat.le_of_ble_eq_true rfl)⟩ (RI.go (fun r1 S1 q1 => ?_))
  rw [q1.2]
  have q1 := q1.1
  refine V_if_eq 5 20 dX12_take_5 (by decide) (fun c => ?_) (fun c => ?_)
  · exact J20
  · obtain ⟨k, hk, ek⟩ := (q1.resolve_left c).2
    have hk8 : k < 8 := by omega
    have hk18 := OKR.k18 I.t ok hk8
    rw [ek]
    refine V_aload_0 8 dX12_take_8 ?_
    refine V_getR 9 (c := 12) 53 (F.r 0 53 37 rfl) dX12_take_9 fl_RX12_128 (F.m 0 (Nat.le_of_ble_eq_true rfl)) (F.k 0 12 rfl) (Nat.le_of_ble_eq_true rfl) (Nat.le_of_ble_eq_true rfl) rfl ?_
    refine V_bipush 12 (8) dX12_take_12 (by decide) ?_
    refine V_iload_1 14 dX12_take_14 ?_
    refine V_iadd 15 dX12_take_15 ?_
    rw [c8 k]
    refine V_iaload2 16 dX12_take_16 (F.m 37 (Nat.le_of_ble_eq_true rfl)) (F.k 37 14 rfl) (F.l 37 30 rfl) ?_ ?_
    · exact vp_in_nI (by omega) (by decide)
    rw [nI_clamp (by omega), hn.gy hk8]
    refine V_if_ne 17 22 dX12_take_17 (by decide) (fun c2 => ?_) (fun c2 => ?_)
    · have hy := nzN (by omega) c2
      refine V_aload_0 22 dX12_take_22 ?_
      refine V_callV 23 (ci := 12) [] _ (s_mcopies M.2.1 Γ S F I.t) dX12_take_23 cb_X12_copies ml_RX12_364 im_yX12_copies se_yX12_copies (F.m 0 (Nat.le_of_ble_eq_true rfl)) (F.k 0 12 rfl) (Nat.le_of_ble_eq_true rfl) ⟨(Nat.le_of_ble_eq_true rfl), (Nat.le_of_ble_eq_true rfl)⟩ rfl rfl (Nat.le_of_ble_eq_true rfl) ⟨(Nat.le_of_ble_eq_true rfl), (Nat.le_of_ble_eq_true rfl)⟩ (RV.go (fun S2 h2 => ?_))
      have I2 := MV.z I [38] [(0, 55), (0, 56)] h2.1 rfl rfl rfl rfl
      have F2 := I2.f
      have hr := cpRow hn h2.2
      have J57 : ∀ (T : PS), FZ [m + 38] [] S2 T → ROW (m + 38) 0 (fU x0 k (x0 k + 1)) (fU y0 k (y0 k - 1)) T → V M Γ (2, RX12, "take", (some .boolean), RM (3) (0) (0)) cX12_take (RQ M Γ (RI (fun r S' => MV Γ.2.2.2.2.1 m g tp S')) (0) (0)) 0 0 T 57 [some (.ref m), some (.int (nI k))] [] := by
        intro T e p
        have I3 := MV.z I2 [38] [] e rfl rfl rfl rfl
        have F3 := I3.f
        refine V_aload_0 57 dX12_take_57 ?_
        refine V_callV 58 (ci := 12) [] _ (s_mkeeps M.2.1 Γ T I3 ⟨_, _, p, okTake ok hy⟩) dX12_take_58 cb_X12_keeps ml_RX12_370 im_yX12_keeps se_yX12_keeps (F3.m 0 (Nat.le_of_ble_eq_true rfl)) (F3.k 0 12 rfl) (Nat.le_of_ble_eq_true rfl) ⟨(Nat.le_of_ble_eq_true rfl), (Nat.le_of_ble_eq_true rfl)⟩ rfl rfl (Nat.le_of_ble_eq_true rfl) ⟨(Nat.le_of_ble_eq_true rfl), (Nat.le_of_ble_eq_true rfl)⟩ (RV.go (fun S4 h4 => ?_))
        refine V_iconst 61 (1) dX12_take_61 (by decide) ?_
        refine V_iret 62 .boolean dX12_take_62 rfl (nrwB (Or.inr rfl)) (Nat.le_of_ble_eq_true rfl) (Nat.le_of_ble_eq_true rfl) (RI.mk h4)
      refine V_aload_0 26 dX12_take_26 ?_
      refine V_getR 27 (c := 12) 54 (F2.r 0 54 38 rfl) dX12_take_27 fl_RX12_131 (F2.m 0 (Nat.le_of_ble_eq_true rfl)) (F2.k 0 12 rfl) (Nat.le_of_ble_eq_true rfl) (Nat.le_of_ble_eq_true rfl) rfl ?_
      refine V_bipush 30 (8) dX12_take_30 (by decide) ?_
      refine V_iload_1 32 dX12_take_32 ?_
      refine V_iadd 33 dX12_take_33 ?_
      refine V_dup2 34 dX12_take_34 rfl rfl ?_
      refine V_iaload2 35 dX12_take_35 (F2.m 38 (Nat.le_of_ble_eq_true rfl)) (F2.k 38 14 rfl) (F2.l 38 30 rfl) ?_ ?_
      · exact vpN (eqAdd (show (8 : Int32) = nI 8 from rfl) (Eq.refl (nI k))) (by omega) (by decide)
      rw [clN (eqAdd (show (8 : Int32) = nI 8 from rfl) (Eq.refl (nI k))) (by omega)]
      rw [hr.gy hk8]
      refine V_iconst 36 (1) dX12_take_36 (by decide) ?_
      refine V_isub 37 dX12_take_37 ?_
      refine V_iastore2 38 dX12_take_38 (F2.m 38 (Nat.le_of_ble_eq_true rfl)) (F2.k 38 14 rfl) (F2.l 38 30 rfl) ?_ ?_
      · exact vpN (eqAdd (show (8 : Int32) = nI 8 from rfl) (Eq.refl (nI k))) (by omega) (by decide)
      refine V_abs (fun T9 => FZ [m + 38] [] S2 T9 ∧ ((fun T => ROW (m + 38) 0 x0 (fU y0 k (y0 k - 1)) T) T9)) ⟨(FZ.rf (X := [m + 38]) (Y := []) (S := S2)).uA (by simp), by exact hr.sy hk8 (clN (c8 _) (by omega)) (m1 hy)⟩ (fun S1 hh4 => ?_)
      obtain ⟨h2, p3⟩ := hh4
      refine V_aload_0 39 dX12_take_39 ?_
      refine V_getR 40 (c := 12) 54 ((F2.ss h2.1).r 0 54 38 rfl) dX12_take_40 fl_RX12_131 ((F2.ss h2.1).m 0 (Nat.le_of_ble_eq_true rfl)) ((F2.ss h2.1).k 0 12 rfl) (Nat.le_of_ble_eq_true rfl) (Nat.le_of_ble_eq_true rfl) rfl ?_
      refine V_iload_1 43 dX12_take_43 ?_
      refine V_dup2 44 dX12_take_44 rfl rfl ?_
      refine V_iaload2 45 dX12_take_45 ((F2.ss h2.1).m 38 (Nat.le_of_ble_eq_true rfl)) ((F2.ss h2.1).k 38 14 rfl) ((F2.ss h2.1).l 38 30 rfl) ?_ ?_
      · exact vpN (Eq.refl (nI k)) (by omega) (by decide)
      rw [clN (Eq.refl (nI k)) (by omega)]
      rw [p3.gx hk8]
      refine V_iconst 46 (1) dX12_take_46 (by decide) ?_
      refine V_iadd 47 dX12_take_47 ?_
      refine V_iastore2 48 dX12_take_48 ((F2.ss h2.1).m 38 (Nat.le_of_ble_eq_true rfl)) ((F2.ss h2.1).k 38 14 rfl) ((F2.ss h2.1).l 38 30 rfl) ?_ ?_
      · exact vpN (Eq.refl (nI k)) (by omega) (by decide)
      refine V_abs (fun T9 => FZ [m + 38] [] S2 T9 ∧ ((fun T => ROW (m + 38) 0 (fU x0 k (x0 k + 1)) (fU y0 k (y0 k - 1)) T) T9)) ⟨h2.uA (by simp), by exact p3.sx hk8 (nI_clamp (by omega)) (p1 _)⟩ (fun S5 hh8 => ?_)
      obtain ⟨h6, p7⟩ := hh8
      refine V_aload_0 49 dX12_take_49 ?_
      refine V_getR 50 (c := 12) 54 ((F2.ss h6.1).r 0 54 38 rfl) dX12_take_50 fl_RX12_131 ((F2.ss h6.1).m 0 (Nat.le_of_ble_eq_true rfl)) ((F2.ss h6.1).k 0 12 rfl) (Nat.le_of_ble_eq_true rfl) (Nat.le_of_ble_eq_true rfl) rfl ?_
      refine V_bipush 53 (25) dX12_take_53 (by decide) ?_
      refine V_iconst 55 (0) dX12_take_55 (by decide) ?_
      refine V_iastore2 56 dX12_take_56 ((F2.ss h6.1).m 38 (Nat.le_of_ble_eq_true rfl)) ((F2.ss h6.1).k 38 14 rfl) ((F2.ss h6.1).l 38 30 rfl) ?_ ?_
      · exact (by unfold vp_in; decide)
      refine V_abs (fun T9 => FZ [m + 38] [] S2 T9 ∧ ((fun T => ROW (m + 38) 0 (fU x0 k (x0 k + 1)) (fU y0 k (y0 k - 1)) T) T9)) ⟨h6.uA (by simp), by exact p7.oth (by decide)⟩ (fun S9 hh12 => ?_)
      obtain ⟨h10, p11⟩ := hh12
      exact J57 _ h10 p11
    · rw [ek] at J20
      exact J20
/-- the bag, the table of a good row -/
theorem SR.r {g : MG} {a : Nat} {S : PS} (h : SR g a 0 S) : ROW a 0 h.choose h.choose_spec.choose S := h.choose_spec.choose_spec.1
theorem SR.ok {g : MG} {a : Nat} {S : PS} (h : SR g a 0 S) : OKR g h.choose h.choose_spec.choose := h.choose_spec.choose_spec.2
theorem FT.rfl {X : List Nat} {Y : List (Nat × Nat)} {S S2 : PS} : FT X Y S S2 := trivial
set_option maxRecDepth 100000 in
set_option maxHeartbeats 8000000 in
theorem s_mdrawsIn (l : Launch) (Γ : GC) (S : PS) {m tp : Nat} {g : MG} (I : MV Γ.2.2.2.2.1 m g tp S) (hr : SR g (m + 38) 0 S) (x : Int32) : CT l Γ yX12_drawsIn cX12_drawsIn 3 (some .int) (3) (0) (0) [.ref m, .int x] S (RI (fun r S' => MV Γ.2.2.2.2.1 m g tp S' ∧ SR g (m + 38) 0 S')) := by
  refine CT.of RX12 "drawsIn" [some (.ref m), some (.int x), none] (by decide +kernel) rfl rfl (Nat.le_of_ble_eq_true rfl) rfl (fun M hM => ?_)
  subst hM
  have F := I.f
  have hK := I.t.k8
  have p1 : ((fun T => MV Γ.2.2.2.2.1 m g tp T ∧ SR g (m + 38) 0 T) S) := ⟨I, hr⟩
  have J4 : ∀ (S2 : PS) (x5 : Int32), FT [] [] S S2 → ((fun T => MV Γ.2.2.2.2.1 m g tp T ∧ SR g (m + 38) 0 T) S2) → V M Γ (3, RX12, "drawsIn", (some .int), RM (3) (0) (0)) cX12_drawsIn (RQ M Γ (RI (fun r S' => MV Γ.2.2.2.2.1 m g tp S' ∧ SR g (m + 38) 0 S')) (0) (0)) 0 0 S2 40 [some (.ref m), some (.int x), some (.int x5)] [] := by
    intro S2 x5 h3 p6
    refine V_iload_2 40 dX12_drawsIn_40 ?_
    refine V_iret 41 .int dX12_drawsIn_41 rfl rfl (Nat.le_of_ble_eq_true rfl) (Nat.le_of_ble_eq_true rfl) (RI.mk p6)
  refine V_iconst 0 (0) dX12_drawsIn_0 (by decide) ?_
  refine V_istore_2 1 dX12_drawsIn_1 rfl (Nat.le_of_ble_eq_true rfl) ?_
  refine V_lvw (by repeat (first | exact trivial | refine ⟨rfl, ?_⟩)) (V_while (α := Int32 × PS) (fun z7 => ((x).toInt - z7.1.toInt).toNat) (fun z7 => FT [] [] S z7.2 ∧ ((fun T => MV Γ.2.2.2.2.1 m g tp T ∧ SR g (m + 38) 0 T) z7.2)) (fun z7 => z7.2) (fun z7 => [some (.ref m), some (.int x), some (.int z7.1)]) (_, _) ⟨trivial, p1⟩ (fun z7 h11 ih12 => ?b14))
  obtain ⟨i8, S9⟩ := z7
  dsimp only at h11 ih12 ⊢
  obtain ⟨h17, p16⟩ := h11
  refine V_iload_2 2 dX12_drawsIn_2 ?_
  refine V_iload_1 3 dX12_drawsIn_3 ?_
  refine V_icmp_ge 4 40 dX12_drawsIn_4 (by decide) (fun c18 => ?_) (fun c18 => ?_)
  ·
    refine V_lvw (by repeat (first | exact trivial | refine ⟨rfl, ?_⟩)) (J4 _ _ trivial p16)
  ·
    refine V_aload_0 7 dX12_drawsIn_7 ?_
    refine V_iconst 8 (0) dX12_drawsIn_8 (by decide) ?_
    refine V_callV 9 (ci := 12) [.int _] _ (s_msumOn M.2.1 Γ S9 (MV.f p16.1) p16.2.choose 0 (by decide) p16.2.r.fx) dX12_drawsIn_9 cb_X12_sumOn ml_RX12_352 im_yX12_sumOn se_yX12_sumOn ((MV.f p16.1).m 0 (Nat.le_of_ble_eq_true rfl)) ((MV.f p16.1).k 0 12 rfl) (Nat.le_of_ble_eq_true rfl) ⟨(Nat.le_of_ble_eq_true rfl), (Nat.le_of_ble_eq_true rfl)⟩ rfl rfl (Nat.le_of_ble_eq_true rfl) ⟨(Nat.le_of_ble_eq_true rfl), (Nat.le_of_ble_eq_true rfl)⟩ (RI.go (fun r22 S20 q21 => ?_))
    obtain ⟨e9, s9⟩ := q21
    rw [s9]
    subst e9
    have hs9 := OKR.s18 p16.1.t p16.2.ok
    refine V_if_le 12 40 dX12_drawsIn_12 (by decide) (fun c23 => ?_) (fun c23 => ?_)
    ·
      try have nf24 := (nI_leE (Eq.refl (nI (sumN p16.2.choose 8))) (show (0 : Int32) = nI 0 from rfl) (by omega) (by omega)).mp c23
      refine V_lvw (by repeat (first | exact trivial | refine ⟨rfl, ?_⟩)) (J4 _ _ trivial p16)
    ·
      try have nf26 := mt (nI_leE (Eq.refl (nI (sumN p16.2.choose 8))) (show (0 : Int32) = nI 0 from rfl) (by omega) (by omega)).mpr c23
      refine V_aload_0 15 dX12_drawsIn_15 ?_
      refine V_getR 16 (c := 12) 54 ((MV.f p16.1).r 0 54 38 rfl) dX12_drawsIn_16 fl_RX12_131 ((MV.f p16.1).m 0 (Nat.le_of_ble_eq_true rfl)) ((MV.f p16.1).k 0 12 rfl) (Nat.le_of_ble_eq_true rfl) (Nat.le_of_ble_eq_true rfl) rfl ?_
      refine V_bipush 19 (25) dX12_drawsIn_19 (by decide) ?_
      refine V_iaload2 21 dX12_drawsIn_21 ((MV.f p16.1).m 38 (Nat.le_of_ble_eq_true rfl)) ((MV.f p16.1).k 38 14 rfl) ((MV.f p16.1).l 38 30 rfl) ?_ ?_
      · exact (by unfold vp_in; decide)
      refine V_if_ne 22 40 dX12_drawsIn_22 (by decide) (fun c27 => ?_) (fun c27 => ?_)
      ·
        refine V_lvw (by repeat (first | exact trivial | refine ⟨rfl, ?_⟩)) (J4 _ _ trivial p16)
      ·
        refine V_aload_0 25 dX12_drawsIn_25 ?_
        refine V_aload_0 26 dX12_drawsIn_26 ?_
        refine V_callV 27 (ci := 12) [] _ (s_mkindByLot M.2.1 Γ S9 (MV.f p16.1) _ _ p16.2.r (by omega) (by omega)) dX12_drawsIn_27 cb_X12_kindByLot ml_RX12_373 im_yX12_kindByLot se_yX12_kindByLot ((MV.f p16.1).m 0 (Nat.le_of_ble_eq_true rfl)) ((MV.f p16.1).k 0 12 rfl) (Nat.le_of_ble_eq_true rfl) ⟨(Nat.le_of_ble_eq_true rfl), (Nat.le_of_ble_eq_true rfl)⟩ rfl rfl (Nat.le_of_ble_eq_true rfl) ⟨(Nat.le_of_ble_eq_true rfl), (Nat.le_of_ble_eq_true rfl)⟩ (RI.go (fun r31 S29 q30 => ?_))
        obtain ⟨⟨k9, hk9, hx9, e9⟩, s9⟩ := q30
        rw [s9]
        subst e9
        refine V_callV 30 (ci := 12) [.int _] _ (s_mdraws M.2.1 Γ S9 (MV.f p16.1) p16.1.t _ _ p16.2.r p16.2.ok (OKR.K p16.2.ok hk9 (by omega)) hx9) dX12_drawsIn_30 cb_X12_draws ml_RX12_367 im_yX12_draws se_yX12_draws ((MV.f p16.1).m 0 (Nat.le_of_ble_eq_true rfl)) ((MV.f p16.1).k 0 12 rfl) (Nat.le_of_ble_eq_true rfl) ⟨(Nat.le_of_ble_eq_true rfl), (Nat.le_of_ble_eq_true rfl)⟩ rfl rfl (Nat.le_of_ble_eq_true rfl) ⟨(Nat.le_of_ble_eq_true rfl), (Nat.le_of_ble_eq_true rfl)⟩ (RI.go (fun r34 S32 q33 => ?_))
        have h35 : FT [] [] S S32 := trivial
        have p36 : ((fun T => MV Γ.2.2.2.2.1 m g tp T ∧ SR g (m + 38) 0 T) S32) := by exact ⟨MV.z p16.1 [38] [] q33.1 rfl rfl rfl rfl, q33.2⟩
        refine V_pop 33 dX12_drawsIn_33 rfl ?_
        refine V_iinc_2 34 (1) dX12_drawsIn_34 (by decide) rfl (Nat.le_of_ble_eq_true rfl) ?_
        refine V_goto 37 2 dX12_drawsIn_37 (by decide) ?_
        refine V_lvw (by repeat (first | exact trivial | refine ⟨rfl, ?_⟩)) (ih12 (_, _) ⟨trivial, p36⟩ (up32 (by first | assumption | (assumption))))
theorem cpSR {m lo tp : Nat} {g : MG} {S S1 : PS} (I : MV lo m g tp S) (h : FZ [m + 38] [(m, 55), (m, 56)] S S1 ∧ ∀ j, j < 30 → sA S1 (m + 38) j = sA S (m + 37) j) : MV lo m g tp S1 ∧ SR g (m + 38) 0 S1 :=
  ⟨MV.z I [38] [(0, 55), (0, 56)] h.1 rfl rfl rfl rfl, I.now.cp (fun j hj => by rw [Nat.zero_add]; exact h.2 j hj)⟩
set_option maxRecDepth 100000 in
set_option maxHeartbeats 8000000 in
theorem s_mevening (l : Launch) (Γ : GC) (S : PS) {m tp : Nat} {g : MG} (I : MV Γ.2.2.2.2.1 m g tp S) (x : Int32) : CT l Γ yX12_evening cX12_evening 2 (some .int) (4) (0) (0) [.ref m, .int x] S (RI (fun r S' => MV Γ.2.2.2.2.1 m g tp S')) := by
  refine CT.of RX12 "evening" [some (.ref m), some (.int x)] (by decide +kernel) rfl rfl (Nat.le_of_ble_eq_true rfl) rfl (fun M hM => ?_)
  subst hM
  have F := I.f
  refine V_iload_1 0 dX12_evening_0 ?_
  refine V_iconst 1 (1) dX12_evening_1 (by decide) ?_
  refine V_sipush 2 (500) dX12_evening_2 (by decide) ?_
  refine V_callS 5 [.int _, .int _, .int _] _ (s_min M.2.1 Γ S _ _ _) dX12_evening_5 cb_X12_in ml_RX12_335 sm_yX12_in ⟨(Nat.le_of_ble_eq_true rfl), (Nat.le_of_ble_eq_true rfl)⟩ rfl rfl (Nat.le_of_ble_eq_true rfl) ⟨(Nat.le_of_ble_eq_true rfl), (Nat.le_of_ble_eq_true rfl)⟩ (RI.go (fun r1 S1 q1 => ?_))
  rw [q1.2]
  refine V_if_ne 8 13 dX12_evening_8 (by decide) (fun c => ?_) (fun c => ?_)
  ·
    refine V_aload_0 13 dX12_evening_13 ?_
    refine V_callV 14 (ci := 12) [] _ (s_mcopies M.2.1 Γ S F I.t) dX12_evening_14 cb_X12_copies ml_RX12_364 im_yX12_copies se_yX12_copies (F.m 0 (Nat.le_of_ble_eq_true rfl)) (F.k 0 12 rfl) (Nat.le_of_ble_eq_true rfl) ⟨(Nat.le_of_ble_eq_true rfl), (Nat.le_of_ble_eq_true rfl)⟩ rfl rfl (Nat.le_of_ble_eq_true rfl) ⟨(Nat.le_of_ble_eq_true rfl), (Nat.le_of_ble_eq_true rfl)⟩ (RV.go (fun S2 h2 => ?_))
    have I2 := cpSR I h2
    have F2 := I2.1.f
    refine V_aload_0 17 dX12_evening_17 ?_
    refine V_iload_1 18 dX12_evening_18 ?_
    refine V_callV 19 (ci := 12) [.int _] _ (s_mdrawsIn M.2.1 Γ S2 I2.1 I2.2 _) dX12_evening_19 cb_X12_drawsIn ml_RX12_400 im_yX12_drawsIn se_yX12_drawsIn (F2.m 0 (Nat.le_of_ble_eq_true rfl)) (F2.k 0 12 rfl) (Nat.le_of_ble_eq_true rfl) ⟨(Nat.le_of_ble_eq_true rfl), (Nat.le_of_ble_eq_true rfl)⟩ rfl rfl (Nat.le_of_ble_eq_true rfl) ⟨(Nat.le_of_ble_eq_true rfl), (Nat.le_of_ble_eq_true rfl)⟩ (RI.go (fun r3 S3 h3 => ?_))
    refine V_iret 22 .int dX12_evening_22 rfl rfl (Nat.le_of_ble_eq_true rfl) (Nat.le_of_ble_eq_true rfl) (RI.mk h3.1)
  ·
    refine V_iconst 11 (-1) dX12_evening_11 (by decide) ?_
    refine V_iret 12 .int dX12_evening_12 rfl rfl (Nat.le_of_ble_eq_true rfl) (Nat.le_of_ble_eq_true rfl) (RI.mk I)
set_option maxRecDepth 100000 in
set_option maxHeartbeats 8000000 in
theorem s_mtotal (l : Launch) (Γ : GC) (S : PS) {m : Nat} (F : isL lyModel Γ.2.2.2.2.1 S m) (o : Nat) (ho : o ≤ 22) : CT l Γ yX12_sumOn cX12_sumOn 4 (some .int) (0) (0) (0) [.ref m, .int (nI o)] S (RI (fun r S' => True ∧ S' = S)) := by
  refine CT.of RX12 "sumOn" [some (.ref m), some (.int (nI o)), none, none] (by decide +kernel) rfl rfl (Nat.le_of_ble_eq_true rfl) rfl (fun M hM => ?_)
  subst hM
  refine V_iconst 0 (0) dX12_sumOn_0 (by decide) ?_
  refine V_istore_2 1 dX12_sumOn_1 rfl (Nat.le_of_ble_eq_true rfl) ?_
  refine V_iconst 2 (0) dX12_sumOn_2 (by decide) ?_
  refine V_istore_3 3 dX12_sumOn_3 rfl (Nat.le_of_ble_eq_true rfl) ?_
  refine V_while (α := Nat × Int32) (fun z => 8 - z.1) (fun z => z.1 ≤ 8) (fun _ => S) (fun z => [some (.ref m), some (.int (nI o)), some (.int z.2), some (.int (nI z.1))]) (0, 0) (Nat.zero_le _) (fun z hi ih => ?_)
  obtain ⟨i, w⟩ := z
  dsimp only at hi ih ⊢
  refine V_iload_3 4 dX12_sumOn_4 ?_
  refine V_bipush 5 (8) dX12_sumOn_5 (by decide) ?_
  refine V_icmp_ge 7 27 dX12_sumOn_7 (by decide) (fun c => ?_) (fun c => ?_)
  ·
    refine V_iload_2 27 dX12_sumOn_27 ?_
    refine V_iret 28 .int dX12_sumOn_28 rfl rfl (Nat.le_of_ble_eq_true rfl) (Nat.le_of_ble_eq_true rfl) (RI.mk ⟨trivial, rfl⟩)
  · have hi2 := nI_lt8 (by decide) hi c
    refine V_iload_2 10 dX12_sumOn_10 ?_
    refine V_aload_0 11 dX12_sumOn_11 ?_
    refine V_getR 12 (c := 12) 54 (F.r 0 54 38 rfl) dX12_sumOn_12 fl_RX12_131 (F.m 0 (Nat.le_of_ble_eq_true rfl)) (F.k 0 12 rfl) (Nat.le_of_ble_eq_true rfl) (Nat.le_of_ble_eq_true rfl) rfl ?_
    refine V_iload_1 15 dX12_sumOn_15 ?_
    refine V_iload_3 16 dX12_sumOn_16 ?_
    refine V_iadd 17 dX12_sumOn_17 ?_
    refine V_iaload2 18 dX12_sumOn_18 (F.m 38 (Nat.le_of_ble_eq_true rfl)) (F.k 38 14 rfl) (F.l 38 30 rfl) ?_ ?_
    · exact vpN (nI_add o i) (by omega) (by decide)
    refine V_iadd 19 dX12_sumOn_19 ?_
    refine V_istore_2 20 dX12_sumOn_20 rfl (Nat.le_of_ble_eq_true rfl) ?_
    refine V_iinc_3 21 (1) dX12_sumOn_21 (by decide) rfl (Nat.le_of_ble_eq_true rfl) ?_
    refine V_goto 24 4 dX12_sumOn_24 (by decide) ?_
    rw [← nI_succ]
    exact ih (i + 1, _) (by dsimp only; omega) (by dsimp only; omega)
set_option maxRecDepth 100000 in
set_option maxHeartbeats 8000000 in
theorem s_msoonest (l : Launch) (Γ : GC) (S : PS) {m tp : Nat} {g : MG} (I : MV Γ.2.2.2.2.1 m g tp S) (x y : Int32) : CT l Γ yX12_soonest cX12_soonest 9 (some .int) (4) (0) (0) [.ref m, .int x, .int y] S (RI (fun r S' => MV Γ.2.2.2.2.1 m g tp S')) := by
  refine CT.of RX12 "soonest" [some (.ref m), some (.int x), some (.int y), none, none, none, none, none, none] (by decide +kernel) rfl rfl (Nat.le_of_ble_eq_true rfl) rfl (fun M hM => ?_)
  subst hM
  have F := I.f
  have p1 : ((fun T => MV Γ.2.2.2.2.1 m g tp T ∧ True) S) := ⟨I, trivial⟩
  have J4 : ∀ (S2 : PS) (x5 : Int32) (x6 : Int32) (x7 : Int32) (x8 : Int32), FT [] [] S S2 → ((fun T => MV Γ.2.2.2.2.1 m g tp T ∧ True) S2) → V M Γ (9, RX12, "soonest", (some .int), RM (4) (0) (0)) cX12_soonest (RQ M Γ (RI (fun r S' => MV Γ.2.2.2.2.1 m g tp S')) (0) (0)) 0 0 S2 136 [some (.ref m), some (.int x), some (.int y), some (.int x5), some (.int x6), some (.int x7), none, none, none] [.int x8] := by
    intro S2 x5 x6 x7 x8 h3 p9
    refine V_iret 136 .int dX12_soonest_136 rfl rfl (Nat.le_of_ble_eq_true rfl) (Nat.le_of_ble_eq_true rfl) (RI.mk p9.1)
  have J12 : ∀ (S10 : PS) , FT [] [] S S10 → ((fun T => MV Γ.2.2.2.2.1 m g tp T ∧ True) S10) → V M Γ (9, RX12, "soonest", (some .int), RM (4) (0) (0)) cX12_soonest (RQ M Γ (RI (fun r S' => MV Γ.2.2.2.2.1 m g tp S')) (0) (0)) 0 0 S10 19 [some (.ref m), some (.int x), some (.int y), none, none, none, none, none, none] [] := by
    intro S10  h11 p13
    refine V_iconst 19 (-1) dX12_soonest_19 (by decide) ?_
    refine V_iret 20 .int dX12_soonest_20 rfl rfl (Nat.le_of_ble_eq_true rfl) (Nat.le_of_ble_eq_true rfl) (RI.mk p13.1)
  refine V_iload_1 0 dX12_soonest_0 ?_
  refine V_iconst 1 (1) dX12_soonest_1 (by decide) ?_
  refine V_bipush 2 (30) dX12_soonest_2 (by decide) ?_
  refine V_callS 4 [.int _, .int _, .int _] _ (s_min M.2.1 Γ S _ _ _) dX12_soonest_4 cb_X12_in ml_RX12_335 sm_yX12_in ⟨(Nat.le_of_ble_eq_true rfl), (Nat.le_of_ble_eq_true rfl)⟩ rfl rfl (Nat.le_of_ble_eq_true rfl) ⟨(Nat.le_of_ble_eq_true rfl), (Nat.le_of_ble_eq_true rfl)⟩ (RI.go (fun r16 S14 q15 => ?_))
  rw [q15.2]
  refine V_if_eq 7 19 dX12_soonest_7 (by decide) (fun c17 => ?_) (fun c17 => ?_)
  ·
    refine V_lvw (by repeat (first | exact trivial | refine ⟨rfl, ?_⟩)) (J12 _ trivial p1)
  ·
    refine V_iload_2 10 dX12_soonest_10 ?_
    refine V_iconst 11 (0) dX12_soonest_11 (by decide) ?_
    refine V_iconst 12 (1) dX12_soonest_12 (by decide) ?_
    refine V_callS 13 [.int _, .int _, .int _] _ (s_min M.2.1 Γ S _ _ _) dX12_soonest_13 cb_X12_in ml_RX12_335 sm_yX12_in ⟨(Nat.le_of_ble_eq_true rfl), (Nat.le_of_ble_eq_true rfl)⟩ rfl rfl (Nat.le_of_ble_eq_true rfl) ⟨(Nat.le_of_ble_eq_true rfl), (Nat.le_of_ble_eq_true rfl)⟩ (RI.go (fun r21 S19 q20 => ?_))
    rw [q20.2]
    refine V_if_ne 16 21 dX12_soonest_16 (by decide) (fun c22 => ?_) (fun c22 => ?_)
    ·
      refine V_iconst 21 (-1) dX12_soonest_21 (by decide) ?_
      refine V_istore_3 22 dX12_soonest_22 rfl (Nat.le_of_ble_eq_true rfl) ?_
      refine V_iconst 23 (0) dX12_soonest_23 (by decide) ?_
      refine V_istore_4 24 dX12_soonest_24 rfl (Nat.le_of_ble_eq_true rfl) ?_
      refine V_iconst 26 (0) dX12_soonest_26 (by decide) ?_
      refine V_istore_5 27 dX12_soonest_27 rfl (Nat.le_of_ble_eq_true rfl) ?_
      refine V_lvw (by repeat (first | exact trivial | refine ⟨rfl, ?_⟩)) (V_while (α := Nat × PS × Int32 × Int32) (fun z23 => 4 - z23.1) (fun z23 => z23.1 ≤ 4 ∧ FT [] [] S z23.2.1 ∧ ((fun T => MV Γ.2.2.2.2.1 m g tp T ∧ True) z23.2.1)) (fun z23 => z23.2.1) (fun z23 => [some (.ref m), some (.int x), some (.int y), some (.int z23.2.2.1), some (.int z23.2.2.2), some (.int (nI z23.1)), none, none, none]) (0, _, _, _) ⟨Nat.zero_le _, trivial, p1⟩ (fun z23 hx31 ih28 => ?b32))
      obtain ⟨i24, S25, w29, w30⟩ := z23
      obtain ⟨hi26, h27, p34⟩ := hx31
      dsimp only at hi26 h27 p34 ih28 ⊢
      have J37 : ∀ (S35 : PS) (x38 : Int32) (x39 : Int32) (x40 : Int32) (x41 : Int32), FT [] [] S S35 → ((fun T => MV Γ.2.2.2.2.1 m g tp T ∧ True) S35) → i24 < 4 → V M Γ (9, RX12, "soonest", (some .int), RM (4) (0) (0)) cX12_soonest (RQ M Γ (RI (fun r S' => MV Γ.2.2.2.2.1 m g tp S')) (0) (0)) 0 0 S35 120 [some (.ref m), some (.int x), some (.int y), some (.int x38), some (.int x39), some (.int (nI i24)), some (.int x40), some (.int x41), none] [] := by
        intro S35 x38 x39 x40 x41 h36 p42 lt43
        refine V_iinc_5 120 (1) dX12_soonest_120 (by decide) rfl (Nat.le_of_ble_eq_true rfl) ?_
        refine V_goto 123 29 dX12_soonest_123 (by decide) ?_
        rw [← nI_succ]
        refine V_lvw (by repeat (first | exact trivial | refine ⟨rfl, ?_⟩)) (ih28 (i24 + 1, _, _, _) ⟨by dsimp only; omega, trivial, p42⟩ (by dsimp only; omega))
      have J46 : ∀ (S44 : PS) (x47 : Int32) (x48 : Int32) (x49 : Int32) (x50 : Int32), FT [] [] S S44 → ((fun T => MV Γ.2.2.2.2.1 m g tp T ∧ True) S44) → i24 < 4 → V M Γ (9, RX12, "soonest", (some .int), RM (4) (0) (0)) cX12_soonest (RQ M Γ (RI (fun r S' => MV Γ.2.2.2.2.1 m g tp S')) (0) (0)) 0 0 S44 113 [some (.ref m), some (.int x), some (.int y), some (.int x47), some (.int x48), some (.int (nI i24)), some (.int x49), some (.int x50), none] [] := by
        intro S44 x47 x48 x49 x50 h45 p51 lt52
        refine V_iload_5 113 dX12_soonest_113 ?_
        refine V_istore_3 115 dX12_soonest_115 rfl (Nat.le_of_ble_eq_true rfl) ?_
        refine V_iload_6 116 dX12_soonest_116 ?_
        refine V_istore_4 118 dX12_soonest_118 rfl (Nat.le_of_ble_eq_true rfl) ?_
        refine V_lvw (by repeat (first | exact trivial | refine ⟨rfl, ?_⟩)) (J37 _ _ _ _ _ trivial p51 (by first | omega | assumption))
      refine V_iload_5 29 dX12_soonest_29 ?_
      refine V_iconst 31 (4) dX12_soonest_31 (by decide) ?_
      refine V_icmp_ge 32 126 dX12_soonest_32 (by decide) (fun c54 => ?_) (fun c54 => ?_)
      ·
        refine V_iload_2 126 dX12_soonest_126 ?_
        refine V_if_ne 127 134 dX12_soonest_127 (by decide) (fun c55 => ?_) (fun c55 => ?_)
        ·
          refine V_iload_4 134 dX12_soonest_134 ?_
          refine V_lvw (by repeat (first | exact trivial | refine ⟨rfl, ?_⟩)) (J4 _ _ _ _ _ trivial p34)
        ·
          refine V_iload_3 130 dX12_soonest_130 ?_
          refine V_goto 131 136 dX12_soonest_131 (by decide) ?_
          refine V_lvw (by repeat (first | exact trivial | refine ⟨rfl, ?_⟩)) (J4 _ _ _ _ _ trivial p34)
      ·
        have lt58 := nI_lt8 (by decide) hi26 c54
        refine V_iconst 35 (0) dX12_soonest_35 (by decide) ?_
        refine V_istore_6 36 dX12_soonest_36 rfl (Nat.le_of_ble_eq_true rfl) ?_
        refine V_iconst 38 (0) dX12_soonest_38 (by decide) ?_
        refine V_istore_7 39 dX12_soonest_39 rfl (Nat.le_of_ble_eq_true rfl) ?_
        refine V_lvw (by repeat (first | exact trivial | refine ⟨rfl, ?_⟩)) (V_while (α := Int32 × PS × Int32 × Int32 × Int32) (fun z59 => ((x).toInt - z59.1.toInt).toNat) (fun z59 => FT [] [] S z59.2.1 ∧ ((fun T => MV Γ.2.2.2.2.1 m g tp T ∧ True) z59.2.1)) (fun z59 => z59.2.1) (fun z59 => [some (.ref m), some (.int x), some (.int y), some (.int z59.2.2.1), some (.int z59.2.2.2.1), some (.int (nI i24)), some (.int z59.2.2.2.2), some (.int z59.1), none]) (_, _, _, _, _) ⟨trivial, p34⟩ (fun z59 h63 ih64 => ?b69))
        obtain ⟨i60, S61, w65, w66, w67⟩ := z59
        dsimp only at h63 ih64 ⊢
        obtain ⟨h72, p71⟩ := h63
        have J75 : ∀ (S73 : PS) (x76 : Int32) (x77 : Int32) (x78 : Int32) (x79 : Int32) (x80 : Int32) (x81 : Int32), FT [] [] S S73 → ((fun T => MV Γ.2.2.2.2.1 m g tp T ∧ True) S73) → ¬ x ≤ i60 → V M Γ (9, RX12, "soonest", (some .int), RM (4) (0) (0)) cX12_soonest (RQ M Γ (RI (fun r S' => MV Γ.2.2.2.2.1 m g tp S')) (0) (0)) 0 0 S73 90 [some (.ref m), some (.int x), some (.int y), some (.int x76), some (.int x77), some (.int (nI i24)), some (.int x78), some (.int i60), some (.int x79)] [.int x81, .int x80] := by
          intro S73 x76 x77 x78 x79 x80 x81 h74 p82 lt83
          refine V_iadd 90 dX12_soonest_90 ?_
          refine V_istore_6 91 dX12_soonest_91 rfl (Nat.le_of_ble_eq_true rfl) ?_
          refine V_iinc_7 93 (1) dX12_soonest_93 (by decide) rfl (Nat.le_of_ble_eq_true rfl) ?_
          refine V_goto 96 41 dX12_soonest_96 (by decide) ?_
          refine V_lvw (by repeat (first | exact trivial | refine ⟨rfl, ?_⟩)) (ih64 (_, _, _, _, _) ⟨trivial, p82⟩ (up32 (by first | assumption | (assumption))))
        refine V_iload_7 41 dX12_soonest_41 ?_
        refine V_iload_1 43 dX12_soonest_43 ?_
        refine V_icmp_ge 44 99 dX12_soonest_44 (by decide) (fun c84 => ?_) (fun c84 => ?_)
        ·
          refine V_iload_3 99 dX12_soonest_99 ?_
          refine V_if_lt 100 113 dX12_soonest_100 (by decide) (fun c85 => ?_) (fun c85 => ?_)
          ·
            refine V_lvw (by repeat (first | exact trivial | refine ⟨rfl, ?_⟩)) (J46 _ _ _ _ _ trivial p71 (by first | omega | assumption))
          ·
            refine V_iload_6 103 dX12_soonest_103 ?_
            refine V_iload_4 105 dX12_soonest_105 ?_
            refine V_icmp_lt 107 113 dX12_soonest_107 (by decide) (fun c87 => ?_) (fun c87 => ?_)
            ·
              refine V_lvw (by repeat (first | exact trivial | refine ⟨rfl, ?_⟩)) (J46 _ _ _ _ _ trivial p71 (by first | omega | assumption))
            ·
              refine V_goto 110 120 dX12_soonest_110 (by decide) ?_
              refine V_lvw (by repeat (first | exact trivial | refine ⟨rfl, ?_⟩)) (J37 _ _ _ _ _ trivial p71 (by first | omega | assumption))
        ·
          refine V_aload_0 47 dX12_soonest_47 ?_
          refine V_callV 48 (ci := 12) [] _ (s_mcopies M.2.1 Γ S61 (MV.f p71.1) (MV.t p71.1)) dX12_soonest_48 cb_X12_copies ml_RX12_364 im_yX12_copies se_yX12_copies ((MV.f p71.1).m 0 (Nat.le_of_ble_eq_true rfl)) ((MV.f p71.1).k 0 12 rfl) (Nat.le_of_ble_eq_true rfl) ⟨(Nat.le_of_ble_eq_true rfl), (Nat.le_of_ble_eq_true rfl)⟩ rfl rfl (Nat.le_of_ble_eq_true rfl) ⟨(Nat.le_of_ble_eq_true rfl), (Nat.le_of_ble_eq_true rfl)⟩ (RV.go (fun S90 q91 => ?_))
          have h93 : FT [] [] S S90 := trivial
          have p94 : ((fun T => MV Γ.2.2.2.2.1 m g tp T ∧ SR g (m + 38) 0 T) S90) := by exact cpSR p71.1 q91
          refine V_aload_0 51 dX12_soonest_51 ?_
          refine V_iload_5 52 dX12_soonest_52 ?_
          refine V_putI 54 (c := 12) 55 dX12_soonest_54 fl_RX12_339 ((MV.f p94.1).m 0 (Nat.le_of_ble_eq_true rfl)) ((MV.f p94.1).k 0 12 rfl) (Nat.le_of_ble_eq_true rfl) (Nat.le_of_ble_eq_true rfl) rfl (Or.inl rfl) ?_
          refine V_abs (fun T9 => FT [] [] S T9 ∧ ((fun T => MV Γ.2.2.2.2.1 m g tp T ∧ SR g (m + 38) 0 T) T9)) ⟨trivial, by exact ⟨MV.z p94.1 [] [(0, 55)] (FZ.rf.uI (by simp)) rfl rfl rfl rfl, SR.eq p94.2 rfl⟩⟩ (fun S95 hh98 => ?_)
          obtain ⟨h96, p97⟩ := hh98
          refine V_aload_0 57 dX12_soonest_57 ?_
          refine V_iload_7 58 dX12_soonest_58 ?_
          refine V_putI 60 (c := 12) 56 dX12_soonest_60 fl_RX12_342 ((MV.f p97.1).m 0 (Nat.le_of_ble_eq_true rfl)) ((MV.f p97.1).k 0 12 rfl) (Nat.le_of_ble_eq_true rfl) (Nat.le_of_ble_eq_true rfl) rfl (Or.inl rfl) ?_
          refine V_abs (fun T9 => FT [] [] S T9 ∧ ((fun T => MV Γ.2.2.2.2.1 m g tp T ∧ SR g (m + 38) 0 T) T9)) ⟨trivial, by exact ⟨MV.z p97.1 [] [(0, 56)] (FZ.rf.uI (by simp)) rfl rfl rfl rfl, SR.eq p97.2 rfl⟩⟩ (fun S99 hh102 => ?_)
          obtain ⟨h100, p101⟩ := hh102
          refine V_aload_0 63 dX12_soonest_63 ?_
          refine V_sipush 64 (200) dX12_soonest_64 (by decide) ?_
          refine V_callV 67 (ci := 12) [.int _] _ (s_mdrawsIn M.2.1 Γ S99 p101.1 p101.2 _) dX12_soonest_67 cb_X12_drawsIn ml_RX12_400 im_yX12_drawsIn se_yX12_drawsIn ((MV.f p101.1).m 0 (Nat.le_of_ble_eq_true rfl)) ((MV.f p101.1).k 0 12 rfl) (Nat.le_of_ble_eq_true rfl) ⟨(Nat.le_of_ble_eq_true rfl), (Nat.le_of_ble_eq_true rfl)⟩ rfl rfl (Nat.le_of_ble_eq_true rfl) ⟨(Nat.le_of_ble_eq_true rfl), (Nat.le_of_ble_eq_true rfl)⟩ (RI.go (fun r105 S103 q104 => ?_))
          have h106 : FT [] [] S S103 := trivial
          have p107 : ((fun T => MV Γ.2.2.2.2.1 m g tp T ∧ True) S103) := by exact ⟨q104.1, trivial⟩
          refine V_istore_8 70 dX12_soonest_70 rfl (Nat.le_of_ble_eq_true rfl) ?_
          refine V_iload_6 72 dX12_soonest_72 ?_
          refine V_aload_0 74 dX12_soonest_74 ?_
          refine V_iconst 75 (0) dX12_soonest_75 (by decide) ?_
          refine V_callV 76 (ci := 12) [.int _] _ (s_mtotal M.2.1 Γ S103 (MV.f p107.1) 0 (by decide)) dX12_soonest_76 cb_X12_sumOn ml_RX12_352 im_yX12_sumOn se_yX12_sumOn ((MV.f p107.1).m 0 (Nat.le_of_ble_eq_true rfl)) ((MV.f p107.1).k 0 12 rfl) (Nat.le_of_ble_eq_true rfl) ⟨(Nat.le_of_ble_eq_true rfl), (Nat.le_of_ble_eq_true rfl)⟩ rfl rfl (Nat.le_of_ble_eq_true rfl) ⟨(Nat.le_of_ble_eq_true rfl), (Nat.le_of_ble_eq_true rfl)⟩ (RI.go (fun r110 S108 q109 => ?_))
          rw [q109.2]
          refine V_if_le 79 88 dX12_soonest_79 (by decide) (fun c111 => ?_) (fun c111 => ?_)
          ·
            refine V_iload_8 88 dX12_soonest_88 ?_
            refine V_lvw (by repeat (first | exact trivial | refine ⟨rfl, ?_⟩)) (J75 _ _ _ _ _ _ _ trivial p107 (by first | omega | assumption))
          ·
            refine V_sipush 82 (500) dX12_soonest_82 (by decide) ?_
            refine V_goto 85 90 dX12_soonest_85 (by decide) ?_
            refine V_lvw (by repeat (first | exact trivial | refine ⟨rfl, ?_⟩)) (J75 _ _ _ _ _ _ _ trivial p107 (by first | omega | assumption))
    ·
      refine V_lvw (by repeat (first | exact trivial | refine ⟨rfl, ?_⟩)) (J12 _ trivial p1)

