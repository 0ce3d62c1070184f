/-! The reference's rows, span, lost -/
theorem MV.v {lo m tp : Nat} {g : MG} {S S2 : PS} (I : MV lo m g tp S) (e : FZ [m + 38, m + 40, m + 42, m + 53, m + 54] [] S S2) : MV lo m g tp S2 := I.z [38, 40, 42, 53, 54] [] e rfl rfl rfl rfl
set_option maxRecDepth 100000 in
set_option maxHeartbeats 8000000 in
theorem s_mrows (l : Launch) (Γ : GC) (S : PS) {m tp : Nat} {g : MG} (I : MV Γ.2.2.2.2.1 m g tp S) (x y : Int32) : CT l Γ yX12_rows cX12_rows 3 (some .long) (4) (0) (0) [.ref m, .int x, .int y] S (RLg (fun r S' => MV Γ.2.2.2.2.1 m g tp S')) := by
  refine CT.of RX12 "rows" [some (.ref m), some (.int x), some (.int y)] (by decide +kernel) rfl rfl (Nat.le_of_ble_eq_true rfl) rfl (fun M hM => ?_)
  subst hM
  have F := I.f
  obtain ⟨n, hn, en, hh⟩ := I.seen
  have J32 : V M Γ (3, RX12, "rows", (some .long), RM (4) (0) (0)) cX12_rows (RQ M Γ (RLg (fun r S' => MV Γ.2.2.2.2.1 m g tp S')) (0) (0)) 0 0 S 32 [some (.ref m), some (.int x), some (.int y)] [] := by
    refine V_ldc2_w 32 dX12_rows_32 kL_RX12_392 ?_
    refine V_lret 35 dX12_rows_35 rfl (Nat.le_of_ble_eq_true rfl) (Nat.le_of_ble_eq_true rfl) (RLg.mk I)
  refine V_iload_1 0 dX12_rows_0 ?_
  refine V_iconst 1 (0) dX12_rows_1 (by decide) ?_
  refine V_aload_0 2 dX12_rows_2 ?_
  refine V_getI 3 (c := 12) 70 dX12_rows_3 fl_RX12_282 (F.m 0 (Nat.le_of_ble_eq_true rfl)) (F.k 0 12 rfl) (Nat.le_of_ble_eq_true rfl) (Nat.le_of_ble_eq_true rfl) rfl ?_
  rw [en]
  refine V_callS 6 [.int _, .int _, .int _] _ (s_min M.2.1 Γ S _ _ _) dX12_rows_6 cb_X12_in ml_RX12_335 sm_yX12_in ⟨(Nat.le_of_ble_eq_true rfl), (Nat.le_of_ble_eq_true rfl)⟩ rfl rfl (Nat.le_of_ble_eq_true rfl) ⟨(Nat.le_of_ble_eq_true rfl), (Nat.le_of_ble_eq_true rfl)⟩ (RI.go (fun r1 S1 q1 => ?_))
  rw [q1.2]
  have q1 := q1.1
  refine V_if_eq 9 32 dX12_rows_9 (by decide) (fun c => ?_) (fun c => ?_)
  · exact J32
  · obtain ⟨kn, hkn, ek⟩ := inN (n := n) (nI_toInt (by omega)) (q1.resolve_left c).2.1 (q1.resolve_left c).2.2
    refine V_iload_2 12 dX12_rows_12 ?_
    refine V_iconst 13 (0) dX12_rows_13 (by decide) ?_
    refine V_bipush 14 (18) dX12_rows_14 (by decide) ?_
    refine V_callS 16 [.int _, .int _, .int _] _ (s_min M.2.1 Γ S _ _ _) dX12_rows_16 cb_X12_in ml_RX12_335 sm_yX12_in ⟨(Nat.le_of_ble_eq_true rfl), (Nat.le_of_ble_eq_true rfl)⟩ rfl rfl (Nat.le_of_ble_eq_true rfl) ⟨(Nat.le_of_ble_eq_true rfl), (Nat.le_of_ble_eq_true rfl)⟩ (RI.go (fun r2 S2 q2 => ?_))
    rw [q2.2]
    refine V_if_eq 19 32 dX12_rows_19 (by decide) (fun c2 => ?_) (fun c2 => ?_)
    · exact J32
    ·
      rw [ek]
      refine V_aload_0 22 dX12_rows_22 ?_
      refine V_iload_1 23 dX12_rows_23 ?_
      refine V_iload_2 24 dX12_rows_24 ?_
      refine V_callV 25 (ci := 12) [.int _, .int _] _ (s_mfillsRows M.2.1 Γ S I en hkn hn hh _) dX12_rows_25 cb_X12_fillsRows ml_RX12_437 im_yX12_fillsRows se_yX12_fillsRows (F.m 0 (Nat.le_of_ble_eq_true rfl)) (F.k 0 12 rfl) (Nat.le_of_ble_eq_true rfl) ⟨(Nat.le_of_ble_eq_true rfl), (Nat.le_of_ble_eq_true rfl)⟩ rfl rfl (Nat.le_of_ble_eq_true rfl) ⟨(Nat.le_of_ble_eq_true rfl), (Nat.le_of_ble_eq_true rfl)⟩ (RI.go (fun r3 S3 q3 => ?_))
      refine V_i2l 28 dX12_rows_28 ?_
      refine V_goto 29 35 dX12_rows_29 (by decide) ?_
      refine V_lret 35 dX12_rows_35 rfl (Nat.le_of_ble_eq_true rfl) (Nat.le_of_ble_eq_true rfl) (RLg.mk (I.v q3))
set_option maxRecDepth 100000 in
set_option maxHeartbeats 8000000 in
theorem s_mspan (l : Launch) (Γ : GC) (S : PS) {m tp : Nat} {g : MG} (I : MV Γ.2.2.2.2.1 m g tp S) (x y z : Int32) : CT l Γ yX12_span cX12_span 4 (some .int) (4) (0) (0) [.ref m, .int x, .int y, .int z] S (RI (fun r S' => MV Γ.2.2.2.2.1 m g tp S')) := by
  refine CT.of RX12 "span" [some (.ref m), some (.int x), some (.int y), some (.int z)] (by decide +kernel) rfl rfl (Nat.le_of_ble_eq_true rfl) rfl (fun M hM => ?_)
  subst hM
  have F := I.f
  have hK := I.t.k8
  obtain ⟨n, hn, en, hh⟩ := I.seen
  have J30 : V M Γ (4, RX12, "span", (some .int), RM (4) (0) (0)) cX12_span (RQ M Γ (RI (fun r S' => MV Γ.2.2.2.2.1 m g tp S')) (0) (0)) 0 0 S 30 [some (.ref m), some (.int x), some (.int y), some (.int z)] [] := by
    refine V_iconst 30 (-1) dX12_span_30 (by decide) ?_
    refine V_iret 31 .int dX12_span_31 rfl rfl (Nat.le_of_ble_eq_true rfl) (Nat.le_of_ble_eq_true rfl) (RI.mk I)
  refine V_iload_1 0 dX12_span_0 ?_
  refine V_iconst 1 (0) dX12_span_1 (by decide) ?_
  refine V_aload_0 2 dX12_span_2 ?_
  refine V_getI 3 (c := 12) 70 dX12_span_3 fl_RX12_282 (F.m 0 (Nat.le_of_ble_eq_true rfl)) (F.k 0 12 rfl) (Nat.le_of_ble_eq_true rfl) (Nat.le_of_ble_eq_true rfl) rfl ?_
  rw [en]
  refine V_callS 6 [.int _, .int _, .int _] _ (s_min M.2.1 Γ S _ _ _) dX12_span_6 cb_X12_in ml_RX12_335 sm_yX12_in ⟨(Nat.le_of_ble_eq_true rfl), (Nat.le_of_ble_eq_true rfl)⟩ rfl rfl (Nat.le_of_ble_eq_true rfl) ⟨(Nat.le_of_ble_eq_true rfl), (Nat.le_of_ble_eq_true rfl)⟩ (RI.go (fun r1 S1 q1 => ?_))
  rw [q1.2]
  have q1 := q1.1
  refine V_if_eq 9 30 dX12_span_9 (by decide) (fun c => ?_) (fun c => ?_)
  · exact J30
  · obtain ⟨kn, hkn, ek⟩ := inN (n := n) (nI_toInt (by omega)) (q1.resolve_left c).2.1 (q1.resolve_left c).2.2
    refine V_iload_2 12 dX12_span_12 ?_
    refine V_iconst 13 (0) dX12_span_13 (by decide) ?_
    refine V_bipush 14 (18) dX12_span_14 (by decide) ?_
    refine V_callS 16 [.int _, .int _, .int _] _ (s_min M.2.1 Γ S _ _ _) dX12_span_16 cb_X12_in ml_RX12_335 sm_yX12_in ⟨(Nat.le_of_ble_eq_true rfl), (Nat.le_of_ble_eq_true rfl)⟩ rfl rfl (Nat.le_of_ble_eq_true rfl) ⟨(Nat.le_of_ble_eq_true rfl), (Nat.le_of_ble_eq_true rfl)⟩ (RI.go (fun r2 S2 q2 => ?_))
    rw [q2.2]
    refine V_if_eq 19 30 dX12_span_19 (by decide) (fun c2 => ?_) (fun c2 => ?_)
    · exact J30
    ·
      refine V_aload_0 22 dX12_span_22 ?_
      refine V_iload_3 23 dX12_span_23 ?_
      refine V_callV 24 (ci := 12) [.int _] _ (s_misKind M.2.1 Γ S F I.t _) dX12_span_24 cb_X12_isKind ml_RX12_361 im_yX12_isKind se_yX12_isKind (F.m 0 (Nat.le_of_ble_eq_true rfl)) (F.k 0 12 rfl) (Nat.le_of_ble_eq_true rfl) ⟨(Nat.le_of_ble_eq_true rfl), (Nat.le_of_ble_eq_true rfl)⟩ rfl rfl (Nat.le_of_ble_eq_true rfl) ⟨(Nat.le_of_ble_eq_true rfl), (Nat.le_of_ble_eq_true rfl)⟩ (RI.go (fun r4 S4 q4 => ?_))
      rw [q4.2]
      have q4 := q4.1
      refine V_if_ne 27 32 dX12_span_27 (by decide) (fun c3 => ?_) (fun c3 => ?_)
      · obtain ⟨k, hk, ez⟩ := (q4.resolve_left c3).2
        rw [ek, ez]
        refine V_aload_0 32 dX12_span_32 ?_
        refine V_iload_1 33 dX12_span_33 ?_
        refine V_iload_2 34 dX12_span_34 ?_
        refine V_callV 35 (ci := 12) [.int _, .int _] _ (s_mfillsRows M.2.1 Γ S I en hkn hn hh _) dX12_span_35 cb_X12_fillsRows ml_RX12_437 im_yX12_fillsRows se_yX12_fillsRows (F.m 0 (Nat.le_of_ble_eq_true rfl)) (F.k 0 12 rfl) (Nat.le_of_ble_eq_true rfl) ⟨(Nat.le_of_ble_eq_true rfl), (Nat.le_of_ble_eq_true rfl)⟩ rfl rfl (Nat.le_of_ble_eq_true rfl) ⟨(Nat.le_of_ble_eq_true rfl), (Nat.le_of_ble_eq_true rfl)⟩ (RI.go (fun r3 S3 q3 => ?_))
        have I3 := I.v q3
        have F3 := I3.f
        refine V_if_ne 38 46 dX12_span_38 (by decide) (fun c4 => ?_) (fun c4 => ?_)
        ·
          refine V_bipush 46 (100) dX12_span_46 (by decide) ?_
          refine V_aload_0 48 dX12_span_48 ?_
          refine V_getR 49 (c := 12) 73 (F3.r 0 73 53 rfl) dX12_span_49 fl_RX12_177 (F3.m 0 (Nat.le_of_ble_eq_true rfl)) (F3.k 0 12 rfl) (Nat.le_of_ble_eq_true rfl) (Nat.le_of_ble_eq_true rfl) rfl ?_
          refine V_iload_3 52 dX12_span_52 ?_
          refine V_iaload2 53 dX12_span_53 (F3.m 53 (Nat.le_of_ble_eq_true rfl)) (F3.k 53 14 rfl) (F3.l 53 8 rfl) ?_ ?_
          · exact vp_in_nI (by omega) (by decide)
          refine V_imul 54 dX12_span_54 ?_
          refine V_aload_0 55 dX12_span_55 ?_
          refine V_getR 56 (c := 12) 74 (F3.r 0 74 54 rfl) dX12_span_56 fl_RX12_180 (F3.m 0 (Nat.le_of_ble_eq_true rfl)) (F3.k 0 12 rfl) (Nat.le_of_ble_eq_true rfl) (Nat.le_of_ble_eq_true rfl) rfl ?_
          refine V_iload_3 59 dX12_span_59 ?_
          refine V_iaload2 60 dX12_span_60 (F3.m 54 (Nat.le_of_ble_eq_true rfl)) (F3.k 54 14 rfl) (F3.l 54 8 rfl) ?_ ?_
          · exact vp_in_nI (by omega) (by decide)
          refine V_iadd 61 dX12_span_61 ?_
          refine V_iret 62 .int dX12_span_62 rfl rfl (Nat.le_of_ble_eq_true rfl) (Nat.le_of_ble_eq_true rfl) (RI.mk I3)
        ·
          refine V_bipush 41 (-2) dX12_span_41 (by decide) ?_
          refine V_goto 43 62 dX12_span_43 (by decide) ?_
          refine V_iret 62 .int dX12_span_62 rfl rfl (Nat.le_of_ble_eq_true rfl) (Nat.le_of_ble_eq_true rfl) (RI.mk I3)
      · exact J30
set_option maxRecDepth 100000 in
set_option maxHeartbeats 8000000 in
theorem s_mjoins (l : Launch) (Γ : GC) (S : PS) {m : Nat} (F : isL lyModel Γ.2.2.2.2.1 S m) (w : Nat) (hw : w ≤ 1000) (y : Int64) : CT l Γ yX12_joins cX12_joins 5 none (0) (0) (0) [.ref m, .int (nI w), .long y] S (RV (fun S' => FZ [] [] S S')) := by
  refine CT.of RX12 "joins" [some (.ref m), some (.int (nI w)), some (.long y), none, none] (by decide +kernel) rfl rfl (Nat.le_of_ble_eq_true rfl) rfl (fun M hM => ?_)
  subst hM
  refine V_iconst 0 (0) dX12_joins_0 (by decide) ?_
  refine V_istore_4 1 dX12_joins_1 rfl (Nat.le_of_ble_eq_true rfl) ?_
  refine V_lvw (by repeat (first | exact trivial | refine ⟨rfl, ?_⟩)) (V_while (α := Nat × PS) (fun z1 => 19 - z1.1) (fun z1 => z1.1 ≤ 19 ∧ FZ [] [] S z1.2) (fun z1 => z1.2) (fun z1 => [some (.ref m), some (.int (nI w)), some (.long y), none, some (.int (nI z1.1))]) (0, _) ⟨Nat.zero_le _, FZ.rf⟩ (fun z1 hx7 ih6 => ?b8))
  obtain ⟨i2, S3⟩ := z1
  obtain ⟨hi4, h5⟩ := hx7
  dsimp only at hi4 h5 ih6 ⊢
  refine V_iload_4 3 dX12_joins_3 ?_
  refine V_iload_1 5 dX12_joins_5 ?_
  refine V_iadd 6 dX12_joins_6 ?_
  refine V_bipush 7 (19) dX12_joins_7 (by decide) ?_
  refine V_icmp_ge 9 39 dX12_joins_9 (by decide) (fun c10 => ?_) (fun c10 => ?_)
  ·
    try have nf11 := (nI_leE (show (19 : Int32) = nI 19 from rfl) (eqAdd (Eq.refl (nI i2)) (Eq.refl (nI w))) (by omega) (by omega)).mp c10
    refine V_vret 39 dX12_joins_39 rfl (Nat.le_of_ble_eq_true rfl) (Nat.le_of_ble_eq_true rfl) (RV.mk h5)
  ·
    try have nf12 := mt (nI_leE (show (19 : Int32) = nI 19 from rfl) (eqAdd (Eq.refl (nI i2)) (Eq.refl (nI w))) (by omega) (by omega)).mpr c10
    refine V_aload_0 12 dX12_joins_12 ?_
    refine V_getR 13 (c := 12) 67 ((F.ss h5.1).r 0 67 48 rfl) dX12_joins_13 fl_RX12_162 ((F.ss h5.1).m 0 (Nat.le_of_ble_eq_true rfl)) ((F.ss h5.1).k 0 12 rfl) (Nat.le_of_ble_eq_true rfl) (Nat.le_of_ble_eq_true rfl) rfl ?_
    refine V_iload_4 16 dX12_joins_16 ?_
    refine V_iload_1 18 dX12_joins_18 ?_
    refine V_iadd 19 dX12_joins_19 ?_
    refine V_dup2 20 dX12_joins_20 rfl rfl ?_
    refine V_laload2 21 dX12_joins_21 ((F.ss h5.1).m 48 (Nat.le_of_ble_eq_true rfl)) ((F.ss h5.1).k 48 15 rfl) ((F.ss h5.1).l 48 19 rfl) ?_ ?_
    · exact vpN (eqAdd (Eq.refl (nI i2)) (Eq.refl (nI w))) (by omega) (by decide)
    refine V_aload_0 22 dX12_joins_22 ?_
    refine V_getR 23 (c := 12) 66 ((F.ss h5.1).r 0 66 47 rfl) dX12_joins_23 fl_RX12_159 ((F.ss h5.1).m 0 (Nat.le_of_ble_eq_true rfl)) ((F.ss h5.1).k 0 12 rfl) (Nat.le_of_ble_eq_true rfl) (Nat.le_of_ble_eq_true rfl) rfl ?_
    refine V_iload_4 26 dX12_joins_26 ?_
    refine V_laload2 28 dX12_joins_28 ((F.ss h5.1).m 47 (Nat.le_of_ble_eq_true rfl)) ((F.ss h5.1).k 47 15 rfl) ((F.ss h5.1).l 47 19 rfl) ?_ ?_
    · exact vp_in_nI (by omega) (by decide)
    refine V_lload_2 29 dX12_joins_29 ?_
    refine V_lmul 30 dX12_joins_30 ?_
    refine V_ladd 31 dX12_joins_31 ?_
    refine V_lastore2 32 dX12_joins_32 ((F.ss h5.1).m 48 (Nat.le_of_ble_eq_true rfl)) ((F.ss h5.1).k 48 15 rfl) ((F.ss h5.1).l 48 19 rfl) ?_ ?_
    · exact vpN (eqAdd (Eq.refl (nI i2)) (Eq.refl (nI w))) (by omega) (by decide)
    refine V_abs (FZ [] [] S) (h5.uJ) (fun S13 h14 => ?_)
    refine V_iinc_4 33 (1) dX12_joins_33 (by decide) rfl (Nat.le_of_ble_eq_true rfl) ?_
    refine V_goto 36 3 dX12_joins_36 (by decide) ?_
    rw [← nI_succ]
    refine V_lvw (by repeat (first | exact trivial | refine ⟨rfl, ?_⟩)) (ih6 (i2 + 1, _) ⟨by dsimp only; omega, h14⟩ (by dsimp only; omega))
set_option maxRecDepth 100000 in
set_option maxHeartbeats 8000000 in
theorem s_mlost (l : Launch) (Γ : GC) (S : PS) {m tp : Nat} {g : MG} (I : MV Γ.2.2.2.2.1 m g tp S) (x y z : Int32) : CT l Γ yX12_lost cX12_lost 10 (some .long) (3) (0) (0) [.ref m, .int x, .int y, .int z] S (RLg (fun r S' => MV Γ.2.2.2.2.1 m g tp S')) := by
  refine CT.of RX12 "lost" [some (.ref m), some (.int x), some (.int y), some (.int z), none, none, none, none, none, none] (by decide +kernel) rfl rfl (Nat.le_of_ble_eq_true rfl) rfl (fun M hM => ?_)
  subst hM
  have F := I.f
  have h := I.t
  have hK := h.k8
  have hl := h.l2
  obtain ⟨x0, y0, hn, ok⟩ := I.now
  have J29 : V M Γ (10, RX12, "lost", (some .long), RM (3) (0) (0)) cX12_lost (RQ M Γ (RLg (fun r S' => MV Γ.2.2.2.2.1 m g tp S')) (0) (0)) 0 0 S 29 [some (.ref m), some (.int x), some (.int y), some (.int z), none, none, none, none, none, none] [] := by
    refine V_ldc2_w 29 dX12_lost_29 kL_RX12_392 ?_
    refine V_lret 32 dX12_lost_32 rfl (Nat.le_of_ble_eq_true rfl) (Nat.le_of_ble_eq_true rfl) (RLg.mk I)
  refine V_iload_1 0 dX12_lost_0 ?_
  refine V_iconst 1 (0) dX12_lost_1 (by decide) ?_
  refine V_bipush 2 (18) dX12_lost_2 (by decide) ?_
  refine V_callS 4 [.int _, .int _, .int _] _ (s_min M.2.1 Γ S _ _ _) dX12_lost_4 cb_X12_in ml_RX12_335 sm_yX12_in ⟨(Nat.le_of_ble_eq_true rfl), (Nat.le_of_ble_eq_true rfl)⟩ rfl rfl (Nat.le_of_ble_eq_true rfl) ⟨(Nat.le_of_ble_eq_true rfl), (Nat.le_of_ble_eq_true rfl)⟩ (RI.go (fun r1 S1 q1 => ?_))
  rw [q1.2]
  have q1 := q1.1
  refine V_if_eq 7 29 dX12_lost_7 (by decide) (fun c => ?_) (fun c => ?_)
  · exact J29
  · obtain ⟨w, hw, ew⟩ := inN (n := 18) (by decide) (q1.resolve_left c).2.1 (q1.resolve_left c).2.2
    refine V_iload_3 10 dX12_lost_10 ?_
    refine V_iconst 11 (1) dX12_lost_11 (by decide) ?_
    refine V_bipush 12 (9) dX12_lost_12 (by decide) ?_
    refine V_callS 14 [.int _, .int _, .int _] _ (s_min M.2.1 Γ S _ _ _) dX12_lost_14 cb_X12_in ml_RX12_335 sm_yX12_in ⟨(Nat.le_of_ble_eq_true rfl), (Nat.le_of_ble_eq_true rfl)⟩ rfl rfl (Nat.le_of_ble_eq_true rfl) ⟨(Nat.le_of_ble_eq_true rfl), (Nat.le_of_ble_eq_true rfl)⟩ (RI.go (fun r2 S2 q2 => ?_))
    rw [q2.2]
    refine V_if_eq 17 29 dX12_lost_17 (by decide) (fun c2 => ?_) (fun c2 => ?_)
    · exact J29
    ·
      refine V_iload_2 20 dX12_lost_20 ?_
      refine V_iconst 21 (0) dX12_lost_21 (by decide) ?_
      refine V_iload_3 22 dX12_lost_22 ?_
      refine V_callS 23 [.int _, .int _, .int _] _ (s_min M.2.1 Γ S _ _ _) dX12_lost_23 cb_X12_in ml_RX12_335 sm_yX12_in ⟨(Nat.le_of_ble_eq_true rfl), (Nat.le_of_ble_eq_true rfl)⟩ rfl rfl (Nat.le_of_ble_eq_true rfl) ⟨(Nat.le_of_ble_eq_true rfl), (Nat.le_of_ble_eq_true rfl)⟩ (RI.go (fun r3 S3 q3 => ?_))
      rw [q3.2]
      refine V_if_ne 26 33 dX12_lost_26 (by decide) (fun c3 => ?_) (fun c3 => ?_)
      ·
        refine V_iconst 33 (0) dX12_lost_33 (by decide) ?_
        refine V_istore_4 34 dX12_lost_34 rfl (Nat.le_of_ble_eq_true rfl) ?_
        refine V_lvw (by repeat (first | exact trivial | refine ⟨rfl, ?_⟩)) (V_while (α := Nat × PS) (fun z1 => 19 - z1.1) (fun z1 => z1.1 ≤ 19 ∧ FZ [] [] S z1.2) (fun z1 => z1.2) (fun z1 => [some (.ref m), some (.int x), some (.int y), some (.int z), some (.int (nI z1.1)), none, none, none, none, none]) (0, _) ⟨Nat.zero_le _, FZ.rf⟩ (fun z1 hx7 ih6 => ?b8))
        obtain ⟨i2, S3⟩ := z1
        obtain ⟨hi4, h5⟩ := hx7
        dsimp only at hi4 h5 ih6 ⊢
        refine V_iload_4 36 dX12_lost_36 ?_
        refine V_bipush 38 (19) dX12_lost_38 (by decide) ?_
        refine V_icmp_ge 40 66 dX12_lost_40 (by decide) (fun c10 => ?_) (fun c10 => ?_)
        ·
          try have nf11 := (nI_leE (show (19 : Int32) = nI 19 from rfl) (Eq.refl (nI i2)) (by omega) (by omega)).mp c10
          refine V_iconst 66 (0) dX12_lost_66 (by decide) ?_
          refine V_istore_4 67 dX12_lost_67 rfl (Nat.le_of_ble_eq_true rfl) ?_
          refine V_lvw (by repeat (first | exact trivial | refine ⟨rfl, ?_⟩)) (V_while (α := Nat × PS) (fun z12 => gK g - z12.1) (fun z12 => z12.1 ≤ gK g ∧ FZ [] [] S z12.2) (fun z12 => z12.2) (fun z12 => [some (.ref m), some (.int x), some (.int y), some (.int z), some (.int (nI z12.1)), none, none, none, none, none]) (0, _) ⟨Nat.zero_le _, h5⟩ (fun z12 hx18 ih17 => ?b19))
          obtain ⟨i13, S14⟩ := z12
          obtain ⟨hi15, h16⟩ := hx18
          dsimp only at hi15 h16 ih17 ⊢
          have J23 : ∀ (S21 : PS) (x24 : Nat), FZ [] [] S S21 → i13 < gK g → x24 < 8 → V M Γ (10, RX12, "lost", (some .long), RM (3) (0) (0)) cX12_lost (RQ M Γ (RLg (fun r S' => MV Γ.2.2.2.2.1 m g tp S')) (0) (0)) 0 0 S21 297 [some (.ref m), some (.int x), some (.int y), some (.int z), some (.int (nI i13)), some (.int (nI x24)), none, none, none, none] [] := by
            intro S21 x24 h22 lt25 hn_x24
            refine V_iinc_4 297 (1) dX12_lost_297 (by decide) rfl (Nat.le_of_ble_eq_true rfl) ?_
            refine V_goto 300 69 dX12_lost_300 (by decide) ?_
            rw [← nI_succ]
            refine V_lvw (by repeat (first | exact trivial | refine ⟨rfl, ?_⟩)) (ih17 (i13 + 1, _) ⟨by dsimp only; omega, h22⟩ (by dsimp only; omega))
          refine V_iload_4 69 dX12_lost_69 ?_
          refine V_aload_0 71 dX12_lost_71 ?_
          refine V_getR 72 (c := 12) 23 ((F.ss h16.1).r 0 23 11 rfl) dX12_lost_72 fl_RX12_49 ((F.ss h16.1).m 0 (Nat.le_of_ble_eq_true rfl)) ((F.ss h16.1).k 0 12 rfl) (Nat.le_of_ble_eq_true rfl) (Nat.le_of_ble_eq_true rfl) rfl ?_
          refine V_aload_0 75 dX12_lost_75 ?_
          refine V_getI 76 (c := 12) 18 dX12_lost_76 fl_RX12_264 ((F.ss h16.1).m 0 (Nat.le_of_ble_eq_true rfl)) ((F.ss h16.1).k 0 12 rfl) (Nat.le_of_ble_eq_true rfl) (Nat.le_of_ble_eq_true rfl) rfl ?_
          rw [(h.z [] [] h16 rfl rfl rfl rfl).lv]
          refine V_iaload2 79 dX12_lost_79 ((F.ss h16.1).m 11 (Nat.le_of_ble_eq_true rfl)) ((F.ss h16.1).k 11 14 rfl) ((F.ss h16.1).l 11 2 rfl) ?_ ?_
          · exact vpN (Eq.refl (nI (gl g))) (by omega) (by decide)
          rw [clN (Eq.refl (nI (gl g))) (by omega)]
          rw [(h.z [] [] h16 rfl rfl rfl rfl).ki]
          refine V_icmp_ge 80 303 dX12_lost_80 (by decide) (fun c26 => ?_) (fun c26 => ?_)
          ·
            try have nf27 := (nI_leE (Eq.refl (nI (gK g))) (Eq.refl (nI i13)) (by omega) (by omega)).mp c26
            refine V_aload_0 303 dX12_lost_303 ?_
            refine V_getR 304 (c := 12) 66 ((F.ss h16.1).r 0 66 47 rfl) dX12_lost_304 fl_RX12_159 ((F.ss h16.1).m 0 (Nat.le_of_ble_eq_true rfl)) ((F.ss h16.1).k 0 12 rfl) (Nat.le_of_ble_eq_true rfl) (Nat.le_of_ble_eq_true rfl) rfl ?_
            refine V_iload_1 307 dX12_lost_307 ?_
            refine V_laload2 308 dX12_lost_308 ((F.ss h16.1).m 47 (Nat.le_of_ble_eq_true rfl)) ((F.ss h16.1).k 47 15 rfl) ((F.ss h16.1).l 47 19 rfl) ?_ ?_
            · exact vpN ew (by omega) (by decide)
            refine V_lret 309 dX12_lost_309 rfl (Nat.le_of_ble_eq_true rfl) (Nat.le_of_ble_eq_true rfl) (RLg.mk (I.z [] [] h16 rfl rfl rfl rfl))
          ·
            try have nf28 := mt (nI_leE (Eq.refl (nI (gK g))) (Eq.refl (nI i13)) (by omega) (by omega)).mpr c26
            try have lt29 := nI_ltC hi15 c26
            refine V_aload_0 83 dX12_lost_83 ?_
            refine V_iload_4 84 dX12_lost_84 ?_
            refine V_callV 86 (ci := 12) [.int _] _ (s_mpartner M.2.1 Γ S14 (F.ss h16.1) (h.z [] [] h16 rfl rfl rfl rfl) (show (i13) < gK g by omega)) dX12_lost_86 cb_X12_partner ml_RX12_349 im_yX12_partner se_yX12_partner ((F.ss h16.1).m 0 (Nat.le_of_ble_eq_true rfl)) ((F.ss h16.1).k 0 12 rfl) (Nat.le_of_ble_eq_true rfl) ⟨(Nat.le_of_ble_eq_true rfl), (Nat.le_of_ble_eq_true rfl)⟩ rfl rfl (Nat.le_of_ble_eq_true rfl) ⟨(Nat.le_of_ble_eq_true rfl), (Nat.le_of_ble_eq_true rfl)⟩ (RI.go (fun r32 S30 q31 => ?_))
            have hp9 := h.paK (show (i13) < gK g by omega)
            have k18a := OKR.k18 h ok (show (i13) < 8 by omega)
            have k18b := OKR.k18 h ok (show gP g (i13) < 8 by omega)
            obtain ⟨e9, s9⟩ := q31
            rw [s9]
            subst e9
            refine V_istore_5 89 dX12_lost_89 rfl (Nat.le_of_ble_eq_true rfl) ?_
            refine V_iload_5 91 dX12_lost_91 ?_
            refine V_iload_4 93 dX12_lost_93 ?_
            refine V_icmp_ge 95 101 dX12_lost_95 (by decide) (fun c33 => ?_) (fun c33 => ?_)
            ·
              try have nf34 := (nI_leE (Eq.refl (nI i13)) (Eq.refl (nI (gP g (i13)))) (by omega) (by omega)).mp c33
              refine V_iconst 101 (0) dX12_lost_101 (by decide) ?_
              refine V_istore_6 102 dX12_lost_102 rfl (Nat.le_of_ble_eq_true rfl) ?_
              rw [(show (0 : Int32) = nI 0 from rfl)]
              refine V_lvw (by repeat (first | exact trivial | refine ⟨rfl, ?_⟩)) (V_while (α := Nat × PS) (fun z35 => 19 - z35.1) (fun z35 => z35.1 ≤ 19 ∧ FZ [] [] S z35.2) (fun z35 => z35.2) (fun z35 => [some (.ref m), some (.int x), some (.int y), some (.int z), some (.int (nI i13)), some (.int (nI (gP g (i13)))), some (.int (nI z35.1)), none, none, none]) (0, _) ⟨Nat.zero_le _, h16⟩ (fun z35 hx41 ih40 => ?b42))
              obtain ⟨i36, S37⟩ := z35
              obtain ⟨hi38, h39⟩ := hx41
              dsimp only at hi38 h39 ih40 ⊢
              refine V_iload_6 104 dX12_lost_104 ?_
              refine V_bipush 106 (19) dX12_lost_106 (by decide) ?_
              refine V_icmp_ge 108 125 dX12_lost_108 (by decide) (fun c44 => ?_) (fun c44 => ?_)
              ·
                try have nf45 := (nI_leE (show (19 : Int32) = nI 19 from rfl) (Eq.refl (nI i36)) (by omega) (by omega)).mp c44
                refine V_aload_0 125 dX12_lost_125 ?_
                refine V_getR 126 (c := 12) 53 ((F.ss h39.1).r 0 53 37 rfl) dX12_lost_126 fl_RX12_128 ((F.ss h39.1).m 0 (Nat.le_of_ble_eq_true rfl)) ((F.ss h39.1).k 0 12 rfl) (Nat.le_of_ble_eq_true rfl) (Nat.le_of_ble_eq_true rfl) rfl ?_
                refine V_iload_4 129 dX12_lost_129 ?_
                refine V_iaload2 131 dX12_lost_131 ((F.ss h39.1).m 37 (Nat.le_of_ble_eq_true rfl)) ((F.ss h39.1).k 37 14 rfl) ((F.ss h39.1).l 37 30 rfl) ?_ ?_
                · exact vp_in_nI (by omega) (by decide)
                rw [clN (Eq.refl (nI i13)) (by omega)]
                rw [(hn.fz h39 (by simp)).gx (by omega)]
                refine V_aload_0 132 dX12_lost_132 ?_
                refine V_getR 133 (c := 12) 53 ((F.ss h39.1).r 0 53 37 rfl) dX12_lost_133 fl_RX12_128 ((F.ss h39.1).m 0 (Nat.le_of_ble_eq_true rfl)) ((F.ss h39.1).k 0 12 rfl) (Nat.le_of_ble_eq_true rfl) (Nat.le_of_ble_eq_true rfl) rfl ?_
                refine V_bipush 136 (8) dX12_lost_136 (by decide) ?_
                refine V_iload_4 138 dX12_lost_138 ?_
                refine V_iadd 140 dX12_lost_140 ?_
                refine V_iaload2 141 dX12_lost_141 ((F.ss h39.1).m 37 (Nat.le_of_ble_eq_true rfl)) ((F.ss h39.1).k 37 14 rfl) ((F.ss h39.1).l 37 30 rfl) ?_ ?_
                · exact vpN (eqAdd (show (8 : Int32) = nI 8 from rfl) (Eq.refl (nI i13))) (by omega) (by decide)
                rw [clN (eqAdd (show (8 : Int32) = nI 8 from rfl) (Eq.refl (nI i13))) (by omega)]
                rw [(hn.fz h39 (by simp)).gy (by omega)]
                refine V_iadd 142 dX12_lost_142 ?_
                refine V_istore_6 143 dX12_lost_143 rfl (Nat.le_of_ble_eq_true rfl) ?_
                rw [(eqAdd (Eq.refl (nI (x0 i13))) (Eq.refl (nI (y0 i13))))]
                refine V_aload_0 145 dX12_lost_145 ?_
                refine V_getR 146 (c := 12) 53 ((F.ss h39.1).r 0 53 37 rfl) dX12_lost_146 fl_RX12_128 ((F.ss h39.1).m 0 (Nat.le_of_ble_eq_true rfl)) ((F.ss h39.1).k 0 12 rfl) (Nat.le_of_ble_eq_true rfl) (Nat.le_of_ble_eq_true rfl) rfl ?_
                refine V_iload_5 149 dX12_lost_149 ?_
                refine V_iaload2 151 dX12_lost_151 ((F.ss h39.1).m 37 (Nat.le_of_ble_eq_true rfl)) ((F.ss h39.1).k 37 14 rfl) ((F.ss h39.1).l 37 30 rfl) ?_ ?_
                · exact vpN (Eq.refl (nI (gP g (i13)))) (by omega) (by decide)
                rw [clN (Eq.refl (nI (gP g (i13)))) (by omega)]
                rw [(hn.fz h39 (by simp)).gx (by omega)]
                refine V_aload_0 152 dX12_lost_152 ?_
                refine V_getR 153 (c := 12) 53 ((F.ss h39.1).r 0 53 37 rfl) dX12_lost_153 fl_RX12_128 ((F.ss h39.1).m 0 (Nat.le_of_ble_eq_true rfl)) ((F.ss h39.1).k 0 12 rfl) (Nat.le_of_ble_eq_true rfl) (Nat.le_of_ble_eq_true rfl) rfl ?_
                refine V_bipush 156 (8) dX12_lost_156 (by decide) ?_
                refine V_iload_5 158 dX12_lost_158 ?_
                refine V_iadd 160 dX12_lost_160 ?_
                refine V_iaload2 161 dX12_lost_161 ((F.ss h39.1).m 37 (Nat.le_of_ble_eq_true rfl)) ((F.ss h39.1).k 37 14 rfl) ((F.ss h39.1).l 37 30 rfl) ?_ ?_
                · exact vpN (eqAdd (show (8 : Int32) = nI 8 from rfl) (Eq.refl (nI (gP g (i13))))) (by omega) (by decide)
                rw [clN (eqAdd (show (8 : Int32) = nI 8 from rfl) (Eq.refl (nI (gP g (i13))))) (by omega)]
                rw [(hn.fz h39 (by simp)).gy (by omega)]
                refine V_iadd 162 dX12_lost_162 ?_
                refine V_istore_7 163 dX12_lost_163 rfl (Nat.le_of_ble_eq_true rfl) ?_
                rw [(eqAdd (Eq.refl (nI (x0 (gP g i13)))) (Eq.refl (nI (y0 (gP g i13)))))]
                refine V_iconst 165 (0) dX12_lost_165 (by decide) ?_
                refine V_istore_8 166 dX12_lost_166 rfl (Nat.le_of_ble_eq_true rfl) ?_
                refine V_lvw (by repeat (first | exact trivial | refine ⟨rfl, ?_⟩)) (V_while (α := Nat × PS) (fun z46 => ((x0 i13) + (y0 i13)) + 1 - z46.1) (fun z46 => z46.1 ≤ ((x0 i13) + (y0 i13)) + 1 ∧ FZ [] [] S z46.2) (fun z46 => z46.2) (fun z46 => [some (.ref m), some (.int x), some (.int y), some (.int z), some (.int (nI i13)), some (.int (nI (gP g (i13)))), some (.int (nI ((x0 i13) + (y0 i13)))), some (.int (nI ((x0 (gP g i13)) + (y0 (gP g i13))))), some (.int (nI z46.1)), none]) (0, _) ⟨Nat.zero_le _, h39⟩ (fun z46 hx52 ih51 => ?b53))
                obtain ⟨i47, S48⟩ := z46
                obtain ⟨hi49, h50⟩ := hx52
                dsimp only at hi49 h50 ih51 ⊢
                have J57 : ∀ (S55 : PS) , FZ [] [] S S55 → i47 < ((x0 i13) + (y0 i13)) + 1 → V M Γ (10, RX12, "lost", (some .long), RM (3) (0) (0)) cX12_lost (RQ M Γ (RLg (fun r S' => MV Γ.2.2.2.2.1 m g tp S')) (0) (0)) 0 0 S55 261 [some (.ref m), some (.int x), some (.int y), some (.int z), some (.int (nI i13)), some (.int (nI (gP g (i13)))), some (.int (nI ((x0 i13) + (y0 i13)))), some (.int (nI ((x0 (gP g i13)) + (y0 (gP g i13))))), some (.int (nI i47)), none] [] := by
                  intro S55  h56 lt58
                  refine V_iinc_8 261 (1) dX12_lost_261 (by decide) rfl (Nat.le_of_ble_eq_true rfl) ?_
                  refine V_goto 264 168 dX12_lost_264 (by decide) ?_
                  rw [← nI_succ]
                  refine V_lvw (by repeat (first | exact trivial | refine ⟨rfl, ?_⟩)) (ih51 (i47 + 1, _) ⟨by dsimp only; omega, h56⟩ (by dsimp only; omega))
                refine V_iload_8 168 dX12_lost_168 ?_
                refine V_iload_6 170 dX12_lost_170 ?_
                refine V_icmp_gt 172 267 dX12_lost_172 (by decide) (fun c59 => ?_) (fun c59 => ?_)
                ·
                  try have nf60 := (nI_ltE (Eq.refl (nI ((x0 i13) + (y0 i13)))) (Eq.refl (nI i47)) (by omega) (by omega)).mp c59
                  refine V_iconst 267 (0) dX12_lost_267 (by decide) ?_
                  refine V_istore_8 268 dX12_lost_268 rfl (Nat.le_of_ble_eq_true rfl) ?_
                  refine V_lvw (by repeat (first | exact trivial | refine ⟨rfl, ?_⟩)) (V_while (α := Nat × PS) (fun z61 => 19 - z61.1) (fun z61 => z61.1 ≤ 19 ∧ FZ [] [] S z61.2) (fun z61 => z61.2) (fun z61 => [some (.ref m), some (.int x), some (.int y), some (.int z), some (.int (nI i13)), some (.int (nI (gP g (i13)))), some (.int (nI ((x0 i13) + (y0 i13)))), some (.int (nI ((x0 (gP g i13)) + (y0 (gP g i13))))), some (.int (nI z61.1)), none]) (0, _) ⟨Nat.zero_le _, h50⟩ (fun z61 hx67 ih66 => ?b68))
                  obtain ⟨i62, S63⟩ := z61
                  obtain ⟨hi64, h65⟩ := hx67
                  dsimp only at hi64 h65 ih66 ⊢
                  refine V_iload_8 270 dX12_lost_270 ?_
                  refine V_bipush 272 (19) dX12_lost_272 (by decide) ?_
                  refine V_icmp_ge 274 297 dX12_lost_274 (by decide) (fun c70 => ?_) (fun c70 => ?_)
                  ·
                    try have nf71 := (nI_leE (show (19 : Int32) = nI 19 from rfl) (Eq.refl (nI i62)) (by omega) (by omega)).mp c70
                    refine V_lvw (by repeat (first | exact trivial | refine ⟨rfl, ?_⟩)) (J23 _ _ h65 (by first | omega | assumption) (by omega))
                  ·
                    try have nf73 := mt (nI_leE (show (19 : Int32) = nI 19 from rfl) (Eq.refl (nI i62)) (by omega) (by omega)).mpr c70
                    have lt74 := nI_lt8 (by decide) hi64 c70
                    refine V_aload_0 277 dX12_lost_277 ?_
                    refine V_getR 278 (c := 12) 66 ((F.ss h65.1).r 0 66 47 rfl) dX12_lost_278 fl_RX12_159 ((F.ss h65.1).m 0 (Nat.le_of_ble_eq_true rfl)) ((F.ss h65.1).k 0 12 rfl) (Nat.le_of_ble_eq_true rfl) (Nat.le_of_ble_eq_true rfl) rfl ?_
                    refine V_iload_8 281 dX12_lost_281 ?_
                    refine V_aload_0 283 dX12_lost_283 ?_
                    refine V_getR 284 (c := 12) 67 ((F.ss h65.1).r 0 67 48 rfl) dX12_lost_284 fl_RX12_162 ((F.ss h65.1).m 0 (Nat.le_of_ble_eq_true rfl)) ((F.ss h65.1).k 0 12 rfl) (Nat.le_of_ble_eq_true rfl) (Nat.le_of_ble_eq_true rfl) rfl ?_
                    refine V_iload_8 287 dX12_lost_287 ?_
                    refine V_laload2 289 dX12_lost_289 ((F.ss h65.1).m 48 (Nat.le_of_ble_eq_true rfl)) ((F.ss h65.1).k 48 15 rfl) ((F.ss h65.1).l 48 19 rfl) ?_ ?_
                    · exact vp_in_nI (by omega) (by decide)
                    refine V_lastore2 290 dX12_lost_290 ((F.ss h65.1).m 47 (Nat.le_of_ble_eq_true rfl)) ((F.ss h65.1).k 47 15 rfl) ((F.ss h65.1).l 47 19 rfl) ?_ ?_
                    · exact vp_in_nI (by omega) (by decide)
                    refine V_abs (FZ [] [] S) (h65.uJ) (fun S75 h76 => ?_)
                    refine V_iinc_8 291 (1) dX12_lost_291 (by decide) rfl (Nat.le_of_ble_eq_true rfl) ?_
                    refine V_goto 294 270 dX12_lost_294 (by decide) ?_
                    rw [← nI_succ]
                    refine V_lvw (by repeat (first | exact trivial | refine ⟨rfl, ?_⟩)) (ih66 (i62 + 1, _) ⟨by dsimp only; omega, h76⟩ (by dsimp only; omega))
                ·
                  try have nf77 := mt (nI_ltE (Eq.refl (nI ((x0 i13) + (y0 i13)))) (Eq.refl (nI i47)) (by omega) (by omega)).mpr c59
                  refine V_iload_5 175 dX12_lost_175 ?_
                  refine V_iload_4 177 dX12_lost_177 ?_
                  refine V_icmp_ne 179 202 dX12_lost_179 (by decide) (fun c78 => ?_) (fun c78 => ?_)
                  ·
                    try have nf79 := mt (nI_eqE (Eq.refl (nI (gP g (i13)))) (Eq.refl (nI i13)) (by omega) (by omega)).mpr c78
                    refine V_iconst 202 (0) dX12_lost_202 (by decide) ?_
                    refine V_istore_9 203 dX12_lost_203 rfl (Nat.le_of_ble_eq_true rfl) ?_
                    refine V_lvw (by repeat (first | exact trivial | refine ⟨rfl, ?_⟩)) (V_while (α := Nat × PS) (fun z80 => ((x0 (gP g i13)) + (y0 (gP g i13))) + 1 - z80.1) (fun z80 => z80.1 ≤ ((x0 (gP g i13)) + (y0 (gP g i13))) + 1 ∧ FZ [] [] S z80.2) (fun z80 => z80.2) (fun z80 => [some (.ref m), some (.int x), some (.int y), some (.int z), some (.int (nI i13)), some (.int (nI (gP g (i13)))), some (.int (nI ((x0 i13) + (y0 i13)))), some (.int (nI ((x0 (gP g i13)) + (y0 (gP g i13))))), some (.int (nI i47)), some (.int (nI z80.1))]) (0, _) ⟨Nat.zero_le _, h50⟩ (fun z80 hx86 ih85 => ?b87))
                    obtain ⟨i81, S82⟩ := z80
                    obtain ⟨hi83, h84⟩ := hx86
                    dsimp only at hi83 h84 ih85 ⊢
                    refine V_iload_9 205 dX12_lost_205 ?_
                    refine V_iload_7 207 dX12_lost_207 ?_
                    refine V_icmp_gt 209 261 dX12_lost_209 (by decide) (fun c89 => ?_) (fun c89 => ?_)
                    ·
                      try have nf90 := (nI_ltE (Eq.refl (nI ((x0 (gP g i13)) + (y0 (gP g i13))))) (Eq.refl (nI i81)) (by omega) (by omega)).mp c89
                      refine V_lvw (by repeat (first | exact trivial | refine ⟨rfl, ?_⟩)) (J57 _ h84 (by first | omega | assumption))
                    ·
                      try have nf92 := mt (nI_ltE (Eq.refl (nI ((x0 (gP g i13)) + (y0 (gP g i13))))) (Eq.refl (nI i81)) (by omega) (by omega)).mpr c89
                      refine V_aload_0 212 dX12_lost_212 ?_
                      refine V_iload_8 213 dX12_lost_213 ?_
                      refine V_iload_9 215 dX12_lost_215 ?_
                      refine V_icmp_le 217 228 dX12_lost_217 (by decide) (fun c93 => ?_) (fun c93 => ?_)
                      ·
                        try have nf94 := (nI_leE (Eq.refl (nI i47)) (Eq.refl (nI i81)) (by omega) (by omega)).mp c93
                        refine V_iload_9 228 dX12_lost_228 ?_
                        refine V_iload_8 230 dX12_lost_230 ?_
                        refine V_isub 232 dX12_lost_232 ?_
                        refine V_iload_6 233 dX12_lost_233 ?_
                        refine V_iload_8 235 dX12_lost_235 ?_
                        refine V_iload_2 237 dX12_lost_237 ?_
                        refine V_iload_3 238 dX12_lost_238 ?_
                        refine V_callS 239 [.int _, .int _, .int _, .int _] _ (s_mleft M.2.1 Γ S82 _ _ _ (i47) (by omega)) dX12_lost_239 cb_X12_left ml_RX12_420 sm_yX12_left ⟨(Nat.le_of_ble_eq_true rfl), (Nat.le_of_ble_eq_true rfl)⟩ rfl rfl (Nat.le_of_ble_eq_true rfl) ⟨(Nat.le_of_ble_eq_true rfl), (Nat.le_of_ble_eq_true rfl)⟩ (RLg.go (fun r97 S95 q96 => ?_))
                        have h98 : FZ [] [] S S95 := h84.tr (q96.sub (by simp) (by simp))
                        refine V_iload_7 242 dX12_lost_242 ?_
                        refine V_iload_9 244 dX12_lost_244 ?_
                        refine V_iload_2 246 dX12_lost_246 ?_
                        refine V_iload_3 247 dX12_lost_247 ?_
                        refine V_callS 248 [.int _, .int _, .int _, .int _] _ (s_mleft M.2.1 Γ S95 _ _ _ (i81) (by omega)) dX12_lost_248 cb_X12_left ml_RX12_420 sm_yX12_left ⟨(Nat.le_of_ble_eq_true rfl), (Nat.le_of_ble_eq_true rfl)⟩ rfl rfl (Nat.le_of_ble_eq_true rfl) ⟨(Nat.le_of_ble_eq_true rfl), (Nat.le_of_ble_eq_true rfl)⟩ (RLg.go (fun r101 S99 q100 => ?_))
                        have h102 : FZ [] [] S S99 := h98.tr (q100.sub (by simp) (by simp))
                        refine V_lmul 251 dX12_lost_251 ?_
                        rw [(eqSub (Eq.refl (nI i81)) (Eq.refl (nI i47)) (by omega))]
                        refine V_callV 252 (ci := 12) [.int _, .long _] _ (s_mjoins M.2.1 Γ S99 (F.ss h102.1) ((i81 - i47)) (by omega) _) dX12_lost_252 cb_X12_joins ml_RX12_424 im_yX12_joins se_yX12_joins ((F.ss h102.1).m 0 (Nat.le_of_ble_eq_true rfl)) ((F.ss h102.1).k 0 12 rfl) (Nat.le_of_ble_eq_true rfl) ⟨(Nat.le_of_ble_eq_true rfl), (Nat.le_of_ble_eq_true rfl)⟩ rfl rfl (Nat.le_of_ble_eq_true rfl) ⟨(Nat.le_of_ble_eq_true rfl), (Nat.le_of_ble_eq_true rfl)⟩ (RV.go (fun S103 q104 => ?_))
                        have h106 : FZ [] [] S S103 := h102.tr (q104.sub (by simp) (by simp))
                        refine V_iinc_9 255 (1) dX12_lost_255 (by decide) rfl (Nat.le_of_ble_eq_true rfl) ?_
                        refine V_goto 258 205 dX12_lost_258 (by decide) ?_
                        rw [← nI_succ]
                        refine V_lvw (by repeat (first | exact trivial | refine ⟨rfl, ?_⟩)) (ih85 (i81 + 1, _) ⟨by dsimp only; omega, h106⟩ (by dsimp only; omega))
                      ·
                        try have nf107 := mt (nI_leE (Eq.refl (nI i47)) (Eq.refl (nI i81)) (by omega) (by omega)).mpr c93
                        refine V_iload_8 220 dX12_lost_220 ?_
                        refine V_iload_9 222 dX12_lost_222 ?_
                        refine V_isub 224 dX12_lost_224 ?_
                        refine V_goto 225 233 dX12_lost_225 (by decide) ?_
                        refine V_iload_6 233 dX12_lost_233 ?_
                        refine V_iload_8 235 dX12_lost_235 ?_
                        refine V_iload_2 237 dX12_lost_237 ?_
                        refine V_iload_3 238 dX12_lost_238 ?_
                        refine V_callS 239 [.int _, .int _, .int _, .int _] _ (s_mleft M.2.1 Γ S82 _ _ _ (i47) (by omega)) dX12_lost_239 cb_X12_left ml_RX12_420 sm_yX12_left ⟨(Nat.le_of_ble_eq_true rfl), (Nat.le_of_ble_eq_true rfl)⟩ rfl rfl (Nat.le_of_ble_eq_true rfl) ⟨(Nat.le_of_ble_eq_true rfl), (Nat.le_of_ble_eq_true rfl)⟩ (RLg.go (fun r110 S108 q109 => ?_))
                        have h111 : FZ [] [] S S108 := h84.tr (q109.sub (by simp) (by simp))
                        refine V_iload_7 242 dX12_lost_242 ?_
                        refine V_iload_9 244 dX12_lost_244 ?_
                        refine V_iload_2 246 dX12_lost_246 ?_
                        refine V_iload_3 247 dX12_lost_247 ?_
                        refine V_callS 248 [.int _, .int _, .int _, .int _] _ (s_mleft M.2.1 Γ S108 _ _ _ (i81) (by omega)) dX12_lost_248 cb_X12_left ml_RX12_420 sm_yX12_left ⟨(Nat.le_of_ble_eq_true rfl), (Nat.le_of_ble_eq_true rfl)⟩ rfl rfl (Nat.le_of_ble_eq_true rfl) ⟨(Nat.le_of_ble_eq_true rfl), (Nat.le_of_ble_eq_true rfl)⟩ (RLg.go (fun r114 S112 q113 => ?_))
                        have h115 : FZ [] [] S S112 := h111.tr (q113.sub (by simp) (by simp))
                        refine V_lmul 251 dX12_lost_251 ?_
                        rw [(eqSub (Eq.refl (nI i47)) (Eq.refl (nI i81)) (by omega))]
                        refine V_callV 252 (ci := 12) [.int _, .long _] _ (s_mjoins M.2.1 Γ S112 (F.ss h115.1) ((i47 - i81)) (by omega) _) dX12_lost_252 cb_X12_joins ml_RX12_424 im_yX12_joins se_yX12_joins ((F.ss h115.1).m 0 (Nat.le_of_ble_eq_true rfl)) ((F.ss h115.1).k 0 12 rfl) (Nat.le_of_ble_eq_true rfl) ⟨(Nat.le_of_ble_eq_true rfl), (Nat.le_of_ble_eq_true rfl)⟩ rfl rfl (Nat.le_of_ble_eq_true rfl) ⟨(Nat.le_of_ble_eq_true rfl), (Nat.le_of_ble_eq_true rfl)⟩ (RV.go (fun S116 q117 => ?_))
                        have h119 : FZ [] [] S S116 := h115.tr (q117.sub (by simp) (by simp))
                        refine V_iinc_9 255 (1) dX12_lost_255 (by decide) rfl (Nat.le_of_ble_eq_true rfl) ?_
                        refine V_goto 258 205 dX12_lost_258 (by decide) ?_
                        rw [← nI_succ]
                        refine V_lvw (by repeat (first | exact trivial | refine ⟨rfl, ?_⟩)) (ih85 (i81 + 1, _) ⟨by dsimp only; omega, h119⟩ (by dsimp only; omega))
                  ·
                    try have nf120 := (nI_eqE (Eq.refl (nI (gP g (i13)))) (Eq.refl (nI i13)) (by omega) (by omega)).mp c78
                    refine V_aload_0 182 dX12_lost_182 ?_
                    refine V_iload_8 183 dX12_lost_183 ?_
                    refine V_iconst 185 (2) dX12_lost_185 (by decide) ?_
                    refine V_irem 186 dX12_lost_186 (by decide) ?_
                    refine V_iload_6 187 dX12_lost_187 ?_
                    refine V_iload_8 189 dX12_lost_189 ?_
                    refine V_iload_2 191 dX12_lost_191 ?_
                    refine V_iload_3 192 dX12_lost_192 ?_
                    refine V_callS 193 [.int _, .int _, .int _, .int _] _ (s_mleft M.2.1 Γ S48 _ _ _ (i47) (by omega)) dX12_lost_193 cb_X12_left ml_RX12_420 sm_yX12_left ⟨(Nat.le_of_ble_eq_true rfl), (Nat.le_of_ble_eq_true rfl)⟩ rfl rfl (Nat.le_of_ble_eq_true rfl) ⟨(Nat.le_of_ble_eq_true rfl), (Nat.le_of_ble_eq_true rfl)⟩ (RLg.go (fun r123 S121 q122 => ?_))
                    have h124 : FZ [] [] S S121 := h50.tr (q122.sub (by simp) (by simp))
                    rw [(eqRem (Eq.refl (nI i47)) (show (2 : Int32) = nI 2 from rfl) (by omega) (by omega) (by omega))]
                    refine V_callV 196 (ci := 12) [.int _, .long _] _ (s_mjoins M.2.1 Γ S121 (F.ss h124.1) ((i47 % 2)) (by omega) _) dX12_lost_196 cb_X12_joins ml_RX12_424 im_yX12_joins se_yX12_joins ((F.ss h124.1).m 0 (Nat.le_of_ble_eq_true rfl)) ((F.ss h124.1).k 0 12 rfl) (Nat.le_of_ble_eq_true rfl) ⟨(Nat.le_of_ble_eq_true rfl), (Nat.le_of_ble_eq_true rfl)⟩ rfl rfl (Nat.le_of_ble_eq_true rfl) ⟨(Nat.le_of_ble_eq_true rfl), (Nat.le_of_ble_eq_true rfl)⟩ (RV.go (fun S125 q126 => ?_))
                    have h128 : FZ [] [] S S125 := h124.tr (q126.sub (by simp) (by simp))
                    refine V_goto 199 261 dX12_lost_199 (by decide) ?_
                    refine V_lvw (by repeat (first | exact trivial | refine ⟨rfl, ?_⟩)) (J57 _ h128 (by first | omega | assumption))
              ·
                try have nf130 := mt (nI_leE (show (19 : Int32) = nI 19 from rfl) (Eq.refl (nI i36)) (by omega) (by omega)).mpr c44
                have lt131 := nI_lt8 (by decide) hi38 c44
                refine V_aload_0 111 dX12_lost_111 ?_
                refine V_getR 112 (c := 12) 67 ((F.ss h39.1).r 0 67 48 rfl) dX12_lost_112 fl_RX12_162 ((F.ss h39.1).m 0 (Nat.le_of_ble_eq_true rfl)) ((F.ss h39.1).k 0 12 rfl) (Nat.le_of_ble_eq_true rfl) (Nat.le_of_ble_eq_true rfl) rfl ?_
                refine V_iload_6 115 dX12_lost_115 ?_
                refine V_lconst 117 0 dX12_lost_117 (by decide) ?_
                refine V_lastore2 118 dX12_lost_118 ((F.ss h39.1).m 48 (Nat.le_of_ble_eq_true rfl)) ((F.ss h39.1).k 48 15 rfl) ((F.ss h39.1).l 48 19 rfl) ?_ ?_
                · exact vp_in_nI (by omega) (by decide)
                refine V_abs (FZ [] [] S) (h39.uJ) (fun S132 h133 => ?_)
                refine V_iinc_6 119 (1) dX12_lost_119 (by decide) rfl (Nat.le_of_ble_eq_true rfl) ?_
                refine V_goto 122 104 dX12_lost_122 (by decide) ?_
                rw [← nI_succ]
                refine V_lvw (by repeat (first | exact trivial | refine ⟨rfl, ?_⟩)) (ih40 (i36 + 1, _) ⟨by dsimp only; omega, h133⟩ (by dsimp only; omega))
            ·
              try have nf134 := mt (nI_leE (Eq.refl (nI i13)) (Eq.refl (nI (gP g (i13)))) (by omega) (by omega)).mpr c33
              refine V_goto 98 297 dX12_lost_98 (by decide) ?_
              refine V_lvw (by repeat (first | exact trivial | refine ⟨rfl, ?_⟩)) (J23 _ _ h16 (by first | omega | assumption) (by omega))
        ·
          try have nf136 := mt (nI_leE (show (19 : Int32) = nI 19 from rfl) (Eq.refl (nI i2)) (by omega) (by omega)).mpr c10
          have lt137 := nI_lt8 (by decide) hi4 c10
          refine V_aload_0 43 dX12_lost_43 ?_
          refine V_getR 44 (c := 12) 66 ((F.ss h5.1).r 0 66 47 rfl) dX12_lost_44 fl_RX12_159 ((F.ss h5.1).m 0 (Nat.le_of_ble_eq_true rfl)) ((F.ss h5.1).k 0 12 rfl) (Nat.le_of_ble_eq_true rfl) (Nat.le_of_ble_eq_true rfl) rfl ?_
          refine V_iload_4 47 dX12_lost_47 ?_
          refine V_iload_4 49 dX12_lost_49 ?_
          refine V_if_ne 51 58 dX12_lost_51 (by decide) (fun c138 => ?_) (fun c138 => ?_)
          ·
            try have nf139 := mt (nI_eqE (Eq.refl (nI i2)) (show (0 : Int32) = nI 0 from rfl) (by omega) (by omega)).mpr c138
            refine V_lconst 58 0 dX12_lost_58 (by decide) ?_
            refine V_lastore2 59 dX12_lost_59 ((F.ss h5.1).m 47 (Nat.le_of_ble_eq_true rfl)) ((F.ss h5.1).k 47 15 rfl) ((F.ss h5.1).l 47 19 rfl) ?_ ?_
            · exact vp_in_nI (by omega) (by decide)
            refine V_abs (FZ [] [] S) (h5.uJ) (fun S140 h141 => ?_)
            refine V_iinc_4 60 (1) dX12_lost_60 (by decide) rfl (Nat.le_of_ble_eq_true rfl) ?_
            refine V_goto 63 36 dX12_lost_63 (by decide) ?_
            rw [← nI_succ]
            refine V_lvw (by repeat (first | exact trivial | refine ⟨rfl, ?_⟩)) (ih6 (i2 + 1, _) ⟨by dsimp only; omega, h141⟩ (by dsimp only; omega))
          ·
            try have nf142 := (nI_eqE (Eq.refl (nI i2)) (show (0 : Int32) = nI 0 from rfl) (by omega) (by omega)).mp c138
            refine V_lconst 54 1 dX12_lost_54 (by decide) ?_
            refine V_goto 55 59 dX12_lost_55 (by decide) ?_
            refine V_lastore2 59 dX12_lost_59 ((F.ss h5.1).m 47 (Nat.le_of_ble_eq_true rfl)) ((F.ss h5.1).k 47 15 rfl) ((F.ss h5.1).l 47 19 rfl) ?_ ?_
            · exact vp_in_nI (by omega) (by decide)
            refine V_abs (FZ [] [] S) (h5.uJ) (fun S143 h144 => ?_)
            refine V_iinc_4 60 (1) dX12_lost_60 (by decide) rfl (Nat.le_of_ble_eq_true rfl) ?_
            refine V_goto 63 36 dX12_lost_63 (by decide) ?_
            rw [← nI_succ]
            refine V_lvw (by repeat (first | exact trivial | refine ⟨rfl, ?_⟩)) (ih6 (i2 + 1, _) ⟨by dsimp only; omega, h144⟩ (by dsimp only; omega))
      · exact J29

