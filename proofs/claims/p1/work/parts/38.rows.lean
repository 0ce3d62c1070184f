/-! the class on a new table: rows, span -/
set_option maxRecDepth 100000 in
set_option maxHeartbeats 8000000 in
theorem c_X6_addShifted (l : Launch) (Γ : GC) (S : PS) {o a b : Nat} (W : WAY 6 3 4 Γ.2.2.2.2.1 S o a b) (hb : ∀ j, j < 19 → sJ S b j = 0) (w : Int32) (hw : w = 0) : CT l Γ yX6_addShifted cX6_addShifted 3 none (1) (0) (0) [.ref o, .int w] S (RV (fun S' => JO b S S' ∧ ∀ j, j < 19 → sJ S' b j = sJ S a j)) := by
  refine CT.of RX6 "addShifted" [some (.ref o), some (.int w), none] (by decide +kernel) rfl rfl (Nat.le_of_ble_eq_true rfl) rfl (fun M hM => ?_)
  subst hM
  subst hw
  refine V_iconst 0 (0) dX6_addShifted_0 (by decide) ?_
  refine V_istore_2 1 dX6_addShifted_1 rfl (Nat.le_of_ble_eq_true rfl) ?_
  refine V_while (α := Nat × PS) (fun x => 19 - x.1) (fun x => x.1 ≤ 19 ∧ JO b S x.2 ∧ (∀ j, j < x.1 → sJ x.2 b j = sJ S a j) ∧ ∀ j, x.1 ≤ j → j < 19 → sJ x.2 b j = 0) (fun x => x.2) (fun x => [some (.ref o), some (.int 0), some (.int (nI x.1))]) (0, S) ⟨Nat.zero_le _, JO.rf, fun j hj => absurd hj (Nat.not_lt_zero _), fun j _ hj => hb j hj⟩ (fun x hx ih => ?_)
  obtain ⟨i, S2⟩ := x
  obtain ⟨hi, hR, h1, h2⟩ := hx
  dsimp only at hi hR h1 h2 ih ⊢
  have W2 := W.ss hR.1
  refine V_iload_2 2 dX6_addShifted_2 ?_
  refine V_aload_0 3 dX6_addShifted_3 ?_
  refine V_getR 4 (c := 6) 4 W2.2.2.2.1 dX6_addShifted_4 fl_RX6_22 W2.1 W2.2.1 (Nat.le_of_ble_eq_true rfl) (Nat.le_of_ble_eq_true rfl) rfl ?_
  refine V_alen2 7 dX6_addShifted_7 W2.2.2.2.2.2.1.1 W2.2.2.2.2.2.1.2.1 (Nat.le_of_ble_eq_true rfl) (Nat.le_of_ble_eq_true rfl) W2.2.2.2.2.2.1.2.2 ?_
  refine V_icmp_ge 8 36 dX6_addShifted_8 (by decide) (fun c => ?_) (fun c => ?_)
  ·
    have hi2 := nI_ge8 s19 hi c
    subst hi2
    refine V_vret 36 dX6_addShifted_36 rfl (Nat.le_of_ble_eq_true rfl) (Nat.le_of_ble_eq_true rfl) (RV.mk ⟨hR, h1⟩)
  ·
    have hi2 := nI_lt8 s19 hi c
    refine V_aload_0 11 dX6_addShifted_11 ?_
    refine V_getR 12 (c := 6) 4 W2.2.2.2.1 dX6_addShifted_12 fl_RX6_22 W2.1 W2.2.1 (Nat.le_of_ble_eq_true rfl) (Nat.le_of_ble_eq_true rfl) rfl ?_
    refine V_iload_2 15 dX6_addShifted_15 ?_
    refine V_dup2 16 dX6_addShifted_16 rfl rfl ?_
    refine V_laload2 17 dX6_addShifted_17 W2.2.2.2.2.2.1.1 W2.2.2.2.2.2.1.2.1 W2.2.2.2.2.2.1.2.2 ?_ ?_
    · exact vp_in_nI hi2 s19
    rw [nI_clamp (by omega), h2 i (Nat.le_refl _) hi2]
    refine V_aload_0 18 dX6_addShifted_18 ?_
    refine V_getR 19 (c := 6) 3 W2.2.2.1 dX6_addShifted_19 fl_RX6_18 W2.1 W2.2.1 (Nat.le_of_ble_eq_true rfl) (Nat.le_of_ble_eq_true rfl) rfl ?_
    refine V_iload_2 22 dX6_addShifted_22 ?_
    refine V_iload_1 23 dX6_addShifted_23 ?_
    refine V_isub 24 dX6_addShifted_24 ?_
    refine V_callSN 25 [.ref _, .int _] _ (c_longAt M.2.1 Γ S2 (a := a) W2.2.2.2.2.1.1 W2.2.2.2.2.1.2.1 (by rw [W2.2.2.2.2.1.2.2]; decide) _) dX6_addShifted_25 cb_X11_longAt ne_RX6_38 sm_yX11_longAt ⟨(Nat.le_of_ble_eq_true rfl), (Nat.le_of_ble_eq_true rfl)⟩ rfl rfl (Nat.le_of_ble_eq_true rfl) ⟨(Nat.le_of_ble_eq_true rfl), (Nat.le_of_ble_eq_true rfl)⟩ (RLg.go (fun r S3 hq => ?_))
    obtain ⟨rfl, rfl⟩ := hq
    rw [Int32.sub_zero, jAt_nI W2.2.2.2.2.1.2.2 hi2 s19, hR.2.2.2 a W.2.2.2.2.2.2]
    refine V_ladd 28 dX6_addShifted_28 ?_
    rw [Int64.zero_add]
    refine V_lastore2 29 dX6_addShifted_29 W2.2.2.2.2.2.1.1 W2.2.2.2.2.2.1.2.1 W2.2.2.2.2.2.1.2.2 ?_ ?_
    · exact vp_in_nI hi2 s19
    refine V_iinc_2 30 (1) dX6_addShifted_30 (by decide) rfl (Nat.le_of_ble_eq_true rfl) ?_
    refine V_goto 33 2 dX6_addShifted_33 (by decide) ?_
    rw [nI_clamp (by omega), ← nI_succ]
    refine ih (i + 1, _) ⟨by dsimp only; omega, hR.uJ, fun j hj => ?_, fun j hj hj2 => ?_⟩ (by dsimp only; omega)
    · dsimp only at hj
      show sJ (uJ S3 b i _) b j = _
      by_cases q : j = i
      · subst q; rw [sJ_uJ, up2_s]
      · rw [sJ_uJ, up2_k _ _ q]; exact h1 j (by omega)
    · dsimp only at hj
      show sJ (uJ S3 b i _) b j = _
      rw [sJ_uJ, up2_k _ _ (by omega)]; exact h2 j (by omega) hj2
set_option maxRecDepth 100000 in
set_option maxHeartbeats 8000000 in
theorem c_fits (l : Launch) (Γ : GC) (S : PS) {o : Nat} (hm : o ∈ PL Γ.2.2.2.2.1 S) (hk : sK S o = 6) (i x : Int32) : CT l Γ yX6_fits cX6_fits 5 (some .boolean) (0) (0) (0) [.ref o, .int 0, .int i, .int x] S (RI (fun r S' => r = 1 ∧ S' = S)) := by
  refine CT.of RX6 "fits" [some (.ref o), some (.int 0), some (.int i), some (.int x), none] (by decide +kernel) rfl rfl (Nat.le_of_ble_eq_true rfl) rfl (fun M hM => ?_)
  subst hM
  refine V_iconst 0 (0) dX6_fits_0 (by decide) ?_
  refine V_istore_4 1 dX6_fits_1 rfl (Nat.le_of_ble_eq_true rfl) ?_
  refine V_iload_4 3 dX6_fits_3 ?_
  refine V_iload_1 5 dX6_fits_5 ?_
  refine V_icmp_ge 6 50 dX6_fits_6 (by decide) (fun _ => ?_) (fun q => absurd (by decide) q)
  refine V_iconst 50 (1) dX6_fits_50 (by decide) ?_
  refine V_iret 51 .boolean dX6_fits_51 rfl (by rfl) (Nat.le_of_ble_eq_true rfl) (Nat.le_of_ble_eq_true rfl) (RI.mk ⟨rfl, rfl⟩)
set_option maxRecDepth 100000 in
set_option maxHeartbeats 8000000 in
theorem c_X6_joinKinds (l : Launch) (Γ : GC) (S : PS) {o a b t : Nat} (W : WAY 6 3 4 Γ.2.2.2.2.1 S o a b) (Ft : isL lyText Γ.2.2.2.2.1 S t) (kn : ∀ j, j < 8 → sA S (t + 1) j = 0) (kp : ∀ j, j < 8 → sA S (t + 2) j = nI j) (e : Nat) (he : e < 8) : CT l Γ yX6_joinKinds cX6_joinKinds 12 none (2) (0) (0) [.ref o, .ref t, .int 0, .int (nI e), .int (-1), .int 0] S (RV (fun S' => SRo o S S' ∧ WAY 6 3 4 Γ.2.2.2.2.1 S' o b a ∧ ∀ j, j < 19 → sJ S' b j = sJ S a j)) := by
  refine CT.of RX6 "joinKinds" [some (.ref o), some (.ref t), some (.int 0), some (.int (nI e)), some (.int (-1)), some (.int 0), none, none, none, none, none, none] (by decide +kernel) rfl rfl (Nat.le_of_ble_eq_true rfl) rfl (fun M hM => ?_)
  subst hM
  have ek : aAt S (t + 2) (nI e) = nI e := by rw [aAt_nI (Ft.l 2 8 rfl) he (by decide)]; exact kp e he
  have en : aAt S (t + 1) (nI e) = 0 := by rw [aAt_nI (Ft.l 1 8 rfl) he (by decide)]; exact kn e he
  have ne1 : ¬ (-1 : Int32) = nI e := fun q => nI_pos (n := e) (by omega) (by rw [← q]; decide)
  refine V_aload_1 0 dX6_joinKinds_0 ?_
  refine V_getR 1 (c := 10) 3 (Ft.r 0 3 2 rfl) dX6_joinKinds_1 fl_RX6_29 (Ft.m 0 (Nat.le_of_ble_eq_true rfl)) (Ft.k 0 10 rfl) (Nat.le_of_ble_eq_true rfl) (Nat.le_of_ble_eq_true rfl) rfl ?_
  refine V_iload_3 4 dX6_joinKinds_4 ?_
  refine V_callSN 5 [.ref _, .int _] _ (c_at M.2.1 Γ S (a := t + 2) (Ft.m 2 (by decide)) (Ft.k 2 14 rfl) (by rw [Ft.l 2 8 rfl]; decide) _) dX6_joinKinds_5 cb_X11_at ne_RX6_42 sm_yX11_at ⟨(Nat.le_of_ble_eq_true rfl), (Nat.le_of_ble_eq_true rfl)⟩ rfl rfl (Nat.le_of_ble_eq_true rfl) ⟨(Nat.le_of_ble_eq_true rfl), (Nat.le_of_ble_eq_true rfl)⟩ (RI.go (fun r S1 hq => ?_))
  obtain ⟨rfl, rfl⟩ := hq
  rw [ek]
  refine V_istore_6 8 dX6_joinKinds_8 rfl (Nat.le_of_ble_eq_true rfl) ?_
  refine V_iload_6 10 dX6_joinKinds_10 ?_
  refine V_iload_3 12 dX6_joinKinds_12 ?_
  refine V_icmp_ne 13 20 dX6_joinKinds_13 (by decide) (fun q => absurd (rfl) q) (fun _ => ?_)
  refine V_iconst 16 (0) dX6_joinKinds_16 (by decide) ?_
  refine V_goto 17 29 dX6_joinKinds_17 (by decide) ?_
  refine V_istore_7 29 dX6_joinKinds_29 rfl (Nat.le_of_ble_eq_true rfl) ?_
  refine V_iconst 31 (0) dX6_joinKinds_31 (by decide) ?_
  refine V_istore_8 32 dX6_joinKinds_32 rfl (Nat.le_of_ble_eq_true rfl) ?_
  refine V_while (α := Nat × PS) (fun x => 19 - x.1) (fun x => x.1 ≤ 19 ∧ JO b S1 x.2 ∧ (∀ j, j < x.1 → sJ x.2 b j = 0)) (fun x => x.2) (fun z => [some (.ref o), some (.ref t), some (.int 0), some (.int (nI e)), some (.int (-1)), some (.int 0), some (.int (nI e)), some (.int 0), some (.int (nI z.1)), none, none, none]) (0, S1) ⟨Nat.zero_le _, JO.rf, fun j hj => absurd hj (Nat.not_lt_zero _)⟩ (fun z hz ih => ?_)
  obtain ⟨i, S2⟩ := z
  obtain ⟨hi, hR, h1⟩ := hz
  dsimp only at hi hR h1 ih ⊢
  have W2 := W.ss hR.1
  have Ft2 := Ft.ss hR.1
  refine V_iload_8 34 dX6_joinKinds_34 ?_
  refine V_aload_0 36 dX6_joinKinds_36 ?_
  refine V_getR 37 (c := 6) 4 W2.2.2.2.1 dX6_joinKinds_37 fl_RX6_22 W2.1 W2.2.1 (Nat.le_of_ble_eq_true rfl) (Nat.le_of_ble_eq_true rfl) rfl ?_
  refine V_alen2 40 dX6_joinKinds_40 W2.2.2.2.2.2.1.1 W2.2.2.2.2.2.1.2.1 (Nat.le_of_ble_eq_true rfl) (Nat.le_of_ble_eq_true rfl) W2.2.2.2.2.2.1.2.2 ?_
  refine V_icmp_ge 41 58 dX6_joinKinds_41 (by decide) (fun c => ?_) (fun c => ?_)
  ·
    have hi2 := nI_ge8 s19 hi c
    subst hi2
    clear ih
    have en2 : aAt S2 (t + 1) (nI e) = 0 := by rw [aAt_nI (Ft2.l 1 8 rfl) he (by decide), hR.2.2.1]; exact kn e he
    refine V_iconst 58 (0) dX6_joinKinds_58 (by decide) ?_
    refine V_istore_8 59 dX6_joinKinds_59 rfl (Nat.le_of_ble_eq_true rfl) ?_
    refine V_iload_8 61 dX6_joinKinds_61 ?_
    refine V_aload_1 63 dX6_joinKinds_63 ?_
    refine V_getR 64 (c := 10) 2 (Ft2.r 0 2 1 rfl) dX6_joinKinds_64 fl_RX6_46 (Ft2.m 0 (Nat.le_of_ble_eq_true rfl)) (Ft2.k 0 10 rfl) (Nat.le_of_ble_eq_true rfl) (Nat.le_of_ble_eq_true rfl) rfl ?_
    refine V_iload_3 67 dX6_joinKinds_67 ?_
    refine V_callSN 68 [.ref _, .int _] _ (c_at M.2.1 Γ S2 (a := t + 1) (Ft2.m 1 (by decide)) (Ft2.k 1 14 rfl) (by rw [Ft2.l 1 8 rfl]; decide) _) dX6_joinKinds_68 cb_X11_at ne_RX6_42 sm_yX11_at ⟨(Nat.le_of_ble_eq_true rfl), (Nat.le_of_ble_eq_true rfl)⟩ rfl rfl (Nat.le_of_ble_eq_true rfl) ⟨(Nat.le_of_ble_eq_true rfl), (Nat.le_of_ble_eq_true rfl)⟩ (RI.go (fun r S3 hq => ?_))
    obtain ⟨rfl, rfl⟩ := hq
    rw [en2]
    refine V_icmp_gt 71 202 dX6_joinKinds_71 (by decide) (fun q => absurd q (by decide)) (fun _ => ?_)
    refine V_iconst 74 (0) dX6_joinKinds_74 (by decide) ?_
    refine V_istore_9 75 dX6_joinKinds_75 rfl (Nat.le_of_ble_eq_true rfl) ?_
    refine V_iload_9 77 dX6_joinKinds_77 ?_
    refine V_iload_7 79 dX6_joinKinds_79 ?_
    refine V_icmp_gt 81 196 dX6_joinKinds_81 (by decide) (fun q => absurd q (by decide)) (fun _ => ?_)
    refine V_iload_4 84 dX6_joinKinds_84 ?_
    refine V_iload_3 86 dX6_joinKinds_86 ?_
    refine V_icmp_ne 87 105 dX6_joinKinds_87 (by decide) (fun _ => ?_) (fun q => absurd q (ne1))
    refine V_iload_4 105 dX6_joinKinds_105 ?_
    refine V_iload_6 107 dX6_joinKinds_107 ?_
    refine V_icmp_ne 109 119 dX6_joinKinds_109 (by decide) (fun _ => ?_) (fun q => absurd q (ne1))
    refine V_iconst 119 (1) dX6_joinKinds_119 (by decide) ?_
    refine V_goto 120 124 dX6_joinKinds_120 (by decide) ?_
    refine V_istore_10 124 dX6_joinKinds_124 rfl (Nat.le_of_ble_eq_true rfl) ?_
    refine V_iload_6 126 dX6_joinKinds_126 ?_
    refine V_iload_3 128 dX6_joinKinds_128 ?_
    refine V_icmp_ne 129 139 dX6_joinKinds_129 (by decide) (fun q => absurd (rfl) q) (fun _ => ?_)
    refine V_iload_8 132 dX6_joinKinds_132 ?_
    refine V_iconst 134 (1) dX6_joinKinds_134 (by decide) ?_
    refine V_iand 135 dX6_joinKinds_135 ?_
    refine V_goto 136 144 dX6_joinKinds_136 (by decide) ?_
    refine V_istore_11 144 dX6_joinKinds_144 rfl (Nat.le_of_ble_eq_true rfl) ?_
    refine V_iload_10 146 dX6_joinKinds_146 ?_
    refine V_if_eq 148 190 dX6_joinKinds_148 (by decide) (fun q => absurd q (by decide)) (fun _ => ?_)
    refine V_aload_0 151 dX6_joinKinds_151 ?_
    refine V_iload_2 152 dX6_joinKinds_152 ?_
    refine V_iload_3 153 dX6_joinKinds_153 ?_
    refine V_iload_11 154 dX6_joinKinds_154 ?_
    refine V_callV 156 (ci := 6) [.int _, .int _, .int _] _ (c_fits M.2.1 Γ S3 W2.1 W2.2.1 _ _) dX6_joinKinds_156 cb_X6_fits ml_RX6_49 im_yX6_fits se_yX6_fits W2.1 W2.2.1 (Nat.le_of_ble_eq_true rfl) ⟨(Nat.le_of_ble_eq_true rfl), (Nat.le_of_ble_eq_true rfl)⟩ rfl rfl (Nat.le_of_ble_eq_true rfl) ⟨(Nat.le_of_ble_eq_true rfl), (Nat.le_of_ble_eq_true rfl)⟩ (RI.go (fun r S4 hq => ?_))
    obtain ⟨rfl, rfl⟩ := hq
    refine V_if_eq 159 190 dX6_joinKinds_159 (by decide) (fun q => absurd q (by decide)) (fun _ => ?_)
    refine V_iload_6 162 dX6_joinKinds_162 ?_
    refine V_iload_3 164 dX6_joinKinds_164 ?_
    refine V_icmp_eq 165 181 dX6_joinKinds_165 (by decide) (fun _ => ?_) (fun q => absurd (rfl) q)
    refine V_aload_0 181 dX6_joinKinds_181 ?_
    refine V_iload_8 182 dX6_joinKinds_182 ?_
    refine V_iload_9 184 dX6_joinKinds_184 ?_
    refine V_iadd 186 dX6_joinKinds_186 ?_
    refine V_callV 187 (ci := 6) [.int _] _ (c_X6_addShifted M.2.1 Γ S4 W2 h1 _ (by decide)) dX6_joinKinds_187 cb_X6_addShifted ml_RX6_53 im_yX6_addShifted se_yX6_addShifted W2.1 W2.2.1 (Nat.le_of_ble_eq_true rfl) ⟨(Nat.le_of_ble_eq_true rfl), (Nat.le_of_ble_eq_true rfl)⟩ rfl rfl (Nat.le_of_ble_eq_true rfl) ⟨(Nat.le_of_ble_eq_true rfl), (Nat.le_of_ble_eq_true rfl)⟩ (RV.go (fun S5 hq => ?_))
    have W5 := W2.ss hq.1.1
    have Ft5 := Ft2.ss hq.1.1
    refine V_iinc_9 190 (1) dX6_joinKinds_190 (by decide) rfl (Nat.le_of_ble_eq_true rfl) ?_
    refine V_goto 193 77 dX6_joinKinds_193 (by decide) ?_
    refine V_iload_9 77 dX6_joinKinds_77 ?_
    refine V_iload_7 79 dX6_joinKinds_79 ?_
    refine V_icmp_gt 81 196 dX6_joinKinds_81 (by decide) (fun _ => ?_) (fun q => absurd (by decide) q)
    have en5 : aAt S5 (t + 1) (nI e) = 0 := by rw [aAt_nI (Ft5.l 1 8 rfl) he (by decide), hq.1.2.2.1, hR.2.2.1]; exact kn e he
    refine V_iinc_8 196 (1) dX6_joinKinds_196 (by decide) rfl (Nat.le_of_ble_eq_true rfl) ?_
    refine V_goto 199 61 dX6_joinKinds_199 (by decide) ?_
    refine V_iload_8 61 dX6_joinKinds_61 ?_
    refine V_aload_1 63 dX6_joinKinds_63 ?_
    refine V_getR 64 (c := 10) 2 (Ft5.r 0 2 1 rfl) dX6_joinKinds_64 fl_RX6_46 (Ft5.m 0 (Nat.le_of_ble_eq_true rfl)) (Ft5.k 0 10 rfl) (Nat.le_of_ble_eq_true rfl) (Nat.le_of_ble_eq_true rfl) rfl ?_
    refine V_iload_3 67 dX6_joinKinds_67 ?_
    refine V_callSN 68 [.ref _, .int _] _ (c_at M.2.1 Γ S5 (a := t + 1) (Ft5.m 1 (by decide)) (Ft5.k 1 14 rfl) (by rw [Ft5.l 1 8 rfl]; decide) _) dX6_joinKinds_68 cb_X11_at ne_RX6_42 sm_yX11_at ⟨(Nat.le_of_ble_eq_true rfl), (Nat.le_of_ble_eq_true rfl)⟩ rfl rfl (Nat.le_of_ble_eq_true rfl) ⟨(Nat.le_of_ble_eq_true rfl), (Nat.le_of_ble_eq_true rfl)⟩ (RI.go (fun r S6 hq6 => ?_))
    obtain ⟨rfl, rfl⟩ := hq6
    rw [en5]
    refine V_icmp_gt 71 202 dX6_joinKinds_71 (by decide) (fun _ => ?_) (fun q => absurd (by decide) q)
    refine V_aload_0 202 dX6_joinKinds_202 ?_
    refine V_getR 203 (c := 6) 3 W5.2.2.1 dX6_joinKinds_203 fl_RX6_18 W5.1 W5.2.1 (Nat.le_of_ble_eq_true rfl) (Nat.le_of_ble_eq_true rfl) rfl ?_
    refine V_astore_8 206 dX6_joinKinds_206 rfl (Nat.le_of_ble_eq_true rfl) ?_
    refine V_aload_0 208 dX6_joinKinds_208 ?_
    refine V_aload_0 209 dX6_joinKinds_209 ?_
    refine V_getR 210 (c := 6) 4 W5.2.2.2.1 dX6_joinKinds_210 fl_RX6_22 W5.1 W5.2.1 (Nat.le_of_ble_eq_true rfl) (Nat.le_of_ble_eq_true rfl) rfl ?_
    refine V_putR 213 (c := 6) 3 dX6_joinKinds_213 fl_RX6_18 W5.1 W5.2.1 (Nat.le_of_ble_eq_true rfl) (Nat.le_of_ble_eq_true rfl) rfl rfl rfl rfl ?_
    refine V_aload_0 216 dX6_joinKinds_216 ?_
    refine V_aload_8 217 dX6_joinKinds_217 ?_
    refine V_putR 219 (c := 6) 4 dX6_joinKinds_219 fl_RX6_22 W5.1 W5.2.1 (Nat.le_of_ble_eq_true rfl) (Nat.le_of_ble_eq_true rfl) rfl rfl rfl rfl ?_
    refine V_vret 222 dX6_joinKinds_222 rfl (Nat.le_of_ble_eq_true rfl) (Nat.le_of_ble_eq_true rfl) (RV.mk ⟨((hR.tr hq.1).sro.uR).uR, W5.swap (by decide), fun j hj => (hq.2 j hj).trans (by rw [hR.2.2.2 a W.2.2.2.2.2.2])⟩)
  ·
    have hi2 := nI_lt8 s19 hi c
    refine V_aload_0 44 dX6_joinKinds_44 ?_
    refine V_getR 45 (c := 6) 4 W2.2.2.2.1 dX6_joinKinds_45 fl_RX6_22 W2.1 W2.2.1 (Nat.le_of_ble_eq_true rfl) (Nat.le_of_ble_eq_true rfl) rfl ?_
    refine V_iload_8 48 dX6_joinKinds_48 ?_
    refine V_lconst 50 0 dX6_joinKinds_50 (by decide) ?_
    refine V_lastore2 51 dX6_joinKinds_51 W2.2.2.2.2.2.1.1 W2.2.2.2.2.2.1.2.1 W2.2.2.2.2.2.1.2.2 ?_ ?_
    · exact vp_in_nI hi2 s19
    refine V_iinc_8 52 (1) dX6_joinKinds_52 (by decide) rfl (Nat.le_of_ble_eq_true rfl) ?_
    refine V_goto 55 34 dX6_joinKinds_55 (by decide) ?_
    rw [nI_clamp (by omega), ← nI_succ]
    refine ih (i + 1, _) ⟨by dsimp only; omega, hR.uJ, fun j hj => ?_⟩ (by dsimp only; omega)
    dsimp only at hj
    show sJ (uJ S2 b i _) b j = _
    by_cases q : j = i
    · subst q; rw [sJ_uJ, up2_s]
    · rw [sJ_uJ, up2_k _ _ q]; exact h1 j (by omega)
set_option maxRecDepth 100000 in
set_option maxHeartbeats 8000000 in
theorem c_countRows (l : Launch) (Γ : GC) (S : PS) {o t : Nat} (W : WAY 6 3 4 Γ.2.2.2.2.1 S o (o + 3) (o + 4)) (Ft : isL lyText Γ.2.2.2.2.1 S t) (hd : t + lyText.length ≤ o) (kn : ∀ j, j < 8 → sA S (t + 1) j = 0) (kp : ∀ j, j < 8 → sA S (t + 2) j = nI j) (n : Nat) (hn : n < 19) : CT l Γ yX6_countRows cX6_countRows 7 (some .long) (3) (0) (0) [.ref o, .ref t, .int 0, .int (nI n), .int (-1), .int 0] S (RLg (fun r S' => r = if n = 0 then 1 else 0)) := by
  refine CT.of RX6 "countRows" [some (.ref o), some (.ref t), some (.int 0), some (.int (nI n)), some (.int (-1)), some (.int 0), none] (by decide +kernel) rfl rfl (Nat.le_of_ble_eq_true rfl) rfl (fun M hM => ?_)
  subst hM
  refine V_iconst 0 (0) dX6_countRows_0 (by decide) ?_
  refine V_istore_6 1 dX6_countRows_1 rfl (Nat.le_of_ble_eq_true rfl) ?_
  refine V_while (α := Nat × PS) (fun x => 19 - x.1) (fun x => x.1 ≤ 19 ∧ JO (o + 3) S x.2 ∧ (∀ j, j < x.1 → sJ x.2 (o + 3) j = if j = 0 then 1 else 0)) (fun x => x.2) (fun z => [some (.ref o), some (.ref t), some (.int 0), some (.int (nI n)), some (.int (-1)), some (.int 0), some (.int (nI z.1))]) (0, S) ⟨Nat.zero_le _, JO.rf, fun j hj => absurd hj (Nat.not_lt_zero _)⟩ (fun z hz ih => ?_)
  obtain ⟨i, S2⟩ := z
  obtain ⟨hi, hR, h1⟩ := hz
  dsimp only at hi hR h1 ih ⊢
  have W2 := W.ss hR.1
  refine V_iload_6 3 dX6_countRows_3 ?_
  refine V_aload_0 5 dX6_countRows_5 ?_
  refine V_getR 6 (c := 6) 3 W2.2.2.1 dX6_countRows_6 fl_RX6_18 W2.1 W2.2.1 (Nat.le_of_ble_eq_true rfl) (Nat.le_of_ble_eq_true rfl) rfl ?_
  refine V_alen2 9 dX6_countRows_9 W2.2.2.2.2.1.1 W2.2.2.2.2.1.2.1 (Nat.le_of_ble_eq_true rfl) (Nat.le_of_ble_eq_true rfl) W2.2.2.2.2.1.2.2 ?_
  refine V_icmp_ge 10 36 dX6_countRows_10 (by decide) (fun c => ?_) (fun c => ?_)
  ·
    have hi2 := nI_ge8 s19 hi c
    subst hi2
    clear ih
    refine V_iconst 36 (0) dX6_countRows_36 (by decide) ?_
    refine V_istore_6 37 dX6_countRows_37 rfl (Nat.le_of_ble_eq_true rfl) ?_
    refine V_while (α := Nat × PS × Nat × Nat) (fun x => 8 - x.1) (fun x => x.1 ≤ 8 ∧ SRo o S x.2.1 ∧ WAY 6 3 4 Γ.2.2.2.2.1 x.2.1 o x.2.2.1 x.2.2.2 ∧ UNI x.2.1 x.2.2.1) (fun x => x.2.1) (fun z => [some (.ref o), some (.ref t), some (.int 0), some (.int (nI n)), some (.int (-1)), some (.int 0), some (.int (nI z.1))]) (0, S2, o + 3, o + 4) ⟨Nat.zero_le _, hR.sro, W2, h1⟩ (fun z hz ih => ?_)
    obtain ⟨i, S3, a, b⟩ := z
    obtain ⟨hi, hR3, W3, hU⟩ := hz
    dsimp only at hi hR3 W3 hU ih ⊢
    have Ft3 := Ft.sro hR3 hd
    refine V_iload_6 39 dX6_countRows_39 ?_
    refine V_bipush 41 (8) dX6_countRows_41 (by decide) ?_
    refine V_icmp_ge 43 76 dX6_countRows_43 (by decide) (fun c3 => ?_) (fun c3 => ?_)
    ·
      refine V_aload_0 76 dX6_countRows_76 ?_
      refine V_getR 77 (c := 6) 3 W3.2.2.1 dX6_countRows_77 fl_RX6_18 W3.1 W3.2.1 (Nat.le_of_ble_eq_true rfl) (Nat.le_of_ble_eq_true rfl) rfl ?_
      refine V_iload_3 80 dX6_countRows_80 ?_
      refine V_callSN 81 [.ref _, .int _] _ (c_longAt M.2.1 Γ S3 (a := a) W3.2.2.2.2.1.1 W3.2.2.2.2.1.2.1 (by rw [W3.2.2.2.2.1.2.2]; decide) _) dX6_countRows_81 cb_X11_longAt ne_RX6_38 sm_yX11_longAt ⟨(Nat.le_of_ble_eq_true rfl), (Nat.le_of_ble_eq_true rfl)⟩ rfl rfl (Nat.le_of_ble_eq_true rfl) ⟨(Nat.le_of_ble_eq_true rfl), (Nat.le_of_ble_eq_true rfl)⟩ (RLg.go (fun r S4 hq => ?_))
      obtain ⟨rfl, rfl⟩ := hq
      refine V_lret 84 dX6_countRows_84 rfl (Nat.le_of_ble_eq_true rfl) (Nat.le_of_ble_eq_true rfl) (RLg.mk (by rw [jAt_nI W3.2.2.2.2.1.2.2 hn s19]; exact hU n hn))
    ·
      have hi2 := nI_lt8 (by decide) hi c3
      have ek : sA S3 (t + 2) i = nI i := by rw [hR3.2.2.2.2.2.1]; exact kp i hi2
      refine V_iload_6 46 dX6_countRows_46 ?_
      refine V_aload_1 48 dX6_countRows_48 ?_
      refine V_getR 49 (c := 10) 3 (Ft3.r 0 3 2 rfl) dX6_countRows_49 fl_RX6_29 (Ft3.m 0 (Nat.le_of_ble_eq_true rfl)) (Ft3.k 0 10 rfl) (Nat.le_of_ble_eq_true rfl) (Nat.le_of_ble_eq_true rfl) rfl ?_
      refine V_iload_6 52 dX6_countRows_52 ?_
      refine V_iaload2 54 dX6_countRows_54 (Ft3.m 2 (Nat.le_of_ble_eq_true rfl)) (Ft3.k 2 14 rfl) (Ft3.l 2 8 rfl) ?_ ?_
      · exact vp_in_nI hi2 (by decide)
      rw [nI_clamp (by omega), ek]
      refine V_icmp_gt 55 70 dX6_countRows_55 (by decide) (fun q => absurd q (Int32.not_lt.mpr (Int32.le_refl _))) (fun _ => ?_)
      refine V_aload_0 58 dX6_countRows_58 ?_
      refine V_aload_1 59 dX6_countRows_59 ?_
      refine V_iload_2 60 dX6_countRows_60 ?_
      refine V_iload_6 61 dX6_countRows_61 ?_
      refine V_iload_4 63 dX6_countRows_63 ?_
      refine V_iload_5 65 dX6_countRows_65 ?_
      refine V_callV 67 (ci := 6) [.ref _, .int _, .int _, .int _, .int _] _ (c_X6_joinKinds M.2.1 Γ S3 W3 Ft3 (fun j hj => by rw [hR3.2.2.2.2.2.1]; exact kn j hj) (fun j hj => by rw [hR3.2.2.2.2.2.1]; exact kp j hj) i hi2) dX6_countRows_67 cb_X6_joinKinds ml_RX6_34 im_yX6_joinKinds se_yX6_joinKinds W3.1 W3.2.1 (Nat.le_of_ble_eq_true rfl) ⟨(Nat.le_of_ble_eq_true rfl), (Nat.le_of_ble_eq_true rfl)⟩ rfl rfl (Nat.le_of_ble_eq_true rfl) ⟨(Nat.le_of_ble_eq_true rfl), (Nat.le_of_ble_eq_true rfl)⟩ (RV.go (fun S5 hq => ?_))
      refine V_iinc_6 70 (1) dX6_countRows_70 (by decide) rfl (Nat.le_of_ble_eq_true rfl) ?_
      refine V_goto 73 39 dX6_countRows_73 (by decide) ?_
      rw [← nI_succ]
      exact ih (i + 1, S5, b, a) ⟨by dsimp only; omega, hR3.tr hq.1, hq.2.1, fun j hj => (hq.2.2 j hj).trans (hU j hj)⟩ (by dsimp only; omega)
  ·
    have hi2 := nI_lt8 s19 hi c
    refine V_aload_0 13 dX6_countRows_13 ?_
    refine V_getR 14 (c := 6) 3 W2.2.2.1 dX6_countRows_14 fl_RX6_18 W2.1 W2.2.1 (Nat.le_of_ble_eq_true rfl) (Nat.le_of_ble_eq_true rfl) rfl ?_
    refine V_iload_6 17 dX6_countRows_17 ?_
    refine V_iload_6 19 dX6_countRows_19 ?_
    refine V_if_ne 21 28 dX6_countRows_21 (by decide) (fun c2 => ?_) (fun c2 => ?_)
    ·
      refine V_lconst 28 0 dX6_countRows_28 (by decide) ?_
      refine V_lastore2 29 dX6_countRows_29 W2.2.2.2.2.1.1 W2.2.2.2.2.1.2.1 W2.2.2.2.2.1.2.2 ?_ ?_
      · exact vp_in_nI hi2 s19
      refine V_iinc_6 30 (1) dX6_countRows_30 (by decide) rfl (Nat.le_of_ble_eq_true rfl) ?_
      refine V_goto 33 3 dX6_countRows_33 (by decide) ?_
      rw [nI_clamp (by omega), ← nI_succ]
      refine ih (i + 1, _) ⟨by dsimp only; omega, hR.uJ, fun j hj => ?_⟩ (by dsimp only; omega)
      dsimp only at hj
      show sJ (uJ S2 (o + 3) i _) (o + 3) j = _
      by_cases q : j = i
      · subst q; rw [sJ_uJ, up2_s, if_neg (fun q => c2 (by rw [q]; rfl))]
      · rw [sJ_uJ, up2_k _ _ q]; exact h1 j (by omega)
    ·
      refine V_lconst 24 1 dX6_countRows_24 (by decide) ?_
      refine V_goto 25 29 dX6_countRows_25 (by decide) ?_
      refine V_lastore2 29 dX6_countRows_29 W2.2.2.2.2.1.1 W2.2.2.2.2.1.2.1 W2.2.2.2.2.1.2.2 ?_ ?_
      · exact vp_in_nI hi2 s19
      refine V_iinc_6 30 (1) dX6_countRows_30 (by decide) rfl (Nat.le_of_ble_eq_true rfl) ?_
      refine V_goto 33 3 dX6_countRows_33 (by decide) ?_
      rw [nI_clamp (by omega), ← nI_succ]
      refine ih (i + 1, _) ⟨by dsimp only; omega, hR.uJ, fun j hj => ?_⟩ (by dsimp only; omega)
      dsimp only at hj
      show sJ (uJ S2 (o + 3) i _) (o + 3) j = _
      by_cases q : j = i
      · subst q; rw [sJ_uJ, up2_s, if_pos (Nat.eq_zero_of_not_pos (fun q => absurd c2 (fun c2 => nI_ne0 q (by omega) c2)))]
      · rw [sJ_uJ, up2_k _ _ q]; exact h1 j (by omega)
set_option maxRecDepth 100000 in
set_option maxHeartbeats 8000000 in
theorem f_rows (l : Launch) (Γ : GC) (S : PS) {h : Nat} (F : isL lySockTable Γ.2.2.2.2.1 S h) (D : FRESH h S) (k n : Int32) : CT l Γ yX11_rows cX11_rows 3 (some .long) (4) (0) (0) [.ref h, .int k, .int n] S (RLg (fun r S' => r = if k < 0 ∨ 0 < k ∨ n < 0 ∨ 18 < n then -1 else if n = 0 then 1 else 0)) := by
  refine CT.of RX11 "rows" [some (.ref h), some (.int k), some (.int n)] (by decide +kernel) rfl rfl (Nat.le_of_ble_eq_true rfl) rfl (fun M hM => ?_)
  subst hM
  obtain ⟨⟨d1, d2, d3, ⟨⟨k0, k1, k8, k9, k10, k11, k13⟩, kn, kp⟩, ⟨w1, w2, w3, w4⟩, dh, ⟨o1, o2, o3⟩, ⟨l1, l2, l3⟩, ds⟩, P1, P2⟩ := D
  have e2 : sI S (h + 76) 2 = 0 := congrFun ds 2
  have F76 := F.sub 76 lySeen rfl (by decide)
  refine V_iload_1 0 dX11_rows_0 ?_
  refine V_if_lt 1 25 dX11_rows_1 (by decide) (fun c1 => ?_) (fun c1 => ?_)
  ·
    refine V_ldc2_w 25 dX11_rows_25 kL_RX11_205 ?_
    refine V_lret 28 dX11_rows_28 rfl (Nat.le_of_ble_eq_true rfl) (Nat.le_of_ble_eq_true rfl) (RLg.mk (by rw [if_pos (Or.inl c1)]))
  ·
    refine V_iload_1 4 dX11_rows_4 ?_
    refine V_aload_0 5 dX11_rows_5 ?_
    refine V_getR 6 (c := 11) 15 (F.r 0 15 76 rfl) dX11_rows_6 fl_RX11_84 (F.m 0 (Nat.le_of_ble_eq_true rfl)) (F.k 0 11 rfl) (Nat.le_of_ble_eq_true rfl) (Nat.le_of_ble_eq_true rfl) rfl ?_
    refine V_getI 9 (c := 6) 2 dX11_rows_9 fl_RX11_268 (F.m 76 (Nat.le_of_ble_eq_true rfl)) (F.k 76 6 rfl) (Nat.le_of_ble_eq_true rfl) (Nat.le_of_ble_eq_true rfl) rfl ?_
    rw [e2]
    refine V_icmp_gt 12 25 dX11_rows_12 (by decide) (fun c2 => ?_) (fun c2 => ?_)
    ·
      refine V_ldc2_w 25 dX11_rows_25 kL_RX11_205 ?_
      refine V_lret 28 dX11_rows_28 rfl (Nat.le_of_ble_eq_true rfl) (Nat.le_of_ble_eq_true rfl) (RLg.mk (by rw [if_pos (Or.inr (Or.inl c2))]))
    ·
      have hk : k = 0 := Int32.le_antisymm (Int32.not_lt.mp c2) (Int32.not_lt.mp c1)
      subst hk
      refine V_iload_2 15 dX11_rows_15 ?_
      refine V_if_lt 16 25 dX11_rows_16 (by decide) (fun c3 => ?_) (fun c3 => ?_)
      ·
        refine V_ldc2_w 25 dX11_rows_25 kL_RX11_205 ?_
        refine V_lret 28 dX11_rows_28 rfl (Nat.le_of_ble_eq_true rfl) (Nat.le_of_ble_eq_true rfl) (RLg.mk (by rw [if_pos (Or.inr (Or.inr (Or.inl c3)))]))
      ·
        refine V_iload_2 19 dX11_rows_19 ?_
        refine V_bipush 20 (18) dX11_rows_20 (by decide) ?_
        refine V_icmp_le 22 29 dX11_rows_22 (by decide) (fun c4 => ?_) (fun c4 => ?_)
        ·
          obtain ⟨j, hj, rfl⟩ := nI_of2 (M := 18) (n := 18) (by decide) c3 c4
          refine V_aload_0 29 dX11_rows_29 ?_
          refine V_getR 30 (c := 11) 15 (F.r 0 15 76 rfl) dX11_rows_30 fl_RX11_84 (F.m 0 (Nat.le_of_ble_eq_true rfl)) (F.k 0 11 rfl) (Nat.le_of_ble_eq_true rfl) (Nat.le_of_ble_eq_true rfl) rfl ?_
          refine V_aload_0 33 dX11_rows_33 ?_
          refine V_getR 34 (c := 11) 3 (F.r 0 3 27 rfl) dX11_rows_34 fl_RX11_31 (F.m 0 (Nat.le_of_ble_eq_true rfl)) (F.k 0 11 rfl) (Nat.le_of_ble_eq_true rfl) (Nat.le_of_ble_eq_true rfl) rfl ?_
          refine V_iload_1 37 dX11_rows_37 ?_
          refine V_iload_2 38 dX11_rows_38 ?_
          refine V_iconst 39 (-1) dX11_rows_39 (by decide) ?_
          refine V_iconst 40 (0) dX11_rows_40 (by decide) ?_
          refine V_callV 41 (ci := 6) [.ref _, .int _, .int _, .int _, .int _] _ (c_countRows M.2.1 Γ S (o := h + 76) (t := h + 27) ⟨F76.m 0 (by decide), F76.k 0 6 rfl, F76.r 0 3 3 rfl, F76.r 0 4 4 rfl, ⟨F76.m 3 (by decide), F76.k 3 15 rfl, F76.l 3 19 rfl⟩, ⟨F76.m 4 (by decide), F76.k 4 15 rfl, F76.l 4 19 rfl⟩, by omega⟩ (F.sub 27 lyText rfl (by decide)) (by rw [len_Text]; omega) kn kp j (by omega)) dX11_rows_41 cb_X6_countRows ml_RX11_271 im_yX6_countRows se_yX6_countRows (F.m 76 (Nat.le_of_ble_eq_true rfl)) (F.k 76 6 rfl) (Nat.le_of_ble_eq_true rfl) ⟨(Nat.le_of_ble_eq_true rfl), (Nat.le_of_ble_eq_true rfl)⟩ rfl rfl (Nat.le_of_ble_eq_true rfl) ⟨(Nat.le_of_ble_eq_true rfl), (Nat.le_of_ble_eq_true rfl)⟩ (RLg.go (fun r S1 hq => ?_))
          refine V_lret 44 dX11_rows_44 rfl (Nat.le_of_ble_eq_true rfl) (Nat.le_of_ble_eq_true rfl) (RLg.mk (by rw [if_neg (fun q => q.elim c1 (fun q => q.elim c2 (fun q => q.elim c3 (fun q => absurd c4 (Int32.not_le.mpr q)))))]; exact hq.trans (if_nI0 (by omega))))
        ·
          refine V_ldc2_w 25 dX11_rows_25 kL_RX11_205 ?_
          refine V_lret 28 dX11_rows_28 rfl (Nat.le_of_ble_eq_true rfl) (Nat.le_of_ble_eq_true rfl) (RLg.mk (by rw [if_pos (Or.inr (Or.inr (Or.inr (Int32.not_le.mp c4))))]))
set_option maxRecDepth 100000 in
set_option maxHeartbeats 8000000 in
theorem f_span (l : Launch) (Γ : GC) (S : PS) {h : Nat} (F : isL lySockTable Γ.2.2.2.2.1 S h) (D : FRESH h S) (k n w : Int32) : CT l Γ yX11_span cX11_span 7 (some .int) (1) (0) (0) [.ref h, .int k, .int n, .int w] S (RI (fun r S' => r = -1)) := by
  refine CT.of RX11 "span" [some (.ref h), some (.int k), some (.int n), some (.int w), none, none, none] (by decide +kernel) rfl rfl (Nat.le_of_ble_eq_true rfl) rfl (fun M hM => ?_)
  subst hM
  refine V_iload_1 0 dX11_span_0 ?_
  refine V_if_lt 1 33 dX11_span_1 (by decide) (fun c => ?_) (fun c => ?_)
  ·
    refine V_iconst 33 (-1) dX11_span_33 (by decide) ?_
    refine V_iret 34 .int dX11_span_34 rfl rfl (Nat.le_of_ble_eq_true rfl) (Nat.le_of_ble_eq_true rfl) (RI.mk rfl)
  ·
    refine V_iload_1 4 dX11_span_4 ?_
    refine V_aload_0 5 dX11_span_5 ?_
    refine V_getR 6 (c := 11) 15 (F.r 0 15 76 rfl) dX11_span_6 fl_RX11_84 (F.m 0 (Nat.le_of_ble_eq_true rfl)) (F.k 0 11 rfl) (Nat.le_of_ble_eq_true rfl) (Nat.le_of_ble_eq_true rfl) rfl ?_
    refine V_getI 9 (c := 6) 2 dX11_span_9 fl_RX11_268 (F.m 76 (Nat.le_of_ble_eq_true rfl)) (F.k 76 6 rfl) (Nat.le_of_ble_eq_true rfl) (Nat.le_of_ble_eq_true rfl) rfl ?_
    refine V_icmp_gt 12 33 dX11_span_12 (by decide) (fun c2 => ?_) (fun c2 => ?_)
    ·
      refine V_iconst 33 (-1) dX11_span_33 (by decide) ?_
      refine V_iret 34 .int dX11_span_34 rfl rfl (Nat.le_of_ble_eq_true rfl) (Nat.le_of_ble_eq_true rfl) (RI.mk rfl)
    ·
      refine V_iload_2 15 dX11_span_15 ?_
      refine V_if_lt 16 33 dX11_span_16 (by decide) (fun c3 => ?_) (fun c3 => ?_)
      ·
        refine V_iconst 33 (-1) dX11_span_33 (by decide) ?_
        refine V_iret 34 .int dX11_span_34 rfl rfl (Nat.le_of_ble_eq_true rfl) (Nat.le_of_ble_eq_true rfl) (RI.mk rfl)
      ·
        refine V_iload_2 19 dX11_span_19 ?_
        refine V_bipush 20 (18) dX11_span_20 (by decide) ?_
        refine V_icmp_gt 22 33 dX11_span_22 (by decide) (fun c4 => ?_) (fun c4 => ?_)
        ·
          refine V_iconst 33 (-1) dX11_span_33 (by decide) ?_
          refine V_iret 34 .int dX11_span_34 rfl rfl (Nat.le_of_ble_eq_true rfl) (Nat.le_of_ble_eq_true rfl) (RI.mk rfl)
        ·
          refine V_aload_0 25 dX11_span_25 ?_
          refine V_iload_3 26 dX11_span_26 ?_
          refine V_callV 27 (ci := 11) [.int _] _ (c_isKind M.2.1 Γ S F D w) dX11_span_27 cb_X11_isKind ml_RX11_127 im_yX11_isKind se_yX11_isKind (F.m 0 (Nat.le_of_ble_eq_true rfl)) (F.k 0 11 rfl) (Nat.le_of_ble_eq_true rfl) ⟨(Nat.le_of_ble_eq_true rfl), (Nat.le_of_ble_eq_true rfl)⟩ rfl rfl (Nat.le_of_ble_eq_true rfl) ⟨(Nat.le_of_ble_eq_true rfl), (Nat.le_of_ble_eq_true rfl)⟩ (RI.go (fun r S1 hq => ?_))
          obtain ⟨rfl, rfl⟩ := hq
          refine V_if_ne 30 35 dX11_span_30 (by decide) (fun q => absurd (rfl) q) (fun _ => ?_)
          refine V_iconst 33 (-1) dX11_span_33 (by decide) ?_
          refine V_iret 34 .int dX11_span_34 rfl rfl (Nat.le_of_ble_eq_true rfl) (Nat.le_of_ble_eq_true rfl) (RI.mk rfl)

