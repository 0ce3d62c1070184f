/-! Grammar's wholeLaw, tell and check from any ints -/
set_option maxRecDepth 100000 in
set_option maxHeartbeats 8000000 in
theorem s_wholeLaw (l : Launch) (Γ : GC) (S : PS) {g : Nat} (F : isL lyGrammar Γ.2.2.2.2.1 S g) : CT l Γ yX0_wholeLaw cX0_wholeLaw 4 (some .boolean) (23) (0) (0) [.ref g] S (RI (fun r S' => (r = 0 ∨ r = 1) ∧ FZ [g + 8, g + 9] [(g, 2), (g, 3), (g, 4), (g, 5), (g, 6), (g, 7), (g + 7, 2)] S S')) := by
  refine CT.of RX0 "wholeLaw" [some (.ref g), none, none, none] (by decide +kernel) rfl rfl (Nat.le_of_ble_eq_true rfl) rfl (fun M hM => ?_)
  subst hM
  have J3 : ∀ (S1 : PS) (x4 : Int32) (x5 : Int32), FZ [g + 8, g + 9] [(g, 2), (g, 3), (g, 4), (g, 5), (g, 6), (g, 7), (g + 7, 2)] S S1 → (x4 = 0 ∨ x4 = 1) → V M Γ (4, RX0, "wholeLaw", (some .boolean), RM (23) (0) (0)) cX0_wholeLaw (RQ M Γ (RI (fun r S' => (r = 0 ∨ r = 1) ∧ FZ [g + 8, g + 9] [(g, 2), (g, 3), (g, 4), (g, 5), (g, 6), (g, 7), (g + 7, 2)] S S')) (0) (0)) 0 0 S1 166 [some (.ref g), some (.int x4), some (.int x5), none] [] := by
    intro S1 x4 x5 h2 hb_x4
    refine V_iconst 166 (0) dX0_wholeLaw_166 (by decide) ?_
    refine V_istore_1 167 dX0_wholeLaw_167 rfl (Nat.le_of_ble_eq_true rfl) ?_
    refine V_aload_0 168 dX0_wholeLaw_168 ?_
    refine V_getR 169 (c := 0) 1 ((F.ss h2.1).r 0 1 7 rfl) dX0_wholeLaw_169 fl_RX0_21 ((F.ss h2.1).m 0 (Nat.le_of_ble_eq_true rfl)) ((F.ss h2.1).k 0 0 rfl) (Nat.le_of_ble_eq_true rfl) (Nat.le_of_ble_eq_true rfl) rfl ?_
    refine V_iconst 172 (5) dX0_wholeLaw_172 (by decide) ?_
    refine V_iconst 173 (0) dX0_wholeLaw_173 (by decide) ?_
    refine V_callV 174 (ci := 2) [.int _, .int _] _ (s_write M.2.1 Γ S1 ((F.ss h2.1).sub 7 lyLaw rfl (by decide)) _ _) dX0_wholeLaw_174 cb_X2_write ml_RX0_83 im_yX2_write se_yX2_write ((F.ss h2.1).m 7 (Nat.le_of_ble_eq_true rfl)) ((F.ss h2.1).k 7 2 rfl) (Nat.le_of_ble_eq_true rfl) ⟨(Nat.le_of_ble_eq_true rfl), (Nat.le_of_ble_eq_true rfl)⟩ rfl rfl (Nat.le_of_ble_eq_true rfl) ⟨(Nat.le_of_ble_eq_true rfl), (Nat.le_of_ble_eq_true rfl)⟩ (RI.go (fun r8 S6 q7 => ?_))
    have h9 : FZ [g + 8, g + 9] [(g, 2), (g, 3), (g, 4), (g, 5), (g, 6), (g, 7), (g + 7, 2)] S S6 := h2.tr (q7.sub (by simp) (by simp))
    refine V_pop 177 dX0_wholeLaw_177 rfl ?_
    refine V_iload_1 178 dX0_wholeLaw_178 ?_
    refine V_iret 179 .boolean dX0_wholeLaw_179 rfl (nrwB (Or.inl rfl)) (Nat.le_of_ble_eq_true rfl) (Nat.le_of_ble_eq_true rfl) (RI.mk ⟨(Or.inl rfl), h9⟩)
  have J12 : ∀ (S10 : PS) (x13 : Int32) (x14 : Int32), FZ [g + 8, g + 9] [(g, 2), (g, 3), (g, 4), (g, 5), (g, 6), (g, 7), (g + 7, 2)] S S10 → (x13 = 0 ∨ x13 = 1) → V M Γ (4, RX0, "wholeLaw", (some .boolean), RM (23) (0) (0)) cX0_wholeLaw (RQ M Γ (RI (fun r S' => (r = 0 ∨ r = 1) ∧ FZ [g + 8, g + 9] [(g, 2), (g, 3), (g, 4), (g, 5), (g, 6), (g, 7), (g + 7, 2)] S S')) (0) (0)) 0 0 S10 150 [some (.ref g), some (.int x13), some (.int x14), none] [] := by
    intro S10 x13 x14 h11 hb_x13
    refine V_iload_1 150 dX0_wholeLaw_150 ?_
    refine V_if_eq 151 166 dX0_wholeLaw_151 (by decide) (fun c15 => ?_) (fun c15 => ?_)
    ·
      refine V_lvw (by repeat (first | exact trivial | refine ⟨rfl, ?_⟩)) (J3 _ _ _ h11 hb_x13)
    ·
      refine V_aload_0 154 dX0_wholeLaw_154 ?_
      refine V_iconst 155 (0) dX0_wholeLaw_155 (by decide) ?_
      refine V_callV 156 (ci := 0) [.int _] _ (s_sum0 M.2.1 Γ S10 (F.ss h11.1) _ rfl) dX0_wholeLaw_156 cb_X0_sum ml_RX0_80 im_yX0_sum se_yX0_sum ((F.ss h11.1).m 0 (Nat.le_of_ble_eq_true rfl)) ((F.ss h11.1).k 0 0 rfl) (Nat.le_of_ble_eq_true rfl) ⟨(Nat.le_of_ble_eq_true rfl), (Nat.le_of_ble_eq_true rfl)⟩ rfl rfl (Nat.le_of_ble_eq_true rfl) ⟨(Nat.le_of_ble_eq_true rfl), (Nat.le_of_ble_eq_true rfl)⟩ (RI.go (fun r19 S17 q18 => ?_))
      have h20 : FZ [g + 8, g + 9] [(g, 2), (g, 3), (g, 4), (g, 5), (g, 6), (g, 7), (g + 7, 2)] S S17 := h11.tr (q18.2.sub (by simp) (by simp))
      refine V_if_eq 159 166 dX0_wholeLaw_159 (by decide) (fun c21 => ?_) (fun c21 => ?_)
      ·
        refine V_lvw (by repeat (first | exact trivial | refine ⟨rfl, ?_⟩)) (J3 _ _ _ h20 hb_x13)
      ·
        refine V_iconst 162 (1) dX0_wholeLaw_162 (by decide) ?_
        refine V_goto 163 167 dX0_wholeLaw_163 (by decide) ?_
        refine V_istore_1 167 dX0_wholeLaw_167 rfl (Nat.le_of_ble_eq_true rfl) ?_
        refine V_aload_0 168 dX0_wholeLaw_168 ?_
        refine V_getR 169 (c := 0) 1 ((F.ss h20.1).r 0 1 7 rfl) dX0_wholeLaw_169 fl_RX0_21 ((F.ss h20.1).m 0 (Nat.le_of_ble_eq_true rfl)) ((F.ss h20.1).k 0 0 rfl) (Nat.le_of_ble_eq_true rfl) (Nat.le_of_ble_eq_true rfl) rfl ?_
        refine V_iconst 172 (5) dX0_wholeLaw_172 (by decide) ?_
        refine V_iconst 173 (0) dX0_wholeLaw_173 (by decide) ?_
        refine V_callV 174 (ci := 2) [.int _, .int _] _ (s_write M.2.1 Γ S17 ((F.ss h20.1).sub 7 lyLaw rfl (by decide)) _ _) dX0_wholeLaw_174 cb_X2_write ml_RX0_83 im_yX2_write se_yX2_write ((F.ss h20.1).m 7 (Nat.le_of_ble_eq_true rfl)) ((F.ss h20.1).k 7 2 rfl) (Nat.le_of_ble_eq_true rfl) ⟨(Nat.le_of_ble_eq_true rfl), (Nat.le_of_ble_eq_true rfl)⟩ rfl rfl (Nat.le_of_ble_eq_true rfl) ⟨(Nat.le_of_ble_eq_true rfl), (Nat.le_of_ble_eq_true rfl)⟩ (RI.go (fun r25 S23 q24 => ?_))
        have h26 : FZ [g + 8, g + 9] [(g, 2), (g, 3), (g, 4), (g, 5), (g, 6), (g, 7), (g + 7, 2)] S S23 := h20.tr (q24.sub (by simp) (by simp))
        refine V_pop 177 dX0_wholeLaw_177 rfl ?_
        refine V_iload_1 178 dX0_wholeLaw_178 ?_
        refine V_iret 179 .boolean dX0_wholeLaw_179 rfl (nrwB (Or.inr rfl)) (Nat.le_of_ble_eq_true rfl) (Nat.le_of_ble_eq_true rfl) (RI.mk ⟨(Or.inr rfl), h26⟩)
  refine V_aload_0 0 dX0_wholeLaw_0 ?_
  refine V_getR 1 (c := 0) 1 (F.r 0 1 7 rfl) dX0_wholeLaw_1 fl_RX0_21 (F.m 0 (Nat.le_of_ble_eq_true rfl)) (F.k 0 0 rfl) (Nat.le_of_ble_eq_true rfl) (Nat.le_of_ble_eq_true rfl) rfl ?_
  refine V_callV 4 (ci := 2) [] _ (s_lawclear M.2.1 Γ S (F.sub 7 lyLaw rfl (by decide))) dX0_wholeLaw_4 cb_X2_clear ml_RX0_25 im_yX2_clear se_yX2_clear (F.m 7 (Nat.le_of_ble_eq_true rfl)) (F.k 7 2 rfl) (Nat.le_of_ble_eq_true rfl) ⟨(Nat.le_of_ble_eq_true rfl), (Nat.le_of_ble_eq_true rfl)⟩ rfl rfl (Nat.le_of_ble_eq_true rfl) ⟨(Nat.le_of_ble_eq_true rfl), (Nat.le_of_ble_eq_true rfl)⟩ (RV.go (fun S27 q28 => ?_))
  have h30 : FZ [g + 8, g + 9] [(g, 2), (g, 3), (g, 4), (g, 5), (g, 6), (g, 7), (g + 7, 2)] S S27 := (FZ.rf (X := [g + 8, g + 9]) (Y := [(g, 2), (g, 3), (g, 4), (g, 5), (g, 6), (g, 7), (g + 7, 2)]) (S := S)).tr (q28.sub (by simp) (by simp))
  refine V_iconst 7 (1) dX0_wholeLaw_7 (by decide) ?_
  refine V_istore_1 8 dX0_wholeLaw_8 rfl (Nat.le_of_ble_eq_true rfl) ?_
  refine V_iconst 9 (0) dX0_wholeLaw_9 (by decide) ?_
  refine V_istore_2 10 dX0_wholeLaw_10 rfl (Nat.le_of_ble_eq_true rfl) ?_
  refine V_lvw (by repeat (first | exact trivial | refine ⟨rfl, ?_⟩)) (V_while (α := Nat × PS × Int32) (fun z31 => 5 - z31.1) (fun z31 => z31.1 ≤ 5 ∧ FZ [g + 8, g + 9] [(g, 2), (g, 3), (g, 4), (g, 5), (g, 6), (g, 7), (g + 7, 2)] S z31.2.1 ∧ (z31.2.2 = 0 ∨ z31.2.2 = 1)) (fun z31 => z31.2.1) (fun z31 => [some (.ref g), some (.int z31.2.2), some (.int (nI z31.1)), none]) (0, _, _) ⟨Nat.zero_le _, h30, (Or.inr rfl)⟩ (fun z31 hx38 ih36 => ?b39))
  obtain ⟨i32, S33, w37⟩ := z31
  obtain ⟨hi34, h35, hb41⟩ := hx38
  dsimp only at hi34 h35 hb41 ih36 ⊢
  have J44 : ∀ (S42 : PS) (x45 : Int32) (x46 : Int32), FZ [g + 8, g + 9] [(g, 2), (g, 3), (g, 4), (g, 5), (g, 6), (g, 7), (g + 7, 2)] S S42 → i32 < 5 → (x45 = 0 ∨ x45 = 1) → V M Γ (4, RX0, "wholeLaw", (some .boolean), RM (23) (0) (0)) cX0_wholeLaw (RQ M Γ (RI (fun r S' => (r = 0 ∨ r = 1) ∧ FZ [g + 8, g + 9] [(g, 2), (g, 3), (g, 4), (g, 5), (g, 6), (g, 7), (g + 7, 2)] S S')) (0) (0)) 0 0 S42 124 [some (.ref g), some (.int x45), some (.int (nI i32)), some (.int x46)] [] := by
    intro S42 x45 x46 h43 lt47 hb_x45
    refine V_iconst 124 (0) dX0_wholeLaw_124 (by decide) ?_
    refine V_istore_1 125 dX0_wholeLaw_125 rfl (Nat.le_of_ble_eq_true rfl) ?_
    refine V_aload_0 126 dX0_wholeLaw_126 ?_
    refine V_getR 127 (c := 0) 1 ((F.ss h43.1).r 0 1 7 rfl) dX0_wholeLaw_127 fl_RX0_21 ((F.ss h43.1).m 0 (Nat.le_of_ble_eq_true rfl)) ((F.ss h43.1).k 0 0 rfl) (Nat.le_of_ble_eq_true rfl) (Nat.le_of_ble_eq_true rfl) rfl ?_
    refine V_iconst 130 (5) dX0_wholeLaw_130 (by decide) ?_
    refine V_iconst 131 (0) dX0_wholeLaw_131 (by decide) ?_
    refine V_callV 132 (ci := 2) [.int _, .int _] _ (s_write M.2.1 Γ S42 ((F.ss h43.1).sub 7 lyLaw rfl (by decide)) _ _) dX0_wholeLaw_132 cb_X2_write ml_RX0_83 im_yX2_write se_yX2_write ((F.ss h43.1).m 7 (Nat.le_of_ble_eq_true rfl)) ((F.ss h43.1).k 7 2 rfl) (Nat.le_of_ble_eq_true rfl) ⟨(Nat.le_of_ble_eq_true rfl), (Nat.le_of_ble_eq_true rfl)⟩ rfl rfl (Nat.le_of_ble_eq_true rfl) ⟨(Nat.le_of_ble_eq_true rfl), (Nat.le_of_ble_eq_true rfl)⟩ (RI.go (fun r50 S48 q49 => ?_))
    have h51 : FZ [g + 8, g + 9] [(g, 2), (g, 3), (g, 4), (g, 5), (g, 6), (g, 7), (g + 7, 2)] S S48 := h43.tr (q49.sub (by simp) (by simp))
    refine V_pop 135 dX0_wholeLaw_135 rfl ?_
    refine V_aload_0 136 dX0_wholeLaw_136 ?_
    refine V_getR 137 (c := 0) 1 ((F.ss h51.1).r 0 1 7 rfl) dX0_wholeLaw_137 fl_RX0_21 ((F.ss h51.1).m 0 (Nat.le_of_ble_eq_true rfl)) ((F.ss h51.1).k 0 0 rfl) (Nat.le_of_ble_eq_true rfl) (Nat.le_of_ble_eq_true rfl) rfl ?_
    refine V_iload_3 140 dX0_wholeLaw_140 ?_
    refine V_callV 141 (ci := 2) [.int _] _ (s_aim M.2.1 Γ S48 ((F.ss h51.1).sub 7 lyLaw rfl (by decide)) _) dX0_wholeLaw_141 cb_X2_aim ml_RX0_87 im_yX2_aim se_yX2_aim ((F.ss h51.1).m 7 (Nat.le_of_ble_eq_true rfl)) ((F.ss h51.1).k 7 2 rfl) (Nat.le_of_ble_eq_true rfl) ⟨(Nat.le_of_ble_eq_true rfl), (Nat.le_of_ble_eq_true rfl)⟩ rfl rfl (Nat.le_of_ble_eq_true rfl) ⟨(Nat.le_of_ble_eq_true rfl), (Nat.le_of_ble_eq_true rfl)⟩ (RV.go (fun S52 q53 => ?_))
    have h55 : FZ [g + 8, g + 9] [(g, 2), (g, 3), (g, 4), (g, 5), (g, 6), (g, 7), (g + 7, 2)] S S52 := h51.tr (q53.sub (by simp) (by simp))
    refine V_iinc_2 144 (1) dX0_wholeLaw_144 (by decide) rfl (Nat.le_of_ble_eq_true rfl) ?_
    refine V_goto 147 11 dX0_wholeLaw_147 (by decide) ?_
    rw [← nI_succ]
    refine V_lvw (by repeat (first | exact trivial | refine ⟨rfl, ?_⟩)) (ih36 (i32 + 1, _, _) ⟨by dsimp only; omega, h55, (Or.inl rfl)⟩ (by dsimp only; omega))
  have J58 : ∀ (S56 : PS) (x59 : Int32), FZ [g + 8, g + 9] [(g, 2), (g, 3), (g, 4), (g, 5), (g, 6), (g, 7), (g + 7, 2)] S S56 → i32 < 5 → (x59 = 0 ∨ x59 = 1) → V M Γ (4, RX0, "wholeLaw", (some .boolean), RM (23) (0) (0)) cX0_wholeLaw (RQ M Γ (RI (fun r S' => (r = 0 ∨ r = 1) ∧ FZ [g + 8, g + 9] [(g, 2), (g, 3), (g, 4), (g, 5), (g, 6), (g, 7), (g + 7, 2)] S S')) (0) (0)) 0 0 S56 86 [some (.ref g), some (.int x59), some (.int (nI i32)), none] [] := by
    intro S56 x59 h57 lt60 hb_x59
    refine V_iconst 86 (0) dX0_wholeLaw_86 (by decide) ?_
    refine V_istore_1 87 dX0_wholeLaw_87 rfl (Nat.le_of_ble_eq_true rfl) ?_
    refine V_aload_0 88 dX0_wholeLaw_88 ?_
    refine V_getR 89 (c := 0) 1 ((F.ss h57.1).r 0 1 7 rfl) dX0_wholeLaw_89 fl_RX0_21 ((F.ss h57.1).m 0 (Nat.le_of_ble_eq_true rfl)) ((F.ss h57.1).k 0 0 rfl) (Nat.le_of_ble_eq_true rfl) (Nat.le_of_ble_eq_true rfl) rfl ?_
    refine V_iconst 92 (4) dX0_wholeLaw_92 (by decide) ?_
    refine V_iconst 93 (0) dX0_wholeLaw_93 (by decide) ?_
    refine V_callV 94 (ci := 2) [.int _, .int _] _ (s_write M.2.1 Γ S56 ((F.ss h57.1).sub 7 lyLaw rfl (by decide)) _ _) dX0_wholeLaw_94 cb_X2_write ml_RX0_83 im_yX2_write se_yX2_write ((F.ss h57.1).m 7 (Nat.le_of_ble_eq_true rfl)) ((F.ss h57.1).k 7 2 rfl) (Nat.le_of_ble_eq_true rfl) ⟨(Nat.le_of_ble_eq_true rfl), (Nat.le_of_ble_eq_true rfl)⟩ rfl rfl (Nat.le_of_ble_eq_true rfl) ⟨(Nat.le_of_ble_eq_true rfl), (Nat.le_of_ble_eq_true rfl)⟩ (RI.go (fun r63 S61 q62 => ?_))
    have h64 : FZ [g + 8, g + 9] [(g, 2), (g, 3), (g, 4), (g, 5), (g, 6), (g, 7), (g + 7, 2)] S S61 := h57.tr (q62.sub (by simp) (by simp))
    refine V_istore_3 97 dX0_wholeLaw_97 rfl (Nat.le_of_ble_eq_true rfl) ?_
    refine V_iload_1 98 dX0_wholeLaw_98 ?_
    refine V_if_eq 99 124 dX0_wholeLaw_99 (by decide) (fun c65 => ?_) (fun c65 => ?_)
    ·
      refine V_lvw (by repeat (first | exact trivial | refine ⟨rfl, ?_⟩)) (J44 _ _ _ h64 (by first | omega | assumption) (Or.inl rfl))
    ·
      refine V_aload_0 102 dX0_wholeLaw_102 ?_
      refine V_iconst 103 (0) dX0_wholeLaw_103 (by decide) ?_
      refine V_callV 104 (ci := 0) [.int _] _ (s_sum0 M.2.1 Γ S61 (F.ss h64.1) _ rfl) dX0_wholeLaw_104 cb_X0_sum ml_RX0_80 im_yX0_sum se_yX0_sum ((F.ss h64.1).m 0 (Nat.le_of_ble_eq_true rfl)) ((F.ss h64.1).k 0 0 rfl) (Nat.le_of_ble_eq_true rfl) ⟨(Nat.le_of_ble_eq_true rfl), (Nat.le_of_ble_eq_true rfl)⟩ rfl rfl (Nat.le_of_ble_eq_true rfl) ⟨(Nat.le_of_ble_eq_true rfl), (Nat.le_of_ble_eq_true rfl)⟩ (RI.go (fun r69 S67 q68 => ?_))
      have h70 : FZ [g + 8, g + 9] [(g, 2), (g, 3), (g, 4), (g, 5), (g, 6), (g, 7), (g + 7, 2)] S S67 := h64.tr (q68.2.sub (by simp) (by simp))
      refine V_if_eq 107 124 dX0_wholeLaw_107 (by decide) (fun c71 => ?_) (fun c71 => ?_)
      ·
        refine V_lvw (by repeat (first | exact trivial | refine ⟨rfl, ?_⟩)) (J44 _ _ _ h70 (by first | omega | assumption) (Or.inl rfl))
      ·
        refine V_aload_0 110 dX0_wholeLaw_110 ?_
        refine V_sipush 111 (144) dX0_wholeLaw_111 (by decide) ?_
        refine V_callV 114 (ci := 0) [.int _] _ (s_step M.2.1 Γ S67 (F.ss h70.1) _) dX0_wholeLaw_114 cb_X0_step ml_RX0_51 im_yX0_step se_yX0_step ((F.ss h70.1).m 0 (Nat.le_of_ble_eq_true rfl)) ((F.ss h70.1).k 0 0 rfl) (Nat.le_of_ble_eq_true rfl) ⟨(Nat.le_of_ble_eq_true rfl), (Nat.le_of_ble_eq_true rfl)⟩ rfl rfl (Nat.le_of_ble_eq_true rfl) ⟨(Nat.le_of_ble_eq_true rfl), (Nat.le_of_ble_eq_true rfl)⟩ (RI.go (fun r75 S73 q74 => ?_))
        have h76 : FZ [g + 8, g + 9] [(g, 2), (g, 3), (g, 4), (g, 5), (g, 6), (g, 7), (g + 7, 2)] S S73 := h70.tr (q74.2.sub (by simp) (by simp))
        refine V_if_eq 117 124 dX0_wholeLaw_117 (by decide) (fun c77 => ?_) (fun c77 => ?_)
        ·
          refine V_lvw (by repeat (first | exact trivial | refine ⟨rfl, ?_⟩)) (J44 _ _ _ h76 (by first | omega | assumption) (Or.inl rfl))
        ·
          refine V_iconst 120 (1) dX0_wholeLaw_120 (by decide) ?_
          refine V_goto 121 125 dX0_wholeLaw_121 (by decide) ?_
          refine V_istore_1 125 dX0_wholeLaw_125 rfl (Nat.le_of_ble_eq_true rfl) ?_
          refine V_aload_0 126 dX0_wholeLaw_126 ?_
          refine V_getR 127 (c := 0) 1 ((F.ss h76.1).r 0 1 7 rfl) dX0_wholeLaw_127 fl_RX0_21 ((F.ss h76.1).m 0 (Nat.le_of_ble_eq_true rfl)) ((F.ss h76.1).k 0 0 rfl) (Nat.le_of_ble_eq_true rfl) (Nat.le_of_ble_eq_true rfl) rfl ?_
          refine V_iconst 130 (5) dX0_wholeLaw_130 (by decide) ?_
          refine V_iconst 131 (0) dX0_wholeLaw_131 (by decide) ?_
          refine V_callV 132 (ci := 2) [.int _, .int _] _ (s_write M.2.1 Γ S73 ((F.ss h76.1).sub 7 lyLaw rfl (by decide)) _ _) dX0_wholeLaw_132 cb_X2_write ml_RX0_83 im_yX2_write se_yX2_write ((F.ss h76.1).m 7 (Nat.le_of_ble_eq_true rfl)) ((F.ss h76.1).k 7 2 rfl) (Nat.le_of_ble_eq_true rfl) ⟨(Nat.le_of_ble_eq_true rfl), (Nat.le_of_ble_eq_true rfl)⟩ rfl rfl (Nat.le_of_ble_eq_true rfl) ⟨(Nat.le_of_ble_eq_true rfl), (Nat.le_of_ble_eq_true rfl)⟩ (RI.go (fun r81 S79 q80 => ?_))
          have h82 : FZ [g + 8, g + 9] [(g, 2), (g, 3), (g, 4), (g, 5), (g, 6), (g, 7), (g + 7, 2)] S S79 := h76.tr (q80.sub (by simp) (by simp))
          refine V_pop 135 dX0_wholeLaw_135 rfl ?_
          refine V_aload_0 136 dX0_wholeLaw_136 ?_
          refine V_getR 137 (c := 0) 1 ((F.ss h82.1).r 0 1 7 rfl) dX0_wholeLaw_137 fl_RX0_21 ((F.ss h82.1).m 0 (Nat.le_of_ble_eq_true rfl)) ((F.ss h82.1).k 0 0 rfl) (Nat.le_of_ble_eq_true rfl) (Nat.le_of_ble_eq_true rfl) rfl ?_
          refine V_iload_3 140 dX0_wholeLaw_140 ?_
          refine V_callV 141 (ci := 2) [.int _] _ (s_aim M.2.1 Γ S79 ((F.ss h82.1).sub 7 lyLaw rfl (by decide)) _) dX0_wholeLaw_141 cb_X2_aim ml_RX0_87 im_yX2_aim se_yX2_aim ((F.ss h82.1).m 7 (Nat.le_of_ble_eq_true rfl)) ((F.ss h82.1).k 7 2 rfl) (Nat.le_of_ble_eq_true rfl) ⟨(Nat.le_of_ble_eq_true rfl), (Nat.le_of_ble_eq_true rfl)⟩ rfl rfl (Nat.le_of_ble_eq_true rfl) ⟨(Nat.le_of_ble_eq_true rfl), (Nat.le_of_ble_eq_true rfl)⟩ (RV.go (fun S83 q84 => ?_))
          have h86 : FZ [g + 8, g + 9] [(g, 2), (g, 3), (g, 4), (g, 5), (g, 6), (g, 7), (g + 7, 2)] S S83 := h82.tr (q84.sub (by simp) (by simp))
          refine V_iinc_2 144 (1) dX0_wholeLaw_144 (by decide) rfl (Nat.le_of_ble_eq_true rfl) ?_
          refine V_goto 147 11 dX0_wholeLaw_147 (by decide) ?_
          rw [← nI_succ]
          refine V_lvw (by repeat (first | exact trivial | refine ⟨rfl, ?_⟩)) (ih36 (i32 + 1, _, _) ⟨by dsimp only; omega, h86, (Or.inr rfl)⟩ (by dsimp only; omega))
  refine V_iload_2 11 dX0_wholeLaw_11 ?_
  refine V_iconst 12 (4) dX0_wholeLaw_12 (by decide) ?_
  refine V_icmp_gt 13 150 dX0_wholeLaw_13 (by decide) (fun c87 => ?_) (fun c87 => ?_)
  ·
    refine V_lvw (by repeat (first | exact trivial | refine ⟨rfl, ?_⟩)) (J12 _ _ _ h35 hb41)
  ·
    have lt89 := nI_ltg (n := 4) (by decide) hi34 c87
    refine V_iload_1 16 dX0_wholeLaw_16 ?_
    refine V_if_eq 17 150 dX0_wholeLaw_17 (by decide) (fun c90 => ?_) (fun c90 => ?_)
    ·
      refine V_lvw (by repeat (first | exact trivial | refine ⟨rfl, ?_⟩)) (J12 _ _ _ h35 hb41)
    ·
      refine V_aload_0 20 dX0_wholeLaw_20 ?_
      refine V_getI 21 (c := 0) 3 dX0_wholeLaw_21 fl_RX0_36 ((F.ss h35.1).m 0 (Nat.le_of_ble_eq_true rfl)) ((F.ss h35.1).k 0 0 rfl) (Nat.le_of_ble_eq_true rfl) (Nat.le_of_ble_eq_true rfl) rfl ?_
      refine V_sipush 24 (142) dX0_wholeLaw_24 (by decide) ?_
      refine V_icmp_ne 27 150 dX0_wholeLaw_27 (by decide) (fun c92 => ?_) (fun c92 => ?_)
      ·
        refine V_lvw (by repeat (first | exact trivial | refine ⟨rfl, ?_⟩)) (J12 _ _ _ h35 hb41)
      ·
        refine V_aload_0 30 dX0_wholeLaw_30 ?_
        refine V_callV 31 (ci := 0) [] _ (s_addIf M.2.1 Γ S33 (F.ss h35.1)) dX0_wholeLaw_31 cb_X0_addIf ml_RX0_77 im_yX0_addIf se_yX0_addIf ((F.ss h35.1).m 0 (Nat.le_of_ble_eq_true rfl)) ((F.ss h35.1).k 0 0 rfl) (Nat.le_of_ble_eq_true rfl) ⟨(Nat.le_of_ble_eq_true rfl), (Nat.le_of_ble_eq_true rfl)⟩ rfl rfl (Nat.le_of_ble_eq_true rfl) ⟨(Nat.le_of_ble_eq_true rfl), (Nat.le_of_ble_eq_true rfl)⟩ (RI.go (fun r96 S94 q95 => ?_))
        have h97 : FZ [g + 8, g + 9] [(g, 2), (g, 3), (g, 4), (g, 5), (g, 6), (g, 7), (g + 7, 2)] S S94 := h35.tr (q95.2.sub (by simp) (by simp))
        refine V_if_eq 34 86 dX0_wholeLaw_34 (by decide) (fun c98 => ?_) (fun c98 => ?_)
        ·
          refine V_lvw (by repeat (first | exact trivial | refine ⟨rfl, ?_⟩)) (J58 _ _ h97 (by first | omega | assumption) hb41)
        ·
          refine V_aload_0 37 dX0_wholeLaw_37 ?_
          refine V_sipush 38 (142) dX0_wholeLaw_38 (by decide) ?_
          refine V_callV 41 (ci := 0) [.int _] _ (s_step M.2.1 Γ S94 (F.ss h97.1) _) dX0_wholeLaw_41 cb_X0_step ml_RX0_51 im_yX0_step se_yX0_step ((F.ss h97.1).m 0 (Nat.le_of_ble_eq_true rfl)) ((F.ss h97.1).k 0 0 rfl) (Nat.le_of_ble_eq_true rfl) ⟨(Nat.le_of_ble_eq_true rfl), (Nat.le_of_ble_eq_true rfl)⟩ rfl rfl (Nat.le_of_ble_eq_true rfl) ⟨(Nat.le_of_ble_eq_true rfl), (Nat.le_of_ble_eq_true rfl)⟩ (RI.go (fun r102 S100 q101 => ?_))
          have h103 : FZ [g + 8, g + 9] [(g, 2), (g, 3), (g, 4), (g, 5), (g, 6), (g, 7), (g + 7, 2)] S S100 := h97.tr (q101.2.sub (by simp) (by simp))
          refine V_if_eq 44 86 dX0_wholeLaw_44 (by decide) (fun c104 => ?_) (fun c104 => ?_)
          ·
            refine V_lvw (by repeat (first | exact trivial | refine ⟨rfl, ?_⟩)) (J58 _ _ h103 (by first | omega | assumption) hb41)
          ·
            refine V_aload_0 47 dX0_wholeLaw_47 ?_
            refine V_iconst 48 (0) dX0_wholeLaw_48 (by decide) ?_
            refine V_callV 49 (ci := 0) [.int _] _ (s_sum0 M.2.1 Γ S100 (F.ss h103.1) _ rfl) dX0_wholeLaw_49 cb_X0_sum ml_RX0_80 im_yX0_sum se_yX0_sum ((F.ss h103.1).m 0 (Nat.le_of_ble_eq_true rfl)) ((F.ss h103.1).k 0 0 rfl) (Nat.le_of_ble_eq_true rfl) ⟨(Nat.le_of_ble_eq_true rfl), (Nat.le_of_ble_eq_true rfl)⟩ rfl rfl (Nat.le_of_ble_eq_true rfl) ⟨(Nat.le_of_ble_eq_true rfl), (Nat.le_of_ble_eq_true rfl)⟩ (RI.go (fun r108 S106 q107 => ?_))
            have h109 : FZ [g + 8, g + 9] [(g, 2), (g, 3), (g, 4), (g, 5), (g, 6), (g, 7), (g + 7, 2)] S S106 := h103.tr (q107.2.sub (by simp) (by simp))
            refine V_if_eq 52 86 dX0_wholeLaw_52 (by decide) (fun c110 => ?_) (fun c110 => ?_)
            ·
              refine V_lvw (by repeat (first | exact trivial | refine ⟨rfl, ?_⟩)) (J58 _ _ h109 (by first | omega | assumption) hb41)
            ·
              refine V_aload_0 55 dX0_wholeLaw_55 ?_
              refine V_bipush 56 (60) dX0_wholeLaw_56 (by decide) ?_
              refine V_callV 58 (ci := 0) [.int _] _ (s_step M.2.1 Γ S106 (F.ss h109.1) _) dX0_wholeLaw_58 cb_X0_step ml_RX0_51 im_yX0_step se_yX0_step ((F.ss h109.1).m 0 (Nat.le_of_ble_eq_true rfl)) ((F.ss h109.1).k 0 0 rfl) (Nat.le_of_ble_eq_true rfl) ⟨(Nat.le_of_ble_eq_true rfl), (Nat.le_of_ble_eq_true rfl)⟩ rfl rfl (Nat.le_of_ble_eq_true rfl) ⟨(Nat.le_of_ble_eq_true rfl), (Nat.le_of_ble_eq_true rfl)⟩ (RI.go (fun r114 S112 q113 => ?_))
              have h115 : FZ [g + 8, g + 9] [(g, 2), (g, 3), (g, 4), (g, 5), (g, 6), (g, 7), (g + 7, 2)] S S112 := h109.tr (q113.2.sub (by simp) (by simp))
              refine V_if_eq 61 86 dX0_wholeLaw_61 (by decide) (fun c116 => ?_) (fun c116 => ?_)
              ·
                refine V_lvw (by repeat (first | exact trivial | refine ⟨rfl, ?_⟩)) (J58 _ _ h115 (by first | omega | assumption) hb41)
              ·
                refine V_aload_0 64 dX0_wholeLaw_64 ?_
                refine V_iconst 65 (0) dX0_wholeLaw_65 (by decide) ?_
                refine V_callV 66 (ci := 0) [.int _] _ (s_sum0 M.2.1 Γ S112 (F.ss h115.1) _ rfl) dX0_wholeLaw_66 cb_X0_sum ml_RX0_80 im_yX0_sum se_yX0_sum ((F.ss h115.1).m 0 (Nat.le_of_ble_eq_true rfl)) ((F.ss h115.1).k 0 0 rfl) (Nat.le_of_ble_eq_true rfl) ⟨(Nat.le_of_ble_eq_true rfl), (Nat.le_of_ble_eq_true rfl)⟩ rfl rfl (Nat.le_of_ble_eq_true rfl) ⟨(Nat.le_of_ble_eq_true rfl), (Nat.le_of_ble_eq_true rfl)⟩ (RI.go (fun r120 S118 q119 => ?_))
                have h121 : FZ [g + 8, g + 9] [(g, 2), (g, 3), (g, 4), (g, 5), (g, 6), (g, 7), (g + 7, 2)] S S118 := h115.tr (q119.2.sub (by simp) (by simp))
                refine V_if_eq 69 86 dX0_wholeLaw_69 (by decide) (fun c122 => ?_) (fun c122 => ?_)
                ·
                  refine V_lvw (by repeat (first | exact trivial | refine ⟨rfl, ?_⟩)) (J58 _ _ h121 (by first | omega | assumption) hb41)
                ·
                  refine V_aload_0 72 dX0_wholeLaw_72 ?_
                  refine V_sipush 73 (143) dX0_wholeLaw_73 (by decide) ?_
                  refine V_callV 76 (ci := 0) [.int _] _ (s_step M.2.1 Γ S118 (F.ss h121.1) _) dX0_wholeLaw_76 cb_X0_step ml_RX0_51 im_yX0_step se_yX0_step ((F.ss h121.1).m 0 (Nat.le_of_ble_eq_true rfl)) ((F.ss h121.1).k 0 0 rfl) (Nat.le_of_ble_eq_true rfl) ⟨(Nat.le_of_ble_eq_true rfl), (Nat.le_of_ble_eq_true rfl)⟩ rfl rfl (Nat.le_of_ble_eq_true rfl) ⟨(Nat.le_of_ble_eq_true rfl), (Nat.le_of_ble_eq_true rfl)⟩ (RI.go (fun r126 S124 q125 => ?_))
                  have h127 : FZ [g + 8, g + 9] [(g, 2), (g, 3), (g, 4), (g, 5), (g, 6), (g, 7), (g + 7, 2)] S S124 := h121.tr (q125.2.sub (by simp) (by simp))
                  refine V_if_eq 79 86 dX0_wholeLaw_79 (by decide) (fun c128 => ?_) (fun c128 => ?_)
                  ·
                    refine V_lvw (by repeat (first | exact trivial | refine ⟨rfl, ?_⟩)) (J58 _ _ h127 (by first | omega | assumption) hb41)
                  ·
                    refine V_iconst 82 (1) dX0_wholeLaw_82 (by decide) ?_
                    refine V_goto 83 87 dX0_wholeLaw_83 (by decide) ?_
                    refine V_istore_1 87 dX0_wholeLaw_87 rfl (Nat.le_of_ble_eq_true rfl) ?_
                    refine V_aload_0 88 dX0_wholeLaw_88 ?_
                    refine V_getR 89 (c := 0) 1 ((F.ss h127.1).r 0 1 7 rfl) dX0_wholeLaw_89 fl_RX0_21 ((F.ss h127.1).m 0 (Nat.le_of_ble_eq_true rfl)) ((F.ss h127.1).k 0 0 rfl) (Nat.le_of_ble_eq_true rfl) (Nat.le_of_ble_eq_true rfl) rfl ?_
                    refine V_iconst 92 (4) dX0_wholeLaw_92 (by decide) ?_
                    refine V_iconst 93 (0) dX0_wholeLaw_93 (by decide) ?_
                    refine V_callV 94 (ci := 2) [.int _, .int _] _ (s_write M.2.1 Γ S124 ((F.ss h127.1).sub 7 lyLaw rfl (by decide)) _ _) dX0_wholeLaw_94 cb_X2_write ml_RX0_83 im_yX2_write se_yX2_write ((F.ss h127.1).m 7 (Nat.le_of_ble_eq_true rfl)) ((F.ss h127.1).k 7 2 rfl) (Nat.le_of_ble_eq_true rfl) ⟨(Nat.le_of_ble_eq_true rfl), (Nat.le_of_ble_eq_true rfl)⟩ rfl rfl (Nat.le_of_ble_eq_true rfl) ⟨(Nat.le_of_ble_eq_true rfl), (Nat.le_of_ble_eq_true rfl)⟩ (RI.go (fun r132 S130 q131 => ?_))
                    have h133 : FZ [g + 8, g + 9] [(g, 2), (g, 3), (g, 4), (g, 5), (g, 6), (g, 7), (g + 7, 2)] S S130 := h127.tr (q131.sub (by simp) (by simp))
                    refine V_istore_3 97 dX0_wholeLaw_97 rfl (Nat.le_of_ble_eq_true rfl) ?_
                    refine V_iload_1 98 dX0_wholeLaw_98 ?_
                    refine V_if_eq 99 124 dX0_wholeLaw_99 (by decide) (fun c134 => ?_) (fun c134 => ?_)
                    ·
                      refine V_lvw (by repeat (first | exact trivial | refine ⟨rfl, ?_⟩)) (J44 _ _ _ h133 (by first | omega | assumption) (Or.inr rfl))
                    ·
                      refine V_aload_0 102 dX0_wholeLaw_102 ?_
                      refine V_iconst 103 (0) dX0_wholeLaw_103 (by decide) ?_
                      refine V_callV 104 (ci := 0) [.int _] _ (s_sum0 M.2.1 Γ S130 (F.ss h133.1) _ rfl) dX0_wholeLaw_104 cb_X0_sum ml_RX0_80 im_yX0_sum se_yX0_sum ((F.ss h133.1).m 0 (Nat.le_of_ble_eq_true rfl)) ((F.ss h133.1).k 0 0 rfl) (Nat.le_of_ble_eq_true rfl) ⟨(Nat.le_of_ble_eq_true rfl), (Nat.le_of_ble_eq_true rfl)⟩ rfl rfl (Nat.le_of_ble_eq_true rfl) ⟨(Nat.le_of_ble_eq_true rfl), (Nat.le_of_ble_eq_true rfl)⟩ (RI.go (fun r138 S136 q137 => ?_))
                      have h139 : FZ [g + 8, g + 9] [(g, 2), (g, 3), (g, 4), (g, 5), (g, 6), (g, 7), (g + 7, 2)] S S136 := h133.tr (q137.2.sub (by simp) (by simp))
                      refine V_if_eq 107 124 dX0_wholeLaw_107 (by decide) (fun c140 => ?_) (fun c140 => ?_)
                      ·
                        refine V_lvw (by repeat (first | exact trivial | refine ⟨rfl, ?_⟩)) (J44 _ _ _ h139 (by first | omega | assumption) (Or.inr rfl))
                      ·
                        refine V_aload_0 110 dX0_wholeLaw_110 ?_
                        refine V_sipush 111 (144) dX0_wholeLaw_111 (by decide) ?_
                        refine V_callV 114 (ci := 0) [.int _] _ (s_step M.2.1 Γ S136 (F.ss h139.1) _) dX0_wholeLaw_114 cb_X0_step ml_RX0_51 im_yX0_step se_yX0_step ((F.ss h139.1).m 0 (Nat.le_of_ble_eq_true rfl)) ((F.ss h139.1).k 0 0 rfl) (Nat.le_of_ble_eq_true rfl) ⟨(Nat.le_of_ble_eq_true rfl), (Nat.le_of_ble_eq_true rfl)⟩ rfl rfl (Nat.le_of_ble_eq_true rfl) ⟨(Nat.le_of_ble_eq_true rfl), (Nat.le_of_ble_eq_true rfl)⟩ (RI.go (fun r144 S142 q143 => ?_))
                        have h145 : FZ [g + 8, g + 9] [(g, 2), (g, 3), (g, 4), (g, 5), (g, 6), (g, 7), (g + 7, 2)] S S142 := h139.tr (q143.2.sub (by simp) (by simp))
                        refine V_if_eq 117 124 dX0_wholeLaw_117 (by decide) (fun c146 => ?_) (fun c146 => ?_)
                        ·
                          refine V_lvw (by repeat (first | exact trivial | refine ⟨rfl, ?_⟩)) (J44 _ _ _ h145 (by first | omega | assumption) (Or.inr rfl))
                        ·
                          refine V_iconst 120 (1) dX0_wholeLaw_120 (by decide) ?_
                          refine V_goto 121 125 dX0_wholeLaw_121 (by decide) ?_
                          refine V_istore_1 125 dX0_wholeLaw_125 rfl (Nat.le_of_ble_eq_true rfl) ?_
                          refine V_aload_0 126 dX0_wholeLaw_126 ?_
                          refine V_getR 127 (c := 0) 1 ((F.ss h145.1).r 0 1 7 rfl) dX0_wholeLaw_127 fl_RX0_21 ((F.ss h145.1).m 0 (Nat.le_of_ble_eq_true rfl)) ((F.ss h145.1).k 0 0 rfl) (Nat.le_of_ble_eq_true rfl) (Nat.le_of_ble_eq_true rfl) rfl ?_
                          refine V_iconst 130 (5) dX0_wholeLaw_130 (by decide) ?_
                          refine V_iconst 131 (0) dX0_wholeLaw_131 (by decide) ?_
                          refine V_callV 132 (ci := 2) [.int _, .int _] _ (s_write M.2.1 Γ S142 ((F.ss h145.1).sub 7 lyLaw rfl (by decide)) _ _) dX0_wholeLaw_132 cb_X2_write ml_RX0_83 im_yX2_write se_yX2_write ((F.ss h145.1).m 7 (Nat.le_of_ble_eq_true rfl)) ((F.ss h145.1).k 7 2 rfl) (Nat.le_of_ble_eq_true rfl) ⟨(Nat.le_of_ble_eq_true rfl), (Nat.le_of_ble_eq_true rfl)⟩ rfl rfl (Nat.le_of_ble_eq_true rfl) ⟨(Nat.le_of_ble_eq_true rfl), (Nat.le_of_ble_eq_true rfl)⟩ (RI.go (fun r150 S148 q149 => ?_))
                          have h151 : FZ [g + 8, g + 9] [(g, 2), (g, 3), (g, 4), (g, 5), (g, 6), (g, 7), (g + 7, 2)] S S148 := h145.tr (q149.sub (by simp) (by simp))
                          refine V_pop 135 dX0_wholeLaw_135 rfl ?_
                          refine V_aload_0 136 dX0_wholeLaw_136 ?_
                          refine V_getR 137 (c := 0) 1 ((F.ss h151.1).r 0 1 7 rfl) dX0_wholeLaw_137 fl_RX0_21 ((F.ss h151.1).m 0 (Nat.le_of_ble_eq_true rfl)) ((F.ss h151.1).k 0 0 rfl) (Nat.le_of_ble_eq_true rfl) (Nat.le_of_ble_eq_true rfl) rfl ?_
                          refine V_iload_3 140 dX0_wholeLaw_140 ?_
                          refine V_callV 141 (ci := 2) [.int _] _ (s_aim M.2.1 Γ S148 ((F.ss h151.1).sub 7 lyLaw rfl (by decide)) _) dX0_wholeLaw_141 cb_X2_aim ml_RX0_87 im_yX2_aim se_yX2_aim ((F.ss h151.1).m 7 (Nat.le_of_ble_eq_true rfl)) ((F.ss h151.1).k 7 2 rfl) (Nat.le_of_ble_eq_true rfl) ⟨(Nat.le_of_ble_eq_true rfl), (Nat.le_of_ble_eq_true rfl)⟩ rfl rfl (Nat.le_of_ble_eq_true rfl) ⟨(Nat.le_of_ble_eq_true rfl), (Nat.le_of_ble_eq_true rfl)⟩ (RV.go (fun S152 q153 => ?_))
                          have h155 : FZ [g + 8, g + 9] [(g, 2), (g, 3), (g, 4), (g, 5), (g, 6), (g, 7), (g + 7, 2)] S S152 := h151.tr (q153.sub (by simp) (by simp))
                          refine V_iinc_2 144 (1) dX0_wholeLaw_144 (by decide) rfl (Nat.le_of_ble_eq_true rfl) ?_
                          refine V_goto 147 11 dX0_wholeLaw_147 (by decide) ?_
                          rw [← nI_succ]
                          refine V_lvw (by repeat (first | exact trivial | refine ⟨rfl, ?_⟩)) (ih36 (i32 + 1, _, _) ⟨by dsimp only; omega, h155, (Or.inr rfl)⟩ (by dsimp only; omega))
set_option maxRecDepth 100000 in
set_option maxHeartbeats 8000000 in
theorem s_gtell (l : Launch) (Γ : GC) (S : PS) {g : Nat} (F : isL lyGrammar Γ.2.2.2.2.1 S g) : CT l Γ yX0_tell cX0_tell 1 (some .boolean) (3) (0) (0) [.ref g] S (RI (fun r S' => (r = 0 ∨ r = 1) ∧ FZ [g + 8, g + 9] [(g, 2), (g, 3), (g, 4), (g, 5), (g, 6), (g, 7), (g + 7, 2)] S S')) := by
  refine CT.of RX0 "tell" [some (.ref g)] (by decide +kernel) rfl rfl (Nat.le_of_ble_eq_true rfl) rfl (fun M hM => ?_)
  subst hM
  have J3 : ∀ (S1 : PS) , FZ [g + 8, g + 9] [(g, 2), (g, 3), (g, 4), (g, 5), (g, 6), (g, 7), (g + 7, 2)] S S1 → V M Γ (1, RX0, "tell", (some .boolean), RM (3) (0) (0)) cX0_tell (RQ M Γ (RI (fun r S' => (r = 0 ∨ r = 1) ∧ FZ [g + 8, g + 9] [(g, 2), (g, 3), (g, 4), (g, 5), (g, 6), (g, 7), (g + 7, 2)] S S')) (0) (0)) 0 0 S1 395 [some (.ref g)] [] := by
    intro S1  h2
    refine V_iconst 395 (0) dX0_tell_395 (by decide) ?_
    refine V_iret 396 .boolean dX0_tell_396 rfl (nrwB (Or.inl rfl)) (Nat.le_of_ble_eq_true rfl) (Nat.le_of_ble_eq_true rfl) (RI.mk ⟨(Or.inl rfl), h2⟩)
  have J6 : ∀ (S4 : PS) , FZ [g + 8, g + 9] [(g, 2), (g, 3), (g, 4), (g, 5), (g, 6), (g, 7), (g + 7, 2)] S S4 → V M Γ (1, RX0, "tell", (some .boolean), RM (3) (0) (0)) cX0_tell (RQ M Γ (RI (fun r S' => (r = 0 ∨ r = 1) ∧ FZ [g + 8, g + 9] [(g, 2), (g, 3), (g, 4), (g, 5), (g, 6), (g, 7), (g + 7, 2)] S S')) (0) (0)) 0 0 S4 362 [some (.ref g)] [] := by
    intro S4  h5
    refine V_iconst 362 (0) dX0_tell_362 (by decide) ?_
    refine V_iret 363 .boolean dX0_tell_363 rfl (nrwB (Or.inl rfl)) (Nat.le_of_ble_eq_true rfl) (Nat.le_of_ble_eq_true rfl) (RI.mk ⟨(Or.inl rfl), h5⟩)
  have J9 : ∀ (S7 : PS) , FZ [g + 8, g + 9] [(g, 2), (g, 3), (g, 4), (g, 5), (g, 6), (g, 7), (g + 7, 2)] S S7 → V M Γ (1, RX0, "tell", (some .boolean), RM (3) (0) (0)) cX0_tell (RQ M Γ (RI (fun r S' => (r = 0 ∨ r = 1) ∧ FZ [g + 8, g + 9] [(g, 2), (g, 3), (g, 4), (g, 5), (g, 6), (g, 7), (g + 7, 2)] S S')) (0) (0)) 0 0 S7 330 [some (.ref g)] [] := by
    intro S7  h8
    refine V_iconst 330 (0) dX0_tell_330 (by decide) ?_
    refine V_iret 331 .boolean dX0_tell_331 rfl (nrwB (Or.inl rfl)) (Nat.le_of_ble_eq_true rfl) (Nat.le_of_ble_eq_true rfl) (RI.mk ⟨(Or.inl rfl), h8⟩)
  have J12 : ∀ (S10 : PS) , FZ [g + 8, g + 9] [(g, 2), (g, 3), (g, 4), (g, 5), (g, 6), (g, 7), (g + 7, 2)] S S10 → V M Γ (1, RX0, "tell", (some .boolean), RM (3) (0) (0)) cX0_tell (RQ M Γ (RI (fun r S' => (r = 0 ∨ r = 1) ∧ FZ [g + 8, g + 9] [(g, 2), (g, 3), (g, 4), (g, 5), (g, 6), (g, 7), (g + 7, 2)] S S')) (0) (0)) 0 0 S10 298 [some (.ref g)] [] := by
    intro S10  h11
    refine V_iconst 298 (0) dX0_tell_298 (by decide) ?_
    refine V_iret 299 .boolean dX0_tell_299 rfl (nrwB (Or.inl rfl)) (Nat.le_of_ble_eq_true rfl) (Nat.le_of_ble_eq_true rfl) (RI.mk ⟨(Or.inl rfl), h11⟩)
  have J15 : ∀ (S13 : PS) , FZ [g + 8, g + 9] [(g, 2), (g, 3), (g, 4), (g, 5), (g, 6), (g, 7), (g + 7, 2)] S S13 → V M Γ (1, RX0, "tell", (some .boolean), RM (3) (0) (0)) cX0_tell (RQ M Γ (RI (fun r S' => (r = 0 ∨ r = 1) ∧ FZ [g + 8, g + 9] [(g, 2), (g, 3), (g, 4), (g, 5), (g, 6), (g, 7), (g + 7, 2)] S S')) (0) (0)) 0 0 S13 265 [some (.ref g)] [] := by
    intro S13  h14
    refine V_iconst 265 (0) dX0_tell_265 (by decide) ?_
    refine V_iret 266 .boolean dX0_tell_266 rfl (nrwB (Or.inl rfl)) (Nat.le_of_ble_eq_true rfl) (Nat.le_of_ble_eq_true rfl) (RI.mk ⟨(Or.inl rfl), h14⟩)
  have J18 : ∀ (S16 : PS) , FZ [g + 8, g + 9] [(g, 2), (g, 3), (g, 4), (g, 5), (g, 6), (g, 7), (g + 7, 2)] S S16 → V M Γ (1, RX0, "tell", (some .boolean), RM (3) (0) (0)) cX0_tell (RQ M Γ (RI (fun r S' => (r = 0 ∨ r = 1) ∧ FZ [g + 8, g + 9] [(g, 2), (g, 3), (g, 4), (g, 5), (g, 6), (g, 7), (g + 7, 2)] S S')) (0) (0)) 0 0 S16 232 [some (.ref g)] [] := by
    intro S16  h17
    refine V_iconst 232 (0) dX0_tell_232 (by decide) ?_
    refine V_iret 233 .boolean dX0_tell_233 rfl (nrwB (Or.inl rfl)) (Nat.le_of_ble_eq_true rfl) (Nat.le_of_ble_eq_true rfl) (RI.mk ⟨(Or.inl rfl), h17⟩)
  have J21 : ∀ (S19 : PS) , FZ [g + 8, g + 9] [(g, 2), (g, 3), (g, 4), (g, 5), (g, 6), (g, 7), (g + 7, 2)] S S19 → V M Γ (1, RX0, "tell", (some .boolean), RM (3) (0) (0)) cX0_tell (RQ M Γ (RI (fun r S' => (r = 0 ∨ r = 1) ∧ FZ [g + 8, g + 9] [(g, 2), (g, 3), (g, 4), (g, 5), (g, 6), (g, 7), (g + 7, 2)] S S')) (0) (0)) 0 0 S19 176 [some (.ref g)] [] := by
    intro S19  h20
    refine V_iconst 176 (0) dX0_tell_176 (by decide) ?_
    refine V_iret 177 .boolean dX0_tell_177 rfl (nrwB (Or.inl rfl)) (Nat.le_of_ble_eq_true rfl) (Nat.le_of_ble_eq_true rfl) (RI.mk ⟨(Or.inl rfl), h20⟩)
  have J24 : ∀ (S22 : PS) , FZ [g + 8, g + 9] [(g, 2), (g, 3), (g, 4), (g, 5), (g, 6), (g, 7), (g + 7, 2)] S S22 → V M Γ (1, RX0, "tell", (some .boolean), RM (3) (0) (0)) cX0_tell (RQ M Γ (RI (fun r S' => (r = 0 ∨ r = 1) ∧ FZ [g + 8, g + 9] [(g, 2), (g, 3), (g, 4), (g, 5), (g, 6), (g, 7), (g + 7, 2)] S S')) (0) (0)) 0 0 S22 119 [some (.ref g)] [] := by
    intro S22  h23
    refine V_iconst 119 (0) dX0_tell_119 (by decide) ?_
    refine V_iret 120 .boolean dX0_tell_120 rfl (nrwB (Or.inl rfl)) (Nat.le_of_ble_eq_true rfl) (Nat.le_of_ble_eq_true rfl) (RI.mk ⟨(Or.inl rfl), h23⟩)
  refine V_aload_0 0 dX0_tell_0 ?_
  refine V_getI 1 (c := 0) 3 dX0_tell_1 fl_RX0_36 (F.m 0 (Nat.le_of_ble_eq_true rfl)) (F.k 0 0 rfl) (Nat.le_of_ble_eq_true rfl) (Nat.le_of_ble_eq_true rfl) rfl ?_
  refine V_tsw (128) (140) (fun q25 => ?_) (fun q25 => ?_)
  ·
    refine V_tableOut 4 397 dX0_tell_4 q25 (by decide) ?_
    refine V_aload_0 397 dX0_tell_397 ?_
    refine V_iconst 398 (1) dX0_tell_398 (by decide) ?_
    refine V_callV 399 (ci := 0) [.int _] _ (s_gfail M.2.1 Γ S F _) dX0_tell_399 cb_X0_fail ml_RX0_74 im_yX0_fail se_yX0_fail (F.m 0 (Nat.le_of_ble_eq_true rfl)) (F.k 0 0 rfl) (Nat.le_of_ble_eq_true rfl) ⟨(Nat.le_of_ble_eq_true rfl), (Nat.le_of_ble_eq_true rfl)⟩ rfl rfl (Nat.le_of_ble_eq_true rfl) ⟨(Nat.le_of_ble_eq_true rfl), (Nat.le_of_ble_eq_true rfl)⟩ (RI.go (fun r28 S26 q27 => ?_))
    have h29 : FZ [g + 8, g + 9] [(g, 2), (g, 3), (g, 4), (g, 5), (g, 6), (g, 7), (g + 7, 2)] S S26 := (FZ.rf (X := [g + 8, g + 9]) (Y := [(g, 2), (g, 3), (g, 4), (g, 5), (g, 6), (g, 7), (g + 7, 2)]) (S := S)).tr (q27.2.sub (by simp) (by simp))
    refine V_iret 402 .boolean dX0_tell_402 rfl (nrwB q27.1) (Nat.le_of_ble_eq_true rfl) (Nat.le_of_ble_eq_true rfl) (RI.mk ⟨q27.1, h29⟩)
  refine V_teq (128) (fun e30 => ?_) (fun e30 => ?_)
  ·
    refine V_tableIn 4 72 (off := 68) dX0_tell_4 (by omega) (by omega) (by rw [e30]; rfl) (by decide) ?_
    refine V_aload_0 72 dX0_tell_72 ?_
    refine V_iconst 73 (1) dX0_tell_73 (by decide) ?_
    refine V_callV 74 (ci := 0) [.int _] _ (s_addKinds M.2.1 Γ S F _) dX0_tell_74 cb_X0_addKinds ml_RX0_62 im_yX0_addKinds se_yX0_addKinds (F.m 0 (Nat.le_of_ble_eq_true rfl)) (F.k 0 0 rfl) (Nat.le_of_ble_eq_true rfl) ⟨(Nat.le_of_ble_eq_true rfl), (Nat.le_of_ble_eq_true rfl)⟩ rfl rfl (Nat.le_of_ble_eq_true rfl) ⟨(Nat.le_of_ble_eq_true rfl), (Nat.le_of_ble_eq_true rfl)⟩ (RI.go (fun r33 S31 q32 => ?_))
    have h34 : FZ [g + 8, g + 9] [(g, 2), (g, 3), (g, 4), (g, 5), (g, 6), (g, 7), (g + 7, 2)] S S31 := (FZ.rf (X := [g + 8, g + 9]) (Y := [(g, 2), (g, 3), (g, 4), (g, 5), (g, 6), (g, 7), (g + 7, 2)]) (S := S)).tr (q32.2.sub (by simp) (by simp))
    refine V_if_eq 77 119 dX0_tell_77 (by decide) (fun c35 => ?_) (fun c35 => ?_)
    ·
      refine V_lvw (by repeat (first | exact trivial | refine ⟨rfl, ?_⟩)) (J24 _ h34)
    ·
      refine V_aload_0 80 dX0_tell_80 ?_
      refine V_sipush 81 (128) dX0_tell_81 (by decide) ?_
      refine V_callV 84 (ci := 0) [.int _] _ (s_step M.2.1 Γ S31 (F.ss h34.1) _) dX0_tell_84 cb_X0_step ml_RX0_51 im_yX0_step se_yX0_step ((F.ss h34.1).m 0 (Nat.le_of_ble_eq_true rfl)) ((F.ss h34.1).k 0 0 rfl) (Nat.le_of_ble_eq_true rfl) ⟨(Nat.le_of_ble_eq_true rfl), (Nat.le_of_ble_eq_true rfl)⟩ rfl rfl (Nat.le_of_ble_eq_true rfl) ⟨(Nat.le_of_ble_eq_true rfl), (Nat.le_of_ble_eq_true rfl)⟩ (RI.go (fun r39 S37 q38 => ?_))
      have h40 : FZ [g + 8, g + 9] [(g, 2), (g, 3), (g, 4), (g, 5), (g, 6), (g, 7), (g + 7, 2)] S S37 := h34.tr (q38.2.sub (by simp) (by simp))
      refine V_if_eq 87 119 dX0_tell_87 (by decide) (fun c41 => ?_) (fun c41 => ?_)
      ·
        refine V_lvw (by repeat (first | exact trivial | refine ⟨rfl, ?_⟩)) (J24 _ h40)
      ·
        refine V_aload_0 90 dX0_tell_90 ?_
        refine V_iconst 91 (1) dX0_tell_91 (by decide) ?_
        refine V_callV 92 (ci := 0) [.int _] _ (s_step M.2.1 Γ S37 (F.ss h40.1) _) dX0_tell_92 cb_X0_step ml_RX0_51 im_yX0_step se_yX0_step ((F.ss h40.1).m 0 (Nat.le_of_ble_eq_true rfl)) ((F.ss h40.1).k 0 0 rfl) (Nat.le_of_ble_eq_true rfl) ⟨(Nat.le_of_ble_eq_true rfl), (Nat.le_of_ble_eq_true rfl)⟩ rfl rfl (Nat.le_of_ble_eq_true rfl) ⟨(Nat.le_of_ble_eq_true rfl), (Nat.le_of_ble_eq_true rfl)⟩ (RI.go (fun r45 S43 q44 => ?_))
        have h46 : FZ [g + 8, g + 9] [(g, 2), (g, 3), (g, 4), (g, 5), (g, 6), (g, 7), (g + 7, 2)] S S43 := h40.tr (q44.2.sub (by simp) (by simp))
        refine V_if_eq 95 119 dX0_tell_95 (by decide) (fun c47 => ?_) (fun c47 => ?_)
        ·
          refine V_lvw (by repeat (first | exact trivial | refine ⟨rfl, ?_⟩)) (J24 _ h46)
        ·
          refine V_aload_0 98 dX0_tell_98 ?_
          refine V_iconst 99 (2) dX0_tell_99 (by decide) ?_
          refine V_callV 100 (ci := 0) [.int _] _ (s_step M.2.1 Γ S43 (F.ss h46.1) _) dX0_tell_100 cb_X0_step ml_RX0_51 im_yX0_step se_yX0_step ((F.ss h46.1).m 0 (Nat.le_of_ble_eq_true rfl)) ((F.ss h46.1).k 0 0 rfl) (Nat.le_of_ble_eq_true rfl) ⟨(Nat.le_of_ble_eq_true rfl), (Nat.le_of_ble_eq_true rfl)⟩ rfl rfl (Nat.le_of_ble_eq_true rfl) ⟨(Nat.le_of_ble_eq_true rfl), (Nat.le_of_ble_eq_true rfl)⟩ (RI.go (fun r51 S49 q50 => ?_))
          have h52 : FZ [g + 8, g + 9] [(g, 2), (g, 3), (g, 4), (g, 5), (g, 6), (g, 7), (g + 7, 2)] S S49 := h46.tr (q50.2.sub (by simp) (by simp))
          refine V_if_eq 103 119 dX0_tell_103 (by decide) (fun c53 => ?_) (fun c53 => ?_)
          ·
            refine V_lvw (by repeat (first | exact trivial | refine ⟨rfl, ?_⟩)) (J24 _ h52)
          ·
            refine V_aload_0 106 dX0_tell_106 ?_
            refine V_bipush 107 (59) dX0_tell_107 (by decide) ?_
            refine V_callV 109 (ci := 0) [.int _] _ (s_step M.2.1 Γ S49 (F.ss h52.1) _) dX0_tell_109 cb_X0_step ml_RX0_51 im_yX0_step se_yX0_step ((F.ss h52.1).m 0 (Nat.le_of_ble_eq_true rfl)) ((F.ss h52.1).k 0 0 rfl) (Nat.le_of_ble_eq_true rfl) ⟨(Nat.le_of_ble_eq_true rfl), (Nat.le_of_ble_eq_true rfl)⟩ rfl rfl (Nat.le_of_ble_eq_true rfl) ⟨(Nat.le_of_ble_eq_true rfl), (Nat.le_of_ble_eq_true rfl)⟩ (RI.go (fun r57 S55 q56 => ?_))
            have h58 : FZ [g + 8, g + 9] [(g, 2), (g, 3), (g, 4), (g, 5), (g, 6), (g, 7), (g + 7, 2)] S S55 := h52.tr (q56.2.sub (by simp) (by simp))
            refine V_if_eq 112 119 dX0_tell_112 (by decide) (fun c59 => ?_) (fun c59 => ?_)
            ·
              refine V_lvw (by repeat (first | exact trivial | refine ⟨rfl, ?_⟩)) (J24 _ h58)
            ·
              refine V_iconst 115 (1) dX0_tell_115 (by decide) ?_
              refine V_goto 116 120 dX0_tell_116 (by decide) ?_
              refine V_iret 120 .boolean dX0_tell_120 rfl (nrwB (Or.inr rfl)) (Nat.le_of_ble_eq_true rfl) (Nat.le_of_ble_eq_true rfl) (RI.mk ⟨(Or.inr rfl), h58⟩)
  refine V_teq (129) (fun e61 => ?_) (fun e61 => ?_)
  ·
    refine V_tableIn 4 121 (off := 117) dX0_tell_4 (by omega) (by omega) (by rw [e61]; rfl) (by decide) ?_
    refine V_aload_0 121 dX0_tell_121 ?_
    refine V_iconst 122 (2) dX0_tell_122 (by decide) ?_
    refine V_callV 123 (ci := 0) [.int _] _ (s_addKinds M.2.1 Γ S F _) dX0_tell_123 cb_X0_addKinds ml_RX0_62 im_yX0_addKinds se_yX0_addKinds (F.m 0 (Nat.le_of_ble_eq_true rfl)) (F.k 0 0 rfl) (Nat.le_of_ble_eq_true rfl) ⟨(Nat.le_of_ble_eq_true rfl), (Nat.le_of_ble_eq_true rfl)⟩ rfl rfl (Nat.le_of_ble_eq_true rfl) ⟨(Nat.le_of_ble_eq_true rfl), (Nat.le_of_ble_eq_true rfl)⟩ (RI.go (fun r64 S62 q63 => ?_))
    have h65 : FZ [g + 8, g + 9] [(g, 2), (g, 3), (g, 4), (g, 5), (g, 6), (g, 7), (g + 7, 2)] S S62 := (FZ.rf (X := [g + 8, g + 9]) (Y := [(g, 2), (g, 3), (g, 4), (g, 5), (g, 6), (g, 7), (g + 7, 2)]) (S := S)).tr (q63.2.sub (by simp) (by simp))
    refine V_if_eq 126 176 dX0_tell_126 (by decide) (fun c66 => ?_) (fun c66 => ?_)
    ·
      refine V_lvw (by repeat (first | exact trivial | refine ⟨rfl, ?_⟩)) (J21 _ h65)
    ·
      refine V_aload_0 129 dX0_tell_129 ?_
      refine V_sipush 130 (129) dX0_tell_130 (by decide) ?_
      refine V_callV 133 (ci := 0) [.int _] _ (s_step M.2.1 Γ S62 (F.ss h65.1) _) dX0_tell_133 cb_X0_step ml_RX0_51 im_yX0_step se_yX0_step ((F.ss h65.1).m 0 (Nat.le_of_ble_eq_true rfl)) ((F.ss h65.1).k 0 0 rfl) (Nat.le_of_ble_eq_true rfl) ⟨(Nat.le_of_ble_eq_true rfl), (Nat.le_of_ble_eq_true rfl)⟩ rfl rfl (Nat.le_of_ble_eq_true rfl) ⟨(Nat.le_of_ble_eq_true rfl), (Nat.le_of_ble_eq_true rfl)⟩ (RI.go (fun r70 S68 q69 => ?_))
      have h71 : FZ [g + 8, g + 9] [(g, 2), (g, 3), (g, 4), (g, 5), (g, 6), (g, 7), (g + 7, 2)] S S68 := h65.tr (q69.2.sub (by simp) (by simp))
      refine V_if_eq 136 176 dX0_tell_136 (by decide) (fun c72 => ?_) (fun c72 => ?_)
      ·
        refine V_lvw (by repeat (first | exact trivial | refine ⟨rfl, ?_⟩)) (J21 _ h71)
      ·
        refine V_aload_0 139 dX0_tell_139 ?_
        refine V_iconst 140 (1) dX0_tell_140 (by decide) ?_
        refine V_callV 141 (ci := 0) [.int _] _ (s_step M.2.1 Γ S68 (F.ss h71.1) _) dX0_tell_141 cb_X0_step ml_RX0_51 im_yX0_step se_yX0_step ((F.ss h71.1).m 0 (Nat.le_of_ble_eq_true rfl)) ((F.ss h71.1).k 0 0 rfl) (Nat.le_of_ble_eq_true rfl) ⟨(Nat.le_of_ble_eq_true rfl), (Nat.le_of_ble_eq_true rfl)⟩ rfl rfl (Nat.le_of_ble_eq_true rfl) ⟨(Nat.le_of_ble_eq_true rfl), (Nat.le_of_ble_eq_true rfl)⟩ (RI.go (fun r76 S74 q75 => ?_))
        have h77 : FZ [g + 8, g + 9] [(g, 2), (g, 3), (g, 4), (g, 5), (g, 6), (g, 7), (g + 7, 2)] S S74 := h71.tr (q75.2.sub (by simp) (by simp))
        refine V_if_eq 144 176 dX0_tell_144 (by decide) (fun c78 => ?_) (fun c78 => ?_)
        ·
          refine V_lvw (by repeat (first | exact trivial | refine ⟨rfl, ?_⟩)) (J21 _ h77)
        ·
          refine V_aload_0 147 dX0_tell_147 ?_
          refine V_iconst 148 (2) dX0_tell_148 (by decide) ?_
          refine V_callV 149 (ci := 0) [.int _] _ (s_step M.2.1 Γ S74 (F.ss h77.1) _) dX0_tell_149 cb_X0_step ml_RX0_51 im_yX0_step se_yX0_step ((F.ss h77.1).m 0 (Nat.le_of_ble_eq_true rfl)) ((F.ss h77.1).k 0 0 rfl) (Nat.le_of_ble_eq_true rfl) ⟨(Nat.le_of_ble_eq_true rfl), (Nat.le_of_ble_eq_true rfl)⟩ rfl rfl (Nat.le_of_ble_eq_true rfl) ⟨(Nat.le_of_ble_eq_true rfl), (Nat.le_of_ble_eq_true rfl)⟩ (RI.go (fun r82 S80 q81 => ?_))
          have h83 : FZ [g + 8, g + 9] [(g, 2), (g, 3), (g, 4), (g, 5), (g, 6), (g, 7), (g + 7, 2)] S S80 := h77.tr (q81.2.sub (by simp) (by simp))
          refine V_if_eq 152 176 dX0_tell_152 (by decide) (fun c84 => ?_) (fun c84 => ?_)
          ·
            refine V_lvw (by repeat (first | exact trivial | refine ⟨rfl, ?_⟩)) (J21 _ h83)
          ·
            refine V_aload_0 155 dX0_tell_155 ?_
            refine V_iconst 156 (2) dX0_tell_156 (by decide) ?_
            refine V_callV 157 (ci := 0) [.int _] _ (s_step M.2.1 Γ S80 (F.ss h83.1) _) dX0_tell_157 cb_X0_step ml_RX0_51 im_yX0_step se_yX0_step ((F.ss h83.1).m 0 (Nat.le_of_ble_eq_true rfl)) ((F.ss h83.1).k 0 0 rfl) (Nat.le_of_ble_eq_true rfl) ⟨(Nat.le_of_ble_eq_true rfl), (Nat.le_of_ble_eq_true rfl)⟩ rfl rfl (Nat.le_of_ble_eq_true rfl) ⟨(Nat.le_of_ble_eq_true rfl), (Nat.le_of_ble_eq_true rfl)⟩ (RI.go (fun r88 S86 q87 => ?_))
            have h89 : FZ [g + 8, g + 9] [(g, 2), (g, 3), (g, 4), (g, 5), (g, 6), (g, 7), (g + 7, 2)] S S86 := h83.tr (q87.2.sub (by simp) (by simp))
            refine V_if_eq 160 176 dX0_tell_160 (by decide) (fun c90 => ?_) (fun c90 => ?_)
            ·
              refine V_lvw (by repeat (first | exact trivial | refine ⟨rfl, ?_⟩)) (J21 _ h89)
            ·
              refine V_aload_0 163 dX0_tell_163 ?_
              refine V_bipush 164 (59) dX0_tell_164 (by decide) ?_
              refine V_callV 166 (ci := 0) [.int _] _ (s_step M.2.1 Γ S86 (F.ss h89.1) _) dX0_tell_166 cb_X0_step ml_RX0_51 im_yX0_step se_yX0_step ((F.ss h89.1).m 0 (Nat.le_of_ble_eq_true rfl)) ((F.ss h89.1).k 0 0 rfl) (Nat.le_of_ble_eq_true rfl) ⟨(Nat.le_of_ble_eq_true rfl), (Nat.le_of_ble_eq_true rfl)⟩ rfl rfl (Nat.le_of_ble_eq_true rfl) ⟨(Nat.le_of_ble_eq_true rfl), (Nat.le_of_ble_eq_true rfl)⟩ (RI.go (fun r94 S92 q93 => ?_))
              have h95 : FZ [g + 8, g + 9] [(g, 2), (g, 3), (g, 4), (g, 5), (g, 6), (g, 7), (g + 7, 2)] S S92 := h89.tr (q93.2.sub (by simp) (by simp))
              refine V_if_eq 169 176 dX0_tell_169 (by decide) (fun c96 => ?_) (fun c96 => ?_)
              ·
                refine V_lvw (by repeat (first | exact trivial | refine ⟨rfl, ?_⟩)) (J21 _ h95)
              ·
                refine V_iconst 172 (1) dX0_tell_172 (by decide) ?_
                refine V_goto 173 177 dX0_tell_173 (by decide) ?_
                refine V_iret 177 .boolean dX0_tell_177 rfl (nrwB (Or.inr rfl)) (Nat.le_of_ble_eq_true rfl) (Nat.le_of_ble_eq_true rfl) (RI.mk ⟨(Or.inr rfl), h95⟩)
  refine V_teq (130) (fun e98 => ?_) (fun e98 => ?_)
  ·
    refine V_tableIn 4 178 (off := 174) dX0_tell_4 (by omega) (by omega) (by rw [e98]; rfl) (by decide) ?_
    refine V_aload_0 178 dX0_tell_178 ?_
    refine V_callV 179 (ci := 0) [] _ (s_addLike M.2.1 Γ S F) dX0_tell_179 cb_X0_addLike ml_RX0_65 im_yX0_addLike se_yX0_addLike (F.m 0 (Nat.le_of_ble_eq_true rfl)) (F.k 0 0 rfl) (Nat.le_of_ble_eq_true rfl) ⟨(Nat.le_of_ble_eq_true rfl), (Nat.le_of_ble_eq_true rfl)⟩ rfl rfl (Nat.le_of_ble_eq_true rfl) ⟨(Nat.le_of_ble_eq_true rfl), (Nat.le_of_ble_eq_true rfl)⟩ (RI.go (fun r101 S99 q100 => ?_))
    have h102 : FZ [g + 8, g + 9] [(g, 2), (g, 3), (g, 4), (g, 5), (g, 6), (g, 7), (g + 7, 2)] S S99 := (FZ.rf (X := [g + 8, g + 9]) (Y := [(g, 2), (g, 3), (g, 4), (g, 5), (g, 6), (g, 7), (g + 7, 2)]) (S := S)).tr (q100.2.sub (by simp) (by simp))
    refine V_if_eq 182 232 dX0_tell_182 (by decide) (fun c103 => ?_) (fun c103 => ?_)
    ·
      refine V_lvw (by repeat (first | exact trivial | refine ⟨rfl, ?_⟩)) (J18 _ h102)
    ·
      refine V_aload_0 185 dX0_tell_185 ?_
      refine V_sipush 186 (130) dX0_tell_186 (by decide) ?_
      refine V_callV 189 (ci := 0) [.int _] _ (s_step M.2.1 Γ S99 (F.ss h102.1) _) dX0_tell_189 cb_X0_step ml_RX0_51 im_yX0_step se_yX0_step ((F.ss h102.1).m 0 (Nat.le_of_ble_eq_true rfl)) ((F.ss h102.1).k 0 0 rfl) (Nat.le_of_ble_eq_true rfl) ⟨(Nat.le_of_ble_eq_true rfl), (Nat.le_of_ble_eq_true rfl)⟩ rfl rfl (Nat.le_of_ble_eq_true rfl) ⟨(Nat.le_of_ble_eq_true rfl), (Nat.le_of_ble_eq_true rfl)⟩ (RI.go (fun r107 S105 q106 => ?_))
      have h108 : FZ [g + 8, g + 9] [(g, 2), (g, 3), (g, 4), (g, 5), (g, 6), (g, 7), (g + 7, 2)] S S105 := h102.tr (q106.2.sub (by simp) (by simp))
      refine V_if_eq 192 232 dX0_tell_192 (by decide) (fun c109 => ?_) (fun c109 => ?_)
      ·
        refine V_lvw (by repeat (first | exact trivial | refine ⟨rfl, ?_⟩)) (J18 _ h108)
      ·
        refine V_aload_0 195 dX0_tell_195 ?_
        refine V_iconst 196 (1) dX0_tell_196 (by decide) ?_
        refine V_callV 197 (ci := 0) [.int _] _ (s_step M.2.1 Γ S105 (F.ss h108.1) _) dX0_tell_197 cb_X0_step ml_RX0_51 im_yX0_step se_yX0_step ((F.ss h108.1).m 0 (Nat.le_of_ble_eq_true rfl)) ((F.ss h108.1).k 0 0 rfl) (Nat.le_of_ble_eq_true rfl) ⟨(Nat.le_of_ble_eq_true rfl), (Nat.le_of_ble_eq_true rfl)⟩ rfl rfl (Nat.le_of_ble_eq_true rfl) ⟨(Nat.le_of_ble_eq_true rfl), (Nat.le_of_ble_eq_true rfl)⟩ (RI.go (fun r113 S111 q112 => ?_))
        have h114 : FZ [g + 8, g + 9] [(g, 2), (g, 3), (g, 4), (g, 5), (g, 6), (g, 7), (g + 7, 2)] S S111 := h108.tr (q112.2.sub (by simp) (by simp))
        refine V_if_eq 200 232 dX0_tell_200 (by decide) (fun c115 => ?_) (fun c115 => ?_)
        ·
          refine V_lvw (by repeat (first | exact trivial | refine ⟨rfl, ?_⟩)) (J18 _ h114)
        ·
          refine V_aload_0 203 dX0_tell_203 ?_
          refine V_iconst 204 (1) dX0_tell_204 (by decide) ?_
          refine V_callV 205 (ci := 0) [.int _] _ (s_step M.2.1 Γ S111 (F.ss h114.1) _) dX0_tell_205 cb_X0_step ml_RX0_51 im_yX0_step se_yX0_step ((F.ss h114.1).m 0 (Nat.le_of_ble_eq_true rfl)) ((F.ss h114.1).k 0 0 rfl) (Nat.le_of_ble_eq_true rfl) ⟨(Nat.le_of_ble_eq_true rfl), (Nat.le_of_ble_eq_true rfl)⟩ rfl rfl (Nat.le_of_ble_eq_true rfl) ⟨(Nat.le_of_ble_eq_true rfl), (Nat.le_of_ble_eq_true rfl)⟩ (RI.go (fun r119 S117 q118 => ?_))
          have h120 : FZ [g + 8, g + 9] [(g, 2), (g, 3), (g, 4), (g, 5), (g, 6), (g, 7), (g + 7, 2)] S S117 := h114.tr (q118.2.sub (by simp) (by simp))
          refine V_if_eq 208 232 dX0_tell_208 (by decide) (fun c121 => ?_) (fun c121 => ?_)
          ·
            refine V_lvw (by repeat (first | exact trivial | refine ⟨rfl, ?_⟩)) (J18 _ h120)
          ·
            refine V_aload_0 211 dX0_tell_211 ?_
            refine V_iconst 212 (2) dX0_tell_212 (by decide) ?_
            refine V_callV 213 (ci := 0) [.int _] _ (s_step M.2.1 Γ S117 (F.ss h120.1) _) dX0_tell_213 cb_X0_step ml_RX0_51 im_yX0_step se_yX0_step ((F.ss h120.1).m 0 (Nat.le_of_ble_eq_true rfl)) ((F.ss h120.1).k 0 0 rfl) (Nat.le_of_ble_eq_true rfl) ⟨(Nat.le_of_ble_eq_true rfl), (Nat.le_of_ble_eq_true rfl)⟩ rfl rfl (Nat.le_of_ble_eq_true rfl) ⟨(Nat.le_of_ble_eq_true rfl), (Nat.le_of_ble_eq_true rfl)⟩ (RI.go (fun r125 S123 q124 => ?_))
            have h126 : FZ [g + 8, g + 9] [(g, 2), (g, 3), (g, 4), (g, 5), (g, 6), (g, 7), (g + 7, 2)] S S123 := h120.tr (q124.2.sub (by simp) (by simp))
            refine V_if_eq 216 232 dX0_tell_216 (by decide) (fun c127 => ?_) (fun c127 => ?_)
            ·
              refine V_lvw (by repeat (first | exact trivial | refine ⟨rfl, ?_⟩)) (J18 _ h126)
            ·
              refine V_aload_0 219 dX0_tell_219 ?_
              refine V_bipush 220 (59) dX0_tell_220 (by decide) ?_
              refine V_callV 222 (ci := 0) [.int _] _ (s_step M.2.1 Γ S123 (F.ss h126.1) _) dX0_tell_222 cb_X0_step ml_RX0_51 im_yX0_step se_yX0_step ((F.ss h126.1).m 0 (Nat.le_of_ble_eq_true rfl)) ((F.ss h126.1).k 0 0 rfl) (Nat.le_of_ble_eq_true rfl) ⟨(Nat.le_of_ble_eq_true rfl), (Nat.le_of_ble_eq_true rfl)⟩ rfl rfl (Nat.le_of_ble_eq_true rfl) ⟨(Nat.le_of_ble_eq_true rfl), (Nat.le_of_ble_eq_true rfl)⟩ (RI.go (fun r131 S129 q130 => ?_))
              have h132 : FZ [g + 8, g + 9] [(g, 2), (g, 3), (g, 4), (g, 5), (g, 6), (g, 7), (g + 7, 2)] S S129 := h126.tr (q130.2.sub (by simp) (by simp))
              refine V_if_eq 225 232 dX0_tell_225 (by decide) (fun c133 => ?_) (fun c133 => ?_)
              ·
                refine V_lvw (by repeat (first | exact trivial | refine ⟨rfl, ?_⟩)) (J18 _ h132)
              ·
                refine V_iconst 228 (1) dX0_tell_228 (by decide) ?_
                refine V_goto 229 233 dX0_tell_229 (by decide) ?_
                refine V_iret 233 .boolean dX0_tell_233 rfl (nrwB (Or.inr rfl)) (Nat.le_of_ble_eq_true rfl) (Nat.le_of_ble_eq_true rfl) (RI.mk ⟨(Or.inr rfl), h132⟩)
  refine V_teq (131) (fun e135 => ?_) (fun e135 => ?_)
  ·
    refine V_tableIn 4 234 (off := 230) dX0_tell_4 (by omega) (by omega) (by rw [e135]; rfl) (by decide) ?_
    refine V_aload_0 234 dX0_tell_234 ?_
    refine V_sipush 235 (131) dX0_tell_235 (by decide) ?_
    refine V_callV 238 (ci := 0) [.int _] _ (s_step M.2.1 Γ S F _) dX0_tell_238 cb_X0_step ml_RX0_51 im_yX0_step se_yX0_step (F.m 0 (Nat.le_of_ble_eq_true rfl)) (F.k 0 0 rfl) (Nat.le_of_ble_eq_true rfl) ⟨(Nat.le_of_ble_eq_true rfl), (Nat.le_of_ble_eq_true rfl)⟩ rfl rfl (Nat.le_of_ble_eq_true rfl) ⟨(Nat.le_of_ble_eq_true rfl), (Nat.le_of_ble_eq_true rfl)⟩ (RI.go (fun r138 S136 q137 => ?_))
    have h139 : FZ [g + 8, g + 9] [(g, 2), (g, 3), (g, 4), (g, 5), (g, 6), (g, 7), (g + 7, 2)] S S136 := (FZ.rf (X := [g + 8, g + 9]) (Y := [(g, 2), (g, 3), (g, 4), (g, 5), (g, 6), (g, 7), (g + 7, 2)]) (S := S)).tr (q137.2.sub (by simp) (by simp))
    refine V_if_eq 241 265 dX0_tell_241 (by decide) (fun c140 => ?_) (fun c140 => ?_)
    ·
      refine V_lvw (by repeat (first | exact trivial | refine ⟨rfl, ?_⟩)) (J15 _ h139)
    ·
      refine V_aload_0 244 dX0_tell_244 ?_
      refine V_iconst 245 (2) dX0_tell_245 (by decide) ?_
      refine V_callV 246 (ci := 0) [.int _] _ (s_step M.2.1 Γ S136 (F.ss h139.1) _) dX0_tell_246 cb_X0_step ml_RX0_51 im_yX0_step se_yX0_step ((F.ss h139.1).m 0 (Nat.le_of_ble_eq_true rfl)) ((F.ss h139.1).k 0 0 rfl) (Nat.le_of_ble_eq_true rfl) ⟨(Nat.le_of_ble_eq_true rfl), (Nat.le_of_ble_eq_true rfl)⟩ rfl rfl (Nat.le_of_ble_eq_true rfl) ⟨(Nat.le_of_ble_eq_true rfl), (Nat.le_of_ble_eq_true rfl)⟩ (RI.go (fun r144 S142 q143 => ?_))
      have h145 : FZ [g + 8, g + 9] [(g, 2), (g, 3), (g, 4), (g, 5), (g, 6), (g, 7), (g + 7, 2)] S S142 := h139.tr (q143.2.sub (by simp) (by simp))
      refine V_if_eq 249 265 dX0_tell_249 (by decide) (fun c146 => ?_) (fun c146 => ?_)
      ·
        refine V_lvw (by repeat (first | exact trivial | refine ⟨rfl, ?_⟩)) (J15 _ h145)
      ·
        refine V_aload_0 252 dX0_tell_252 ?_
        refine V_bipush 253 (59) dX0_tell_253 (by decide) ?_
        refine V_callV 255 (ci := 0) [.int _] _ (s_step M.2.1 Γ S142 (F.ss h145.1) _) dX0_tell_255 cb_X0_step ml_RX0_51 im_yX0_step se_yX0_step ((F.ss h145.1).m 0 (Nat.le_of_ble_eq_true rfl)) ((F.ss h145.1).k 0 0 rfl) (Nat.le_of_ble_eq_true rfl) ⟨(Nat.le_of_ble_eq_true rfl), (Nat.le_of_ble_eq_true rfl)⟩ rfl rfl (Nat.le_of_ble_eq_true rfl) ⟨(Nat.le_of_ble_eq_true rfl), (Nat.le_of_ble_eq_true rfl)⟩ (RI.go (fun r150 S148 q149 => ?_))
        have h151 : FZ [g + 8, g + 9] [(g, 2), (g, 3), (g, 4), (g, 5), (g, 6), (g, 7), (g + 7, 2)] S S148 := h145.tr (q149.2.sub (by simp) (by simp))
        refine V_if_eq 258 265 dX0_tell_258 (by decide) (fun c152 => ?_) (fun c152 => ?_)
        ·
          refine V_lvw (by repeat (first | exact trivial | refine ⟨rfl, ?_⟩)) (J15 _ h151)
        ·
          refine V_iconst 261 (1) dX0_tell_261 (by decide) ?_
          refine V_goto 262 266 dX0_tell_262 (by decide) ?_
          refine V_iret 266 .boolean dX0_tell_266 rfl (nrwB (Or.inr rfl)) (Nat.le_of_ble_eq_true rfl) (Nat.le_of_ble_eq_true rfl) (RI.mk ⟨(Or.inr rfl), h151⟩)
  refine V_teq (132) (fun e154 => ?_) (fun e154 => ?_)
  ·
    refine V_tableIn 4 267 (off := 263) dX0_tell_4 (by omega) (by omega) (by rw [e154]; rfl) (by decide) ?_
    refine V_aload_0 267 dX0_tell_267 ?_
    refine V_sipush 268 (132) dX0_tell_268 (by decide) ?_
    refine V_callV 271 (ci := 0) [.int _] _ (s_step M.2.1 Γ S F _) dX0_tell_271 cb_X0_step ml_RX0_51 im_yX0_step se_yX0_step (F.m 0 (Nat.le_of_ble_eq_true rfl)) (F.k 0 0 rfl) (Nat.le_of_ble_eq_true rfl) ⟨(Nat.le_of_ble_eq_true rfl), (Nat.le_of_ble_eq_true rfl)⟩ rfl rfl (Nat.le_of_ble_eq_true rfl) ⟨(Nat.le_of_ble_eq_true rfl), (Nat.le_of_ble_eq_true rfl)⟩ (RI.go (fun r157 S155 q156 => ?_))
    have h158 : FZ [g + 8, g + 9] [(g, 2), (g, 3), (g, 4), (g, 5), (g, 6), (g, 7), (g + 7, 2)] S S155 := (FZ.rf (X := [g + 8, g + 9]) (Y := [(g, 2), (g, 3), (g, 4), (g, 5), (g, 6), (g, 7), (g + 7, 2)]) (S := S)).tr (q156.2.sub (by simp) (by simp))
    refine V_if_eq 274 298 dX0_tell_274 (by decide) (fun c159 => ?_) (fun c159 => ?_)
    ·
      refine V_lvw (by repeat (first | exact trivial | refine ⟨rfl, ?_⟩)) (J12 _ h158)
    ·
      refine V_aload_0 277 dX0_tell_277 ?_
      refine V_iconst 278 (2) dX0_tell_278 (by decide) ?_
      refine V_callV 279 (ci := 0) [.int _] _ (s_step M.2.1 Γ S155 (F.ss h158.1) _) dX0_tell_279 cb_X0_step ml_RX0_51 im_yX0_step se_yX0_step ((F.ss h158.1).m 0 (Nat.le_of_ble_eq_true rfl)) ((F.ss h158.1).k 0 0 rfl) (Nat.le_of_ble_eq_true rfl) ⟨(Nat.le_of_ble_eq_true rfl), (Nat.le_of_ble_eq_true rfl)⟩ rfl rfl (Nat.le_of_ble_eq_true rfl) ⟨(Nat.le_of_ble_eq_true rfl), (Nat.le_of_ble_eq_true rfl)⟩ (RI.go (fun r163 S161 q162 => ?_))
      have h164 : FZ [g + 8, g + 9] [(g, 2), (g, 3), (g, 4), (g, 5), (g, 6), (g, 7), (g + 7, 2)] S S161 := h158.tr (q162.2.sub (by simp) (by simp))
      refine V_if_eq 282 298 dX0_tell_282 (by decide) (fun c165 => ?_) (fun c165 => ?_)
      ·
        refine V_lvw (by repeat (first | exact trivial | refine ⟨rfl, ?_⟩)) (J12 _ h164)
      ·
        refine V_aload_0 285 dX0_tell_285 ?_
        refine V_bipush 286 (59) dX0_tell_286 (by decide) ?_
        refine V_callV 288 (ci := 0) [.int _] _ (s_step M.2.1 Γ S161 (F.ss h164.1) _) dX0_tell_288 cb_X0_step ml_RX0_51 im_yX0_step se_yX0_step ((F.ss h164.1).m 0 (Nat.le_of_ble_eq_true rfl)) ((F.ss h164.1).k 0 0 rfl) (Nat.le_of_ble_eq_true rfl) ⟨(Nat.le_of_ble_eq_true rfl), (Nat.le_of_ble_eq_true rfl)⟩ rfl rfl (Nat.le_of_ble_eq_true rfl) ⟨(Nat.le_of_ble_eq_true rfl), (Nat.le_of_ble_eq_true rfl)⟩ (RI.go (fun r169 S167 q168 => ?_))
        have h170 : FZ [g + 8, g + 9] [(g, 2), (g, 3), (g, 4), (g, 5), (g, 6), (g, 7), (g + 7, 2)] S S167 := h164.tr (q168.2.sub (by simp) (by simp))
        refine V_if_eq 291 298 dX0_tell_291 (by decide) (fun c171 => ?_) (fun c171 => ?_)
        ·
          refine V_lvw (by repeat (first | exact trivial | refine ⟨rfl, ?_⟩)) (J12 _ h170)
        ·
          refine V_iconst 294 (1) dX0_tell_294 (by decide) ?_
          refine V_goto 295 299 dX0_tell_295 (by decide) ?_
          refine V_iret 299 .boolean dX0_tell_299 rfl (nrwB (Or.inr rfl)) (Nat.le_of_ble_eq_true rfl) (Nat.le_of_ble_eq_true rfl) (RI.mk ⟨(Or.inr rfl), h170⟩)
  refine V_teq (133) (fun e173 => ?_) (fun e173 => ?_)
  ·
    refine V_tableIn 4 300 (off := 296) dX0_tell_4 (by omega) (by omega) (by rw [e173]; rfl) (by decide) ?_
    refine V_aload_0 300 dX0_tell_300 ?_
    refine V_sipush 301 (133) dX0_tell_301 (by decide) ?_
    refine V_callV 304 (ci := 0) [.int _] _ (s_step M.2.1 Γ S F _) dX0_tell_304 cb_X0_step ml_RX0_51 im_yX0_step se_yX0_step (F.m 0 (Nat.le_of_ble_eq_true rfl)) (F.k 0 0 rfl) (Nat.le_of_ble_eq_true rfl) ⟨(Nat.le_of_ble_eq_true rfl), (Nat.le_of_ble_eq_true rfl)⟩ rfl rfl (Nat.le_of_ble_eq_true rfl) ⟨(Nat.le_of_ble_eq_true rfl), (Nat.le_of_ble_eq_true rfl)⟩ (RI.go (fun r176 S174 q175 => ?_))
    have h177 : FZ [g + 8, g + 9] [(g, 2), (g, 3), (g, 4), (g, 5), (g, 6), (g, 7), (g + 7, 2)] S S174 := (FZ.rf (X := [g + 8, g + 9]) (Y := [(g, 2), (g, 3), (g, 4), (g, 5), (g, 6), (g, 7), (g + 7, 2)]) (S := S)).tr (q175.2.sub (by simp) (by simp))
    refine V_if_eq 307 330 dX0_tell_307 (by decide) (fun c178 => ?_) (fun c178 => ?_)
    ·
      refine V_lvw (by repeat (first | exact trivial | refine ⟨rfl, ?_⟩)) (J9 _ h177)
    ·
      refine V_aload_0 310 dX0_tell_310 ?_
      refine V_callV 311 (ci := 0) [] _ (s_wayOfFull M.2.1 Γ S174 (F.ss h177.1)) dX0_tell_311 cb_X0_wayOfFull ml_RX0_68 im_yX0_wayOfFull se_yX0_wayOfFull ((F.ss h177.1).m 0 (Nat.le_of_ble_eq_true rfl)) ((F.ss h177.1).k 0 0 rfl) (Nat.le_of_ble_eq_true rfl) ⟨(Nat.le_of_ble_eq_true rfl), (Nat.le_of_ble_eq_true rfl)⟩ rfl rfl (Nat.le_of_ble_eq_true rfl) ⟨(Nat.le_of_ble_eq_true rfl), (Nat.le_of_ble_eq_true rfl)⟩ (RI.go (fun r182 S180 q181 => ?_))
      have h183 : FZ [g + 8, g + 9] [(g, 2), (g, 3), (g, 4), (g, 5), (g, 6), (g, 7), (g + 7, 2)] S S180 := h177.tr (q181.2.sub (by simp) (by simp))
      refine V_if_eq 314 330 dX0_tell_314 (by decide) (fun c184 => ?_) (fun c184 => ?_)
      ·
        refine V_lvw (by repeat (first | exact trivial | refine ⟨rfl, ?_⟩)) (J9 _ h183)
      ·
        refine V_aload_0 317 dX0_tell_317 ?_
        refine V_bipush 318 (59) dX0_tell_318 (by decide) ?_
        refine V_callV 320 (ci := 0) [.int _] _ (s_step M.2.1 Γ S180 (F.ss h183.1) _) dX0_tell_320 cb_X0_step ml_RX0_51 im_yX0_step se_yX0_step ((F.ss h183.1).m 0 (Nat.le_of_ble_eq_true rfl)) ((F.ss h183.1).k 0 0 rfl) (Nat.le_of_ble_eq_true rfl) ⟨(Nat.le_of_ble_eq_true rfl), (Nat.le_of_ble_eq_true rfl)⟩ rfl rfl (Nat.le_of_ble_eq_true rfl) ⟨(Nat.le_of_ble_eq_true rfl), (Nat.le_of_ble_eq_true rfl)⟩ (RI.go (fun r188 S186 q187 => ?_))
        have h189 : FZ [g + 8, g + 9] [(g, 2), (g, 3), (g, 4), (g, 5), (g, 6), (g, 7), (g + 7, 2)] S S186 := h183.tr (q187.2.sub (by simp) (by simp))
        refine V_if_eq 323 330 dX0_tell_323 (by decide) (fun c190 => ?_) (fun c190 => ?_)
        ·
          refine V_lvw (by repeat (first | exact trivial | refine ⟨rfl, ?_⟩)) (J9 _ h189)
        ·
          refine V_iconst 326 (1) dX0_tell_326 (by decide) ?_
          refine V_goto 327 331 dX0_tell_327 (by decide) ?_
          refine V_iret 331 .boolean dX0_tell_331 rfl (nrwB (Or.inr rfl)) (Nat.le_of_ble_eq_true rfl) (Nat.le_of_ble_eq_true rfl) (RI.mk ⟨(Or.inr rfl), h189⟩)
  refine V_teq (134) (fun e192 => ?_) (fun e192 => ?_)
  ·
    refine V_tableIn 4 397 (off := 393) dX0_tell_4 (by omega) (by omega) (by rw [e192]; rfl) (by decide) ?_
    refine V_aload_0 397 dX0_tell_397 ?_
    refine V_iconst 398 (1) dX0_tell_398 (by decide) ?_
    refine V_callV 399 (ci := 0) [.int _] _ (s_gfail M.2.1 Γ S F _) dX0_tell_399 cb_X0_fail ml_RX0_74 im_yX0_fail se_yX0_fail (F.m 0 (Nat.le_of_ble_eq_true rfl)) (F.k 0 0 rfl) (Nat.le_of_ble_eq_true rfl) ⟨(Nat.le_of_ble_eq_true rfl), (Nat.le_of_ble_eq_true rfl)⟩ rfl rfl (Nat.le_of_ble_eq_true rfl) ⟨(Nat.le_of_ble_eq_true rfl), (Nat.le_of_ble_eq_true rfl)⟩ (RI.go (fun r195 S193 q194 => ?_))
    have h196 : FZ [g + 8, g + 9] [(g, 2), (g, 3), (g, 4), (g, 5), (g, 6), (g, 7), (g + 7, 2)] S S193 := (FZ.rf (X := [g + 8, g + 9]) (Y := [(g, 2), (g, 3), (g, 4), (g, 5), (g, 6), (g, 7), (g + 7, 2)]) (S := S)).tr (q194.2.sub (by simp) (by simp))
    refine V_iret 402 .boolean dX0_tell_402 rfl (nrwB q194.1) (Nat.le_of_ble_eq_true rfl) (Nat.le_of_ble_eq_true rfl) (RI.mk ⟨q194.1, h196⟩)
  refine V_teq (135) (fun e197 => ?_) (fun e197 => ?_)
  ·
    refine V_tableIn 4 397 (off := 393) dX0_tell_4 (by omega) (by omega) (by rw [e197]; rfl) (by decide) ?_
    refine V_aload_0 397 dX0_tell_397 ?_
    refine V_iconst 398 (1) dX0_tell_398 (by decide) ?_
    refine V_callV 399 (ci := 0) [.int _] _ (s_gfail M.2.1 Γ S F _) dX0_tell_399 cb_X0_fail ml_RX0_74 im_yX0_fail se_yX0_fail (F.m 0 (Nat.le_of_ble_eq_true rfl)) (F.k 0 0 rfl) (Nat.le_of_ble_eq_true rfl) ⟨(Nat.le_of_ble_eq_true rfl), (Nat.le_of_ble_eq_true rfl)⟩ rfl rfl (Nat.le_of_ble_eq_true rfl) ⟨(Nat.le_of_ble_eq_true rfl), (Nat.le_of_ble_eq_true rfl)⟩ (RI.go (fun r200 S198 q199 => ?_))
    have h201 : FZ [g + 8, g + 9] [(g, 2), (g, 3), (g, 4), (g, 5), (g, 6), (g, 7), (g + 7, 2)] S S198 := (FZ.rf (X := [g + 8, g + 9]) (Y := [(g, 2), (g, 3), (g, 4), (g, 5), (g, 6), (g, 7), (g + 7, 2)]) (S := S)).tr (q199.2.sub (by simp) (by simp))
    refine V_iret 402 .boolean dX0_tell_402 rfl (nrwB q199.1) (Nat.le_of_ble_eq_true rfl) (Nat.le_of_ble_eq_true rfl) (RI.mk ⟨q199.1, h201⟩)
  refine V_teq (136) (fun e202 => ?_) (fun e202 => ?_)
  ·
    refine V_tableIn 4 397 (off := 393) dX0_tell_4 (by omega) (by omega) (by rw [e202]; rfl) (by decide) ?_
    refine V_aload_0 397 dX0_tell_397 ?_
    refine V_iconst 398 (1) dX0_tell_398 (by decide) ?_
    refine V_callV 399 (ci := 0) [.int _] _ (s_gfail M.2.1 Γ S F _) dX0_tell_399 cb_X0_fail ml_RX0_74 im_yX0_fail se_yX0_fail (F.m 0 (Nat.le_of_ble_eq_true rfl)) (F.k 0 0 rfl) (Nat.le_of_ble_eq_true rfl) ⟨(Nat.le_of_ble_eq_true rfl), (Nat.le_of_ble_eq_true rfl)⟩ rfl rfl (Nat.le_of_ble_eq_true rfl) ⟨(Nat.le_of_ble_eq_true rfl), (Nat.le_of_ble_eq_true rfl)⟩ (RI.go (fun r205 S203 q204 => ?_))
    have h206 : FZ [g + 8, g + 9] [(g, 2), (g, 3), (g, 4), (g, 5), (g, 6), (g, 7), (g + 7, 2)] S S203 := (FZ.rf (X := [g + 8, g + 9]) (Y := [(g, 2), (g, 3), (g, 4), (g, 5), (g, 6), (g, 7), (g + 7, 2)]) (S := S)).tr (q204.2.sub (by simp) (by simp))
    refine V_iret 402 .boolean dX0_tell_402 rfl (nrwB q204.1) (Nat.le_of_ble_eq_true rfl) (Nat.le_of_ble_eq_true rfl) (RI.mk ⟨q204.1, h206⟩)
  refine V_teq (137) (fun e207 => ?_) (fun e207 => ?_)
  ·
    refine V_tableIn 4 397 (off := 393) dX0_tell_4 (by omega) (by omega) (by rw [e207]; rfl) (by decide) ?_
    refine V_aload_0 397 dX0_tell_397 ?_
    refine V_iconst 398 (1) dX0_tell_398 (by decide) ?_
    refine V_callV 399 (ci := 0) [.int _] _ (s_gfail M.2.1 Γ S F _) dX0_tell_399 cb_X0_fail ml_RX0_74 im_yX0_fail se_yX0_fail (F.m 0 (Nat.le_of_ble_eq_true rfl)) (F.k 0 0 rfl) (Nat.le_of_ble_eq_true rfl) ⟨(Nat.le_of_ble_eq_true rfl), (Nat.le_of_ble_eq_true rfl)⟩ rfl rfl (Nat.le_of_ble_eq_true rfl) ⟨(Nat.le_of_ble_eq_true rfl), (Nat.le_of_ble_eq_true rfl)⟩ (RI.go (fun r210 S208 q209 => ?_))
    have h211 : FZ [g + 8, g + 9] [(g, 2), (g, 3), (g, 4), (g, 5), (g, 6), (g, 7), (g + 7, 2)] S S208 := (FZ.rf (X := [g + 8, g + 9]) (Y := [(g, 2), (g, 3), (g, 4), (g, 5), (g, 6), (g, 7), (g + 7, 2)]) (S := S)).tr (q209.2.sub (by simp) (by simp))
    refine V_iret 402 .boolean dX0_tell_402 rfl (nrwB q209.1) (Nat.le_of_ble_eq_true rfl) (Nat.le_of_ble_eq_true rfl) (RI.mk ⟨q209.1, h211⟩)
  refine V_teq (138) (fun e212 => ?_) (fun e212 => ?_)
  ·
    refine V_tableIn 4 332 (off := 328) dX0_tell_4 (by omega) (by omega) (by rw [e212]; rfl) (by decide) ?_
    refine V_aload_0 332 dX0_tell_332 ?_
    refine V_sipush 333 (138) dX0_tell_333 (by decide) ?_
    refine V_callV 336 (ci := 0) [.int _] _ (s_step M.2.1 Γ S F _) dX0_tell_336 cb_X0_step ml_RX0_51 im_yX0_step se_yX0_step (F.m 0 (Nat.le_of_ble_eq_true rfl)) (F.k 0 0 rfl) (Nat.le_of_ble_eq_true rfl) ⟨(Nat.le_of_ble_eq_true rfl), (Nat.le_of_ble_eq_true rfl)⟩ rfl rfl (Nat.le_of_ble_eq_true rfl) ⟨(Nat.le_of_ble_eq_true rfl), (Nat.le_of_ble_eq_true rfl)⟩ (RI.go (fun r215 S213 q214 => ?_))
    have h216 : FZ [g + 8, g + 9] [(g, 2), (g, 3), (g, 4), (g, 5), (g, 6), (g, 7), (g + 7, 2)] S S213 := (FZ.rf (X := [g + 8, g + 9]) (Y := [(g, 2), (g, 3), (g, 4), (g, 5), (g, 6), (g, 7), (g + 7, 2)]) (S := S)).tr (q214.2.sub (by simp) (by simp))
    refine V_if_eq 339 362 dX0_tell_339 (by decide) (fun c217 => ?_) (fun c217 => ?_)
    ·
      refine V_lvw (by repeat (first | exact trivial | refine ⟨rfl, ?_⟩)) (J6 _ h216)
    ·
      refine V_aload_0 342 dX0_tell_342 ?_
      refine V_callV 343 (ci := 0) [] _ (s_sides M.2.1 Γ S213 (F.ss h216.1)) dX0_tell_343 cb_X0_sides ml_RX0_71 im_yX0_sides se_yX0_sides ((F.ss h216.1).m 0 (Nat.le_of_ble_eq_true rfl)) ((F.ss h216.1).k 0 0 rfl) (Nat.le_of_ble_eq_true rfl) ⟨(Nat.le_of_ble_eq_true rfl), (Nat.le_of_ble_eq_true rfl)⟩ rfl rfl (Nat.le_of_ble_eq_true rfl) ⟨(Nat.le_of_ble_eq_true rfl), (Nat.le_of_ble_eq_true rfl)⟩ (RI.go (fun r221 S219 q220 => ?_))
      have h222 : FZ [g + 8, g + 9] [(g, 2), (g, 3), (g, 4), (g, 5), (g, 6), (g, 7), (g + 7, 2)] S S219 := h216.tr (q220.2.sub (by simp) (by simp))
      refine V_if_eq 346 362 dX0_tell_346 (by decide) (fun c223 => ?_) (fun c223 => ?_)
      ·
        refine V_lvw (by repeat (first | exact trivial | refine ⟨rfl, ?_⟩)) (J6 _ h222)
      ·
        refine V_aload_0 349 dX0_tell_349 ?_
        refine V_bipush 350 (59) dX0_tell_350 (by decide) ?_
        refine V_callV 352 (ci := 0) [.int _] _ (s_step M.2.1 Γ S219 (F.ss h222.1) _) dX0_tell_352 cb_X0_step ml_RX0_51 im_yX0_step se_yX0_step ((F.ss h222.1).m 0 (Nat.le_of_ble_eq_true rfl)) ((F.ss h222.1).k 0 0 rfl) (Nat.le_of_ble_eq_true rfl) ⟨(Nat.le_of_ble_eq_true rfl), (Nat.le_of_ble_eq_true rfl)⟩ rfl rfl (Nat.le_of_ble_eq_true rfl) ⟨(Nat.le_of_ble_eq_true rfl), (Nat.le_of_ble_eq_true rfl)⟩ (RI.go (fun r227 S225 q226 => ?_))
        have h228 : FZ [g + 8, g + 9] [(g, 2), (g, 3), (g, 4), (g, 5), (g, 6), (g, 7), (g + 7, 2)] S S225 := h222.tr (q226.2.sub (by simp) (by simp))
        refine V_if_eq 355 362 dX0_tell_355 (by decide) (fun c229 => ?_) (fun c229 => ?_)
        ·
          refine V_lvw (by repeat (first | exact trivial | refine ⟨rfl, ?_⟩)) (J6 _ h228)
        ·
          refine V_iconst 358 (1) dX0_tell_358 (by decide) ?_
          refine V_goto 359 363 dX0_tell_359 (by decide) ?_
          refine V_iret 363 .boolean dX0_tell_363 rfl (nrwB (Or.inr rfl)) (Nat.le_of_ble_eq_true rfl) (Nat.le_of_ble_eq_true rfl) (RI.mk ⟨(Or.inr rfl), h228⟩)
  refine V_teq (139) (fun e231 => ?_) (fun e231 => ?_)
  ·
    refine V_tableIn 4 397 (off := 393) dX0_tell_4 (by omega) (by omega) (by rw [e231]; rfl) (by decide) ?_
    refine V_aload_0 397 dX0_tell_397 ?_
    refine V_iconst 398 (1) dX0_tell_398 (by decide) ?_
    refine V_callV 399 (ci := 0) [.int _] _ (s_gfail M.2.1 Γ S F _) dX0_tell_399 cb_X0_fail ml_RX0_74 im_yX0_fail se_yX0_fail (F.m 0 (Nat.le_of_ble_eq_true rfl)) (F.k 0 0 rfl) (Nat.le_of_ble_eq_true rfl) ⟨(Nat.le_of_ble_eq_true rfl), (Nat.le_of_ble_eq_true rfl)⟩ rfl rfl (Nat.le_of_ble_eq_true rfl) ⟨(Nat.le_of_ble_eq_true rfl), (Nat.le_of_ble_eq_true rfl)⟩ (RI.go (fun r234 S232 q233 => ?_))
    have h235 : FZ [g + 8, g + 9] [(g, 2), (g, 3), (g, 4), (g, 5), (g, 6), (g, 7), (g + 7, 2)] S S232 := (FZ.rf (X := [g + 8, g + 9]) (Y := [(g, 2), (g, 3), (g, 4), (g, 5), (g, 6), (g, 7), (g + 7, 2)]) (S := S)).tr (q233.2.sub (by simp) (by simp))
    refine V_iret 402 .boolean dX0_tell_402 rfl (nrwB q233.1) (Nat.le_of_ble_eq_true rfl) (Nat.le_of_ble_eq_true rfl) (RI.mk ⟨q233.1, h235⟩)
  refine V_teq (140) (fun e236 => ?_) (fun e236 => ?_)
  ·
    refine V_tableIn 4 364 (off := 360) dX0_tell_4 (by omega) (by omega) (by rw [e236]; rfl) (by decide) ?_
    refine V_aload_0 364 dX0_tell_364 ?_
    refine V_sipush 365 (140) dX0_tell_365 (by decide) ?_
    refine V_callV 368 (ci := 0) [.int _] _ (s_step M.2.1 Γ S F _) dX0_tell_368 cb_X0_step ml_RX0_51 im_yX0_step se_yX0_step (F.m 0 (Nat.le_of_ble_eq_true rfl)) (F.k 0 0 rfl) (Nat.le_of_ble_eq_true rfl) ⟨(Nat.le_of_ble_eq_true rfl), (Nat.le_of_ble_eq_true rfl)⟩ rfl rfl (Nat.le_of_ble_eq_true rfl) ⟨(Nat.le_of_ble_eq_true rfl), (Nat.le_of_ble_eq_true rfl)⟩ (RI.go (fun r239 S237 q238 => ?_))
    have h240 : FZ [g + 8, g + 9] [(g, 2), (g, 3), (g, 4), (g, 5), (g, 6), (g, 7), (g + 7, 2)] S S237 := (FZ.rf (X := [g + 8, g + 9]) (Y := [(g, 2), (g, 3), (g, 4), (g, 5), (g, 6), (g, 7), (g + 7, 2)]) (S := S)).tr (q238.2.sub (by simp) (by simp))
    refine V_if_eq 371 395 dX0_tell_371 (by decide) (fun c241 => ?_) (fun c241 => ?_)
    ·
      refine V_lvw (by repeat (first | exact trivial | refine ⟨rfl, ?_⟩)) (J3 _ h240)
    ·
      refine V_aload_0 374 dX0_tell_374 ?_
      refine V_iconst 375 (2) dX0_tell_375 (by decide) ?_
      refine V_callV 376 (ci := 0) [.int _] _ (s_step M.2.1 Γ S237 (F.ss h240.1) _) dX0_tell_376 cb_X0_step ml_RX0_51 im_yX0_step se_yX0_step ((F.ss h240.1).m 0 (Nat.le_of_ble_eq_true rfl)) ((F.ss h240.1).k 0 0 rfl) (Nat.le_of_ble_eq_true rfl) ⟨(Nat.le_of_ble_eq_true rfl), (Nat.le_of_ble_eq_true rfl)⟩ rfl rfl (Nat.le_of_ble_eq_true rfl) ⟨(Nat.le_of_ble_eq_true rfl), (Nat.le_of_ble_eq_true rfl)⟩ (RI.go (fun r245 S243 q244 => ?_))
      have h246 : FZ [g + 8, g + 9] [(g, 2), (g, 3), (g, 4), (g, 5), (g, 6), (g, 7), (g + 7, 2)] S S243 := h240.tr (q244.2.sub (by simp) (by simp))
      refine V_if_eq 379 395 dX0_tell_379 (by decide) (fun c247 => ?_) (fun c247 => ?_)
      ·
        refine V_lvw (by repeat (first | exact trivial | refine ⟨rfl, ?_⟩)) (J3 _ h246)
      ·
        refine V_aload_0 382 dX0_tell_382 ?_
        refine V_bipush 383 (59) dX0_tell_383 (by decide) ?_
        refine V_callV 385 (ci := 0) [.int _] _ (s_step M.2.1 Γ S243 (F.ss h246.1) _) dX0_tell_385 cb_X0_step ml_RX0_51 im_yX0_step se_yX0_step ((F.ss h246.1).m 0 (Nat.le_of_ble_eq_true rfl)) ((F.ss h246.1).k 0 0 rfl) (Nat.le_of_ble_eq_true rfl) ⟨(Nat.le_of_ble_eq_true rfl), (Nat.le_of_ble_eq_true rfl)⟩ rfl rfl (Nat.le_of_ble_eq_true rfl) ⟨(Nat.le_of_ble_eq_true rfl), (Nat.le_of_ble_eq_true rfl)⟩ (RI.go (fun r251 S249 q250 => ?_))
        have h252 : FZ [g + 8, g + 9] [(g, 2), (g, 3), (g, 4), (g, 5), (g, 6), (g, 7), (g + 7, 2)] S S249 := h246.tr (q250.2.sub (by simp) (by simp))
        refine V_if_eq 388 395 dX0_tell_388 (by decide) (fun c253 => ?_) (fun c253 => ?_)
        ·
          refine V_lvw (by repeat (first | exact trivial | refine ⟨rfl, ?_⟩)) (J3 _ h252)
        ·
          refine V_iconst 391 (1) dX0_tell_391 (by decide) ?_
          refine V_goto 392 396 dX0_tell_392 (by decide) ?_
          refine V_iret 396 .boolean dX0_tell_396 rfl (nrwB (Or.inr rfl)) (Nat.le_of_ble_eq_true rfl) (Nat.le_of_ble_eq_true rfl) (RI.mk ⟨(Or.inr rfl), h252⟩)
  exact absurd (by omega) q25
set_option maxRecDepth 100000 in
set_option maxHeartbeats 8000000 in
theorem s_check (l : Launch) (Γ : GC) (S : PS) {g : Nat} (F : isL lyGrammar Γ.2.2.2.2.1 S g) : CT l Γ yX0_check cX0_check 3 (some .int) (24) (0) (0) [.ref g] S (RI (fun r S' => FZ [g + 8, g + 9] [(g, 2), (g, 3), (g, 4), (g, 5), (g, 6), (g, 7), (g + 7, 2)] S S')) := by
  refine CT.of RX0 "check" [some (.ref g), none, none] (by decide +kernel) rfl rfl (Nat.le_of_ble_eq_true rfl) rfl (fun M hM => ?_)
  subst hM
  have J3 : ∀ (S1 : PS) (x4 : Int32) (x5 : Int32), FZ [g + 8, g + 9] [(g, 2), (g, 3), (g, 4), (g, 5), (g, 6), (g, 7), (g + 7, 2)] S S1 → (x4 = 0 ∨ x4 = 1) → V M Γ (3, RX0, "check", (some .int), RM (24) (0) (0)) cX0_check (RQ M Γ (RI (fun r S' => FZ [g + 8, g + 9] [(g, 2), (g, 3), (g, 4), (g, 5), (g, 6), (g, 7), (g + 7, 2)] S S')) (0) (0)) 0 0 S1 130 [some (.ref g), some (.int x4), some (.int x5)] [] := by
    intro S1 x4 x5 h2 hb_x4
    refine V_aload_0 130 dX0_check_130 ?_
    refine V_getI 131 (c := 0) 4 dX0_check_131 fl_RX0_39 ((F.ss h2.1).m 0 (Nat.le_of_ble_eq_true rfl)) ((F.ss h2.1).k 0 0 rfl) (Nat.le_of_ble_eq_true rfl) (Nat.le_of_ble_eq_true rfl) rfl ?_
    refine V_iret 134 .int dX0_check_134 rfl rfl (Nat.le_of_ble_eq_true rfl) (Nat.le_of_ble_eq_true rfl) (RI.mk h2)
  refine V_aload_0 0 dX0_check_0 ?_
  refine V_getR 1 (c := 0) 1 (F.r 0 1 7 rfl) dX0_check_1 fl_RX0_21 (F.m 0 (Nat.le_of_ble_eq_true rfl)) (F.k 0 0 rfl) (Nat.le_of_ble_eq_true rfl) (Nat.le_of_ble_eq_true rfl) rfl ?_
  refine V_callV 4 (ci := 2) [] _ (s_lawclear M.2.1 Γ S (F.sub 7 lyLaw rfl (by decide))) dX0_check_4 cb_X2_clear ml_RX0_25 im_yX2_clear se_yX2_clear (F.m 7 (Nat.le_of_ble_eq_true rfl)) (F.k 7 2 rfl) (Nat.le_of_ble_eq_true rfl) ⟨(Nat.le_of_ble_eq_true rfl), (Nat.le_of_ble_eq_true rfl)⟩ rfl rfl (Nat.le_of_ble_eq_true rfl) ⟨(Nat.le_of_ble_eq_true rfl), (Nat.le_of_ble_eq_true rfl)⟩ (RV.go (fun S6 q7 => ?_))
  have h9 : FZ [g + 8, g + 9] [(g, 2), (g, 3), (g, 4), (g, 5), (g, 6), (g, 7), (g + 7, 2)] S S6 := (FZ.rf (X := [g + 8, g + 9]) (Y := [(g, 2), (g, 3), (g, 4), (g, 5), (g, 6), (g, 7), (g + 7, 2)]) (S := S)).tr (q7.sub (by simp) (by simp))
  refine V_aload_0 7 dX0_check_7 ?_
  refine V_iconst 8 (0) dX0_check_8 (by decide) ?_
  refine V_putI 9 (c := 0) 2 dX0_check_9 fl_RX0_28 ((F.ss h9.1).m 0 (Nat.le_of_ble_eq_true rfl)) ((F.ss h9.1).k 0 0 rfl) (Nat.le_of_ble_eq_true rfl) (Nat.le_of_ble_eq_true rfl) rfl (Or.inl rfl) ?_
  refine V_abs (FZ [g + 8, g + 9] [(g, 2), (g, 3), (g, 4), (g, 5), (g, 6), (g, 7), (g + 7, 2)] S) (h9.uI (by simp)) (fun S10 h11 => ?_)
  refine V_aload_0 12 dX0_check_12 ?_
  refine V_aload_0 13 dX0_check_13 ?_
  refine V_getR 14 (c := 0) 0 ((F.ss h11.1).r 0 0 1 rfl) dX0_check_14 fl_RX0_12 ((F.ss h11.1).m 0 (Nat.le_of_ble_eq_true rfl)) ((F.ss h11.1).k 0 0 rfl) (Nat.le_of_ble_eq_true rfl) (Nat.le_of_ble_eq_true rfl) rfl ?_
  refine V_iconst 17 (0) dX0_check_17 (by decide) ?_
  refine V_callV 18 (ci := 8) [.int _] _ (s_typeAt M.2.1 Γ S10 ((F.ss h11.1).sub 1 lyTape rfl (by decide)) _) dX0_check_18 cb_X8_typeAt ml_RX0_32 im_yX8_typeAt se_yX8_typeAt ((F.ss h11.1).m 1 (Nat.le_of_ble_eq_true rfl)) ((F.ss h11.1).k 1 8 rfl) (Nat.le_of_ble_eq_true rfl) ⟨(Nat.le_of_ble_eq_true rfl), (Nat.le_of_ble_eq_true rfl)⟩ rfl rfl (Nat.le_of_ble_eq_true rfl) ⟨(Nat.le_of_ble_eq_true rfl), (Nat.le_of_ble_eq_true rfl)⟩ (RI.go (fun r14 S12 q13 => ?_))
  have h15 : FZ [g + 8, g + 9] [(g, 2), (g, 3), (g, 4), (g, 5), (g, 6), (g, 7), (g + 7, 2)] S S12 := h11.tr (q13.sub (by simp) (by simp))
  refine V_putI 21 (c := 0) 3 dX0_check_21 fl_RX0_36 ((F.ss h15.1).m 0 (Nat.le_of_ble_eq_true rfl)) ((F.ss h15.1).k 0 0 rfl) (Nat.le_of_ble_eq_true rfl) (Nat.le_of_ble_eq_true rfl) rfl (Or.inl rfl) ?_
  refine V_abs (FZ [g + 8, g + 9] [(g, 2), (g, 3), (g, 4), (g, 5), (g, 6), (g, 7), (g + 7, 2)] S) (h15.uI (by simp)) (fun S16 h17 => ?_)
  refine V_aload_0 24 dX0_check_24 ?_
  refine V_iconst 25 (0) dX0_check_25 (by decide) ?_
  refine V_putI 26 (c := 0) 4 dX0_check_26 fl_RX0_39 ((F.ss h17.1).m 0 (Nat.le_of_ble_eq_true rfl)) ((F.ss h17.1).k 0 0 rfl) (Nat.le_of_ble_eq_true rfl) (Nat.le_of_ble_eq_true rfl) rfl (Or.inl rfl) ?_
  refine V_abs (FZ [g + 8, g + 9] [(g, 2), (g, 3), (g, 4), (g, 5), (g, 6), (g, 7), (g + 7, 2)] S) (h17.uI (by simp)) (fun S18 h19 => ?_)
  refine V_aload_0 29 dX0_check_29 ?_
  refine V_iconst 30 (0) dX0_check_30 (by decide) ?_
  refine V_putI 31 (c := 0) 5 dX0_check_31 fl_RX0_42 ((F.ss h19.1).m 0 (Nat.le_of_ble_eq_true rfl)) ((F.ss h19.1).k 0 0 rfl) (Nat.le_of_ble_eq_true rfl) (Nat.le_of_ble_eq_true rfl) rfl (Or.inl rfl) ?_
  refine V_abs (FZ [g + 8, g + 9] [(g, 2), (g, 3), (g, 4), (g, 5), (g, 6), (g, 7), (g + 7, 2)] S) (h19.uI (by simp)) (fun S20 h21 => ?_)
  refine V_aload_0 34 dX0_check_34 ?_
  refine V_iconst 35 (0) dX0_check_35 (by decide) ?_
  refine V_putI 36 (c := 0) 6 dX0_check_36 fl_RX0_45 ((F.ss h21.1).m 0 (Nat.le_of_ble_eq_true rfl)) ((F.ss h21.1).k 0 0 rfl) (Nat.le_of_ble_eq_true rfl) (Nat.le_of_ble_eq_true rfl) rfl (Or.inl rfl) ?_
  refine V_abs (FZ [g + 8, g + 9] [(g, 2), (g, 3), (g, 4), (g, 5), (g, 6), (g, 7), (g + 7, 2)] S) (h21.uI (by simp)) (fun S22 h23 => ?_)
  refine V_aload_0 39 dX0_check_39 ?_
  refine V_iconst 40 (0) dX0_check_40 (by decide) ?_
  refine V_putI 41 (c := 0) 7 dX0_check_41 fl_RX0_48 ((F.ss h23.1).m 0 (Nat.le_of_ble_eq_true rfl)) ((F.ss h23.1).k 0 0 rfl) (Nat.le_of_ble_eq_true rfl) (Nat.le_of_ble_eq_true rfl) rfl (Or.inl rfl) ?_
  refine V_abs (FZ [g + 8, g + 9] [(g, 2), (g, 3), (g, 4), (g, 5), (g, 6), (g, 7), (g + 7, 2)] S) (h23.uI (by simp)) (fun S24 h25 => ?_)
  refine V_iconst 44 (1) dX0_check_44 (by decide) ?_
  refine V_istore_1 45 dX0_check_45 rfl (Nat.le_of_ble_eq_true rfl) ?_
  refine V_iconst 46 (0) dX0_check_46 (by decide) ?_
  refine V_istore_2 47 dX0_check_47 rfl (Nat.le_of_ble_eq_true rfl) ?_
  refine V_lvw (by repeat (first | exact trivial | refine ⟨rfl, ?_⟩)) (V_while (α := Nat × PS × Int32) (fun z26 => 401 - z26.1) (fun z26 => z26.1 ≤ 401 ∧ FZ [g + 8, g + 9] [(g, 2), (g, 3), (g, 4), (g, 5), (g, 6), (g, 7), (g + 7, 2)] S z26.2.1 ∧ (z26.2.2 = 0 ∨ z26.2.2 = 1)) (fun z26 => z26.2.1) (fun z26 => [some (.ref g), some (.int z26.2.2), some (.int (nI z26.1))]) (0, _, _) ⟨Nat.zero_le _, h25, (Or.inr rfl)⟩ (fun z26 hx33 ih31 => ?b34))
  obtain ⟨i27, S28, w32⟩ := z26
  obtain ⟨hi29, h30, hb36⟩ := hx33
  dsimp only at hi29 h30 hb36 ih31 ⊢
  have J39 : ∀ (S37 : PS) (x40 : Int32), FZ [g + 8, g + 9] [(g, 2), (g, 3), (g, 4), (g, 5), (g, 6), (g, 7), (g + 7, 2)] S S37 → i27 < 401 → (x40 = 0 ∨ x40 = 1) → V M Γ (3, RX0, "check", (some .int), RM (24) (0) (0)) cX0_check (RQ M Γ (RI (fun r S' => FZ [g + 8, g + 9] [(g, 2), (g, 3), (g, 4), (g, 5), (g, 6), (g, 7), (g + 7, 2)] S S')) (0) (0)) 0 0 S37 115 [some (.ref g), some (.int x40), some (.int (nI i27))] [] := by
    intro S37 x40 h38 lt41 hb_x40
    refine V_iconst 115 (0) dX0_check_115 (by decide) ?_
    refine V_goto 116 123 dX0_check_116 (by decide) ?_
    refine V_istore_1 123 dX0_check_123 rfl (Nat.le_of_ble_eq_true rfl) ?_
    refine V_iinc_2 124 (1) dX0_check_124 (by decide) rfl (Nat.le_of_ble_eq_true rfl) ?_
    refine V_goto 127 48 dX0_check_127 (by decide) ?_
    rw [← nI_succ]
    refine V_lvw (by repeat (first | exact trivial | refine ⟨rfl, ?_⟩)) (ih31 (i27 + 1, _, _) ⟨by dsimp only; omega, h38, (Or.inl rfl)⟩ (by dsimp only; omega))
  refine V_iload_2 48 dX0_check_48 ?_
  refine V_sipush 49 (400) dX0_check_49 (by decide) ?_
  refine V_icmp_gt 52 130 dX0_check_52 (by decide) (fun c42 => ?_) (fun c42 => ?_)
  ·
    refine V_lvw (by repeat (first | exact trivial | refine ⟨rfl, ?_⟩)) (J3 _ _ _ h30 hb36)
  ·
    have lt44 := nI_ltg (n := 400) (by decide) hi29 c42
    refine V_iload_1 55 dX0_check_55 ?_
    refine V_if_eq 56 130 dX0_check_56 (by decide) (fun c45 => ?_) (fun c45 => ?_)
    ·
      refine V_lvw (by repeat (first | exact trivial | refine ⟨rfl, ?_⟩)) (J3 _ _ _ h30 hb36)
    ·
      refine V_aload_0 59 dX0_check_59 ?_
      refine V_getI 60 (c := 0) 3 dX0_check_60 fl_RX0_36 ((F.ss h30.1).m 0 (Nat.le_of_ble_eq_true rfl)) ((F.ss h30.1).k 0 0 rfl) (Nat.le_of_ble_eq_true rfl) (Nat.le_of_ble_eq_true rfl) rfl ?_
      refine V_if_eq 63 130 dX0_check_63 (by decide) (fun c47 => ?_) (fun c47 => ?_)
      ·
        refine V_lvw (by repeat (first | exact trivial | refine ⟨rfl, ?_⟩)) (J3 _ _ _ h30 hb36)
      ·
        refine V_aload_0 66 dX0_check_66 ?_
        refine V_getI 67 (c := 0) 3 dX0_check_67 fl_RX0_36 ((F.ss h30.1).m 0 (Nat.le_of_ble_eq_true rfl)) ((F.ss h30.1).k 0 0 rfl) (Nat.le_of_ble_eq_true rfl) (Nat.le_of_ble_eq_true rfl) rfl ?_
        refine V_sipush 70 (141) dX0_check_70 (by decide) ?_
        refine V_icmp_ne 73 119 dX0_check_73 (by decide) (fun c49 => ?_) (fun c49 => ?_)
        ·
          refine V_aload_0 119 dX0_check_119 ?_
          refine V_callV 120 (ci := 0) [] _ (s_gtell M.2.1 Γ S28 (F.ss h30.1)) dX0_check_120 cb_X0_tell ml_RX0_59 im_yX0_tell se_yX0_tell ((F.ss h30.1).m 0 (Nat.le_of_ble_eq_true rfl)) ((F.ss h30.1).k 0 0 rfl) (Nat.le_of_ble_eq_true rfl) ⟨(Nat.le_of_ble_eq_true rfl), (Nat.le_of_ble_eq_true rfl)⟩ rfl rfl (Nat.le_of_ble_eq_true rfl) ⟨(Nat.le_of_ble_eq_true rfl), (Nat.le_of_ble_eq_true rfl)⟩ (RI.go (fun r52 S50 q51 => ?_))
          have h53 : FZ [g + 8, g + 9] [(g, 2), (g, 3), (g, 4), (g, 5), (g, 6), (g, 7), (g + 7, 2)] S S50 := h30.tr (q51.2.sub (by simp) (by simp))
          refine V_istore_1 123 dX0_check_123 rfl (Nat.le_of_ble_eq_true rfl) ?_
          refine V_iinc_2 124 (1) dX0_check_124 (by decide) rfl (Nat.le_of_ble_eq_true rfl) ?_
          refine V_goto 127 48 dX0_check_127 (by decide) ?_
          rw [← nI_succ]
          refine V_lvw (by repeat (first | exact trivial | refine ⟨rfl, ?_⟩)) (ih31 (i27 + 1, _, _) ⟨by dsimp only; omega, h53, q51.1⟩ (by dsimp only; omega))
        ·
          refine V_aload_0 76 dX0_check_76 ?_
          refine V_sipush 77 (141) dX0_check_77 (by decide) ?_
          refine V_callV 80 (ci := 0) [.int _] _ (s_step M.2.1 Γ S28 (F.ss h30.1) _) dX0_check_80 cb_X0_step ml_RX0_51 im_yX0_step se_yX0_step ((F.ss h30.1).m 0 (Nat.le_of_ble_eq_true rfl)) ((F.ss h30.1).k 0 0 rfl) (Nat.le_of_ble_eq_true rfl) ⟨(Nat.le_of_ble_eq_true rfl), (Nat.le_of_ble_eq_true rfl)⟩ rfl rfl (Nat.le_of_ble_eq_true rfl) ⟨(Nat.le_of_ble_eq_true rfl), (Nat.le_of_ble_eq_true rfl)⟩ (RI.go (fun r56 S54 q55 => ?_))
          have h57 : FZ [g + 8, g + 9] [(g, 2), (g, 3), (g, 4), (g, 5), (g, 6), (g, 7), (g + 7, 2)] S S54 := h30.tr (q55.2.sub (by simp) (by simp))
          refine V_if_eq 83 115 dX0_check_83 (by decide) (fun c58 => ?_) (fun c58 => ?_)
          ·
            refine V_lvw (by repeat (first | exact trivial | refine ⟨rfl, ?_⟩)) (J39 _ _ h57 (by first | omega | assumption) hb36)
          ·
            refine V_aload_0 86 dX0_check_86 ?_
            refine V_bipush 87 (61) dX0_check_87 (by decide) ?_
            refine V_callV 89 (ci := 0) [.int _] _ (s_step M.2.1 Γ S54 (F.ss h57.1) _) dX0_check_89 cb_X0_step ml_RX0_51 im_yX0_step se_yX0_step ((F.ss h57.1).m 0 (Nat.le_of_ble_eq_true rfl)) ((F.ss h57.1).k 0 0 rfl) (Nat.le_of_ble_eq_true rfl) ⟨(Nat.le_of_ble_eq_true rfl), (Nat.le_of_ble_eq_true rfl)⟩ rfl rfl (Nat.le_of_ble_eq_true rfl) ⟨(Nat.le_of_ble_eq_true rfl), (Nat.le_of_ble_eq_true rfl)⟩ (RI.go (fun r62 S60 q61 => ?_))
            have h63 : FZ [g + 8, g + 9] [(g, 2), (g, 3), (g, 4), (g, 5), (g, 6), (g, 7), (g + 7, 2)] S S60 := h57.tr (q61.2.sub (by simp) (by simp))
            refine V_if_eq 92 115 dX0_check_92 (by decide) (fun c64 => ?_) (fun c64 => ?_)
            ·
              refine V_lvw (by repeat (first | exact trivial | refine ⟨rfl, ?_⟩)) (J39 _ _ h63 (by first | omega | assumption) hb36)
            ·
              refine V_aload_0 95 dX0_check_95 ?_
              refine V_callV 96 (ci := 0) [] _ (s_wholeLaw M.2.1 Γ S60 (F.ss h63.1)) dX0_check_96 cb_X0_wholeLaw ml_RX0_55 im_yX0_wholeLaw se_yX0_wholeLaw ((F.ss h63.1).m 0 (Nat.le_of_ble_eq_true rfl)) ((F.ss h63.1).k 0 0 rfl) (Nat.le_of_ble_eq_true rfl) ⟨(Nat.le_of_ble_eq_true rfl), (Nat.le_of_ble_eq_true rfl)⟩ rfl rfl (Nat.le_of_ble_eq_true rfl) ⟨(Nat.le_of_ble_eq_true rfl), (Nat.le_of_ble_eq_true rfl)⟩ (RI.go (fun r68 S66 q67 => ?_))
              have h69 : FZ [g + 8, g + 9] [(g, 2), (g, 3), (g, 4), (g, 5), (g, 6), (g, 7), (g + 7, 2)] S S66 := h63.tr (q67.2.sub (by simp) (by simp))
              refine V_if_eq 99 115 dX0_check_99 (by decide) (fun c70 => ?_) (fun c70 => ?_)
              ·
                refine V_lvw (by repeat (first | exact trivial | refine ⟨rfl, ?_⟩)) (J39 _ _ h69 (by first | omega | assumption) hb36)
              ·
                refine V_aload_0 102 dX0_check_102 ?_
                refine V_bipush 103 (59) dX0_check_103 (by decide) ?_
                refine V_callV 105 (ci := 0) [.int _] _ (s_step M.2.1 Γ S66 (F.ss h69.1) _) dX0_check_105 cb_X0_step ml_RX0_51 im_yX0_step se_yX0_step ((F.ss h69.1).m 0 (Nat.le_of_ble_eq_true rfl)) ((F.ss h69.1).k 0 0 rfl) (Nat.le_of_ble_eq_true rfl) ⟨(Nat.le_of_ble_eq_true rfl), (Nat.le_of_ble_eq_true rfl)⟩ rfl rfl (Nat.le_of_ble_eq_true rfl) ⟨(Nat.le_of_ble_eq_true rfl), (Nat.le_of_ble_eq_true rfl)⟩ (RI.go (fun r74 S72 q73 => ?_))
                have h75 : FZ [g + 8, g + 9] [(g, 2), (g, 3), (g, 4), (g, 5), (g, 6), (g, 7), (g + 7, 2)] S S72 := h69.tr (q73.2.sub (by simp) (by simp))
                refine V_if_eq 108 115 dX0_check_108 (by decide) (fun c76 => ?_) (fun c76 => ?_)
                ·
                  refine V_lvw (by repeat (first | exact trivial | refine ⟨rfl, ?_⟩)) (J39 _ _ h75 (by first | omega | assumption) hb36)
                ·
                  refine V_iconst 111 (1) dX0_check_111 (by decide) ?_
                  refine V_goto 112 123 dX0_check_112 (by decide) ?_
                  refine V_istore_1 123 dX0_check_123 rfl (Nat.le_of_ble_eq_true rfl) ?_
                  refine V_iinc_2 124 (1) dX0_check_124 (by decide) rfl (Nat.le_of_ble_eq_true rfl) ?_
                  refine V_goto 127 48 dX0_check_127 (by decide) ?_
                  rw [← nI_succ]
                  refine V_lvw (by repeat (first | exact trivial | refine ⟨rfl, ?_⟩)) (ih31 (i27 + 1, _, _) ⟨by dsimp only; omega, h75, (Or.inr rfl)⟩ (by dsimp only; omega))

