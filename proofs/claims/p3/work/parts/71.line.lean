/-! The reference's line, exchange -/
def HB (m : Nat) (g : MG) (T : PS) : Prop := ∀ j, j < gLL g → ∃ k, k < gK g ∧ sA T (m + 43) j = nI k
theorem HB.fz {m : Nat} {g : MG} {S T : PS} {X : List Nat} {Y : List (Nat × Nat)} (h : HB m g S) (e : FZ X Y S T) (hx : m + 43 ∉ X) : HB m g T := fun j hj => by rw [e.2.1 _ hx]; exact h j hj
theorem HB.set {m idx : Nat} {g : MG} {T : PS} {v : Int32} (h : HB m g T) (hv : ∃ k, k < gK g ∧ v = nI k) : HB m g (uA T (m + 43) idx v) := fun j hj => by
  rw [sA_uA]; unfold up2
  split
  · exact hv
  · exact h j hj
theorem hgStep {m i idx K : Nat} {v : Int32} {T : PS} (h : ∀ j, j < i → ∃ k, k < K ∧ sA T (m + 43) j = nI k) (ei : idx = i) (hv : ∃ k, k < K ∧ v = nI k) : ∀ j, j < i + 1 → ∃ k, k < K ∧ sA (uA T (m + 43) idx v) (m + 43) j = nI k := fun j hj => by
  subst ei
  rw [sA_uA]; unfold up2
  by_cases q : j = idx
  · rw [if_pos ⟨rfl, q⟩]; exact hv
  · rw [if_neg (fun z => q z.2)]; exact h j (by omega)
set_option maxRecDepth 100000 in
set_option maxHeartbeats 8000000 in
theorem s_mhangs (l : Launch) (Γ : GC) (S : PS) {m : Nat} {g : MG} (F : isL lyModel Γ.2.2.2.2.1 S m) (h : TXT m g S) : CT l Γ yX12_hangs cX12_hangs 2 none (0) (0) (0) [.ref m] S (RV (fun S' => FZ [m + 43] [] S S' ∧ HB m g S')) := by
  refine CT.of RX12 "hangs" [some (.ref m), none] (by decide +kernel) rfl rfl (Nat.le_of_ble_eq_true rfl) rfl (fun M hM => ?_)
  subst hM
  have hl := h.l2
  have hK := h.k8
  have hL := h.ll18
  have p1 : ((fun T => ∀ j, j < 0 → ∃ k, k < gK g ∧ sA T (m + 43) j = nI k) S) := fun j hj => absurd hj (Nat.not_lt_zero _)
  refine V_iconst 0 (0) dX12_hangs_0 (by decide) ?_
  refine V_istore_1 1 dX12_hangs_1 rfl (Nat.le_of_ble_eq_true rfl) ?_
  refine V_lvw (by repeat (first | exact trivial | refine ⟨rfl, ?_⟩)) (V_while (α := Nat × PS) (fun z2 => gLL g - z2.1) (fun z2 => z2.1 ≤ gLL g ∧ FZ [m + 43] [] S z2.2 ∧ ((fun T => ∀ j, j < z2.1 → ∃ k, k < gK g ∧ sA T (m + 43) j = nI k) z2.2)) (fun z2 => z2.2) (fun z2 => [some (.ref m), some (.int (nI z2.1))]) (0, _) ⟨Nat.zero_le _, FZ.rf, p1⟩ (fun z2 hx8 ih7 => ?b9))
  obtain ⟨i3, S4⟩ := z2
  obtain ⟨hi5, h6, p11⟩ := hx8
  dsimp only at hi5 h6 p11 ih7 ⊢
  refine V_iload_1 2 dX12_hangs_2 ?_
  refine V_aload_0 3 dX12_hangs_3 ?_
  refine V_getR 4 (c := 12) 33 ((F.ss h6.1).r 0 33 21 rfl) dX12_hangs_4 fl_RX12_79 ((F.ss h6.1).m 0 (Nat.le_of_ble_eq_true rfl)) ((F.ss h6.1).k 0 12 rfl) (Nat.le_of_ble_eq_true rfl) (Nat.le_of_ble_eq_true rfl) rfl ?_
  refine V_aload_0 7 dX12_hangs_7 ?_
  refine V_getI 8 (c := 12) 18 dX12_hangs_8 fl_RX12_264 ((F.ss h6.1).m 0 (Nat.le_of_ble_eq_true rfl)) ((F.ss h6.1).k 0 12 rfl) (Nat.le_of_ble_eq_true rfl) (Nat.le_of_ble_eq_true rfl) rfl ?_
  rw [(h.z [43] [] h6 rfl rfl rfl rfl).lv]
  refine V_iaload2 11 dX12_hangs_11 ((F.ss h6.1).m 21 (Nat.le_of_ble_eq_true rfl)) ((F.ss h6.1).k 21 14 rfl) ((F.ss h6.1).l 21 2 rfl) ?_ ?_
  · exact vpN (Eq.refl (nI (gl g))) (by omega) (by decide)
  rw [clN (Eq.refl (nI (gl g))) (by omega)]
  rw [(h.z [43] [] h6 rfl rfl rfl rfl).ll]
  refine V_icmp_ge 12 41 dX12_hangs_12 (by decide) (fun c12 => ?_) (fun c12 => ?_)
  ·
    try have nf13 := (nI_leE (Eq.refl (nI (gLL g))) (Eq.refl (nI i3)) (by omega) (by omega)).mp c12
    refine V_vret 41 dX12_hangs_41 rfl (Nat.le_of_ble_eq_true rfl) (Nat.le_of_ble_eq_true rfl) (RV.mk ⟨h6, fun j hj => p11 j (by omega)⟩)
  ·
    try have nf14 := mt (nI_leE (Eq.refl (nI (gLL g))) (Eq.refl (nI i3)) (by omega) (by omega)).mpr c12
    try have lt15 := nI_ltC hi5 c12
    refine V_aload_0 15 dX12_hangs_15 ?_
    refine V_getR 16 (c := 12) 62 ((F.ss h6.1).r 0 62 43 rfl) dX12_hangs_16 fl_RX12_146 ((F.ss h6.1).m 0 (Nat.le_of_ble_eq_true rfl)) ((F.ss h6.1).k 0 12 rfl) (Nat.le_of_ble_eq_true rfl) (Nat.le_of_ble_eq_true rfl) rfl ?_
    refine V_iload_1 19 dX12_hangs_19 ?_
    refine V_aload_0 20 dX12_hangs_20 ?_
    refine V_getR 21 (c := 12) 34 ((F.ss h6.1).r 0 34 22 rfl) dX12_hangs_21 fl_RX12_82 ((F.ss h6.1).m 0 (Nat.le_of_ble_eq_true rfl)) ((F.ss h6.1).k 0 12 rfl) (Nat.le_of_ble_eq_true rfl) (Nat.le_of_ble_eq_true rfl) rfl ?_
    refine V_bipush 24 (18) dX12_hangs_24 (by decide) ?_
    refine V_aload_0 26 dX12_hangs_26 ?_
    refine V_getI 27 (c := 12) 18 dX12_hangs_27 fl_RX12_264 ((F.ss h6.1).m 0 (Nat.le_of_ble_eq_true rfl)) ((F.ss h6.1).k 0 12 rfl) (Nat.le_of_ble_eq_true rfl) (Nat.le_of_ble_eq_true rfl) rfl ?_
    rw [(h.z [43] [] h6 rfl rfl rfl rfl).lv]
    refine V_imul 30 dX12_hangs_30 ?_
    refine V_iload_1 31 dX12_hangs_31 ?_
    refine V_iadd 32 dX12_hangs_32 ?_
    refine V_iaload2 33 dX12_hangs_33 ((F.ss h6.1).m 22 (Nat.le_of_ble_eq_true rfl)) ((F.ss h6.1).k 22 14 rfl) ((F.ss h6.1).l 22 36 rfl) ?_ ?_
    · exact vpN (eqAdd (eqMul (show (18 : Int32) = nI 18 from rfl) (Eq.refl (nI (gl g)))) (Eq.refl (nI i3))) (by omega) (by decide)
    rw [clN (eqAdd (eqMul (show (18 : Int32) = nI 18 from rfl) (Eq.refl (nI (gl g)))) (Eq.refl (nI i3))) (by omega)]
    rw [(h.z [43] [] h6 rfl rfl rfl rfl).lk (by omega)]
    refine V_iastore2 34 dX12_hangs_34 ((F.ss h6.1).m 43 (Nat.le_of_ble_eq_true rfl)) ((F.ss h6.1).k 43 14 rfl) ((F.ss h6.1).l 43 18 rfl) ?_ ?_
    · exact vp_in_nI (by omega) (by decide)
    refine V_abs (fun T9 => FZ [m + 43] [] S T9 ∧ ((fun T => ∀ j, j < i3 + 1 → ∃ k, k < gK g ∧ sA T (m + 43) j = nI k) T9)) ⟨h6.uA (by simp), by exact hgStep p11 (nI_clamp (by omega)) ⟨_, h.lkK (by omega), rfl⟩⟩ (fun S16 hh19 => ?_)
    obtain ⟨h17, p18⟩ := hh19
    refine V_iinc_1 35 (1) dX12_hangs_35 (by decide) rfl (Nat.le_of_ble_eq_true rfl) ?_
    refine V_goto 38 2 dX12_hangs_38 (by decide) ?_
    rw [← nI_succ]
    refine V_lvw (by repeat (first | exact trivial | refine ⟨rfl, ?_⟩)) (ih7 (i3 + 1, _) ⟨by dsimp only; omega, h17, p18⟩ (by dsimp only; omega))
set_option maxRecDepth 100000 in
set_option maxHeartbeats 8000000 in
theorem s_mmostOut (l : Launch) (Γ : GC) (S : PS) {m : Nat} {g : MG} (F : isL lyModel Γ.2.2.2.2.1 S m) (h : TXT m g S) (hb : HB m g S) : CT l Γ yX12_mostOut cX12_mostOut 5 (some .int) (1) (0) (0) [.ref m] S (RI (fun r S' => FZ [m + 44] [] S S')) := by
  refine CT.of RX12 "mostOut" [some (.ref m), none, none, none, none] (by decide +kernel) rfl rfl (Nat.le_of_ble_eq_true rfl) rfl (fun M hM => ?_)
  subst hM
  have hl := h.l2
  have hK := h.k8
  have hL := h.ll18
  obtain ⟨hu, hhu⟩ := pick_ex hb
  have J37 : ∀ (T : PS) (w1 w2 : Int32) (w4 : Option Value) (c : Nat), c ≤ gLL g → FZ [m + 44] [] S T → V M Γ (5, RX12, "mostOut", (some .int), RM (1) (0) (0)) cX12_mostOut (RQ M Γ (RI (fun r S' => FZ [m + 44] [] S S')) (0) (0)) 0 0 T 37 [some (.ref m), some (.int w1), some (.int w2), some (.int (nI c - 1)), w4] [] := by
    intro T w1 w2 w4 c hc e
    refine V_while (α := Nat × PS × Int32 × Int32 × Option Value) (fun z => z.1) (fun z => z.1 ≤ gLL g ∧ FZ [m + 44] [] S z.2.1) (fun z => z.2.1) (fun z => [some (.ref m), some (.int z.2.2.1), some (.int z.2.2.2.1), some (.int (nI z.1 - 1)), z.2.2.2.2]) (c, T, w1, w2, w4) ⟨hc, e⟩ (fun z hz ih => ?_)
    obtain ⟨c, T, w1, w2, w4⟩ := z
    obtain ⟨hc, e⟩ := hz
    dsimp only at hc e ih ⊢
    have FT9 := F.ss e.1
    have hT := h.z [44] [] e rfl rfl rfl rfl
    refine V_iload_3 37 dX12_mostOut_37 ?_
    rcases Nat.eq_zero_or_pos c with q | q
    · subst q
      refine V_if_lt 38 111 dX12_mostOut_38 (by decide) (fun _ => ?_) (fun z => absurd (by decide) z)
      refine V_iload_1 111 dX12_mostOut_111 ?_
      refine V_iret 112 .int dX12_mostOut_112 rfl rfl (Nat.le_of_ble_eq_true rfl) (Nat.le_of_ble_eq_true rfl) (RI.mk e)
    · have e1 := m1 q
      rw [e1]
      have hk := (hhu (c - 1) (by omega)).1
      have hv : sA T (m + 43) (c - 1) = nI (hu (c - 1)) := by rw [e.2.1 _ (by simp)]; exact (hhu (c - 1) (by omega)).2
      have hp := h.paK hk
      refine V_if_lt 38 111 dX12_mostOut_38 (by decide) (fun z => absurd z (nI_pos (by omega))) (fun _ => ?_)
      have J98 : ∀ (T : PS) (w1 w2 : Int32) (w4 : Option Value), FZ [m + 44] [] S T → V M Γ (5, RX12, "mostOut", (some .int), RM (1) (0) (0)) cX12_mostOut (RQ M Γ (RI (fun r S' => FZ [m + 44] [] S S')) (0) (0)) 0 0 T 98 [some (.ref m), some (.int w1), some (.int w2), some (.int (nI (c - 1))), w4] [] := by
        intro T w1 w2 w4 e
        have J105 : ∀ (w1 : Int32), V M Γ (5, RX12, "mostOut", (some .int), RM (1) (0) (0)) cX12_mostOut (RQ M Γ (RI (fun r S' => FZ [m + 44] [] S S')) (0) (0)) 0 0 T 105 [some (.ref m), some (.int w1), some (.int w2), some (.int (nI (c - 1))), w4] [] := by
          intro w1
          refine V_iinc_3 105 (-1) dX12_mostOut_105 (by decide) rfl (Nat.le_of_ble_eq_true rfl) ?_
          refine V_goto 108 37 dX12_mostOut_108 (by decide) ?_
          rw [← Int32.sub_eq_add_neg]
          exact ih (c - 1, T, w1, w2, w4) ⟨by dsimp only; omega, e⟩ (by dsimp only; omega)
        refine V_iload_2 98 dX12_mostOut_98 ?_
        refine V_iload_1 99 dX12_mostOut_99 ?_
        refine V_icmp_le 100 105 dX12_mostOut_100 (by decide) (fun c9 => ?_) (fun c9 => ?_)
        · exact J105 _
        ·
          refine V_iload_2 103 dX12_mostOut_103 ?_
          refine V_istore_1 104 dX12_mostOut_104 rfl (Nat.le_of_ble_eq_true rfl) ?_
          exact J105 _
      refine V_aload_0 41 dX12_mostOut_41 ?_
      refine V_aload_0 42 dX12_mostOut_42 ?_
      refine V_getR 43 (c := 12) 62 (FT9.r 0 62 43 rfl) dX12_mostOut_43 fl_RX12_146 (FT9.m 0 (Nat.le_of_ble_eq_true rfl)) (FT9.k 0 12 rfl) (Nat.le_of_ble_eq_true rfl) (Nat.le_of_ble_eq_true rfl) rfl ?_
      refine V_iload_3 46 dX12_mostOut_46 ?_
      refine V_iaload2 47 dX12_mostOut_47 (FT9.m 43 (Nat.le_of_ble_eq_true rfl)) (FT9.k 43 14 rfl) (FT9.l 43 18 rfl) ?_ ?_
      · exact vp_in_nI (by omega) (by decide)
      rw [nI_clamp (by omega), hv]
      refine V_callV 48 (ci := 12) [.int _] _ (s_mpartner M.2.1 Γ T FT9 hT (k := hu (c - 1)) hk) dX12_mostOut_48 cb_X12_partner ml_RX12_349 im_yX12_partner se_yX12_partner (FT9.m 0 (Nat.le_of_ble_eq_true rfl)) (FT9.k 0 12 rfl) (Nat.le_of_ble_eq_true rfl) ⟨(Nat.le_of_ble_eq_true rfl), (Nat.le_of_ble_eq_true rfl)⟩ rfl rfl (Nat.le_of_ble_eq_true rfl) ⟨(Nat.le_of_ble_eq_true rfl), (Nat.le_of_ble_eq_true rfl)⟩ (RI.go (fun r1 S1 q1 => ?_))
      rw [q1.2, q1.1]
      refine V_istore_4 51 dX12_mostOut_51 rfl (Nat.le_of_ble_eq_true rfl) ?_
      refine V_aload_0 53 dX12_mostOut_53 ?_
      refine V_getR 54 (c := 12) 63 (FT9.r 0 63 44 rfl) dX12_mostOut_54 fl_RX12_149 (FT9.m 0 (Nat.le_of_ble_eq_true rfl)) (FT9.k 0 12 rfl) (Nat.le_of_ble_eq_true rfl) (Nat.le_of_ble_eq_true rfl) rfl ?_
      refine V_iload_4 57 dX12_mostOut_57 ?_
      refine V_iaload2 59 dX12_mostOut_59 (FT9.m 44 (Nat.le_of_ble_eq_true rfl)) (FT9.k 44 14 rfl) (FT9.l 44 8 rfl) ?_ ?_
      · exact vp_in_nI (by omega) (by decide)
      refine V_if_le 60 80 dX12_mostOut_60 (by decide) (fun c2 => ?_) (fun c2 => ?_)
      ·
        refine V_aload_0 80 dX12_mostOut_80 ?_
        refine V_getR 81 (c := 12) 63 (FT9.r 0 63 44 rfl) dX12_mostOut_81 fl_RX12_149 (FT9.m 0 (Nat.le_of_ble_eq_true rfl)) (FT9.k 0 12 rfl) (Nat.le_of_ble_eq_true rfl) (Nat.le_of_ble_eq_true rfl) rfl ?_
        refine V_aload_0 84 dX12_mostOut_84 ?_
        refine V_getR 85 (c := 12) 62 (FT9.r 0 62 43 rfl) dX12_mostOut_85 fl_RX12_146 (FT9.m 0 (Nat.le_of_ble_eq_true rfl)) (FT9.k 0 12 rfl) (Nat.le_of_ble_eq_true rfl) (Nat.le_of_ble_eq_true rfl) rfl ?_
        refine V_iload_3 88 dX12_mostOut_88 ?_
        refine V_iaload2 89 dX12_mostOut_89 (FT9.m 43 (Nat.le_of_ble_eq_true rfl)) (FT9.k 43 14 rfl) (FT9.l 43 18 rfl) ?_ ?_
        · exact vp_in_nI (by omega) (by decide)
        rw [nI_clamp (by omega), hv]
        refine V_dup2 90 dX12_mostOut_90 rfl rfl ?_
        refine V_iaload2 91 dX12_mostOut_91 (FT9.m 44 (Nat.le_of_ble_eq_true rfl)) (FT9.k 44 14 rfl) (FT9.l 44 8 rfl) ?_ ?_
        · exact vp_in_nI (by omega) (by decide)
        refine V_iconst 92 (1) dX12_mostOut_92 (by decide) ?_
        refine V_iadd 93 dX12_mostOut_93 ?_
        refine V_iastore2 94 dX12_mostOut_94 (FT9.m 44 (Nat.le_of_ble_eq_true rfl)) (FT9.k 44 14 rfl) (FT9.l 44 8 rfl) ?_ ?_
        · exact vp_in_nI (by omega) (by decide)
        refine V_iinc_2 95 (1) dX12_mostOut_95 (by decide) rfl (Nat.le_of_ble_eq_true rfl) ?_
        exact J98 _ _ _ _ (e.uA (by simp))
      ·
        refine V_aload_0 63 dX12_mostOut_63 ?_
        refine V_getR 64 (c := 12) 63 (FT9.r 0 63 44 rfl) dX12_mostOut_64 fl_RX12_149 (FT9.m 0 (Nat.le_of_ble_eq_true rfl)) (FT9.k 0 12 rfl) (Nat.le_of_ble_eq_true rfl) (Nat.le_of_ble_eq_true rfl) rfl ?_
        refine V_iload_4 67 dX12_mostOut_67 ?_
        refine V_dup2 69 dX12_mostOut_69 rfl rfl ?_
        refine V_iaload2 70 dX12_mostOut_70 (FT9.m 44 (Nat.le_of_ble_eq_true rfl)) (FT9.k 44 14 rfl) (FT9.l 44 8 rfl) ?_ ?_
        · exact vp_in_nI (by omega) (by decide)
        refine V_iconst 71 (1) dX12_mostOut_71 (by decide) ?_
        refine V_isub 72 dX12_mostOut_72 ?_
        refine V_iastore2 73 dX12_mostOut_73 (FT9.m 44 (Nat.le_of_ble_eq_true rfl)) (FT9.k 44 14 rfl) (FT9.l 44 8 rfl) ?_ ?_
        · exact vp_in_nI (by omega) (by decide)
        refine V_iinc_2 74 (-1) dX12_mostOut_74 (by decide) rfl (Nat.le_of_ble_eq_true rfl) ?_
        refine V_goto 77 98 dX12_mostOut_77 (by decide) ?_
        exact J98 _ _ _ _ (e.uA (by simp))
  refine V_iconst 0 (0) dX12_mostOut_0 (by decide) ?_
  refine V_istore_1 1 dX12_mostOut_1 rfl (Nat.le_of_ble_eq_true rfl) ?_
  refine V_lvw (by repeat (first | exact trivial | refine ⟨rfl, ?_⟩)) (V_while (α := Nat × PS) (fun z1 => 8 - z1.1) (fun z1 => z1.1 ≤ 8 ∧ FZ [m + 44] [] S z1.2) (fun z1 => z1.2) (fun z1 => [some (.ref m), some (.int (nI z1.1)), none, none, none]) (0, _) ⟨Nat.zero_le _, FZ.rf⟩ (fun z1 hx7 ih6 => ?b8))
  obtain ⟨i2, S3⟩ := z1
  obtain ⟨hi4, h5⟩ := hx7
  dsimp only at hi4 h5 ih6 ⊢
  refine V_iload_1 2 dX12_mostOut_2 ?_
  refine V_bipush 3 (8) dX12_mostOut_3 (by decide) ?_
  refine V_icmp_ge 5 21 dX12_mostOut_5 (by decide) (fun c10 => ?_) (fun c10 => ?_)
  ·
    try have nf11 := (nI_leE (show (8 : Int32) = nI 8 from rfl) (Eq.refl (nI i2)) (by omega) (by omega)).mp c10
    refine V_iconst 21 (0) dX12_mostOut_21 (by decide) ?_
    refine V_istore_1 22 dX12_mostOut_22 rfl (Nat.le_of_ble_eq_true rfl) ?_
    refine V_iconst 23 (0) dX12_mostOut_23 (by decide) ?_
    refine V_istore_2 24 dX12_mostOut_24 rfl (Nat.le_of_ble_eq_true rfl) ?_
    refine V_aload_0 25 dX12_mostOut_25 ?_
    refine V_getR 26 (c := 12) 33 ((F.ss h5.1).r 0 33 21 rfl) dX12_mostOut_26 fl_RX12_79 ((F.ss h5.1).m 0 (Nat.le_of_ble_eq_true rfl)) ((F.ss h5.1).k 0 12 rfl) (Nat.le_of_ble_eq_true rfl) (Nat.le_of_ble_eq_true rfl) rfl ?_
    refine V_aload_0 29 dX12_mostOut_29 ?_
    refine V_getI 30 (c := 12) 18 dX12_mostOut_30 fl_RX12_264 ((F.ss h5.1).m 0 (Nat.le_of_ble_eq_true rfl)) ((F.ss h5.1).k 0 12 rfl) (Nat.le_of_ble_eq_true rfl) (Nat.le_of_ble_eq_true rfl) rfl ?_
    rw [(h.z [44] [] h5 rfl rfl rfl rfl).lv]
    refine V_iaload2 33 dX12_mostOut_33 ((F.ss h5.1).m 21 (Nat.le_of_ble_eq_true rfl)) ((F.ss h5.1).k 21 14 rfl) ((F.ss h5.1).l 21 2 rfl) ?_ ?_
    · exact vpN (Eq.refl (nI (gl g))) (by omega) (by decide)
    rw [clN (Eq.refl (nI (gl g))) (by omega)]
    rw [(h.z [44] [] h5 rfl rfl rfl rfl).ll]
    refine V_iconst 34 (1) dX12_mostOut_34 (by decide) ?_
    refine V_isub 35 dX12_mostOut_35 ?_
    refine V_istore_3 36 dX12_mostOut_36 rfl (Nat.le_of_ble_eq_true rfl) ?_
    exact J37 _ _ _ _ _ (Nat.le_refl _) h5
  ·
    try have nf12 := mt (nI_leE (show (8 : Int32) = nI 8 from rfl) (Eq.refl (nI i2)) (by omega) (by omega)).mpr c10
    have lt13 := nI_lt8 (by decide) hi4 c10
    refine V_aload_0 8 dX12_mostOut_8 ?_
    refine V_getR 9 (c := 12) 63 ((F.ss h5.1).r 0 63 44 rfl) dX12_mostOut_9 fl_RX12_149 ((F.ss h5.1).m 0 (Nat.le_of_ble_eq_true rfl)) ((F.ss h5.1).k 0 12 rfl) (Nat.le_of_ble_eq_true rfl) (Nat.le_of_ble_eq_true rfl) rfl ?_
    refine V_iload_1 12 dX12_mostOut_12 ?_
    refine V_iconst 13 (0) dX12_mostOut_13 (by decide) ?_
    refine V_iastore2 14 dX12_mostOut_14 ((F.ss h5.1).m 44 (Nat.le_of_ble_eq_true rfl)) ((F.ss h5.1).k 44 14 rfl) ((F.ss h5.1).l 44 8 rfl) ?_ ?_
    · exact vp_in_nI (by omega) (by decide)
    refine V_abs (FZ [m + 44] [] S) (h5.uA (by simp)) (fun S14 h15 => ?_)
    refine V_iinc_1 15 (1) dX12_mostOut_15 (by decide) rfl (Nat.le_of_ble_eq_true rfl) ?_
    refine V_goto 18 2 dX12_mostOut_18 (by decide) ?_
    rw [← nI_succ]
    refine V_lvw (by repeat (first | exact trivial | refine ⟨rfl, ?_⟩)) (ih6 (i2 + 1, _) ⟨by dsimp only; omega, h15⟩ (by dsimp only; omega))
set_option maxRecDepth 100000 in
set_option maxHeartbeats 8000000 in
theorem s_mline (l : Launch) (Γ : GC) (S : PS) {m tp : Nat} {g : MG} (I : MV Γ.2.2.2.2.1 m g tp S) : CT l Γ yX12_line cX12_line 1 (some .int) (2) (0) (0) [.ref m] S (RI (fun r S' => MV Γ.2.2.2.2.1 m g tp S')) := by
  refine CT.of RX12 "line" [some (.ref m)] (by decide +kernel) rfl rfl (Nat.le_of_ble_eq_true rfl) rfl (fun M hM => ?_)
  subst hM
  have F := I.f
  refine V_aload_0 0 dX12_line_0 ?_
  refine V_callV 1 (ci := 12) [] _ (s_mhangs M.2.1 Γ S F I.t) dX12_line_1 cb_X12_hangs ml_RX12_403 im_yX12_hangs se_yX12_hangs (F.m 0 (Nat.le_of_ble_eq_true rfl)) (F.k 0 12 rfl) (Nat.le_of_ble_eq_true rfl) ⟨(Nat.le_of_ble_eq_true rfl), (Nat.le_of_ble_eq_true rfl)⟩ rfl rfl (Nat.le_of_ble_eq_true rfl) ⟨(Nat.le_of_ble_eq_true rfl), (Nat.le_of_ble_eq_true rfl)⟩ (RV.go (fun S1 h1 => ?_))
  have I1 := I.z [43] [] h1.1 rfl rfl rfl rfl
  have F1 := I1.f
  refine V_aload_0 4 dX12_line_4 ?_
  refine V_callV 5 (ci := 12) [] _ (s_mmostOut M.2.1 Γ S1 F1 I1.t h1.2) dX12_line_5 cb_X12_mostOut ml_RX12_406 im_yX12_mostOut se_yX12_mostOut (F1.m 0 (Nat.le_of_ble_eq_true rfl)) (F1.k 0 12 rfl) (Nat.le_of_ble_eq_true rfl) ⟨(Nat.le_of_ble_eq_true rfl), (Nat.le_of_ble_eq_true rfl)⟩ rfl rfl (Nat.le_of_ble_eq_true rfl) ⟨(Nat.le_of_ble_eq_true rfl), (Nat.le_of_ble_eq_true rfl)⟩ (RI.go (fun r2 S2 h2 => ?_))
  refine V_iret 8 .int dX12_line_8 rfl rfl (Nat.le_of_ble_eq_true rfl) (Nat.le_of_ble_eq_true rfl) (RI.mk (I1.z [44] [] h2 rfl rfl rfl rfl))
set_option maxRecDepth 100000 in
set_option maxHeartbeats 8000000 in
theorem s_mexchange (l : Launch) (Γ : GC) (S : PS) {m tp : Nat} {g : MG} (I : MV Γ.2.2.2.2.1 m g tp S) (x : Int32) : CT l Γ yX12_exchange cX12_exchange 8 (some .int) (2) (0) (0) [.ref m, .int x] S (RI (fun r S' => MV Γ.2.2.2.2.1 m g tp S')) := by
  refine CT.of RX12 "exchange" [some (.ref m), some (.int x), none, none, none, none, none, none] (by decide +kernel) rfl rfl (Nat.le_of_ble_eq_true rfl) rfl (fun M hM => ?_)
  subst hM
  have F := I.f
  have hl := I.t.l2
  have hL := I.t.ll18
  refine V_iload_1 0 dX12_exchange_0 ?_
  refine V_iconst 1 (0) dX12_exchange_1 (by decide) ?_
  refine V_iconst 2 (1) dX12_exchange_2 (by decide) ?_
  refine V_callS 3 [.int _, .int _, .int _] _ (s_min M.2.1 Γ S _ _ _) dX12_exchange_3 cb_X12_in ml_RX12_335 sm_yX12_in ⟨(Nat.le_of_ble_eq_true rfl), (Nat.le_of_ble_eq_true rfl)⟩ rfl rfl (Nat.le_of_ble_eq_true rfl) ⟨(Nat.le_of_ble_eq_true rfl), (Nat.le_of_ble_eq_true rfl)⟩ (RI.go (fun r1 S1 q1 => ?_))
  rw [q1.2]
  refine V_if_ne 6 11 dX12_exchange_6 (by decide) (fun c => ?_) (fun c => ?_)
  ·
    refine V_aload_0 11 dX12_exchange_11 ?_
    refine V_callV 12 (ci := 12) [] _ (s_mhangs M.2.1 Γ S F I.t) dX12_exchange_12 cb_X12_hangs ml_RX12_403 im_yX12_hangs se_yX12_hangs (F.m 0 (Nat.le_of_ble_eq_true rfl)) (F.k 0 12 rfl) (Nat.le_of_ble_eq_true rfl) ⟨(Nat.le_of_ble_eq_true rfl), (Nat.le_of_ble_eq_true rfl)⟩ rfl rfl (Nat.le_of_ble_eq_true rfl) ⟨(Nat.le_of_ble_eq_true rfl), (Nat.le_of_ble_eq_true rfl)⟩ (RV.go (fun S2 h2 => ?_))
    have I2 := I.z [43] [] h2.1 rfl rfl rfl rfl
    have F2 := I2.f
    have J3 : ∀ (S1 : PS) (x4 : Int32) (x5 : Int32) (x6 : Int32) (x7 : Int32), FZ [m + 43, m + 44] [] S2 S1 → (HB m g S1) → V M Γ (8, RX12, "exchange", (some .int), RM (2) (0) (0)) cX12_exchange (RQ M Γ (RI (fun r S' => MV Γ.2.2.2.2.1 m g tp S')) (0) (0)) 0 0 S1 163 [some (.ref m), some (.int x), some (.int x4), some (.int x5), some (.int x6), none, none, none] [.int x7] := by
      intro S1 x4 x5 x6 x7 h2 p8
      refine V_iret 163 .int dX12_exchange_163 rfl rfl (Nat.le_of_ble_eq_true rfl) (Nat.le_of_ble_eq_true rfl) (RI.mk (I2.z [43, 44] [] h2 rfl rfl rfl rfl))
    refine V_bipush 15 (-2) dX12_exchange_15 (by decide) ?_
    refine V_istore_2 17 dX12_exchange_17 rfl (Nat.le_of_ble_eq_true rfl) ?_
    refine V_aload_0 18 dX12_exchange_18 ?_
    refine V_callV 19 (ci := 12) [] _ (s_mmostOut M.2.1 Γ S2 F2 (I2.t.z [43, 44] [] FZ.rf rfl rfl rfl rfl) h2.2) dX12_exchange_19 cb_X12_mostOut ml_RX12_406 im_yX12_mostOut se_yX12_mostOut (F2.m 0 (Nat.le_of_ble_eq_true rfl)) (F2.k 0 12 rfl) (Nat.le_of_ble_eq_true rfl) ⟨(Nat.le_of_ble_eq_true rfl), (Nat.le_of_ble_eq_true rfl)⟩ rfl rfl (Nat.le_of_ble_eq_true rfl) ⟨(Nat.le_of_ble_eq_true rfl), (Nat.le_of_ble_eq_true rfl)⟩ (RI.go (fun r11 S9 q10 => ?_))
    have h12 : FZ [m + 43, m + 44] [] S2 S9 := (FZ.rf (X := [m + 43, m + 44]) (Y := []) (S := S2)).tr (q10.sub (by simp) (by simp))
    have p13 : (HB m g S9) := by exact HB.fz h2.2 q10 (by simp)
    refine V_istore_3 22 dX12_exchange_22 rfl (Nat.le_of_ble_eq_true rfl) ?_
    refine V_iconst 23 (0) dX12_exchange_23 (by decide) ?_
    refine V_istore_4 24 dX12_exchange_24 rfl (Nat.le_of_ble_eq_true rfl) ?_
    refine V_lvw (by repeat (first | exact trivial | refine ⟨rfl, ?_⟩)) (V_while (α := Nat × PS × Int32 × Int32) (fun z14 => gLL g - z14.1) (fun z14 => z14.1 ≤ gLL g ∧ FZ [m + 43, m + 44] [] S2 z14.2.1 ∧ (HB m g z14.2.1)) (fun z14 => z14.2.1) (fun z14 => [some (.ref m), some (.int x), some (.int z14.2.2.1), some (.int z14.2.2.2), some (.int (nI z14.1)), none, none, none]) (0, _, _, _) ⟨Nat.zero_le _, h12, p13⟩ (fun z14 hx22 ih19 => ?b23))
    obtain ⟨i15, S16, w20, w21⟩ := z14
    obtain ⟨hi17, h18, p25⟩ := hx22
    dsimp only at hi17 h18 p25 ih19 ⊢
    refine V_iload_4 26 dX12_exchange_26 ?_
    refine V_aload_0 28 dX12_exchange_28 ?_
    refine V_getR 29 (c := 12) 33 ((F2.ss h18.1).r 0 33 21 rfl) dX12_exchange_29 fl_RX12_79 ((F2.ss h18.1).m 0 (Nat.le_of_ble_eq_true rfl)) ((F2.ss h18.1).k 0 12 rfl) (Nat.le_of_ble_eq_true rfl) (Nat.le_of_ble_eq_true rfl) rfl ?_
    refine V_aload_0 32 dX12_exchange_32 ?_
    refine V_getI 33 (c := 12) 18 dX12_exchange_33 fl_RX12_264 ((F2.ss h18.1).m 0 (Nat.le_of_ble_eq_true rfl)) ((F2.ss h18.1).k 0 12 rfl) (Nat.le_of_ble_eq_true rfl) (Nat.le_of_ble_eq_true rfl) rfl ?_
    rw [(I2.t.z [43, 44] [] h18 rfl rfl rfl rfl).lv]
    refine V_iaload2 36 dX12_exchange_36 ((F2.ss h18.1).m 21 (Nat.le_of_ble_eq_true rfl)) ((F2.ss h18.1).k 21 14 rfl) ((F2.ss h18.1).l 21 2 rfl) ?_ ?_
    · exact vpN (Eq.refl (nI (gl g))) (by omega) (by decide)
    rw [clN (Eq.refl (nI (gl g))) (by omega)]
    rw [(I2.t.z [43, 44] [] h18 rfl rfl rfl rfl).ll]
    refine V_icmp_ge 37 154 dX12_exchange_37 (by decide) (fun c26 => ?_) (fun c26 => ?_)
    ·
      try have nf27 := (nI_leE (Eq.refl (nI (gLL g))) (Eq.refl (nI i15)) (by omega) (by omega)).mp c26
      refine V_iload_1 154 dX12_exchange_154 ?_
      refine V_if_ne 155 162 dX12_exchange_155 (by decide) (fun c28 => ?_) (fun c28 => ?_)
      ·
        refine V_iload_3 162 dX12_exchange_162 ?_
        refine V_lvw (by repeat (first | exact trivial | refine ⟨rfl, ?_⟩)) (J3 _ _ _ _ _ h18 p25)
      ·
        refine V_iload_2 158 dX12_exchange_158 ?_
        refine V_goto 159 163 dX12_exchange_159 (by decide) ?_
        refine V_lvw (by repeat (first | exact trivial | refine ⟨rfl, ?_⟩)) (J3 _ _ _ _ _ h18 p25)
    ·
      try have nf31 := mt (nI_leE (Eq.refl (nI (gLL g))) (Eq.refl (nI i15)) (by omega) (by omega)).mpr c26
      try have lt32 := nI_ltC hi17 c26
      refine V_iload_4 40 dX12_exchange_40 ?_
      refine V_iconst 42 (1) dX12_exchange_42 (by decide) ?_
      refine V_iadd 43 dX12_exchange_43 ?_
      refine V_istore_5 44 dX12_exchange_44 rfl (Nat.le_of_ble_eq_true rfl) ?_
      rw [(eqAdd (Eq.refl (nI i15)) (show (1 : Int32) = nI 1 from rfl))]
      refine V_lvw (by repeat (first | exact trivial | refine ⟨rfl, ?_⟩)) (V_while (α := Nat × PS × Int32 × Int32) (fun z33 => gLL g - z33.1) (fun z33 => z33.1 ≤ gLL g ∧ FZ [m + 43, m + 44] [] S2 z33.2.1 ∧ (HB m g z33.2.1)) (fun z33 => z33.2.1) (fun z33 => [some (.ref m), some (.int x), some (.int z33.2.2.1), some (.int z33.2.2.2), some (.int (nI i15)), some (.int (nI z33.1)), none, none]) (i15 + 1, _, _, _) ⟨(by dsimp only; omega), h18, p25⟩ (fun z33 hx41 ih38 => ?b42))
      obtain ⟨i34, S35, w39, w40⟩ := z33
      obtain ⟨hi36, h37, p44⟩ := hx41
      dsimp only at hi36 h37 p44 ih38 ⊢
      have J47 : ∀ (S45 : PS) (x48 : Int32) (x49 : Int32) (x50 : Int32) (x51 : Int32), FZ [m + 43, m + 44] [] S2 S45 → (HB m g S45) → i34 < gLL g → V M Γ (8, RX12, "exchange", (some .int), RM (2) (0) (0)) cX12_exchange (RQ M Γ (RI (fun r S' => MV Γ.2.2.2.2.1 m g tp S')) (0) (0)) 0 0 S45 142 [some (.ref m), some (.int x), some (.int x48), some (.int x49), some (.int (nI i15)), some (.int (nI i34)), some (.int x50), some (.int x51)] [] := by
        intro S45 x48 x49 x50 x51 h46 p52 lt53
        refine V_iinc_5 142 (1) dX12_exchange_142 (by decide) rfl (Nat.le_of_ble_eq_true rfl) ?_
        refine V_goto 145 46 dX12_exchange_145 (by decide) ?_
        rw [← nI_succ]
        refine V_lvw (by repeat (first | exact trivial | refine ⟨rfl, ?_⟩)) (ih38 (i34 + 1, _, _, _) ⟨by dsimp only; omega, h46, p52⟩ (by dsimp only; omega))
      refine V_iload_5 46 dX12_exchange_46 ?_
      refine V_aload_0 48 dX12_exchange_48 ?_
      refine V_getR 49 (c := 12) 33 ((F2.ss h37.1).r 0 33 21 rfl) dX12_exchange_49 fl_RX12_79 ((F2.ss h37.1).m 0 (Nat.le_of_ble_eq_true rfl)) ((F2.ss h37.1).k 0 12 rfl) (Nat.le_of_ble_eq_true rfl) (Nat.le_of_ble_eq_true rfl) rfl ?_
      refine V_aload_0 52 dX12_exchange_52 ?_
      refine V_getI 53 (c := 12) 18 dX12_exchange_53 fl_RX12_264 ((F2.ss h37.1).m 0 (Nat.le_of_ble_eq_true rfl)) ((F2.ss h37.1).k 0 12 rfl) (Nat.le_of_ble_eq_true rfl) (Nat.le_of_ble_eq_true rfl) rfl ?_
      rw [(I2.t.z [43, 44] [] h37 rfl rfl rfl rfl).lv]
      refine V_iaload2 56 dX12_exchange_56 ((F2.ss h37.1).m 21 (Nat.le_of_ble_eq_true rfl)) ((F2.ss h37.1).k 21 14 rfl) ((F2.ss h37.1).l 21 2 rfl) ?_ ?_
      · exact vpN (Eq.refl (nI (gl g))) (by omega) (by decide)
      rw [clN (Eq.refl (nI (gl g))) (by omega)]
      rw [(I2.t.z [43, 44] [] h37 rfl rfl rfl rfl).ll]
      refine V_icmp_ge 57 148 dX12_exchange_57 (by decide) (fun c54 => ?_) (fun c54 => ?_)
      ·
        try have nf55 := (nI_leE (Eq.refl (nI (gLL g))) (Eq.refl (nI i34)) (by omega) (by omega)).mp c54
        refine V_iinc_4 148 (1) dX12_exchange_148 (by decide) rfl (Nat.le_of_ble_eq_true rfl) ?_
        refine V_goto 151 26 dX12_exchange_151 (by decide) ?_
        rw [← nI_succ]
        refine V_lvw (by repeat (first | exact trivial | refine ⟨rfl, ?_⟩)) (ih19 (i15 + 1, _, _, _) ⟨by dsimp only; omega, h37, p44⟩ (by dsimp only; omega))
      ·
        try have nf56 := mt (nI_leE (Eq.refl (nI (gLL g))) (Eq.refl (nI i34)) (by omega) (by omega)).mpr c54
        try have lt57 := nI_ltC hi36 c54
        refine V_aload_0 60 dX12_exchange_60 ?_
        refine V_getR 61 (c := 12) 62 ((F2.ss h37.1).r 0 62 43 rfl) dX12_exchange_61 fl_RX12_146 ((F2.ss h37.1).m 0 (Nat.le_of_ble_eq_true rfl)) ((F2.ss h37.1).k 0 12 rfl) (Nat.le_of_ble_eq_true rfl) (Nat.le_of_ble_eq_true rfl) rfl ?_
        refine V_iload_4 64 dX12_exchange_64 ?_
        refine V_iaload2 66 dX12_exchange_66 ((F2.ss h37.1).m 43 (Nat.le_of_ble_eq_true rfl)) ((F2.ss h37.1).k 43 14 rfl) ((F2.ss h37.1).l 43 18 rfl) ?_ ?_
        · exact vp_in_nI (by omega) (by decide)
        rw [clN (Eq.refl (nI i15)) (by omega)]
        have ha9 := p44 i15 (by omega)
        refine V_istore_6 67 dX12_exchange_67 rfl (Nat.le_of_ble_eq_true rfl) ?_
        refine V_aload_0 69 dX12_exchange_69 ?_
        refine V_getR 70 (c := 12) 62 ((F2.ss h37.1).r 0 62 43 rfl) dX12_exchange_70 fl_RX12_146 ((F2.ss h37.1).m 0 (Nat.le_of_ble_eq_true rfl)) ((F2.ss h37.1).k 0 12 rfl) (Nat.le_of_ble_eq_true rfl) (Nat.le_of_ble_eq_true rfl) rfl ?_
        refine V_iload_4 73 dX12_exchange_73 ?_
        refine V_aload_0 75 dX12_exchange_75 ?_
        refine V_getR 76 (c := 12) 62 ((F2.ss h37.1).r 0 62 43 rfl) dX12_exchange_76 fl_RX12_146 ((F2.ss h37.1).m 0 (Nat.le_of_ble_eq_true rfl)) ((F2.ss h37.1).k 0 12 rfl) (Nat.le_of_ble_eq_true rfl) (Nat.le_of_ble_eq_true rfl) rfl ?_
        refine V_iload_5 79 dX12_exchange_79 ?_
        refine V_iaload2 81 dX12_exchange_81 ((F2.ss h37.1).m 43 (Nat.le_of_ble_eq_true rfl)) ((F2.ss h37.1).k 43 14 rfl) ((F2.ss h37.1).l 43 18 rfl) ?_ ?_
        · exact vp_in_nI (by omega) (by decide)
        rw [clN (Eq.refl (nI i34)) (by omega)]
        have hb9 := p44 i34 (by omega)
        refine V_iastore2 82 dX12_exchange_82 ((F2.ss h37.1).m 43 (Nat.le_of_ble_eq_true rfl)) ((F2.ss h37.1).k 43 14 rfl) ((F2.ss h37.1).l 43 18 rfl) ?_ ?_
        · exact vp_in_nI (by omega) (by decide)
        refine V_abs (fun T9 => FZ [m + 43, m + 44] [] S2 T9 ∧ (HB m g T9)) ⟨h37.uA (by simp), by exact HB.set p44 hb9⟩ (fun S58 hh61 => ?_)
        obtain ⟨h59, p60⟩ := hh61
        refine V_aload_0 83 dX12_exchange_83 ?_
        refine V_getR 84 (c := 12) 62 ((F2.ss h59.1).r 0 62 43 rfl) dX12_exchange_84 fl_RX12_146 ((F2.ss h59.1).m 0 (Nat.le_of_ble_eq_true rfl)) ((F2.ss h59.1).k 0 12 rfl) (Nat.le_of_ble_eq_true rfl) (Nat.le_of_ble_eq_true rfl) rfl ?_
        refine V_iload_5 87 dX12_exchange_87 ?_
        refine V_iload_6 89 dX12_exchange_89 ?_
        refine V_iastore2 91 dX12_exchange_91 ((F2.ss h59.1).m 43 (Nat.le_of_ble_eq_true rfl)) ((F2.ss h59.1).k 43 14 rfl) ((F2.ss h59.1).l 43 18 rfl) ?_ ?_
        · exact vp_in_nI (by omega) (by decide)
        refine V_abs (fun T9 => FZ [m + 43, m + 44] [] S2 T9 ∧ (HB m g T9)) ⟨h59.uA (by simp), by exact HB.set p60 ha9⟩ (fun S62 hh65 => ?_)
        obtain ⟨h63, p64⟩ := hh65
        refine V_aload_0 92 dX12_exchange_92 ?_
        refine V_callV 93 (ci := 12) [] _ (s_mmostOut M.2.1 Γ S62 (F2.ss h63.1) (I2.t.z [43, 44] [] h63 rfl rfl rfl rfl) p64) dX12_exchange_93 cb_X12_mostOut ml_RX12_406 im_yX12_mostOut se_yX12_mostOut ((F2.ss h63.1).m 0 (Nat.le_of_ble_eq_true rfl)) ((F2.ss h63.1).k 0 12 rfl) (Nat.le_of_ble_eq_true rfl) ⟨(Nat.le_of_ble_eq_true rfl), (Nat.le_of_ble_eq_true rfl)⟩ rfl rfl (Nat.le_of_ble_eq_true rfl) ⟨(Nat.le_of_ble_eq_true rfl), (Nat.le_of_ble_eq_true rfl)⟩ (RI.go (fun r68 S66 q67 => ?_))
        have h69 : FZ [m + 43, m + 44] [] S2 S66 := h63.tr (q67.sub (by simp) (by simp))
        have p70 : (HB m g S66) := by exact HB.fz p64 q67 (by simp)
        refine V_istore_7 96 dX12_exchange_96 rfl (Nat.le_of_ble_eq_true rfl) ?_
        refine V_aload_0 98 dX12_exchange_98 ?_
        refine V_getR 99 (c := 12) 62 ((F2.ss h69.1).r 0 62 43 rfl) dX12_exchange_99 fl_RX12_146 ((F2.ss h69.1).m 0 (Nat.le_of_ble_eq_true rfl)) ((F2.ss h69.1).k 0 12 rfl) (Nat.le_of_ble_eq_true rfl) (Nat.le_of_ble_eq_true rfl) rfl ?_
        refine V_iload_5 102 dX12_exchange_102 ?_
        refine V_aload_0 104 dX12_exchange_104 ?_
        refine V_getR 105 (c := 12) 62 ((F2.ss h69.1).r 0 62 43 rfl) dX12_exchange_105 fl_RX12_146 ((F2.ss h69.1).m 0 (Nat.le_of_ble_eq_true rfl)) ((F2.ss h69.1).k 0 12 rfl) (Nat.le_of_ble_eq_true rfl) (Nat.le_of_ble_eq_true rfl) rfl ?_
        refine V_iload_4 108 dX12_exchange_108 ?_
        refine V_iaload2 110 dX12_exchange_110 ((F2.ss h69.1).m 43 (Nat.le_of_ble_eq_true rfl)) ((F2.ss h69.1).k 43 14 rfl) ((F2.ss h69.1).l 43 18 rfl) ?_ ?_
        · exact vp_in_nI (by omega) (by decide)
        rw [clN (Eq.refl (nI i15)) (by omega)]
        have hc9 := p70 i15 (by omega)
        refine V_iastore2 111 dX12_exchange_111 ((F2.ss h69.1).m 43 (Nat.le_of_ble_eq_true rfl)) ((F2.ss h69.1).k 43 14 rfl) ((F2.ss h69.1).l 43 18 rfl) ?_ ?_
        · exact vp_in_nI (by omega) (by decide)
        refine V_abs (fun T9 => FZ [m + 43, m + 44] [] S2 T9 ∧ (HB m g T9)) ⟨h69.uA (by simp), by exact HB.set p70 hc9⟩ (fun S71 hh74 => ?_)
        obtain ⟨h72, p73⟩ := hh74
        refine V_aload_0 112 dX12_exchange_112 ?_
        refine V_getR 113 (c := 12) 62 ((F2.ss h72.1).r 0 62 43 rfl) dX12_exchange_113 fl_RX12_146 ((F2.ss h72.1).m 0 (Nat.le_of_ble_eq_true rfl)) ((F2.ss h72.1).k 0 12 rfl) (Nat.le_of_ble_eq_true rfl) (Nat.le_of_ble_eq_true rfl) rfl ?_
        refine V_iload_4 116 dX12_exchange_116 ?_
        refine V_iload_6 118 dX12_exchange_118 ?_
        refine V_iastore2 120 dX12_exchange_120 ((F2.ss h72.1).m 43 (Nat.le_of_ble_eq_true rfl)) ((F2.ss h72.1).k 43 14 rfl) ((F2.ss h72.1).l 43 18 rfl) ?_ ?_
        · exact vp_in_nI (by omega) (by decide)
        refine V_abs (fun T9 => FZ [m + 43, m + 44] [] S2 T9 ∧ (HB m g T9)) ⟨h72.uA (by simp), by exact HB.set p73 ha9⟩ (fun S75 hh78 => ?_)
        obtain ⟨h76, p77⟩ := hh78
        refine V_iload_7 121 dX12_exchange_121 ?_
        refine V_iload_3 123 dX12_exchange_123 ?_
        refine V_icmp_lt 124 130 dX12_exchange_124 (by decide) (fun c79 => ?_) (fun c79 => ?_)
        ·
          refine V_bipush 130 (100) dX12_exchange_130 (by decide) ?_
          refine V_iload_4 132 dX12_exchange_132 ?_
          refine V_imul 134 dX12_exchange_134 ?_
          refine V_iload_5 135 dX12_exchange_135 ?_
          refine V_iadd 137 dX12_exchange_137 ?_
          refine V_istore_2 138 dX12_exchange_138 rfl (Nat.le_of_ble_eq_true rfl) ?_
          refine V_iload_7 139 dX12_exchange_139 ?_
          refine V_istore_3 141 dX12_exchange_141 rfl (Nat.le_of_ble_eq_true rfl) ?_
          refine V_lvw (by repeat (first | exact trivial | refine ⟨rfl, ?_⟩)) (J47 _ _ _ _ _ h76 p77 (by first | omega | assumption))
        ·
          refine V_goto 127 142 dX12_exchange_127 (by decide) ?_
          refine V_lvw (by repeat (first | exact trivial | refine ⟨rfl, ?_⟩)) (J47 _ _ _ _ _ h76 p77 (by first | omega | assumption))
  ·
    refine V_iconst 9 (-1) dX12_exchange_9 (by decide) ?_
    refine V_iret 10 .int dX12_exchange_10 rfl rfl (Nat.le_of_ble_eq_true rfl) (Nat.le_of_ble_eq_true rfl) (RI.mk I)

