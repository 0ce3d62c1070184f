/-! the model: plain -/
def WRp (m s : Nat) (S : PS) (dn : List (Nat × Int32)) (T : PS) : Prop := RO (PLL m) S T ∧ ∀ q, q ∈ dn → sA T (m + q.1) s = q.2
theorem wrp_step {m s : Nat} {S T : PS} {dn : List (Nat × Int32)} (h : WRp m s S dn T) (r : Nat) (v : Int32) (hr : m + r ∈ PLL m) (hd : ∀ q, q ∈ dn → q.1 ≠ r) : WRp m s S ((r, v) :: dn) (uA T (m + r) s v) := by
  refine ⟨h.1.uA hr, fun q hq => ?_⟩
  rcases List.mem_cons.mp hq with rfl | hq
  · exact up2_s _ _ _ _
  · rw [sA_uA, up2_a _ _ (by have := hd q hq; omega)]; exact h.2 q hq
set_option maxRecDepth 100000 in
set_option maxHeartbeats 8000000 in
theorem c_plain (l : Launch) (Γ : GC) (S : PS) {m : Nat} (F : isL lyModel Γ.2.2.2.2.1 S m) (s : Nat) (hs : s < 2) : CT l Γ yX12_plain cX12_plain 3 none (0) (0) (0) [.ref m, .int (nI s)] S (RV (fun S' => PLN m s S S')) := by
  refine CT.of RX12 "plain" [some (.ref m), some (.int (nI s)), none] (by decide +kernel) rfl rfl (Nat.le_of_ble_eq_true rfl) rfl (fun M hM => ?_)
  subst hM
  have W : WRp m s S [] S := ⟨RO.rf, fun q hq => absurd hq List.not_mem_nil⟩
  have hcs : (nI s).toNatClampNeg = s := nI_clamp (by omega)
  have F0 := F.ss W.1.1
  refine V_aload_0 0 dX12_plain_0 ?_
  refine V_getR 1 (c := 12) 20 (F0.r 0 20 8 rfl) dX12_plain_1 fl_RX12_40 (F0.m 0 (Nat.le_of_ble_eq_true rfl)) (F0.k 0 12 rfl) (Nat.le_of_ble_eq_true rfl) (Nat.le_of_ble_eq_true rfl) rfl ?_
  refine V_iload_1 4 dX12_plain_4 ?_
  refine V_iconst 5 (0) dX12_plain_5 (by decide) ?_
  refine V_iastore2 6 dX12_plain_6 (F0.m 8 (Nat.le_of_ble_eq_true rfl)) (F0.k 8 14 rfl) (F0.l 8 2 rfl) ?_ ?_
  · exact vp_in_nI hs (by decide)
  rw [hcs]
  refine V_abs (WRp m s S ((8, 0) :: [])) (wrp_step W 8 0 (by simp [PLL]) (by decide)) (fun T0 W0 => ?_)
  replace W := W0
  clear W0 F0
  have F1 := F.ss W.1.1
  refine V_aload_0 7 dX12_plain_7 ?_
  refine V_getR 8 (c := 12) 23 (F1.r 0 23 11 rfl) dX12_plain_8 fl_RX12_49 (F1.m 0 (Nat.le_of_ble_eq_true rfl)) (F1.k 0 12 rfl) (Nat.le_of_ble_eq_true rfl) (Nat.le_of_ble_eq_true rfl) rfl ?_
  refine V_iload_1 11 dX12_plain_11 ?_
  refine V_iconst 12 (0) dX12_plain_12 (by decide) ?_
  refine V_iastore2 13 dX12_plain_13 (F1.m 11 (Nat.le_of_ble_eq_true rfl)) (F1.k 11 14 rfl) (F1.l 11 2 rfl) ?_ ?_
  · exact vp_in_nI hs (by decide)
  rw [hcs]
  refine V_abs (WRp m s S ((11, 0) :: (8, 0) :: [])) (wrp_step W 11 0 (by simp [PLL]) (by decide)) (fun T1 W1 => ?_)
  replace W := W1
  clear W1 F1
  have F2 := F.ss W.1.1
  refine V_aload_0 14 dX12_plain_14 ?_
  refine V_getR 15 (c := 12) 27 (F2.r 0 27 15 rfl) dX12_plain_15 fl_RX12_61 (F2.m 0 (Nat.le_of_ble_eq_true rfl)) (F2.k 0 12 rfl) (Nat.le_of_ble_eq_true rfl) (Nat.le_of_ble_eq_true rfl) rfl ?_
  refine V_iload_1 18 dX12_plain_18 ?_
  refine V_iconst 19 (0) dX12_plain_19 (by decide) ?_
  refine V_iastore2 20 dX12_plain_20 (F2.m 15 (Nat.le_of_ble_eq_true rfl)) (F2.k 15 14 rfl) (F2.l 15 2 rfl) ?_ ?_
  · exact vp_in_nI hs (by decide)
  rw [hcs]
  refine V_abs (WRp m s S ((15, 0) :: (11, 0) :: (8, 0) :: [])) (wrp_step W 15 0 (by simp [PLL]) (by decide)) (fun T2 W2 => ?_)
  replace W := W2
  clear W2 F2
  have F3 := F.ss W.1.1
  refine V_aload_0 21 dX12_plain_21 ?_
  refine V_getR 22 (c := 12) 28 (F3.r 0 28 16 rfl) dX12_plain_22 fl_RX12_64 (F3.m 0 (Nat.le_of_ble_eq_true rfl)) (F3.k 0 12 rfl) (Nat.le_of_ble_eq_true rfl) (Nat.le_of_ble_eq_true rfl) rfl ?_
  refine V_iload_1 25 dX12_plain_25 ?_
  refine V_iconst 26 (0) dX12_plain_26 (by decide) ?_
  refine V_iastore2 27 dX12_plain_27 (F3.m 16 (Nat.le_of_ble_eq_true rfl)) (F3.k 16 14 rfl) (F3.l 16 2 rfl) ?_ ?_
  · exact vp_in_nI hs (by decide)
  rw [hcs]
  refine V_abs (WRp m s S ((16, 0) :: (15, 0) :: (11, 0) :: (8, 0) :: [])) (wrp_step W 16 0 (by simp [PLL]) (by decide)) (fun T3 W3 => ?_)
  replace W := W3
  clear W3 F3
  have F4 := F.ss W.1.1
  refine V_aload_0 28 dX12_plain_28 ?_
  refine V_getR 29 (c := 12) 30 (F4.r 0 30 18 rfl) dX12_plain_29 fl_RX12_70 (F4.m 0 (Nat.le_of_ble_eq_true rfl)) (F4.k 0 12 rfl) (Nat.le_of_ble_eq_true rfl) (Nat.le_of_ble_eq_true rfl) rfl ?_
  refine V_iload_1 32 dX12_plain_32 ?_
  refine V_iconst 33 (0) dX12_plain_33 (by decide) ?_
  refine V_iastore2 34 dX12_plain_34 (F4.m 18 (Nat.le_of_ble_eq_true rfl)) (F4.k 18 14 rfl) (F4.l 18 2 rfl) ?_ ?_
  · exact vp_in_nI hs (by decide)
  rw [hcs]
  refine V_abs (WRp m s S ((18, 0) :: (16, 0) :: (15, 0) :: (11, 0) :: (8, 0) :: [])) (wrp_step W 18 0 (by simp [PLL]) (by decide)) (fun T4 W4 => ?_)
  replace W := W4
  clear W4 F4
  have F5 := F.ss W.1.1
  refine V_aload_0 35 dX12_plain_35 ?_
  refine V_getR 36 (c := 12) 31 (F5.r 0 31 19 rfl) dX12_plain_36 fl_RX12_73 (F5.m 0 (Nat.le_of_ble_eq_true rfl)) (F5.k 0 12 rfl) (Nat.le_of_ble_eq_true rfl) (Nat.le_of_ble_eq_true rfl) rfl ?_
  refine V_iload_1 39 dX12_plain_39 ?_
  refine V_bipush 40 (18) dX12_plain_40 (by decide) ?_
  refine V_iastore2 42 dX12_plain_42 (F5.m 19 (Nat.le_of_ble_eq_true rfl)) (F5.k 19 14 rfl) (F5.l 19 2 rfl) ?_ ?_
  · exact vp_in_nI hs (by decide)
  rw [hcs]
  refine V_abs (WRp m s S ((19, 18) :: (18, 0) :: (16, 0) :: (15, 0) :: (11, 0) :: (8, 0) :: [])) (wrp_step W 19 18 (by simp [PLL]) (by decide)) (fun T5 W5 => ?_)
  replace W := W5
  clear W5 F5
  have F6 := F.ss W.1.1
  refine V_aload_0 43 dX12_plain_43 ?_
  refine V_getR 44 (c := 12) 32 (F6.r 0 32 20 rfl) dX12_plain_44 fl_RX12_76 (F6.m 0 (Nat.le_of_ble_eq_true rfl)) (F6.k 0 12 rfl) (Nat.le_of_ble_eq_true rfl) (Nat.le_of_ble_eq_true rfl) rfl ?_
  refine V_iload_1 47 dX12_plain_47 ?_
  refine V_iconst 48 (1) dX12_plain_48 (by decide) ?_
  refine V_iastore2 49 dX12_plain_49 (F6.m 20 (Nat.le_of_ble_eq_true rfl)) (F6.k 20 14 rfl) (F6.l 20 2 rfl) ?_ ?_
  · exact vp_in_nI hs (by decide)
  rw [hcs]
  refine V_abs (WRp m s S ((20, 1) :: (19, 18) :: (18, 0) :: (16, 0) :: (15, 0) :: (11, 0) :: (8, 0) :: [])) (wrp_step W 20 1 (by simp [PLL]) (by decide)) (fun T6 W6 => ?_)
  replace W := W6
  clear W6 F6
  have F7 := F.ss W.1.1
  refine V_aload_0 50 dX12_plain_50 ?_
  refine V_getR 51 (c := 12) 33 (F7.r 0 33 21 rfl) dX12_plain_51 fl_RX12_79 (F7.m 0 (Nat.le_of_ble_eq_true rfl)) (F7.k 0 12 rfl) (Nat.le_of_ble_eq_true rfl) (Nat.le_of_ble_eq_true rfl) rfl ?_
  refine V_iload_1 54 dX12_plain_54 ?_
  refine V_iconst 55 (0) dX12_plain_55 (by decide) ?_
  refine V_iastore2 56 dX12_plain_56 (F7.m 21 (Nat.le_of_ble_eq_true rfl)) (F7.k 21 14 rfl) (F7.l 21 2 rfl) ?_ ?_
  · exact vp_in_nI hs (by decide)
  rw [hcs]
  refine V_abs (WRp m s S ((21, 0) :: (20, 1) :: (19, 18) :: (18, 0) :: (16, 0) :: (15, 0) :: (11, 0) :: (8, 0) :: [])) (wrp_step W 21 0 (by simp [PLL]) (by decide)) (fun T7 W7 => ?_)
  replace W := W7
  clear W7 F7
  have F8 := F.ss W.1.1
  refine V_aload_0 57 dX12_plain_57 ?_
  refine V_getR 58 (c := 12) 36 (F8.r 0 36 24 rfl) dX12_plain_58 fl_RX12_88 (F8.m 0 (Nat.le_of_ble_eq_true rfl)) (F8.k 0 12 rfl) (Nat.le_of_ble_eq_true rfl) (Nat.le_of_ble_eq_true rfl) rfl ?_
  refine V_iload_1 61 dX12_plain_61 ?_
  refine V_iconst 62 (0) dX12_plain_62 (by decide) ?_
  refine V_iastore2 63 dX12_plain_63 (F8.m 24 (Nat.le_of_ble_eq_true rfl)) (F8.k 24 14 rfl) (F8.l 24 2 rfl) ?_ ?_
  · exact vp_in_nI hs (by decide)
  rw [hcs]
  refine V_abs (WRp m s S ((24, 0) :: (21, 0) :: (20, 1) :: (19, 18) :: (18, 0) :: (16, 0) :: (15, 0) :: (11, 0) :: (8, 0) :: [])) (wrp_step W 24 0 (by simp [PLL]) (by decide)) (fun T8 W8 => ?_)
  replace W := W8
  clear W8 F8
  have F9 := F.ss W.1.1
  refine V_aload_0 64 dX12_plain_64 ?_
  refine V_getR 65 (c := 12) 37 (F9.r 0 37 25 rfl) dX12_plain_65 fl_RX12_91 (F9.m 0 (Nat.le_of_ble_eq_true rfl)) (F9.k 0 12 rfl) (Nat.le_of_ble_eq_true rfl) (Nat.le_of_ble_eq_true rfl) rfl ?_
  refine V_iload_1 68 dX12_plain_68 ?_
  refine V_iconst 69 (0) dX12_plain_69 (by decide) ?_
  refine V_iastore2 70 dX12_plain_70 (F9.m 25 (Nat.le_of_ble_eq_true rfl)) (F9.k 25 14 rfl) (F9.l 25 2 rfl) ?_ ?_
  · exact vp_in_nI hs (by decide)
  rw [hcs]
  refine V_abs (WRp m s S ((25, 0) :: (24, 0) :: (21, 0) :: (20, 1) :: (19, 18) :: (18, 0) :: (16, 0) :: (15, 0) :: (11, 0) :: (8, 0) :: [])) (wrp_step W 25 0 (by simp [PLL]) (by decide)) (fun T9 W9 => ?_)
  replace W := W9
  clear W9 F9
  have F10 := F.ss W.1.1
  refine V_aload_0 71 dX12_plain_71 ?_
  refine V_getR 72 (c := 12) 38 (F10.r 0 38 26 rfl) dX12_plain_72 fl_RX12_94 (F10.m 0 (Nat.le_of_ble_eq_true rfl)) (F10.k 0 12 rfl) (Nat.le_of_ble_eq_true rfl) (Nat.le_of_ble_eq_true rfl) rfl ?_
  refine V_iload_1 75 dX12_plain_75 ?_
  refine V_iconst 76 (0) dX12_plain_76 (by decide) ?_
  refine V_iastore2 77 dX12_plain_77 (F10.m 26 (Nat.le_of_ble_eq_true rfl)) (F10.k 26 14 rfl) (F10.l 26 2 rfl) ?_ ?_
  · exact vp_in_nI hs (by decide)
  rw [hcs]
  refine V_abs (WRp m s S ((26, 0) :: (25, 0) :: (24, 0) :: (21, 0) :: (20, 1) :: (19, 18) :: (18, 0) :: (16, 0) :: (15, 0) :: (11, 0) :: (8, 0) :: [])) (wrp_step W 26 0 (by simp [PLL]) (by decide)) (fun T10 W10 => ?_)
  replace W := W10
  clear W10 F10
  have h1 : PLN m s S T10 := by
    refine ⟨W.1, fun r hr => ?_, W.2 (19, 18) (by decide), W.2 (20, 1) (by decide)⟩
    rcases (show r = 8 ∨ r = 11 ∨ r = 15 ∨ r = 16 ∨ r = 18 ∨ r = 21 ∨ r = 24 ∨ r = 25 ∨ r = 26 by simpa [ONL] using hr) with rfl | rfl | rfl | rfl | rfl | rfl | rfl | rfl | rfl
    · exact W.2 (8, 0) (by decide)
    · exact W.2 (11, 0) (by decide)
    · exact W.2 (15, 0) (by decide)
    · exact W.2 (16, 0) (by decide)
    · exact W.2 (18, 0) (by decide)
    · exact W.2 (21, 0) (by decide)
    · exact W.2 (24, 0) (by decide)
    · exact W.2 (25, 0) (by decide)
    · exact W.2 (26, 0) (by decide)
  clear W
  have F1 := F.ss h1.1.1
  refine V_iconst 78 (0) dX12_plain_78 (by decide) ?_
  refine V_istore_2 79 dX12_plain_79 rfl (Nat.le_of_ble_eq_true rfl) ?_
  refine V_while (α := Nat × PS) (fun x => 64 - x.1) (fun x => x.1 ≤ 64 ∧ PLN m s S x.2) (fun x => x.2) (fun x => [some (.ref m), some (.int (nI s)), some (.int (nI x.1))]) (0, T10) ⟨Nat.zero_le _, h1⟩ (fun x hx ih => ?_)
  obtain ⟨i, S2⟩ := x
  obtain ⟨hi, hR⟩ := hx
  dsimp only at hi hR ih ⊢
  have F2 := F.ss hR.1.1
  have stp : ∀ (i : Nat) (v : Int32), PLN m s S (uA S2 (m + 17) i v) := fun i v => by
    refine ⟨hR.1.uA (by simp [PLL]), fun r hr => ?_, ?_, ?_⟩
    · rw [sA_uA, up2_a _ _ (by have : r ≠ 17 := fun q => by subst q; exact absurd hr (by decide)
                               omega)]; exact hR.2.1 r hr
    · rw [sA_uA, up2_a _ _ (by omega)]; exact hR.2.2.1
    · rw [sA_uA, up2_a _ _ (by omega)]; exact hR.2.2.2
  refine V_iload_2 80 dX12_plain_80 ?_
  refine V_bipush 81 (64) dX12_plain_81 (by decide) ?_
  refine V_icmp_ge 83 120 dX12_plain_83 (by decide) (fun c => ?_) (fun c => ?_)
  ·
    refine V_vret 120 dX12_plain_120 rfl (Nat.le_of_ble_eq_true rfl) (Nat.le_of_ble_eq_true rfl) (RV.mk hR)
  ·
    have hi2 := nI_lt8 (by decide) hi c
    have hx : vp_in ((64 : Int32) * nI s + nI i) 128 := by
      rw [show (64 : Int32) * nI s + nI i = nI (64 * s + i) from by
        rcases (show s = 0 ∨ s = 1 by omega) with rfl | rfl
        · rw [show (64 : Int32) * nI 0 = nI 0 from by decide, nI_add]
        · rw [show (64 : Int32) * nI 1 = nI 64 from by decide, nI_add]]
      exact vp_in_nI (by omega) (by decide)
    refine V_aload_0 86 dX12_plain_86 ?_
    refine V_getR 87 (c := 12) 29 (F2.r 0 29 17 rfl) dX12_plain_87 fl_RX12_67 (F2.m 0 (Nat.le_of_ble_eq_true rfl)) (F2.k 0 12 rfl) (Nat.le_of_ble_eq_true rfl) (Nat.le_of_ble_eq_true rfl) rfl ?_
    refine V_bipush 90 (64) dX12_plain_90 (by decide) ?_
    refine V_iload_1 92 dX12_plain_92 ?_
    refine V_imul 93 dX12_plain_93 ?_
    refine V_iload_2 94 dX12_plain_94 ?_
    refine V_iadd 95 dX12_plain_95 ?_
    refine V_iload_2 96 dX12_plain_96 ?_
    refine V_bipush 97 (8) dX12_plain_97 (by decide) ?_
    refine V_idiv 99 dX12_plain_99 (by decide) ?_
    refine V_iload_2 100 dX12_plain_100 ?_
    refine V_bipush 101 (8) dX12_plain_101 (by decide) ?_
    refine V_irem 103 dX12_plain_103 (by decide) ?_
    refine V_icmp_ne 104 111 dX12_plain_104 (by decide) (fun c2 => ?_) (fun c2 => ?_)
    ·
      refine V_bipush 111 (100) dX12_plain_111 (by decide) ?_
      refine V_iastore2 113 dX12_plain_113 (F2.m 17 (Nat.le_of_ble_eq_true rfl)) (F2.k 17 14 rfl) (F2.l 17 128 rfl) ?_ ?_
      · exact hx
      refine V_iinc_2 114 (1) dX12_plain_114 (by decide) rfl (Nat.le_of_ble_eq_true rfl) ?_
      refine V_goto 117 80 dX12_plain_117 (by decide) ?_
      rw [← nI_succ]
      exact ih (i + 1, _) ⟨by dsimp only; omega, stp _ _⟩ (by dsimp only; omega)
    ·
      refine V_iconst 107 (0) dX12_plain_107 (by decide) ?_
      refine V_goto 108 113 dX12_plain_108 (by decide) ?_
      refine V_iastore2 113 dX12_plain_113 (F2.m 17 (Nat.le_of_ble_eq_true rfl)) (F2.k 17 14 rfl) (F2.l 17 128 rfl) ?_ ?_
      · exact hx
      refine V_iinc_2 114 (1) dX12_plain_114 (by decide) rfl (Nat.le_of_ble_eq_true rfl) ?_
      refine V_goto 117 80 dX12_plain_117 (by decide) ?_
      rw [← nI_succ]
      exact ih (i + 1, _) ⟨by dsimp only; omega, stp _ _⟩ (by dsimp only; omega)

