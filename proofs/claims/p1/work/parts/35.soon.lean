/-! the class on a new table: soonest -/
set_option maxRecDepth 100000 in
set_option maxHeartbeats 8000000 in
theorem c_sumOfEvenings (l : Launch) (Γ : GC) (S : PS) {h : Nat} (F : isL lySockTable Γ.2.2.2.2.1 S h) (D : FRESH h S) (m : Nat) (hm : m ≤ 30) (x : Int32) : CT l Γ yX11_sumOfEvenings cX11_sumOfEvenings 6 (some .int) (2) (0) (0) [.ref h, .int (nI m), .int x] S (RI (fun r S' => r = 0 ∧ SSm S S' ∧ FRESH h S')) := by
  refine CT.of RX11 "sumOfEvenings" [some (.ref h), some (.int (nI m)), some (.int x), none, none, none] (by decide +kernel) rfl rfl (Nat.le_of_ble_eq_true rfl) rfl (fun M hM => ?_)
  subst hM
  refine V_iconst 0 (0) dX11_sumOfEvenings_0 (by decide) ?_
  refine V_istore_3 1 dX11_sumOfEvenings_1 rfl (Nat.le_of_ble_eq_true rfl) ?_
  refine V_iconst 2 (0) dX11_sumOfEvenings_2 (by decide) ?_
  refine V_istore_4 3 dX11_sumOfEvenings_3 rfl (Nat.le_of_ble_eq_true rfl) ?_
  refine V_while (α := Nat × PS × Option Value) (fun x => m - x.1) (fun x => x.1 ≤ m ∧ SSm S x.2.1 ∧ FRESH h x.2.1) (fun x => x.2.1) (fun y => [some (.ref h), some (.int (nI m)), some (.int x), some (.int 0), some (.int (nI y.1)), y.2.2]) (0, S, none) ⟨Nat.zero_le _, SSm.rf, D⟩ (fun y hy ih => ?_)
  obtain ⟨i, S2, v⟩ := y
  obtain ⟨hi, hR, D2⟩ := hy
  dsimp only at hi hR D2 ih ⊢
  have F2 := F.ss hR
  refine V_iload_4 5 dX11_sumOfEvenings_5 ?_
  refine V_iload_1 7 dX11_sumOfEvenings_7 ?_
  refine V_icmp_ge 8 71 dX11_sumOfEvenings_8 (by decide) (fun c => ?_) (fun c => ?_)
  ·
    refine V_iload_3 71 dX11_sumOfEvenings_71 ?_
    refine V_iret 72 .int dX11_sumOfEvenings_72 rfl rfl (Nat.le_of_ble_eq_true rfl) (Nat.le_of_ble_eq_true rfl) (RI.mk ⟨rfl, hR, D2⟩)
  ·
    have hi2 := nI_lt8 (by omega) hi c
    refine V_aload_0 11 dX11_sumOfEvenings_11 ?_
    refine V_getR 12 (c := 11) 6 (F2.r 0 6 45 rfl) dX11_sumOfEvenings_12 fl_RX11_46 (F2.m 0 (Nat.le_of_ble_eq_true rfl)) (F2.k 0 11 rfl) (Nat.le_of_ble_eq_true rfl) (Nat.le_of_ble_eq_true rfl) rfl ?_
    refine V_aload_0 15 dX11_sumOfEvenings_15 ?_
    refine V_getR 16 (c := 11) 5 (F2.r 0 5 41 rfl) dX11_sumOfEvenings_16 fl_RX11_42 (F2.m 0 (Nat.le_of_ble_eq_true rfl)) (F2.k 0 11 rfl) (Nat.le_of_ble_eq_true rfl) (Nat.le_of_ble_eq_true rfl) rfl ?_
    refine V_callV 19 (ci := 7) [.ref _] _ (c_X7_become M.2.1 Γ S2 (a := h + 45) (b := h + 41) (F2.sub 45 lyState rfl (by decide)) (F2.sub 41 lyState rfl (by decide)) (Or.inl (by rw [D2.1.2.2.2.2.1.2.2.2]))) dX11_sumOfEvenings_19 cb_X7_become ml_RX11_202 im_yX7_become se_yX7_become (F2.m 45 (Nat.le_of_ble_eq_true rfl)) (F2.k 45 7 rfl) (Nat.le_of_ble_eq_true rfl) ⟨(Nat.le_of_ble_eq_true rfl), (Nat.le_of_ble_eq_true rfl)⟩ rfl rfl (Nat.le_of_ble_eq_true rfl) ⟨(Nat.le_of_ble_eq_true rfl), (Nat.le_of_ble_eq_true rfl)⟩ (RV.go (fun S3 hq => ?_))
    have F3 := F2.ss hq.1
    refine V_aload_0 22 dX11_sumOfEvenings_22 ?_
    refine V_getR 23 (c := 11) 6 (F3.r 0 6 45 rfl) dX11_sumOfEvenings_23 fl_RX11_46 (F3.m 0 (Nat.le_of_ble_eq_true rfl)) (F3.k 0 11 rfl) (Nat.le_of_ble_eq_true rfl) (Nat.le_of_ble_eq_true rfl) rfl ?_
    refine V_aload_0 26 dX11_sumOfEvenings_26 ?_
    refine V_getR 27 (c := 11) 3 (F3.r 0 3 27 rfl) dX11_sumOfEvenings_27 fl_RX11_31 (F3.m 0 (Nat.le_of_ble_eq_true rfl)) (F3.k 0 11 rfl) (Nat.le_of_ble_eq_true rfl) (Nat.le_of_ble_eq_true rfl) rfl ?_
    refine V_iload_4 30 dX11_sumOfEvenings_30 ?_
    refine V_iload_2 32 dX11_sumOfEvenings_32 ?_
    refine V_sipush 33 (200) dX11_sumOfEvenings_33 (by decide) ?_
    refine V_callV 36 (ci := 7) [.ref _, .int _, .int _, .int _] _ (c_playOut M.2.1 Γ S3 (a := h + 45) (F3.sub 45 lyState rfl (by decide)) (fun j hj => (hq.2.2.2.2.2 j hj).trans (congrFun D2.1.2.2.2.2.1.1 j)) _ _ _ _) dX11_sumOfEvenings_36 cb_X7_playOut ml_RX11_225 im_yX7_playOut se_yX7_playOut (F3.m 45 (Nat.le_of_ble_eq_true rfl)) (F3.k 45 7 rfl) (Nat.le_of_ble_eq_true rfl) ⟨(Nat.le_of_ble_eq_true rfl), (Nat.le_of_ble_eq_true rfl)⟩ rfl rfl (Nat.le_of_ble_eq_true rfl) ⟨(Nat.le_of_ble_eq_true rfl), (Nat.le_of_ble_eq_true rfl)⟩ (RI.go (fun r S4 hq2 => ?_))
    obtain ⟨rfl, rfl⟩ := hq2
    have hz : ∀ j, j < 8 → sA S4 (h + 46) j = 0 := fun j hj => (hq.2.2.2.2.2 j hj).trans (congrFun D2.1.2.2.2.2.1.1 j)
    refine V_istore_5 39 dX11_sumOfEvenings_39 rfl (Nat.le_of_ble_eq_true rfl) ?_
    refine V_iload_3 41 dX11_sumOfEvenings_41 ?_
    refine V_aload_0 42 dX11_sumOfEvenings_42 ?_
    refine V_getR 43 (c := 11) 6 (F3.r 0 6 45 rfl) dX11_sumOfEvenings_43 fl_RX11_46 (F3.m 0 (Nat.le_of_ble_eq_true rfl)) (F3.k 0 11 rfl) (Nat.le_of_ble_eq_true rfl) (Nat.le_of_ble_eq_true rfl) rfl ?_
    refine V_getR 46 (c := 7) 0 (F3.r 45 0 46 rfl) dX11_sumOfEvenings_46 fl_RX11_131 (F3.m 45 (Nat.le_of_ble_eq_true rfl)) (F3.k 45 7 rfl) (Nat.le_of_ble_eq_true rfl) (Nat.le_of_ble_eq_true rfl) rfl ?_
    refine V_callS 49 [.ref _] _ (c_total M.2.1 Γ S4 (a := h + 46) (F3.m 46 (by decide)) (F3.k 46 14 rfl) (by rw [F3.l 46 8 rfl]; decide)) dX11_sumOfEvenings_49 cb_X11_total ml_RX11_180 sm_yX11_total ⟨(Nat.le_of_ble_eq_true rfl), (Nat.le_of_ble_eq_true rfl)⟩ rfl rfl (Nat.le_of_ble_eq_true rfl) ⟨(Nat.le_of_ble_eq_true rfl), (Nat.le_of_ble_eq_true rfl)⟩ (RI.go (fun r S5 hq3 => ?_))
    obtain ⟨rfl, rfl⟩ := hq3
    rw [sum0 _ (fun j hj => hz j (by rw [F3.l 46 8 rfl] at hj; exact hj))]
    refine V_if_le 52 61 dX11_sumOfEvenings_52 (by decide) (fun _ => ?_) (fun q => absurd (by decide) q)
    refine V_iload_5 61 dX11_sumOfEvenings_61 ?_
    refine V_iadd 63 dX11_sumOfEvenings_63 ?_
    refine V_istore_3 64 dX11_sumOfEvenings_64 rfl (Nat.le_of_ble_eq_true rfl) ?_
    refine V_iinc_4 65 (1) dX11_sumOfEvenings_65 (by decide) rfl (Nat.le_of_ble_eq_true rfl) ?_
    refine V_goto 68 5 dX11_sumOfEvenings_68 (by decide) ?_
    rw [← nI_succ, show (0 : Int32) + 0 = 0 by decide]
    exact ih (i + 1, S5, _) ⟨by dsimp only; omega, hR.tr hq.1, D2.eq3 hq.1 hq.2.2.1 hq.2.2.2.1⟩ (by dsimp only; omega)
set_option maxRecDepth 100000 in
set_option maxHeartbeats 8000000 in
theorem f_soonest (l : Launch) (Γ : GC) (S : PS) {h : Nat} (F : isL lySockTable Γ.2.2.2.2.1 S h) (D : FRESH h S) (n w : Int32) : CT l Γ yX11_soonest cX11_soonest 7 (some .int) (3) (0) (0) [.ref h, .int n, .int w] S (RI (fun r S' => r = if n < 1 ∨ 30 < n ∨ w < 0 ∨ 1 < w then -1 else 0)) := by
  refine CT.of RX11 "soonest" [some (.ref h), some (.int n), some (.int w), none, none, none, none] (by decide +kernel) rfl rfl (Nat.le_of_ble_eq_true rfl) rfl (fun M hM => ?_)
  subst hM
  refine V_iload_1 0 dX11_soonest_0 ?_
  refine V_iconst 1 (1) dX11_soonest_1 (by decide) ?_
  refine V_icmp_lt 2 20 dX11_soonest_2 (by decide) (fun c => ?_) (fun c => ?_)
  ·
    refine V_iconst 20 (-1) dX11_soonest_20 (by decide) ?_
    refine V_iret 21 .int dX11_soonest_21 rfl rfl (Nat.le_of_ble_eq_true rfl) (Nat.le_of_ble_eq_true rfl) (RI.mk (by rw [if_pos (Or.inl c)]))
  ·
    refine V_iload_1 5 dX11_soonest_5 ?_
    refine V_bipush 6 (30) dX11_soonest_6 (by decide) ?_
    refine V_icmp_gt 8 20 dX11_soonest_8 (by decide) (fun c2 => ?_) (fun c2 => ?_)
    ·
      refine V_iconst 20 (-1) dX11_soonest_20 (by decide) ?_
      refine V_iret 21 .int dX11_soonest_21 rfl rfl (Nat.le_of_ble_eq_true rfl) (Nat.le_of_ble_eq_true rfl) (RI.mk (by rw [if_pos (Or.inr (Or.inl c2))]))
    ·
      refine V_iload_2 11 dX11_soonest_11 ?_
      refine V_if_lt 12 20 dX11_soonest_12 (by decide) (fun c3 => ?_) (fun c3 => ?_)
      ·
        refine V_iconst 20 (-1) dX11_soonest_20 (by decide) ?_
        refine V_iret 21 .int dX11_soonest_21 rfl rfl (Nat.le_of_ble_eq_true rfl) (Nat.le_of_ble_eq_true rfl) (RI.mk (by rw [if_pos (Or.inr (Or.inr (Or.inl c3)))]))
      ·
        refine V_iload_2 15 dX11_soonest_15 ?_
        refine V_iconst 16 (1) dX11_soonest_16 (by decide) ?_
        refine V_icmp_le 17 22 dX11_soonest_17 (by decide) (fun c4 => ?_) (fun c4 => ?_)
        ·
          have hw : ¬ (n < 1 ∨ 30 < n ∨ w < 0 ∨ 1 < w) := fun q => by
            rcases q with q | q | q | q
            · exact c q
            · exact c2 q
            · exact c3 q
            · exact absurd c4 (Int32.not_le.mpr q)
          rw [if_neg hw]
          clear hw c3 c4
          obtain ⟨m, hm, rfl⟩ := nI_of2 (M := 30) (n := 30) (by decide) (fun q => c (Int32.lt_trans q (by decide))) (Int32.not_lt.mp c2)
          refine V_iconst 22 (0) dX11_soonest_22 (by decide) ?_
          refine V_istore_3 23 dX11_soonest_23 rfl (Nat.le_of_ble_eq_true rfl) ?_
          refine V_aload_0 24 dX11_soonest_24 ?_
          refine V_iload_1 25 dX11_soonest_25 ?_
          refine V_iconst 26 (0) dX11_soonest_26 (by decide) ?_
          refine V_callV 27 (ci := 11) [.int _, .int _] _ (c_sumOfEvenings M.2.1 Γ S F D m (by omega) _) dX11_soonest_27 cb_X11_sumOfEvenings ml_RX11_229 im_yX11_sumOfEvenings se_yX11_sumOfEvenings (F.m 0 (Nat.le_of_ble_eq_true rfl)) (F.k 0 11 rfl) (Nat.le_of_ble_eq_true rfl) ⟨(Nat.le_of_ble_eq_true rfl), (Nat.le_of_ble_eq_true rfl)⟩ rfl rfl (Nat.le_of_ble_eq_true rfl) ⟨(Nat.le_of_ble_eq_true rfl), (Nat.le_of_ble_eq_true rfl)⟩ (RI.go (fun r S1 hq => ?_))
          obtain ⟨rfl, hR, D1⟩ := hq
          refine V_istore_4 30 dX11_soonest_30 rfl (Nat.le_of_ble_eq_true rfl) ?_
          refine V_iconst 32 (1) dX11_soonest_32 (by decide) ?_
          refine V_istore_5 33 dX11_soonest_33 rfl (Nat.le_of_ble_eq_true rfl) ?_
          refine V_while (α := Nat × PS × Option Value) (fun x => 4 - x.1) (fun x => x.1 ≤ 4 ∧ SSm S x.2.1 ∧ FRESH h x.2.1) (fun x => x.2.1) (fun y => [some (.ref h), some (.int (nI m)), some (.int w), some (.int 0), some (.int 0), some (.int (nI y.1)), y.2.2]) (1, S1, none) ⟨Nat.le_of_ble_eq_true rfl, hR, D1⟩ (fun y hy ih => ?_)
          obtain ⟨i, S2, v⟩ := y
          obtain ⟨hi, hR2, D2⟩ := hy
          dsimp only at hi hR2 D2 ih ⊢
          have F2 := F.ss hR2
          refine V_iload_5 35 dX11_soonest_35 ?_
          refine V_iconst 37 (3) dX11_soonest_37 (by decide) ?_
          refine V_icmp_gt 38 70 dX11_soonest_38 (by decide) (fun c5 => ?_) (fun c5 => ?_)
          ·
            refine V_iload_2 70 dX11_soonest_70 ?_
            refine V_if_ne 71 78 dX11_soonest_71 (by decide) (fun c6 => ?_) (fun c6 => ?_)
            ·
              refine V_iload_4 78 dX11_soonest_78 ?_
              refine V_iret 80 .int dX11_soonest_80 rfl rfl (Nat.le_of_ble_eq_true rfl) (Nat.le_of_ble_eq_true rfl) (RI.mk rfl)
            ·
              refine V_iload_3 74 dX11_soonest_74 ?_
              refine V_goto 75 80 dX11_soonest_75 (by decide) ?_
              refine V_iret 80 .int dX11_soonest_80 rfl rfl (Nat.le_of_ble_eq_true rfl) (Nat.le_of_ble_eq_true rfl) (RI.mk rfl)
          ·
            have hi2 : i < 4 := Nat.lt_of_not_le (fun q => c5 (by rw [show i = 4 by omega]; decide))
            refine V_aload_0 41 dX11_soonest_41 ?_
            refine V_iload_1 42 dX11_soonest_42 ?_
            refine V_iload_5 43 dX11_soonest_43 ?_
            refine V_callV 45 (ci := 11) [.int _, .int _] _ (c_sumOfEvenings M.2.1 Γ S2 F2 D2 m (by omega) _) dX11_soonest_45 cb_X11_sumOfEvenings ml_RX11_229 im_yX11_sumOfEvenings se_yX11_sumOfEvenings (F2.m 0 (Nat.le_of_ble_eq_true rfl)) (F2.k 0 11 rfl) (Nat.le_of_ble_eq_true rfl) ⟨(Nat.le_of_ble_eq_true rfl), (Nat.le_of_ble_eq_true rfl)⟩ rfl rfl (Nat.le_of_ble_eq_true rfl) ⟨(Nat.le_of_ble_eq_true rfl), (Nat.le_of_ble_eq_true rfl)⟩ (RI.go (fun r S3 hq => ?_))
            obtain ⟨rfl, hR3, D3⟩ := hq
            refine V_istore_6 48 dX11_soonest_48 rfl (Nat.le_of_ble_eq_true rfl) ?_
            refine V_iload_6 50 dX11_soonest_50 ?_
            refine V_iload_4 52 dX11_soonest_52 ?_
            refine V_icmp_ge 54 64 dX11_soonest_54 (by decide) (fun _ => ?_) (fun q => absurd (by decide) q)
            refine V_iinc_5 64 (1) dX11_soonest_64 (by decide) rfl (Nat.le_of_ble_eq_true rfl) ?_
            refine V_goto 67 35 dX11_soonest_67 (by decide) ?_
            rw [← nI_succ]
            exact ih (i + 1, S3, _) ⟨by dsimp only; omega, hR2.tr hR3, D3⟩ (by dsimp only; omega)
        ·
          refine V_iconst 20 (-1) dX11_soonest_20 (by decide) ?_
          refine V_iret 21 .int dX11_soonest_21 rfl rfl (Nat.le_of_ble_eq_true rfl) (Nat.le_of_ble_eq_true rfl) (RI.mk (by rw [if_pos (Or.inr (Or.inr (Or.inr (Int32.not_le.mp c4))))]))

