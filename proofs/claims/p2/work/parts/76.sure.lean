/-! The reference's sure -/
def yd (y d : Nat → Nat) : Nat → Nat := fun k => y k + d k
theorem yd18 {m : Nat} {g : MG} {S : PS} {x y d : Nat → Nat} (h : TXT m g S) (ok : OKR g x y) (hdx : ∀ k, k < 8 → d k ≤ x k) {s i : Nat} (hs : s < sumN (yd y d) i + 1) (hi : i ≤ 8) : s ≤ 18 := by
  have h1 := sumN_mono (f := yd y d) i 8 hi
  have h2 : sumN (yd y d) 8 = sumN y 8 + sumN d 8 := sumN_add 8
  have h3 := sumN_le (f := d) (g := x) 8 hdx
  have h4 := OKR.s18 h ok
  omega
set_option maxRecDepth 100000 in
set_option maxHeartbeats 8000000 in
theorem s_mlieOut2 (l : Launch) (Γ : GC) (S : PS) {m : Nat} {g : MG} (F : isL lyModel Γ.2.2.2.2.1 S m) (h : TXT m g S) (x y d : Nat → Nat) (hr : ROW (m + 38) 0 x y S) (ok : OKR g x y) (hd : ∀ k, k < 8 → sA S (m + 42) k = nI (d k)) (hdx : ∀ k, k < 8 → d k ≤ x k) : CT l Γ yX12_lieOut cX12_lieOut 5 (some .int) (1) (0) (0) [.ref m] S (RI (fun r S' => (∃ s, s ≤ 18 ∧ r = nI s) ∧ FZ [] [] S S' ∧ sJ S' = sJ S)) := by
  refine CT.of RX12 "lieOut" [some (.ref m), none, none, none, none] (by decide +kernel) rfl rfl (Nat.le_of_ble_eq_true rfl) rfl (fun M hM => ?_)
  subst hM
  have hK := h.k8
  have hl := h.l2
  have h18 : ∀ i, i ≤ 8 → sumN (yd y d) i ≤ 18 := fun i hi => yd18 h ok hdx (s := sumN (yd y d) i) (Nat.lt_succ_self _) hi
  have p1 : ((fun T => sJ T = sJ S) S) := rfl
  refine V_iconst 0 (0) dX12_lieOut_0 (by decide) ?_
  refine V_istore_1 1 dX12_lieOut_1 rfl (Nat.le_of_ble_eq_true rfl) ?_
  rw [(show (0 : Int32) = nI 0 from rfl)]
  refine V_iconst 2 (0) dX12_lieOut_2 (by decide) ?_
  refine V_istore_2 3 dX12_lieOut_3 rfl (Nat.le_of_ble_eq_true rfl) ?_
  refine V_lvw (by repeat (first | exact trivial | refine ⟨rfl, ?_⟩)) (V_while (α := Nat × PS × Nat) (fun z2 => gK g - z2.1) (fun z2 => z2.1 ≤ gK g ∧ FZ [] [] S z2.2.1 ∧ ((fun T => sJ T = sJ S) z2.2.1) ∧ z2.2.2 < sumN (yd y d) z2.1 + 1) (fun z2 => z2.2.1) (fun z2 => [some (.ref m), some (.int (nI z2.2.2)), some (.int (nI z2.1)), none, none]) (0, _, _) ⟨Nat.zero_le _, FZ.rf, p1, by first | omega | (dsimp only; first | omega | (simp only [sumN, yd] <;> omega))⟩ (fun z2 hx9 ih7 => ?b10))
  obtain ⟨i3, S4, w8⟩ := z2
  obtain ⟨hi5, h6, p12, hn13⟩ := hx9
  dsimp only at hi5 h6 p12 hn13 ih7 ⊢
  refine V_iload_2 4 dX12_lieOut_4 ?_
  refine V_aload_0 5 dX12_lieOut_5 ?_
  refine V_getR 6 (c := 12) 23 ((F.ss h6.1).r 0 23 11 rfl) dX12_lieOut_6 fl_RX12_49 ((F.ss h6.1).m 0 (Nat.le_of_ble_eq_true rfl)) ((F.ss h6.1).k 0 12 rfl) (Nat.le_of_ble_eq_true rfl) (Nat.le_of_ble_eq_true rfl) rfl ?_
  refine V_aload_0 9 dX12_lieOut_9 ?_
  refine V_getI 10 (c := 12) 18 dX12_lieOut_10 fl_RX12_264 ((F.ss h6.1).m 0 (Nat.le_of_ble_eq_true rfl)) ((F.ss h6.1).k 0 12 rfl) (Nat.le_of_ble_eq_true rfl) (Nat.le_of_ble_eq_true rfl) rfl ?_
  rw [(h.z [] [] h6 rfl rfl rfl rfl).lv]
  refine V_iaload2 13 dX12_lieOut_13 ((F.ss h6.1).m 11 (Nat.le_of_ble_eq_true rfl)) ((F.ss h6.1).k 11 14 rfl) ((F.ss h6.1).l 11 2 rfl) ?_ ?_
  · exact vpN (Eq.refl (nI (gl g))) (by omega) (by decide)
  rw [clN (Eq.refl (nI (gl g))) (by omega)]
  rw [(h.z [] [] h6 rfl rfl rfl rfl).ki]
  refine V_icmp_ge 14 105 dX12_lieOut_14 (by decide) (fun c14 => ?_) (fun c14 => ?_)
  ·
    try have nf15 := (nI_leE (Eq.refl (nI (gK g))) (Eq.refl (nI i3)) (by omega) (by omega)).mp c14
    refine V_iload_1 105 dX12_lieOut_105 ?_
    refine V_iret 106 .int dX12_lieOut_106 rfl rfl (Nat.le_of_ble_eq_true rfl) (Nat.le_of_ble_eq_true rfl) (RI.mk ⟨⟨_, yd18 h ok hdx (by assumption) (by omega), rfl⟩, h6, p12⟩)
  ·
    try have nf16 := mt (nI_leE (Eq.refl (nI (gK g))) (Eq.refl (nI i3)) (by omega) (by omega)).mpr c14
    try have lt17 := nI_ltC hi5 c14
    have k18 := OKR.k18 h ok (k := i3) (by omega)
    have hdk := hdx i3 (by omega)
    have hsm := h18 i3 (by omega)
    have hpk := h.paK (k := i3) (by omega)
    have k18b := OKR.k18 h ok (k := gP g i3) (by omega)
    have hdp := hdx (gP g i3) (by omega)
    refine V_aload_0 17 dX12_lieOut_17 ?_
    refine V_iload_2 18 dX12_lieOut_18 ?_
    refine V_callV 19 (ci := 12) [.int _] _ (s_mpartner M.2.1 Γ S4 (F.ss h6.1) (h.z [] [] h6 rfl rfl rfl rfl) (show (i3) < gK g by omega)) dX12_lieOut_19 cb_X12_partner ml_RX12_349 im_yX12_partner se_yX12_partner ((F.ss h6.1).m 0 (Nat.le_of_ble_eq_true rfl)) ((F.ss h6.1).k 0 12 rfl) (Nat.le_of_ble_eq_true rfl) ⟨(Nat.le_of_ble_eq_true rfl), (Nat.le_of_ble_eq_true rfl)⟩ rfl rfl (Nat.le_of_ble_eq_true rfl) ⟨(Nat.le_of_ble_eq_true rfl), (Nat.le_of_ble_eq_true rfl)⟩ (RI.go (fun r20 S18 q19 => ?_))
    obtain ⟨e9, s9⟩ := q19
    rw [s9]
    subst e9
    refine V_istore_3 22 dX12_lieOut_22 rfl (Nat.le_of_ble_eq_true rfl) ?_
    refine V_aload_0 23 dX12_lieOut_23 ?_
    refine V_getR 24 (c := 12) 54 ((F.ss h6.1).r 0 54 38 rfl) dX12_lieOut_24 fl_RX12_131 ((F.ss h6.1).m 0 (Nat.le_of_ble_eq_true rfl)) ((F.ss h6.1).k 0 12 rfl) (Nat.le_of_ble_eq_true rfl) (Nat.le_of_ble_eq_true rfl) rfl ?_
    refine V_bipush 27 (8) dX12_lieOut_27 (by decide) ?_
    refine V_iload_2 29 dX12_lieOut_29 ?_
    refine V_iadd 30 dX12_lieOut_30 ?_
    refine V_iaload2 31 dX12_lieOut_31 ((F.ss h6.1).m 38 (Nat.le_of_ble_eq_true rfl)) ((F.ss h6.1).k 38 14 rfl) ((F.ss h6.1).l 38 30 rfl) ?_ ?_
    · exact vpN (eqAdd (show (8 : Int32) = nI 8 from rfl) (Eq.refl (nI i3))) (by omega) (by decide)
    rw [clN (eqAdd (show (8 : Int32) = nI 8 from rfl) (Eq.refl (nI i3))) (by omega)]
    rw [(hr.fz h6 (by simp)).gy (by omega)]
    refine V_aload_0 32 dX12_lieOut_32 ?_
    refine V_getR 33 (c := 12) 61 ((F.ss h6.1).r 0 61 42 rfl) dX12_lieOut_33 fl_RX12_143 ((F.ss h6.1).m 0 (Nat.le_of_ble_eq_true rfl)) ((F.ss h6.1).k 0 12 rfl) (Nat.le_of_ble_eq_true rfl) (Nat.le_of_ble_eq_true rfl) rfl ?_
    refine V_iload_2 36 dX12_lieOut_36 ?_
    refine V_iaload2 37 dX12_lieOut_37 ((F.ss h6.1).m 42 (Nat.le_of_ble_eq_true rfl)) ((F.ss h6.1).k 42 14 rfl) ((F.ss h6.1).l 42 8 rfl) ?_ ?_
    · exact vp_in_nI (by omega) (by decide)
    rw [clN (Eq.refl (nI i3)) (by omega)]
    rw [((congrFun (h6.2.1 (m + 42) (by simp)) _).trans (hd i3 (by omega)))]
    refine V_iadd 38 dX12_lieOut_38 ?_
    refine V_istore_4 39 dX12_lieOut_39 rfl (Nat.le_of_ble_eq_true rfl) ?_
    rw [(eqAdd (Eq.refl (nI (y i3))) (Eq.refl (nI (d i3))))]
    refine V_iload_3 41 dX12_lieOut_41 ?_
    refine V_iload_2 42 dX12_lieOut_42 ?_
    refine V_icmp_ne 43 56 dX12_lieOut_43 (by decide) (fun c21 => ?_) (fun c21 => ?_)
    ·
      try have nf22 := mt (nI_eqE (Eq.refl (nI (gP g (i3)))) (Eq.refl (nI i3)) (by omega) (by omega)).mpr c21
      refine V_iload_4 56 dX12_lieOut_56 ?_
      refine V_aload_0 58 dX12_lieOut_58 ?_
      refine V_getR 59 (c := 12) 54 ((F.ss h6.1).r 0 54 38 rfl) dX12_lieOut_59 fl_RX12_131 ((F.ss h6.1).m 0 (Nat.le_of_ble_eq_true rfl)) ((F.ss h6.1).k 0 12 rfl) (Nat.le_of_ble_eq_true rfl) (Nat.le_of_ble_eq_true rfl) rfl ?_
      refine V_bipush 62 (8) dX12_lieOut_62 (by decide) ?_
      refine V_iload_3 64 dX12_lieOut_64 ?_
      refine V_iadd 65 dX12_lieOut_65 ?_
      refine V_iaload2 66 dX12_lieOut_66 ((F.ss h6.1).m 38 (Nat.le_of_ble_eq_true rfl)) ((F.ss h6.1).k 38 14 rfl) ((F.ss h6.1).l 38 30 rfl) ?_ ?_
      · exact vpN (eqAdd (show (8 : Int32) = nI 8 from rfl) (Eq.refl (nI (gP g (i3))))) (by omega) (by decide)
      rw [clN (eqAdd (show (8 : Int32) = nI 8 from rfl) (Eq.refl (nI (gP g (i3))))) (by omega)]
      rw [(hr.fz h6 (by simp)).gy (by omega)]
      refine V_aload_0 67 dX12_lieOut_67 ?_
      refine V_getR 68 (c := 12) 61 ((F.ss h6.1).r 0 61 42 rfl) dX12_lieOut_68 fl_RX12_143 ((F.ss h6.1).m 0 (Nat.le_of_ble_eq_true rfl)) ((F.ss h6.1).k 0 12 rfl) (Nat.le_of_ble_eq_true rfl) (Nat.le_of_ble_eq_true rfl) rfl ?_
      refine V_iload_3 71 dX12_lieOut_71 ?_
      refine V_iaload2 72 dX12_lieOut_72 ((F.ss h6.1).m 42 (Nat.le_of_ble_eq_true rfl)) ((F.ss h6.1).k 42 14 rfl) ((F.ss h6.1).l 42 8 rfl) ?_ ?_
      · exact vpN (Eq.refl (nI (gP g (i3)))) (by omega) (by decide)
      rw [clN (Eq.refl (nI (gP g (i3)))) (by omega)]
      rw [((congrFun (h6.2.1 (m + 42) (by simp)) _).trans (hd (gP g i3) (by omega)))]
      refine V_iadd 73 dX12_lieOut_73 ?_
      refine V_icmp_le 74 99 dX12_lieOut_74 (by decide) (fun c23 => ?_) (fun c23 => ?_)
      ·
        try have nf24 := (nI_leE (Eq.refl (nI ((y i3) + (d i3)))) (eqAdd (Eq.refl (nI (y (gP g i3)))) (Eq.refl (nI (d (gP g i3))))) (by omega) (by omega)).mp c23
        refine V_iinc_2 99 (1) dX12_lieOut_99 (by decide) rfl (Nat.le_of_ble_eq_true rfl) ?_
        refine V_goto 102 4 dX12_lieOut_102 (by decide) ?_
        rw [← nI_succ]
        refine V_lvw (by repeat (first | exact trivial | refine ⟨rfl, ?_⟩)) (ih7 (i3 + 1, _, _) ⟨by dsimp only; omega, h6, p12, by dsimp only; first | omega | (simp only [sumN, yd] <;> omega)⟩ (by dsimp only; omega))
      ·
        try have nf25 := mt (nI_leE (Eq.refl (nI ((y i3) + (d i3)))) (eqAdd (Eq.refl (nI (y (gP g i3)))) (Eq.refl (nI (d (gP g i3))))) (by omega) (by omega)).mpr c23
        refine V_iload_1 77 dX12_lieOut_77 ?_
        refine V_iload_4 78 dX12_lieOut_78 ?_
        refine V_aload_0 80 dX12_lieOut_80 ?_
        refine V_getR 81 (c := 12) 54 ((F.ss h6.1).r 0 54 38 rfl) dX12_lieOut_81 fl_RX12_131 ((F.ss h6.1).m 0 (Nat.le_of_ble_eq_true rfl)) ((F.ss h6.1).k 0 12 rfl) (Nat.le_of_ble_eq_true rfl) (Nat.le_of_ble_eq_true rfl) rfl ?_
        refine V_bipush 84 (8) dX12_lieOut_84 (by decide) ?_
        refine V_iload_3 86 dX12_lieOut_86 ?_
        refine V_iadd 87 dX12_lieOut_87 ?_
        refine V_iaload2 88 dX12_lieOut_88 ((F.ss h6.1).m 38 (Nat.le_of_ble_eq_true rfl)) ((F.ss h6.1).k 38 14 rfl) ((F.ss h6.1).l 38 30 rfl) ?_ ?_
        · exact vpN (eqAdd (show (8 : Int32) = nI 8 from rfl) (Eq.refl (nI (gP g (i3))))) (by omega) (by decide)
        rw [clN (eqAdd (show (8 : Int32) = nI 8 from rfl) (Eq.refl (nI (gP g (i3))))) (by omega)]
        rw [(hr.fz h6 (by simp)).gy (by omega)]
        refine V_isub 89 dX12_lieOut_89 ?_
        refine V_aload_0 90 dX12_lieOut_90 ?_
        refine V_getR 91 (c := 12) 61 ((F.ss h6.1).r 0 61 42 rfl) dX12_lieOut_91 fl_RX12_143 ((F.ss h6.1).m 0 (Nat.le_of_ble_eq_true rfl)) ((F.ss h6.1).k 0 12 rfl) (Nat.le_of_ble_eq_true rfl) (Nat.le_of_ble_eq_true rfl) rfl ?_
        refine V_iload_3 94 dX12_lieOut_94 ?_
        refine V_iaload2 95 dX12_lieOut_95 ((F.ss h6.1).m 42 (Nat.le_of_ble_eq_true rfl)) ((F.ss h6.1).k 42 14 rfl) ((F.ss h6.1).l 42 8 rfl) ?_ ?_
        · exact vpN (Eq.refl (nI (gP g (i3)))) (by omega) (by decide)
        rw [clN (Eq.refl (nI (gP g (i3)))) (by omega)]
        rw [((congrFun (h6.2.1 (m + 42) (by simp)) _).trans (hd (gP g i3) (by omega)))]
        refine V_isub 96 dX12_lieOut_96 ?_
        refine V_iadd 97 dX12_lieOut_97 ?_
        refine V_istore_1 98 dX12_lieOut_98 rfl (Nat.le_of_ble_eq_true rfl) ?_
        rw [(eqAdd (Eq.refl (nI w8)) (eqSub (eqSub (Eq.refl (nI ((y i3) + (d i3)))) (Eq.refl (nI (y (gP g i3)))) (by omega)) (Eq.refl (nI (d (gP g i3)))) (by omega)))]
        refine V_iinc_2 99 (1) dX12_lieOut_99 (by decide) rfl (Nat.le_of_ble_eq_true rfl) ?_
        refine V_goto 102 4 dX12_lieOut_102 (by decide) ?_
        rw [← nI_succ]
        refine V_lvw (by repeat (first | exact trivial | refine ⟨rfl, ?_⟩)) (ih7 (i3 + 1, _, _) ⟨by dsimp only; omega, h6, p12, by dsimp only; first | omega | (simp only [sumN, yd] <;> omega)⟩ (by dsimp only; omega))
    ·
      try have nf26 := (nI_eqE (Eq.refl (nI (gP g (i3)))) (Eq.refl (nI i3)) (by omega) (by omega)).mp c21
      refine V_iload_1 46 dX12_lieOut_46 ?_
      refine V_iload_4 47 dX12_lieOut_47 ?_
      refine V_iconst 49 (2) dX12_lieOut_49 (by decide) ?_
      refine V_irem 50 dX12_lieOut_50 (by decide) ?_
      refine V_iadd 51 dX12_lieOut_51 ?_
      refine V_istore_1 52 dX12_lieOut_52 rfl (Nat.le_of_ble_eq_true rfl) ?_
      rw [(eqAdd (Eq.refl (nI w8)) (eqRem (Eq.refl (nI ((y i3) + (d i3)))) (show (2 : Int32) = nI 2 from rfl) (by omega) (by omega) (by omega)))]
      refine V_goto 53 99 dX12_lieOut_53 (by decide) ?_
      refine V_iinc_2 99 (1) dX12_lieOut_99 (by decide) rfl (Nat.le_of_ble_eq_true rfl) ?_
      refine V_goto 102 4 dX12_lieOut_102 (by decide) ?_
      rw [← nI_succ]
      refine V_lvw (by repeat (first | exact trivial | refine ⟨rfl, ?_⟩)) (ih7 (i3 + 1, _, _) ⟨by dsimp only; omega, h6, p12, by dsimp only; first | omega | (simp only [sumN, yd] <;> omega)⟩ (by dsimp only; omega))
theorem facEq {n i : Nat} (h : i ≤ n ∨ i = 1) (c : n < i + 1) : fac i = fac n := by
  rcases h with q | q
  · have : i = n := by omega
    rw [this]
  · subst q
    rcases (show n = 0 ∨ n = 1 by omega) with rfl | rfl <;> rfl
set_option maxRecDepth 100000 in
set_option maxHeartbeats 8000000 in
theorem s_mfac (l : Launch) (Γ : GC) (S : PS) (n : Nat) (hn : n ≤ 18) : CT l Γ yX12_orders cX12_orders 4 (some .long) (0) (0) (0) [.int (nI n)] S (RLg (fun r S' => r = lN (fac n) ∧ S' = S)) := by
  refine CT.of RX12 "orders" [some (.int (nI n)), none, none, none] (by decide +kernel) rfl rfl (Nat.le_of_ble_eq_true rfl) rfl (fun M hM => ?_)
  subst hM
  refine V_lconst 0 1 dX12_orders_0 (by decide) ?_
  refine V_lstore_1 1 dX12_orders_1 rfl (Nat.le_of_ble_eq_true rfl) ?_
  refine V_iconst 2 (2) dX12_orders_2 (by decide) ?_
  refine V_istore_3 3 dX12_orders_3 rfl (Nat.le_of_ble_eq_true rfl) ?_
  refine V_lvw (lv2 := [some (.int (nI n)), some (.long (lN (fac 1))), none, some (.int (nI (1 + 1)))]) (by repeat (first | exact trivial | refine ⟨rfl, ?_⟩)) ?_
  refine V_while (α := Nat) (fun i => 20 - i) (fun i => i ≤ 19 ∧ (i ≤ n ∨ i = 1)) (fun _ => S) (fun i => [some (.int (nI n)), some (.long (lN (fac i))), none, some (.int (nI (i + 1)))]) 1 ⟨by omega, Or.inr rfl⟩ (fun i hi ih => ?_)
  obtain ⟨hi1, hi2⟩ := hi
  refine V_iload_3 4 dX12_orders_4 ?_
  refine V_iload_0 5 dX12_orders_5 ?_
  refine V_icmp_gt 6 20 dX12_orders_6 (by decide) (fun c => ?_) (fun c => ?_)
  · have c2 := (nI_ltI (by omega) (by omega)).mp c
    refine V_lload_1 20 dX12_orders_20 ?_
    refine V_lret 21 dX12_orders_21 rfl (Nat.le_of_ble_eq_true rfl) (Nat.le_of_ble_eq_true rfl) (RLg.mk ⟨by rw [facEq hi2 c2], rfl⟩)
  · have c2 := mt (nI_ltI (by omega) (by omega)).mpr c
    refine V_lload_1 9 dX12_orders_9 ?_
    refine V_iload_3 10 dX12_orders_10 ?_
    refine V_i2l 11 dX12_orders_11 ?_
    refine V_lmul 12 dX12_orders_12 ?_
    refine V_lstore_1 13 dX12_orders_13 rfl (Nat.le_of_ble_eq_true rfl) ?_
    refine V_iinc_3 14 (1) dX12_orders_14 (by decide) rfl (Nat.le_of_ble_eq_true rfl) ?_
    refine V_goto 17 4 dX12_orders_17 (by decide) ?_
    rw [nI_l (by omega), lN_mul, Nat.mul_comm, ← nI_succ]
    exact ih (i + 1) ⟨by omega, by omega⟩ (by omega)
set_option maxRecDepth 100000 in
set_option maxHeartbeats 8000000 in
theorem s_mtakesJ (l : Launch) (Γ : GC) (S : PS) {m : Nat} {g : MG} (F : isL lyModel Γ.2.2.2.2.1 S m) (h : TXT m g S) (x y : Nat → Nat) (hr : ROW (m + 38) 0 x y S) (hz : ∀ k, k < 8 → gK g ≤ k → x k = 0) (hs : sumN x 8 ≤ 18) (hp : STP m x S) {n : Nat} (hn : n < 20000) : CT l Γ yX12_takesNumber cX12_takesNumber 3 none (0) (0) (0) [.ref m, .int (nI n)] S (RV (fun S' => FZ [m + 42] [] S S' ∧ (∀ k, k < 8 → sA S' (m + 42) k = nI (dg x n k)) ∧ sJ S' = sJ S)) := by
  refine CT.of RX12 "takesNumber" [some (.ref m), some (.int (nI n)), none] (by decide +kernel) rfl rfl (Nat.le_of_ble_eq_true rfl) rfl (fun M hM => ?_)
  subst hM
  have hK := h.k8
  have hl := h.l2
  have p1 : ((fun T => sJ T = sJ S ∧ ∀ j, j < 0 → sA T (m + 42) j = nI (dg x n j)) S) := ⟨rfl, fun j hj => absurd hj (Nat.not_lt_zero _)⟩
  refine V_iconst 0 (0) dX12_takesNumber_0 (by decide) ?_
  refine V_istore_2 1 dX12_takesNumber_1 rfl (Nat.le_of_ble_eq_true rfl) ?_
  refine V_lvw (by repeat (first | exact trivial | refine ⟨rfl, ?_⟩)) (V_while (α := Nat × PS) (fun z2 => 8 - z2.1) (fun z2 => z2.1 ≤ 8 ∧ FZ [m + 42] [] S z2.2 ∧ ((fun T => sJ T = sJ S ∧ ∀ j, j < z2.1 → sA T (m + 42) j = nI (dg x n j)) z2.2)) (fun z2 => z2.2) (fun z2 => [some (.ref m), some (.int (nI n)), some (.int (nI z2.1))]) (0, _) ⟨Nat.zero_le _, FZ.rf, p1⟩ (fun z2 hx8 ih7 => ?b9))
  obtain ⟨i3, S4⟩ := z2
  obtain ⟨hi5, h6, p11⟩ := hx8
  dsimp only at hi5 h6 p11 ih7 ⊢
  refine V_iload_2 2 dX12_takesNumber_2 ?_
  refine V_bipush 3 (8) dX12_takesNumber_3 (by decide) ?_
  refine V_icmp_ge 5 54 dX12_takesNumber_5 (by decide) (fun c12 => ?_) (fun c12 => ?_)
  ·
    try have nf13 := (nI_leE (show (8 : Int32) = nI 8 from rfl) (Eq.refl (nI i3)) (by omega) (by omega)).mp c12
    refine V_vret 54 dX12_takesNumber_54 rfl (Nat.le_of_ble_eq_true rfl) (Nat.le_of_ble_eq_true rfl) (RV.mk ⟨h6, fun k hk => p11.2 k (by omega), p11.1⟩)
  ·
    try have nf14 := mt (nI_leE (show (8 : Int32) = nI 8 from rfl) (Eq.refl (nI i3)) (by omega) (by omega)).mpr c12
    have lt15 := nI_lt8 (by decide) hi5 c12
    have hi8 : i3 < 8 := by omega
    have hst := stp_le hs (show i3 ≤ 8 by omega)
    have hsp := stp_pos x i3
    have hx18 := Nat.le_trans (sumN_mem (f := x) 8 i3 (by omega)) hs
    have hdv : n / stp x i3 ≤ n := Nat.div_le_self _ _
    refine V_aload_0 8 dX12_takesNumber_8 ?_
    refine V_getR 9 (c := 12) 61 ((F.ss h6.1).r 0 61 42 rfl) dX12_takesNumber_9 fl_RX12_143 ((F.ss h6.1).m 0 (Nat.le_of_ble_eq_true rfl)) ((F.ss h6.1).k 0 12 rfl) (Nat.le_of_ble_eq_true rfl) (Nat.le_of_ble_eq_true rfl) rfl ?_
    refine V_iload_2 12 dX12_takesNumber_12 ?_
    refine V_iload_2 13 dX12_takesNumber_13 ?_
    refine V_aload_0 14 dX12_takesNumber_14 ?_
    refine V_getR 15 (c := 12) 23 ((F.ss h6.1).r 0 23 11 rfl) dX12_takesNumber_15 fl_RX12_49 ((F.ss h6.1).m 0 (Nat.le_of_ble_eq_true rfl)) ((F.ss h6.1).k 0 12 rfl) (Nat.le_of_ble_eq_true rfl) (Nat.le_of_ble_eq_true rfl) rfl ?_
    refine V_aload_0 18 dX12_takesNumber_18 ?_
    refine V_getI 19 (c := 12) 18 dX12_takesNumber_19 fl_RX12_264 ((F.ss h6.1).m 0 (Nat.le_of_ble_eq_true rfl)) ((F.ss h6.1).k 0 12 rfl) (Nat.le_of_ble_eq_true rfl) (Nat.le_of_ble_eq_true rfl) rfl ?_
    rw [(h.z [42] [] h6 rfl rfl rfl rfl).lv]
    refine V_iaload2 22 dX12_takesNumber_22 ((F.ss h6.1).m 11 (Nat.le_of_ble_eq_true rfl)) ((F.ss h6.1).k 11 14 rfl) ((F.ss h6.1).l 11 2 rfl) ?_ ?_
    · exact vpN (Eq.refl (nI (gl g))) (by omega) (by decide)
    rw [clN (Eq.refl (nI (gl g))) (by omega)]
    rw [(h.z [42] [] h6 rfl rfl rfl rfl).ki]
    refine V_icmp_ge 23 46 dX12_takesNumber_23 (by decide) (fun c16 => ?_) (fun c16 => ?_)
    ·
      try have nf17 := (nI_leE (Eq.refl (nI (gK g))) (Eq.refl (nI i3)) (by omega) (by omega)).mp c16
      refine V_iconst 46 (0) dX12_takesNumber_46 (by decide) ?_
      refine V_iastore2 47 dX12_takesNumber_47 ((F.ss h6.1).m 42 (Nat.le_of_ble_eq_true rfl)) ((F.ss h6.1).k 42 14 rfl) ((F.ss h6.1).l 42 8 rfl) ?_ ?_
      · exact vp_in_nI (by omega) (by decide)
      refine V_abs (fun T9 => FZ [m + 42] [] S T9 ∧ ((fun T => sJ T = sJ S ∧ ∀ j, j < i3 + 1 → sA T (m + 42) j = nI (dg x n j)) T9)) ⟨h6.uA (by simp), by first | exact ⟨p11.1, dgStep p11.2 (nI_clamp (by omega)) (eqRem (eqDiv (Eq.refl _) (Eq.refl _) (by omega) (by omega) (by omega)) (nI_1 _) (by omega) (by omega) (by omega))⟩ | exact ⟨p11.1, dgStep p11.2 (nI_clamp (by omega)) (dg0 (hz _ hi8 (by omega)))⟩⟩ (fun S18 hh21 => ?_)
      obtain ⟨h19, p20⟩ := hh21
      refine V_iinc_2 48 (1) dX12_takesNumber_48 (by decide) rfl (Nat.le_of_ble_eq_true rfl) ?_
      refine V_goto 51 2 dX12_takesNumber_51 (by decide) ?_
      rw [← nI_succ]
      refine V_lvw (by repeat (first | exact trivial | refine ⟨rfl, ?_⟩)) (ih7 (i3 + 1, _) ⟨by dsimp only; omega, h19, p20⟩ (by dsimp only; omega))
    ·
      try have nf22 := mt (nI_leE (Eq.refl (nI (gK g))) (Eq.refl (nI i3)) (by omega) (by omega)).mpr c16
      refine V_iload_1 26 dX12_takesNumber_26 ?_
      refine V_aload_0 27 dX12_takesNumber_27 ?_
      refine V_getR 28 (c := 12) 59 ((F.ss h6.1).r 0 59 40 rfl) dX12_takesNumber_28 fl_RX12_137 ((F.ss h6.1).m 0 (Nat.le_of_ble_eq_true rfl)) ((F.ss h6.1).k 0 12 rfl) (Nat.le_of_ble_eq_true rfl) (Nat.le_of_ble_eq_true rfl) rfl ?_
      refine V_iload_2 31 dX12_takesNumber_31 ?_
      refine V_iaload2 32 dX12_takesNumber_32 ((F.ss h6.1).m 40 (Nat.le_of_ble_eq_true rfl)) ((F.ss h6.1).k 40 14 rfl) ((F.ss h6.1).l 40 9 rfl) ?_ ?_
      · exact vp_in_nI (by omega) (by decide)
      rw [clN (Eq.refl (nI i3)) (by omega)]
      rw [(stp_at hp h6 (by simp) (k := i3) (by omega))]
      refine V_idiv 33 dX12_takesNumber_33 (nI_ne0 hsp (by omega)) ?_
      refine V_aload_0 34 dX12_takesNumber_34 ?_
      refine V_getR 35 (c := 12) 54 ((F.ss h6.1).r 0 54 38 rfl) dX12_takesNumber_35 fl_RX12_131 ((F.ss h6.1).m 0 (Nat.le_of_ble_eq_true rfl)) ((F.ss h6.1).k 0 12 rfl) (Nat.le_of_ble_eq_true rfl) (Nat.le_of_ble_eq_true rfl) rfl ?_
      refine V_iload_2 38 dX12_takesNumber_38 ?_
      refine V_iaload2 39 dX12_takesNumber_39 ((F.ss h6.1).m 38 (Nat.le_of_ble_eq_true rfl)) ((F.ss h6.1).k 38 14 rfl) ((F.ss h6.1).l 38 30 rfl) ?_ ?_
      · exact vp_in_nI (by omega) (by decide)
      rw [clN (Eq.refl (nI i3)) (by omega)]
      rw [(hr.fz h6 (by simp)).gx hi8]
      refine V_iconst 40 (1) dX12_takesNumber_40 (by decide) ?_
      refine V_iadd 41 dX12_takesNumber_41 ?_
      refine V_irem 42 dX12_takesNumber_42 (neN (nI_1 _) (by omega) (by omega)) ?_
      refine V_goto 43 47 dX12_takesNumber_43 (by decide) ?_
      refine V_iastore2 47 dX12_takesNumber_47 ((F.ss h6.1).m 42 (Nat.le_of_ble_eq_true rfl)) ((F.ss h6.1).k 42 14 rfl) ((F.ss h6.1).l 42 8 rfl) ?_ ?_
      · exact vp_in_nI (by omega) (by decide)
      refine V_abs (fun T9 => FZ [m + 42] [] S T9 ∧ ((fun T => sJ T = sJ S ∧ ∀ j, j < i3 + 1 → sA T (m + 42) j = nI (dg x n j)) T9)) ⟨h6.uA (by simp), by first | exact ⟨p11.1, dgStep p11.2 (nI_clamp (by omega)) (eqRem (eqDiv (Eq.refl _) (Eq.refl _) (by omega) (by omega) (by omega)) (nI_1 _) (by omega) (by omega) (by omega))⟩ | exact ⟨p11.1, dgStep p11.2 (nI_clamp (by omega)) (dg0 (hz _ hi8 (by omega)))⟩⟩ (fun S23 hh26 => ?_)
      obtain ⟨h24, p25⟩ := hh26
      refine V_iinc_2 48 (1) dX12_takesNumber_48 (by decide) rfl (Nat.le_of_ble_eq_true rfl) ?_
      refine V_goto 51 2 dX12_takesNumber_51 (by decide) ?_
      rw [← nI_succ]
      refine V_lvw (by repeat (first | exact trivial | refine ⟨rfl, ?_⟩)) (ih7 (i3 + 1, _) ⟨by dsimp only; omega, h24, p25⟩ (by dsimp only; omega))
set_option maxRecDepth 100000 in
set_option maxHeartbeats 8000000 in
theorem s_mfillsWays18 (l : Launch) (Γ : GC) (S : PS) {m : Nat} {g : MG} (F : isL lyModel Γ.2.2.2.2.1 S m) (h : TXT m g S) (x y : Nat → Nat) (hn : ROW (m + 37) 0 x y S) (ok : OKR g x y) : CT l Γ yX12_fillsWays cX12_fillsWays 6 none (2) (0) (0) [.ref m, .int (nI 18)] S (RV (fun S' => FZ [m + 38, m + 40, m + 42] [(m, 55), (m, 56)] S S' ∧ STP m x S' ∧ ∃ w, sJ S' (m + 41) (stp x 8 - 1) = lN w ∧ QW x (stp x 8 - 1) w)) := by
  refine CT.of RX12 "fillsWays" [some (.ref m), some (.int (nI 18)), none, none, none, none] (by decide +kernel) rfl rfl (Nat.le_of_ble_eq_true rfl) rfl (fun M hM => ?_)
  subst hM
  have hK := h.k8
  have hl := h.l2
  have hs0 := OKR.s18 h ok
  have hs : sumN x 8 ≤ 18 := by omega
  have hz := okzx ok
  refine V_aload_0 0 dX12_fillsWays_0 ?_
  refine V_callV 1 (ci := 12) [] _ (s_mcopies M.2.1 Γ S F h) dX12_fillsWays_1 cb_X12_copies ml_RX12_364 im_yX12_copies se_yX12_copies (F.m 0 (Nat.le_of_ble_eq_true rfl)) (F.k 0 12 rfl) (Nat.le_of_ble_eq_true rfl) ⟨(Nat.le_of_ble_eq_true rfl), (Nat.le_of_ble_eq_true rfl)⟩ rfl rfl (Nat.le_of_ble_eq_true rfl) ⟨(Nat.le_of_ble_eq_true rfl), (Nat.le_of_ble_eq_true rfl)⟩ (RV.go (fun S1 h1 => ?_))
  have F1 := F.ss h1.1.1
  have hr1 := cpRow hn h1.2
  have t1 := h.z [38] [(0, 55), (0, 56)] h1.1 rfl rfl rfl rfl
  refine V_aload_0 4 dX12_fillsWays_4 ?_
  refine V_callV 5 (ci := 12) [] _ (s_mfillsSteps M.2.1 Γ S1 F1 t1 x y hr1 hz hs) dX12_fillsWays_5 cb_X12_fillsSteps ml_RX12_376 im_yX12_fillsSteps se_yX12_fillsSteps (F1.m 0 (Nat.le_of_ble_eq_true rfl)) (F1.k 0 12 rfl) (Nat.le_of_ble_eq_true rfl) ⟨(Nat.le_of_ble_eq_true rfl), (Nat.le_of_ble_eq_true rfl)⟩ rfl rfl (Nat.le_of_ble_eq_true rfl) ⟨(Nat.le_of_ble_eq_true rfl), (Nat.le_of_ble_eq_true rfl)⟩ (RV.go (fun S2 h2 => ?_))
  have F2 := F1.ss h2.1.1
  have hr2 := hr1.fz h2.1 (by simp)
  have t2 := t1.z [40] [] h2.1 rfl rfl rfl rfl
  have e2 : FZ [m + 38, m + 40, m + 42] [(m, 55), (m, 56)] S S2 := (h1.1.sub (by simp) (by simp)).tr (h2.1.sub (by simp) (by simp))
  have hp2 := h2.2
  have hb8 := stp_lt hs
  have hp8 := stp_pos x 8
  refine V_aload_0 8 dX12_fillsWays_8 ?_
  refine V_getR 9 (c := 12) 60 (F2.r 0 60 41 rfl) dX12_fillsWays_9 fl_RX12_140 (F2.m 0 (Nat.le_of_ble_eq_true rfl)) (F2.k 0 12 rfl) (Nat.le_of_ble_eq_true rfl) (Nat.le_of_ble_eq_true rfl) rfl ?_
  refine V_iconst 12 (0) dX12_fillsWays_12 (by decide) ?_
  refine V_lconst 13 1 dX12_fillsWays_13 (by decide) ?_
  refine V_lastore2 14 dX12_fillsWays_14 (F2.m 41 (Nat.le_of_ble_eq_true rfl)) (F2.k 41 15 rfl) (F2.l 41 20000 rfl) ?_ ?_
  · exact (by unfold vp_in; decide)
  refine V_iconst 15 (1) dX12_fillsWays_15 (by decide) ?_
  refine V_istore_2 16 dX12_fillsWays_16 rfl (Nat.le_of_ble_eq_true rfl) ?_
  refine V_while (α := Nat × PS × Option Value × Option Value) (fun z => stp x 8 - z.1) (fun z => 1 ≤ z.1 ∧ z.1 ≤ stp x 8 ∧ FZ [m + 42] [] S2 z.2.1 ∧ ∀ j, j < z.1 → ∃ w, sJ z.2.1 (m + 41) j = lN w ∧ QW x j w) (fun z => z.2.1) (fun z => [some (.ref m), some (.int (nI 18)), some (.int (nI z.1)), z.2.2.1, none, z.2.2.2]) (1, _, none, none) ⟨Nat.le_refl _, hp8, FZ.rf.uJ, fun j hj => ⟨1, ?_, ?_⟩⟩ (fun z hz2 ih => ?_)
  · have : j = 0 := by dsimp only at hj; omega
    subst this
    exact up2_s _ _ _ _
  · have : j = 0 := by dsimp only at hj; omega
    subst this
    exact QW.zero
  obtain ⟨n, T, w3, w5⟩ := z
  obtain ⟨h1n, hn8, eT, hW⟩ := hz2
  dsimp only at h1n hn8 eT hW ih ⊢
  have FT9 := F2.ss eT.1
  refine V_iload_2 17 dX12_fillsWays_17 ?_
  refine V_aload_0 18 dX12_fillsWays_18 ?_
  refine V_getR 19 (c := 12) 59 (FT9.r 0 59 40 rfl) dX12_fillsWays_19 fl_RX12_137 (FT9.m 0 (Nat.le_of_ble_eq_true rfl)) (FT9.k 0 12 rfl) (Nat.le_of_ble_eq_true rfl) (Nat.le_of_ble_eq_true rfl) rfl ?_
  refine V_bipush 22 (8) dX12_fillsWays_22 (by decide) ?_
  refine V_iaload2 24 dX12_fillsWays_24 (FT9.m 40 (Nat.le_of_ble_eq_true rfl)) (FT9.k 40 14 rfl) (FT9.l 40 9 rfl) ?_ ?_
  · exact (by unfold vp_in; decide)
  rw [show (8 : Int32).toNatClampNeg = 8 from by decide, stp_at hp2 eT (by simp) (k := 8) (by omega)]
  refine V_icmp_ge 25 125 dX12_fillsWays_25 (by decide) (fun c => ?_) (fun c => ?_)
  · have c2 := (nI_leI (by omega) (by omega)).mp c
    refine V_vret 125 dX12_fillsWays_125 rfl (Nat.le_of_ble_eq_true rfl) (Nat.le_of_ble_eq_true rfl) (RV.mk ⟨e2.tr (eT.sub (by simp) (by simp)), stp_all hp2 eT (by simp), hW _ (by omega)⟩)
  · have c2 := mt (nI_leI (by omega) (by omega)).mpr c
    have tT := t2.z [42] [] eT rfl rfl rfl rfl
    refine V_aload_0 28 dX12_fillsWays_28 ?_
    refine V_iload_2 29 dX12_fillsWays_29 ?_
    refine V_callV 30 (ci := 12) [.int _] _ (s_mtakesJ M.2.1 Γ T FT9 tT x y (hr2.fz eT (by simp)) hz hs (stp_all hp2 eT (by simp)) (n := n) (by omega)) dX12_fillsWays_30 cb_X12_takesNumber ml_RX12_379 im_yX12_takesNumber se_yX12_takesNumber (FT9.m 0 (Nat.le_of_ble_eq_true rfl)) (FT9.k 0 12 rfl) (Nat.le_of_ble_eq_true rfl) ⟨(Nat.le_of_ble_eq_true rfl), (Nat.le_of_ble_eq_true rfl)⟩ rfl rfl (Nat.le_of_ble_eq_true rfl) ⟨(Nat.le_of_ble_eq_true rfl), (Nat.le_of_ble_eq_true rfl)⟩ (RV.go (fun S3 h3 => ?_))
    have F3 := FT9.ss h3.1.1
    have e3 : FZ [m + 42] [] S2 S3 := eT.tr h3.1
    have t3 := t2.z [42] [] e3 rfl rfl rfl rfl
    have r3 := hr2.fz e3 (by simp)
    have W3 : ∀ j, j < n → ∃ w, sJ S3 (m + 41) j = lN w ∧ QW x j w := fun j hj => by rw [h3.2.2]; exact hW j hj
    refine V_lconst 33 0 dX12_fillsWays_33 (by decide) ?_
    refine V_lstore_3 34 dX12_fillsWays_34 rfl (Nat.le_of_ble_eq_true rfl) ?_
    refine V_aload_0 35 dX12_fillsWays_35 ?_
    refine V_callV 36 (ci := 12) [] _ (s_mlieOut2 M.2.1 Γ S3 F3 t3 x y (dg x n) r3 ok h3.2.1 (fun k _ => dg_le)) dX12_fillsWays_36 cb_X12_lieOut ml_RX12_382 im_yX12_lieOut se_yX12_lieOut (F3.m 0 (Nat.le_of_ble_eq_true rfl)) (F3.k 0 12 rfl) (Nat.le_of_ble_eq_true rfl) ⟨(Nat.le_of_ble_eq_true rfl), (Nat.le_of_ble_eq_true rfl)⟩ rfl rfl (Nat.le_of_ble_eq_true rfl) ⟨(Nat.le_of_ble_eq_true rfl), (Nat.le_of_ble_eq_true rfl)⟩ (RI.go (fun r4 S4 h4 => ?_))
    obtain ⟨⟨s4, hs4, es4⟩, e4, j4⟩ := h4
    subst es4
    have F4 := F3.ss e4.1
    have e24 : FZ [m + 42] [] S2 S4 := e3.tr (e4.sub (by simp) (by simp))
    have t4 := t2.z [42] [] e24 rfl rfl rfl rfl
    have r4' := hr2.fz e24 (by simp)
    have d4 : ∀ k, k < 8 → sA S4 (m + 42) k = nI (dg x n k) := dig_fz h3.2.1 e4
    have W4 : ∀ j, j < n → ∃ w, sJ S4 (m + 41) j = lN w ∧ QW x j w := fun j hj => by rw [j4]; exact W3 j hj
    refine V_iload_1 39 dX12_fillsWays_39 ?_
    refine V_icmp_gt 40 112 dX12_fillsWays_40 (by decide) (fun q => absurd ((nI_ltI (by omega) (by omega)).mp q) (by omega)) (fun _ => ?_)
    refine V_iconst 43 (0) dX12_fillsWays_43 (by decide) ?_
    refine V_istore_5 44 dX12_fillsWays_44 rfl (Nat.le_of_ble_eq_true rfl) ?_
    refine V_while (α := Nat × Nat) (fun z => gK g - z.1) (fun z => z.1 ≤ gK g ∧ ACC x n z.1 z.2) (fun z => S4) (fun z => [some (.ref m), some (.int (nI 18)), some (.int (nI n)), some (.long (lN z.2)), none, some (.int (nI z.1))]) (0, 0) ⟨Nat.zero_le _, ACC.zero⟩ (fun z hz2 ih2 => ?_)
    obtain ⟨k, w⟩ := z
    obtain ⟨hk, hA⟩ := hz2
    dsimp only at hk hA ih2 ⊢
    refine V_iload_5 46 dX12_fillsWays_46 ?_
    refine V_aload_0 48 dX12_fillsWays_48 ?_
    refine V_getR 49 (c := 12) 23 (F4.r 0 23 11 rfl) dX12_fillsWays_49 fl_RX12_49 (F4.m 0 (Nat.le_of_ble_eq_true rfl)) (F4.k 0 12 rfl) (Nat.le_of_ble_eq_true rfl) (Nat.le_of_ble_eq_true rfl) rfl ?_
    refine V_aload_0 52 dX12_fillsWays_52 ?_
    refine V_getI 53 (c := 12) 18 dX12_fillsWays_53 fl_RX12_264 (F4.m 0 (Nat.le_of_ble_eq_true rfl)) (F4.k 0 12 rfl) (Nat.le_of_ble_eq_true rfl) (Nat.le_of_ble_eq_true rfl) rfl ?_
    rw [t4.lv]
    refine V_iaload2 56 dX12_fillsWays_56 (F4.m 11 (Nat.le_of_ble_eq_true rfl)) (F4.k 11 14 rfl) (F4.l 11 2 rfl) ?_ ?_
    · exact vp_in_nI hl (by decide)
    rw [nI_clamp (by omega), t4.ki]
    refine V_icmp_ge 57 112 dX12_fillsWays_57 (by decide) (fun c3 => ?_) (fun c3 => ?_)
    · have c4 := (nI_leI (by omega) (by omega)).mp c3
      have hkK : k = gK g := by omega
      refine V_aload_0 112 dX12_fillsWays_112 ?_
      refine V_getR 113 (c := 12) 60 (F4.r 0 60 41 rfl) dX12_fillsWays_113 fl_RX12_140 (F4.m 0 (Nat.le_of_ble_eq_true rfl)) (F4.k 0 12 rfl) (Nat.le_of_ble_eq_true rfl) (Nat.le_of_ble_eq_true rfl) rfl ?_
      refine V_iload_2 116 dX12_fillsWays_116 ?_
      refine V_lload_3 117 dX12_fillsWays_117 ?_
      refine V_lastore2 118 dX12_fillsWays_118 (F4.m 41 (Nat.le_of_ble_eq_true rfl)) (F4.k 41 15 rfl) (F4.l 41 20000 rfl) ?_ ?_
      · exact vp_in_nI (by omega) (by decide)
      rw [nI_clamp (by omega)]
      refine V_iinc_2 119 (1) dX12_fillsWays_119 (by decide) rfl (Nat.le_of_ble_eq_true rfl) ?_
      refine V_goto 122 17 dX12_fillsWays_122 (by decide) ?_
      rw [← nI_succ]
      refine ih (n + 1, _, _, _) ⟨by dsimp only; omega, by dsimp only; omega, e24.uJ, fun j hj => ?_⟩ (by dsimp only; omega)
      dsimp only at hj ⊢
      by_cases q : j = n
      · subst q
        exact ⟨w, up2_s _ _ _ _, ACC.fin (by omega) h1n hK hz (by rw [← hkK]; exact hA)⟩
      · obtain ⟨v, v1, v2⟩ := W4 j (by omega)
        exact ⟨v, (up2_k _ _ q).trans v1, v2⟩
    · have c4 := mt (nI_leI (by omega) (by omega)).mpr c3
      have hk8 : k < 8 := by omega
      have hdl := dg_le (x := x) (n := n) (k := k)
      have hx18 := Nat.le_trans (sumN_mem (f := x) 8 k hk8) hs
      have hst := stp_le hs (show k ≤ 8 by omega)
      refine V_aload_0 60 dX12_fillsWays_60 ?_
      refine V_getR 61 (c := 12) 61 (F4.r 0 61 42 rfl) dX12_fillsWays_61 fl_RX12_143 (F4.m 0 (Nat.le_of_ble_eq_true rfl)) (F4.k 0 12 rfl) (Nat.le_of_ble_eq_true rfl) (Nat.le_of_ble_eq_true rfl) rfl ?_
      refine V_iload_5 64 dX12_fillsWays_64 ?_
      refine V_iaload2 66 dX12_fillsWays_66 (F4.m 42 (Nat.le_of_ble_eq_true rfl)) (F4.k 42 14 rfl) (F4.l 42 8 rfl) ?_ ?_
      · exact vp_in_nI (by omega) (by decide)
      rw [nI_clamp (by omega), d4 k hk8]
      refine V_if_le 67 106 dX12_fillsWays_67 (by decide) (fun c5 => ?_) (fun c5 => ?_)
      · have c6 := (nI_leE (Eq.refl (nI (dg x n k))) (show (0 : Int32) = nI 0 from rfl) (by omega) (by omega)).mp c5
        refine V_iinc_5 106 (1) dX12_fillsWays_106 (by decide) rfl (Nat.le_of_ble_eq_true rfl) ?_
        refine V_goto 109 46 dX12_fillsWays_109 (by decide) ?_
        rw [← nI_succ]
        exact ih2 (k + 1, w) ⟨by dsimp only; omega, hA.skip (by omega)⟩ (by dsimp only; omega)
      · have c6 := mt (nI_leE (Eq.refl (nI (dg x n k))) (show (0 : Int32) = nI 0 from rfl) (by omega) (by omega)).mpr c5
        have hge := dg_pos (x := x) (n := n) (k := k) (by omega)
        obtain ⟨v, v1, v2⟩ := W4 (n - stp x k) (by have := stp_pos x k; omega)
        refine V_lload_3 70 dX12_fillsWays_70 ?_
        refine V_aload_0 71 dX12_fillsWays_71 ?_
        refine V_getR 72 (c := 12) 60 (F4.r 0 60 41 rfl) dX12_fillsWays_72 fl_RX12_140 (F4.m 0 (Nat.le_of_ble_eq_true rfl)) (F4.k 0 12 rfl) (Nat.le_of_ble_eq_true rfl) (Nat.le_of_ble_eq_true rfl) rfl ?_
        refine V_iload_2 75 dX12_fillsWays_75 ?_
        refine V_aload_0 76 dX12_fillsWays_76 ?_
        refine V_getR 77 (c := 12) 59 (F4.r 0 59 40 rfl) dX12_fillsWays_77 fl_RX12_137 (F4.m 0 (Nat.le_of_ble_eq_true rfl)) (F4.k 0 12 rfl) (Nat.le_of_ble_eq_true rfl) (Nat.le_of_ble_eq_true rfl) rfl ?_
        refine V_iload_5 80 dX12_fillsWays_80 ?_
        refine V_iaload2 82 dX12_fillsWays_82 (F4.m 40 (Nat.le_of_ble_eq_true rfl)) (F4.k 40 14 rfl) (F4.l 40 9 rfl) ?_ ?_
        · exact vp_in_nI (by omega) (by decide)
        rw [nI_clamp (by omega), stp_at hp2 e24 (by simp) (k := k) (by omega)]
        refine V_isub 83 dX12_fillsWays_83 ?_
        rw [eqSub (Eq.refl (nI n)) (Eq.refl (nI (stp x k))) hge]
        refine V_laload2 84 dX12_fillsWays_84 (F4.m 41 (Nat.le_of_ble_eq_true rfl)) (F4.k 41 15 rfl) (F4.l 41 20000 rfl) ?_ ?_
        · exact vp_in_nI (by omega) (by decide)
        rw [nI_clamp (by omega), v1]
        refine V_aload_0 85 dX12_fillsWays_85 ?_
        refine V_getR 86 (c := 12) 54 (F4.r 0 54 38 rfl) dX12_fillsWays_86 fl_RX12_131 (F4.m 0 (Nat.le_of_ble_eq_true rfl)) (F4.k 0 12 rfl) (Nat.le_of_ble_eq_true rfl) (Nat.le_of_ble_eq_true rfl) rfl ?_
        refine V_iload_5 89 dX12_fillsWays_89 ?_
        refine V_iaload2 91 dX12_fillsWays_91 (F4.m 38 (Nat.le_of_ble_eq_true rfl)) (F4.k 38 14 rfl) (F4.l 38 30 rfl) ?_ ?_
        · exact vp_in_nI (by omega) (by decide)
        rw [nI_clamp (by omega), r4'.gx hk8]
        refine V_aload_0 92 dX12_fillsWays_92 ?_
        refine V_getR 93 (c := 12) 61 (F4.r 0 61 42 rfl) dX12_fillsWays_93 fl_RX12_143 (F4.m 0 (Nat.le_of_ble_eq_true rfl)) (F4.k 0 12 rfl) (Nat.le_of_ble_eq_true rfl) (Nat.le_of_ble_eq_true rfl) rfl ?_
        refine V_iload_5 96 dX12_fillsWays_96 ?_
        refine V_iaload2 98 dX12_fillsWays_98 (F4.m 42 (Nat.le_of_ble_eq_true rfl)) (F4.k 42 14 rfl) (F4.l 42 8 rfl) ?_ ?_
        · exact vp_in_nI (by omega) (by decide)
        rw [nI_clamp (by omega), d4 k hk8]
        refine V_isub 99 dX12_fillsWays_99 ?_
        refine V_iconst 100 (1) dX12_fillsWays_100 (by decide) ?_
        refine V_iadd 101 dX12_fillsWays_101 ?_
        rw [eqSub (Eq.refl (nI (x k))) (Eq.refl (nI (dg x n k))) hdl, nI_1]
        refine V_i2l 102 dX12_fillsWays_102 ?_
        rw [nI_l (by omega)]
        refine V_lmul 103 dX12_fillsWays_103 ?_
        refine V_ladd 104 dX12_fillsWays_104 ?_
        rw [lN_mul, lN_add]
        refine V_lstore_3 105 dX12_fillsWays_105 rfl (Nat.le_of_ble_eq_true rfl) ?_
        refine V_iinc_5 106 (1) dX12_fillsWays_106 (by decide) rfl (Nat.le_of_ble_eq_true rfl) ?_
        refine V_goto 109 46 dX12_fillsWays_109 (by decide) ?_
        rw [← nI_succ]
        exact ih2 (k + 1, _) ⟨by dsimp only; omega, hA.step hk8 (by omega) v2⟩ (by dsimp only; omega)
set_option maxRecDepth 100000 in
set_option maxHeartbeats 8000000 in
theorem s_mwithin18 (l : Launch) (Γ : GC) (S : PS) {m tp : Nat} {g : MG} (I : MV Γ.2.2.2.2.1 m g tp S) (x y : Nat → Nat) (hn : ROW (m + 37) 0 x y S) (ok : OKR g x y) : CT l Γ yX12_withinOf cX12_withinOf 2 (some .long) (3) (0) (0) [.ref m, .int (nI 18)] S (RLg (fun r S' => r = lN (fac (sumN x 8)) ∧ FZ [m + 38, m + 40, m + 42] [(m, 55), (m, 56)] S S')) := by
  refine CT.of RX12 "withinOf" [some (.ref m), some (.int (nI 18))] (by decide +kernel) rfl rfl (Nat.le_of_ble_eq_true rfl) rfl (fun M hM => ?_)
  subst hM
  have F := I.f
  have hs0 := OKR.s18 I.t ok
  have hb8 := stp_lt (x := x) (by omega)
  have hp8 := stp_pos x 8
  refine V_aload_0 0 dX12_withinOf_0 ?_
  refine V_iload_1 1 dX12_withinOf_1 ?_
  refine V_callV 2 (ci := 12) [.int _] _ (s_mfillsWays18 M.2.1 Γ S F I.t x y hn ok) dX12_withinOf_2 cb_X12_fillsWays ml_RX12_385 im_yX12_fillsWays se_yX12_fillsWays (F.m 0 (Nat.le_of_ble_eq_true rfl)) (F.k 0 12 rfl) (Nat.le_of_ble_eq_true rfl) ⟨(Nat.le_of_ble_eq_true rfl), (Nat.le_of_ble_eq_true rfl)⟩ rfl rfl (Nat.le_of_ble_eq_true rfl) ⟨(Nat.le_of_ble_eq_true rfl), (Nat.le_of_ble_eq_true rfl)⟩ (RV.go (fun S1 h1 => ?_))
  have F1 := F.ss h1.1.1
  obtain ⟨w, hw, hq⟩ := h1.2.2
  refine V_aload_0 5 dX12_withinOf_5 ?_
  refine V_getR 6 (c := 12) 60 (F1.r 0 60 41 rfl) dX12_withinOf_6 fl_RX12_140 (F1.m 0 (Nat.le_of_ble_eq_true rfl)) (F1.k 0 12 rfl) (Nat.le_of_ble_eq_true rfl) (Nat.le_of_ble_eq_true rfl) rfl ?_
  refine V_aload_0 9 dX12_withinOf_9 ?_
  refine V_getR 10 (c := 12) 59 (F1.r 0 59 40 rfl) dX12_withinOf_10 fl_RX12_137 (F1.m 0 (Nat.le_of_ble_eq_true rfl)) (F1.k 0 12 rfl) (Nat.le_of_ble_eq_true rfl) (Nat.le_of_ble_eq_true rfl) rfl ?_
  refine V_bipush 13 (8) dX12_withinOf_13 (by decide) ?_
  refine V_iaload2 15 dX12_withinOf_15 (F1.m 40 (Nat.le_of_ble_eq_true rfl)) (F1.k 40 14 rfl) (F1.l 40 9 rfl) ?_ ?_
  · exact (by unfold vp_in; decide)
  rw [show (8 : Int32).toNatClampNeg = 8 from by decide, h1.2.1 8 (by omega)]
  refine V_iconst 16 (1) dX12_withinOf_16 (by decide) ?_
  refine V_isub 17 dX12_withinOf_17 ?_
  rw [eqSub (Eq.refl (nI (stp x 8))) (show (1 : Int32) = nI 1 from rfl) (by omega)]
  refine V_laload2 18 dX12_withinOf_18 (F1.m 41 (Nat.le_of_ble_eq_true rfl)) (F1.k 41 15 rfl) (F1.l 41 20000 rfl) ?_ ?_
  · exact vp_in_nI (by omega) (by decide)
  rw [nI_clamp (by omega), hw, QW.last hq]
  refine V_lret 19 dX12_withinOf_19 rfl (Nat.le_of_ble_eq_true rfl) (Nat.le_of_ble_eq_true rfl) (RLg.mk ⟨rfl, h1.1⟩)
theorem fac_mono : ∀ a b, a ≤ b → fac a ≤ fac b := by
  intro a b h
  induction b with
  | zero => have : a = 0 := by omega
            rw [this]; exact Nat.le_refl _
  | succ b ih =>
    by_cases e : a = b + 1
    · rw [e]; exact Nat.le_refl _
    · exact Nat.le_trans (ih (by omega)) (Nat.le_mul_of_pos_left _ (Nat.succ_pos _))
theorem sureEnd {s a b : Nat} (hs : s ≤ 18) (hab : a ≤ b) (hb : b ≤ 99) : lN a * lN (fac s) ≤ lN (fac s) * lN b := by
  have h1 := fac_mono s 18 hs
  have h2 : fac 18 = 6402373705728000 := by decide
  rw [h2] at h1
  rw [lN_mul, lN_mul, Int64.le_iff_toInt_le]
  have e1 : a * fac s ≤ fac s * b := by rw [Nat.mul_comm]; exact Nat.mul_le_mul_left _ hab
  have e2 : fac s * b ≤ 6402373705728000 * 99 := Nat.mul_le_mul h1 hb
  have q1 : (lN (a * fac s)).toInt = ((a * fac s : Nat) : Int) := lg_ofNat_toInt (by omega)
  have q2 : (lN (fac s * b)).toInt = ((fac s * b : Nat) : Int) := lg_ofNat_toInt (by omega)
  rw [q1, q2]
  exact Int.ofNat_le.mpr e1
set_option maxRecDepth 100000 in
set_option maxHeartbeats 8000000 in
theorem s_msure (l : Launch) (Γ : GC) (S : PS) {m tp : Nat} {g : MG} (I : MV Γ.2.2.2.2.1 m g tp S) (z1 z2 : Int32) : CT l Γ yX12_sure cX12_sure 6 (some .int) (4) (0) (0) [.ref m, .int z1, .int z2] S (RI (fun r S' => MV Γ.2.2.2.2.1 m g tp S')) := by
  refine CT.of RX12 "sure" [some (.ref m), some (.int z1), some (.int z2), none, none, none] (by decide +kernel) rfl rfl (Nat.le_of_ble_eq_true rfl) rfl (fun M hM => ?_)
  subst hM
  have F := I.f
  obtain ⟨x, y, hn, ok⟩ := I.now
  have hs0 := OKR.s18 I.t ok
  have J19 : V M Γ (6, RX12, "sure", (some .int), RM (4) (0) (0)) cX12_sure (RQ M Γ (RI (fun r S' => MV Γ.2.2.2.2.1 m g tp S')) (0) (0)) 0 0 S 19 [some (.ref m), some (.int z1), some (.int z2), none, none, none] [] := by
    refine V_iconst 19 (-1) dX12_sure_19 (by decide) ?_
    refine V_iret 20 .int dX12_sure_20 rfl rfl (Nat.le_of_ble_eq_true rfl) (Nat.le_of_ble_eq_true rfl) (RI.mk I)
  refine V_iload_2 0 dX12_sure_0 ?_
  refine V_iconst 1 (1) dX12_sure_1 (by decide) ?_
  refine V_bipush 2 (99) dX12_sure_2 (by decide) ?_
  refine V_callS 4 [.int _, .int _, .int _] _ (s_min M.2.1 Γ S _ _ _) dX12_sure_4 cb_X12_in ml_RX12_335 sm_yX12_in ⟨(Nat.le_of_ble_eq_true rfl), (Nat.le_of_ble_eq_true rfl)⟩ rfl rfl (Nat.le_of_ble_eq_true rfl) ⟨(Nat.le_of_ble_eq_true rfl), (Nat.le_of_ble_eq_true rfl)⟩ (RI.go (fun r1 S1 q1 => ?_))
  rw [q1.2]
  have q1 := q1.1
  refine V_if_eq 7 19 dX12_sure_7 (by decide) (fun c => ?_) (fun c => ?_)
  · exact J19
  ·
    refine V_iload_1 10 dX12_sure_10 ?_
    refine V_iconst 11 (0) dX12_sure_11 (by decide) ?_
    refine V_iload_2 12 dX12_sure_12 ?_
    refine V_callS 13 [.int _, .int _, .int _] _ (s_min M.2.1 Γ S _ _ _) dX12_sure_13 cb_X12_in ml_RX12_335 sm_yX12_in ⟨(Nat.le_of_ble_eq_true rfl), (Nat.le_of_ble_eq_true rfl)⟩ rfl rfl (Nat.le_of_ble_eq_true rfl) ⟨(Nat.le_of_ble_eq_true rfl), (Nat.le_of_ble_eq_true rfl)⟩ (RI.go (fun r2 S2 q2 => ?_))
    rw [q2.2]
    have q2 := q2.1
    refine V_if_ne 16 21 dX12_sure_16 (by decide) (fun c2 => ?_) (fun c2 => ?_)
    · obtain ⟨b, hb, eb⟩ := inN (n := 99) (by decide) (Int32.le_trans (by decide) (q1.resolve_left c).2.1) (q1.resolve_left c).2.2
      obtain ⟨a, ha, ea⟩ := inN (n := b) (z := z2) (by rw [eb]; exact nI_toInt (by omega)) (q2.resolve_left c2).2.1 (q2.resolve_left c2).2.2
      refine V_aload_0 21 dX12_sure_21 ?_
      refine V_callV 22 (ci := 12) [] _ (s_mcopies M.2.1 Γ S F I.t) dX12_sure_22 cb_X12_copies ml_RX12_364 im_yX12_copies se_yX12_copies (F.m 0 (Nat.le_of_ble_eq_true rfl)) (F.k 0 12 rfl) (Nat.le_of_ble_eq_true rfl) ⟨(Nat.le_of_ble_eq_true rfl), (Nat.le_of_ble_eq_true rfl)⟩ rfl rfl (Nat.le_of_ble_eq_true rfl) ⟨(Nat.le_of_ble_eq_true rfl), (Nat.le_of_ble_eq_true rfl)⟩ (RV.go (fun S3 h3 => ?_))
      have I3 := (cpSR I h3).1
      have hn3 : ROW (m + 37) 0 x y S3 := hn.fz h3.1 (by simp)
      have hr3 := cpRow hn h3.2
      have F3 := I3.f
      refine V_aload_0 25 dX12_sure_25 ?_
      refine V_iconst 26 (0) dX12_sure_26 (by decide) ?_
      refine V_callV 27 (ci := 12) [.int _] _ (s_msumOn M.2.1 Γ S3 F3 x 0 (by decide) hr3.fx) dX12_sure_27 cb_X12_sumOn ml_RX12_352 im_yX12_sumOn se_yX12_sumOn (F3.m 0 (Nat.le_of_ble_eq_true rfl)) (F3.k 0 12 rfl) (Nat.le_of_ble_eq_true rfl) ⟨(Nat.le_of_ble_eq_true rfl), (Nat.le_of_ble_eq_true rfl)⟩ rfl rfl (Nat.le_of_ble_eq_true rfl) ⟨(Nat.le_of_ble_eq_true rfl), (Nat.le_of_ble_eq_true rfl)⟩ (RI.go (fun r4 S4 q4 => ?_))
      rw [q4.2, q4.1]
      refine V_callS 30 [.int _] _ (s_mfac M.2.1 Γ S3 (sumN x 8) (by omega)) dX12_sure_30 cb_X12_orders ml_RX12_394 sm_yX12_orders ⟨(Nat.le_of_ble_eq_true rfl), (Nat.le_of_ble_eq_true rfl)⟩ rfl rfl (Nat.le_of_ble_eq_true rfl) ⟨(Nat.le_of_ble_eq_true rfl), (Nat.le_of_ble_eq_true rfl)⟩ (RLg.go (fun r5 S5 q5 => ?_))
      rw [q5.2, q5.1]
      refine V_lstore_3 33 dX12_sure_33 rfl (Nat.le_of_ble_eq_true rfl) ?_
      refine V_iconst 34 (0) dX12_sure_34 (by decide) ?_
      refine V_istore_5 35 dX12_sure_35 rfl (Nat.le_of_ble_eq_true rfl) ?_
      refine V_lvw (lv2 := [some (.ref m), some (.int z1), some (.int z2), some (.long (lN (fac (sumN x 8)))), none, some (.int (nI 0))]) (by repeat (first | exact trivial | refine ⟨rfl, ?_⟩)) ?_
      refine V_while (α := Nat × PS) (fun z => 19 - z.1) (fun z => z.1 ≤ 18 ∧ MV Γ.2.2.2.2.1 m g tp z.2 ∧ ROW (m + 37) 0 x y z.2) (fun z => z.2) (fun z => [some (.ref m), some (.int z1), some (.int z2), some (.long (lN (fac (sumN x 8)))), none, some (.int (nI z.1))]) (0, S3) ⟨by omega, I3, hn3⟩ (fun z hz ih => ?_)
      obtain ⟨k, T⟩ := z
      obtain ⟨hk, IT, hnT⟩ := hz
      dsimp only at hk IT hnT ih ⊢
      have FT9 := IT.f
      have J60 : ∀ (T : PS), MV Γ.2.2.2.2.1 m g tp T → V M Γ (6, RX12, "sure", (some .int), RM (4) (0) (0)) cX12_sure (RQ M Γ (RI (fun r S' => MV Γ.2.2.2.2.1 m g tp S')) (0) (0)) 0 0 T 60 [some (.ref m), some (.int z1), some (.int z2), some (.long (lN (fac (sumN x 8)))), none, some (.int (nI k))] [] := by
        intro T IT
        refine V_iload_5 60 dX12_sure_60 ?_
        refine V_iret 62 .int dX12_sure_62 rfl rfl (Nat.le_of_ble_eq_true rfl) (Nat.le_of_ble_eq_true rfl) (RI.mk IT)
      rcases (show k < 18 ∨ k = 18 by omega) with hk2 | hk2
      ·
        refine V_aload_0 37 dX12_sure_37 ?_
        refine V_iload_5 38 dX12_sure_38 ?_
        refine V_callV 40 (ci := 12) [.int _] _ (s_mwithinOf M.2.1 Γ T IT _) dX12_sure_40 cb_X12_withinOf ml_RX12_388 im_yX12_withinOf se_yX12_withinOf (FT9.m 0 (Nat.le_of_ble_eq_true rfl)) (FT9.k 0 12 rfl) (Nat.le_of_ble_eq_true rfl) ⟨(Nat.le_of_ble_eq_true rfl), (Nat.le_of_ble_eq_true rfl)⟩ rfl rfl (Nat.le_of_ble_eq_true rfl) ⟨(Nat.le_of_ble_eq_true rfl), (Nat.le_of_ble_eq_true rfl)⟩ (RLg.go (fun r6 S6 q6 => ?_))
        refine V_iload_2 43 dX12_sure_43 ?_
        refine V_i2l 44 dX12_sure_44 ?_
        refine V_lmul 45 dX12_sure_45 ?_
        refine V_iload_1 46 dX12_sure_46 ?_
        refine V_i2l 47 dX12_sure_47 ?_
        refine V_lload_3 48 dX12_sure_48 ?_
        refine V_lmul 49 dX12_sure_49 ?_
        refine V_lcmp 50 dX12_sure_50 ?_
        have I6 := MV.w IT q6
        refine V_if_ge 51 60 dX12_sure_51 (by decide) (fun c5 => ?_) (fun c5 => ?_)
        · exact J60 _ I6
        ·
          refine V_iinc_5 54 (1) dX12_sure_54 (by decide) rfl (Nat.le_of_ble_eq_true rfl) ?_
          refine V_goto 57 37 dX12_sure_57 (by decide) ?_
          rw [← nI_succ]
          exact ih (k + 1, S6) ⟨by dsimp only; omega, I6, hnT.fz q6 (by simp)⟩ (by dsimp only; omega)
      · subst hk2
        refine V_aload_0 37 dX12_sure_37 ?_
        refine V_iload_5 38 dX12_sure_38 ?_
        refine V_callV 40 (ci := 12) [.int _] _ (s_mwithin18 M.2.1 Γ T IT x y hnT ok) dX12_sure_40 cb_X12_withinOf ml_RX12_388 im_yX12_withinOf se_yX12_withinOf (FT9.m 0 (Nat.le_of_ble_eq_true rfl)) (FT9.k 0 12 rfl) (Nat.le_of_ble_eq_true rfl) ⟨(Nat.le_of_ble_eq_true rfl), (Nat.le_of_ble_eq_true rfl)⟩ rfl rfl (Nat.le_of_ble_eq_true rfl) ⟨(Nat.le_of_ble_eq_true rfl), (Nat.le_of_ble_eq_true rfl)⟩ (RLg.go (fun r6 S6 q6 => ?_))
        refine V_iload_2 43 dX12_sure_43 ?_
        refine V_i2l 44 dX12_sure_44 ?_
        have I6 := MV.w IT q6.2
        rw [q6.1]
        refine V_lmul 45 dX12_sure_45 ?_
        refine V_iload_1 46 dX12_sure_46 ?_
        refine V_i2l 47 dX12_sure_47 ?_
        refine V_lload_3 48 dX12_sure_48 ?_
        refine V_lmul 49 dX12_sure_49 ?_
        refine V_lcmp 50 dX12_sure_50 ?_
        refine V_if_ge 51 60 dX12_sure_51 (by decide) (fun _ => J60 _ I6) (fun q => absurd ((lg_cmp_ge _ _).mpr ?_) q)
        rw [ea, eb, nI_l (by omega), nI_l (by omega)]
        exact sureEnd (by omega) ha hb
    · exact J19

