/-! the constructor once more: the States of past and slots are empty -/
def ZS (h i : Nat) (S : PS) : Prop := sI S (h + 52) = (fun _ => 0) ∧ ∀ k, k < i → sA S (h + (81 + 4 * k) + 1) = (fun _ => 0) ∧ sA S (h + (81 + 4 * k) + 2) = (fun _ => 0) ∧ sI S (h + (81 + 4 * k)) = fun _ => 0
theorem ZS.step {h i lo : Nat} {T Y : PS} (Z : ZS h i T) (hb : lo + sN T = h + (81 + 4 * i)) (hN : NEWO lyState lo (nO T (lo + sN T) 7) (lo + sN T) Y) (z : sA Y (lo + sN T + 1) = (fun _ => 0) ∧ sA Y (lo + sN T + 2) = (fun _ => 0) ∧ sA Y (lo + sN T + 3) = (fun _ => 0) ∧ sI Y (lo + sN T) = fun _ => 0) : ∀ (b j : Nat) (v : Option Nat), ZS h (i + 1) (uP Y b j v) := fun b j v => by
  have e : ∀ a, a < h + (81 + 4 * i) → eqA T Y a := fun a ha => new_e hN (by omega)
  refine ⟨by show sI Y _ = _; rw [(e _ (by omega)).2.2.1]; exact Z.1, fun k hk => ?_⟩
  show sA Y _ = _ ∧ sA Y _ = _ ∧ sI Y _ = _
  by_cases q : k = i
  · subst q
    rw [← hb]
    exact ⟨z.1, z.2.1, z.2.2.2⟩
  · obtain ⟨z1, z2, z3⟩ := Z.2 k (by omega)
    rw [(e _ (by omega)).2.2.2.2.2.1, (e _ (by omega)).2.2.2.2.2.1, (e _ (by omega)).2.2.1]
    exact ⟨z1, z2, z3⟩
set_option maxRecDepth 100000 in
set_option maxHeartbeats 8000000 in
theorem c_X5_initZ (l : Launch) (Γ : GC) (S : PS) {h : Nat} (hw : Γ.2.2.2.2.2.1 = Γ.2.2.2.2.1) (hh : Γ.2.2.2.2.1 + sN S = h + 1) (hlo : Γ.2.2.2.2.1 ≤ h) (hk : sK S h = 5) (h0 : sI S h = fun _ => 0) : CT l Γ yX5_init cX5_init 1 none (2) (9) (11735) [.ref h] S (RV (fun S' => NEWO lyOrders Γ.2.2.2.2.1 S h S' ∧ sA S' (h + 1) = (fun _ => 0) ∧ sA S' (h + 2) = (fun _ => 0) ∧ sA S' (h + 3) = (fun _ => 0) ∧ sI S' h = (fun _ => 0))) := by
  refine CT.of RX5 "<init>" [some (.ref h)] (by decide +kernel) rfl rfl (Nat.le_of_ble_eq_true rfl) rfl (fun M hM => ?_)
  subst hM
  have B0 : BLD lyOrders 1 [] Γ.2.2.2.2.1 S h S := BLD.one hh hlo (by rw [hk]; rfl) (by rw [hk]; decide)
  have hb := hh
  have hI : sI S h = fun _ => 0 := h0
  refine V_aload_0 0 dX5_init_0 ?_
  refine V_objInit 1 dX5_init_1 ml_RX5_3 ⟨(Nat.le_of_ble_eq_true rfl), (Nat.le_of_ble_eq_true rfl)⟩ ?_
  refine V_aload_0 4 dX5_init_4 ?_
  refine V_bipush 5 (8) dX5_init_5 (by decide) ?_
  refine V_newarray 7 14 8 (Or.inr (Or.inl ⟨rfl, rfl⟩)) dX5_init_7 ac_int (by decide) (by decide) (Nat.le_of_ble_eq_true rfl) hw (Nat.le_of_ble_eq_true rfl) (Nat.le_of_ble_eq_true rfl) ?_
  refine V_putF 9 (c := 5) 0 dX5_init_9 fl_RX5_9 (by simp only [PL_mem, sN_uI, sN_uR, sN_uA, sN_uJ, sN_uP, sN_nO, sN_nA]; omega) (by simp (disch := omega) only [sN_uI, sN_uR, sN_uA, sN_uJ, sN_uP, sN_nO, sN_nA, sK_uI, sK_uR, sK_uA, sK_uJ, sK_uP, sK_nO, sK_nA, va_up_ne, hk]) (Nat.le_of_ble_eq_true rfl) (Nat.le_of_ble_eq_true rfl) rfl rfl rfl rfl rfl rfl ?_
  refine V_abs (fun T9 => BLD lyOrders 2 [0] Γ.2.2.2.2.1 S h T9 ∧ FR h (h + 1) S T9 ∧ sA T9 (h + 1) = (fun _ => 0) ∧ sP T9 (h + 1) = (fun _ => none)) (bld_arr B0 0 14 8 rfl rfl) (fun S1 hx => ?_)
  obtain ⟨B1, E, Z, P⟩ := hx
  replace hk := (show sK S1 h = 5 from by have q := B1.1.2.2.2.2.1; exact (Option.some.inj q).symm)
  replace hb := B1.1.2.2.1
  have z1 : sA S1 (h + 1) = (fun _ => 0) := Z
  have hIe := E.2
  replace hI : sI S1 h = fun _ => 0 := hIe.trans hI
  refine V_aload_0 12 dX5_init_12 ?_
  refine V_bipush 13 (8) dX5_init_13 (by decide) ?_
  refine V_newarray 15 14 8 (Or.inr (Or.inl ⟨rfl, rfl⟩)) dX5_init_15 ac_int (by decide) (by decide) (Nat.le_of_ble_eq_true rfl) hw (Nat.le_of_ble_eq_true rfl) (Nat.le_of_ble_eq_true rfl) ?_
  refine V_putF 17 (c := 5) 1 dX5_init_17 fl_RX5_15 (by simp only [PL_mem, sN_uI, sN_uR, sN_uA, sN_uJ, sN_uP, sN_nO, sN_nA]; omega) (by simp (disch := omega) only [sN_uI, sN_uR, sN_uA, sN_uJ, sN_uP, sN_nO, sN_nA, sK_uI, sK_uR, sK_uA, sK_uJ, sK_uP, sK_nO, sK_nA, va_up_ne, hk]) (Nat.le_of_ble_eq_true rfl) (Nat.le_of_ble_eq_true rfl) rfl rfl rfl rfl rfl rfl ?_
  refine V_abs (fun T9 => BLD lyOrders 3 [1, 0] Γ.2.2.2.2.1 S h T9 ∧ FR h (h + 2) S1 T9 ∧ sA T9 (h + 2) = (fun _ => 0) ∧ sP T9 (h + 2) = (fun _ => none)) (bld_arr B1 1 14 8 rfl rfl) (fun S2 hx => ?_)
  obtain ⟨B2, E, Z, P⟩ := hx
  replace hk := (show sK S2 h = 5 from by have q := B2.1.2.2.2.2.1; exact (Option.some.inj q).symm)
  replace hb := B2.1.2.2.1
  replace z1 : sA S2 (h + 1) = (fun _ => 0) := by rw [(E.1 (h + 1) (by omega) (by omega)).2.2.2.2.2.1]; exact z1
  have z2 : sA S2 (h + 2) = (fun _ => 0) := Z
  have hIe := E.2
  replace hI : sI S2 h = fun _ => 0 := hIe.trans hI
  refine V_aload_0 20 dX5_init_20 ?_
  refine V_bipush 21 (8) dX5_init_21 (by decide) ?_
  refine V_newarray 23 14 8 (Or.inr (Or.inl ⟨rfl, rfl⟩)) dX5_init_23 ac_int (by decide) (by decide) (Nat.le_of_ble_eq_true rfl) hw (Nat.le_of_ble_eq_true rfl) (Nat.le_of_ble_eq_true rfl) ?_
  refine V_putF 25 (c := 5) 2 dX5_init_25 fl_RX5_18 (by simp only [PL_mem, sN_uI, sN_uR, sN_uA, sN_uJ, sN_uP, sN_nO, sN_nA]; omega) (by simp (disch := omega) only [sN_uI, sN_uR, sN_uA, sN_uJ, sN_uP, sN_nO, sN_nA, sK_uI, sK_uR, sK_uA, sK_uJ, sK_uP, sK_nO, sK_nA, va_up_ne, hk]) (Nat.le_of_ble_eq_true rfl) (Nat.le_of_ble_eq_true rfl) rfl rfl rfl rfl rfl rfl ?_
  refine V_abs (fun T9 => BLD lyOrders 4 [2, 1, 0] Γ.2.2.2.2.1 S h T9 ∧ FR h (h + 3) S2 T9 ∧ sA T9 (h + 3) = (fun _ => 0) ∧ sP T9 (h + 3) = (fun _ => none)) (bld_arr B2 2 14 8 rfl rfl) (fun S3 hx => ?_)
  obtain ⟨B3, E, Z, P⟩ := hx
  replace hk := (show sK S3 h = 5 from by have q := B3.1.2.2.2.2.1; exact (Option.some.inj q).symm)
  replace hb := B3.1.2.2.1
  replace z1 : sA S3 (h + 1) = (fun _ => 0) := by rw [(E.1 (h + 1) (by omega) (by omega)).2.2.2.2.2.1]; exact z1
  replace z2 : sA S3 (h + 2) = (fun _ => 0) := by rw [(E.1 (h + 2) (by omega) (by omega)).2.2.2.2.2.1]; exact z2
  have z3 : sA S3 (h + 3) = (fun _ => 0) := Z
  have hIe := E.2
  replace hI : sI S3 h = fun _ => 0 := hIe.trans hI
  refine V_aload_0 28 dX5_init_28 ?_
  refine V_new 29 1 dX5_init_29 kl_RX5_21 ib_RX1 in_RX1 (Nat.le_of_ble_eq_true rfl) hw (Nat.le_of_ble_eq_true rfl) (Nat.le_of_ble_eq_true rfl) ?_
  refine V_dup 32 dX5_init_32 rfl ?_
  refine V_callIN 33 [] _ (c_X1_init M.2.1 Γ (nO S3 (Γ.2.2.2.2.1 + sN S3) 1) (h := (Γ.2.2.2.2.1 + sN S3)) hw rfl (Nat.le_add_right _ _) (va_up_self _ _ _) (va_up_self _ _ _)) dX5_init_33 cb_X1_init ne_RX5_23 im_yX1_init rfl ⟨(Nat.le_of_ble_eq_true rfl), (Nat.le_of_ble_eq_true rfl)⟩ rfl rfl (Nat.le_of_ble_eq_true rfl) ⟨(Nat.le_of_ble_eq_true rfl), (Nat.le_of_ble_eq_true rfl)⟩ (RV.go (fun Y1 hq => ?_))
  have hb1 := new_n hq.1 hb
  have hkS := hk
  replace hk := ((new_e hq.1 (a := h) (by omega)).1.trans hkS)
  have hbS := hb
  replace hb : Γ.2.2.2.2.1 + sN Y1 = h + 8 := hb1
  refine V_putF 36 (c := 5) 4 dX5_init_36 fl_RX5_24 (by simp only [PL_mem, sN_uI, sN_uR, sN_uA, sN_uJ, sN_uP, sN_nO, sN_nA]; omega) (by simp (disch := omega) only [sN_uI, sN_uR, sN_uA, sN_uJ, sN_uP, sN_nO, sN_nA, sK_uI, sK_uR, sK_uA, sK_uJ, sK_uP, sK_nO, sK_nA, va_up_ne, hk]) (Nat.le_of_ble_eq_true rfl) (Nat.le_of_ble_eq_true rfl) rfl rfl rfl rfl rfl rfl ?_
  refine V_abs (fun T9 => BLD lyOrders 8 [4, 2, 1, 0] Γ.2.2.2.2.1 S h T9 ∧ FR h (h + 4) S3 T9 ∧ ∀ a, a ≠ h → eqA Y1 T9 a) (bld_obj B3 lyGrid 4 1 rfl rfl hq.1) (fun S4 hx => ?_)
  obtain ⟨B4, E, E2⟩ := hx
  replace hk := (show sK S4 h = 5 from by have q := B4.1.2.2.2.2.1; exact (Option.some.inj q).symm)
  replace hb := B4.1.2.2.1
  replace z1 : sA S4 (h + 1) = (fun _ => 0) := by rw [(E.1 (h + 1) (by omega) (by omega)).2.2.2.2.2.1]; exact z1
  replace z2 : sA S4 (h + 2) = (fun _ => 0) := by rw [(E.1 (h + 2) (by omega) (by omega)).2.2.2.2.2.1]; exact z2
  replace z3 : sA S4 (h + 3) = (fun _ => 0) := by rw [(E.1 (h + 3) (by omega) (by omega)).2.2.2.2.2.1]; exact z3
  have hIe := E.2
  replace hI : sI S4 h = fun _ => 0 := hIe.trans hI
  refine V_aload_0 39 dX5_init_39 ?_
  refine V_sipush 40 (11664) dX5_init_40 (by decide) ?_
  refine V_newarray 43 15 11664 (Or.inr (Or.inr (Or.inl ⟨rfl, rfl⟩))) dX5_init_43 ac_long (by decide) (by decide) (Nat.le_of_ble_eq_true rfl) hw (Nat.le_of_ble_eq_true rfl) (Nat.le_of_ble_eq_true rfl) ?_
  refine V_putF 45 (c := 5) 5 dX5_init_45 fl_RX5_28 (by simp only [PL_mem, sN_uI, sN_uR, sN_uA, sN_uJ, sN_uP, sN_nO, sN_nA]; omega) (by simp (disch := omega) only [sN_uI, sN_uR, sN_uA, sN_uJ, sN_uP, sN_nO, sN_nA, sK_uI, sK_uR, sK_uA, sK_uJ, sK_uP, sK_nO, sK_nA, va_up_ne, hk]) (Nat.le_of_ble_eq_true rfl) (Nat.le_of_ble_eq_true rfl) rfl rfl rfl rfl rfl rfl ?_
  refine V_abs (fun T9 => BLD lyOrders 9 [5, 4, 2, 1, 0] Γ.2.2.2.2.1 S h T9 ∧ FR h (h + 8) S4 T9 ∧ sA T9 (h + 8) = (fun _ => 0) ∧ sP T9 (h + 8) = (fun _ => none)) (bld_arr B4 5 15 11664 rfl rfl) (fun S5 hx => ?_)
  obtain ⟨B5, E, Z, P⟩ := hx
  replace hk := (show sK S5 h = 5 from by have q := B5.1.2.2.2.2.1; exact (Option.some.inj q).symm)
  replace hb := B5.1.2.2.1
  replace z1 : sA S5 (h + 1) = (fun _ => 0) := by rw [(E.1 (h + 1) (by omega) (by omega)).2.2.2.2.2.1]; exact z1
  replace z2 : sA S5 (h + 2) = (fun _ => 0) := by rw [(E.1 (h + 2) (by omega) (by omega)).2.2.2.2.2.1]; exact z2
  replace z3 : sA S5 (h + 3) = (fun _ => 0) := by rw [(E.1 (h + 3) (by omega) (by omega)).2.2.2.2.2.1]; exact z3
  have hIe := E.2
  replace hI : sI S5 h = fun _ => 0 := hIe.trans hI
  refine V_aload_0 48 dX5_init_48 ?_
  refine V_bipush 49 (19) dX5_init_49 (by decide) ?_
  refine V_newarray 51 15 19 (Or.inr (Or.inr (Or.inl ⟨rfl, rfl⟩))) dX5_init_51 ac_long (by decide) (by decide) (Nat.le_of_ble_eq_true rfl) hw (Nat.le_of_ble_eq_true rfl) (Nat.le_of_ble_eq_true rfl) ?_
  refine V_putF 53 (c := 5) 6 dX5_init_53 fl_RX5_32 (by simp only [PL_mem, sN_uI, sN_uR, sN_uA, sN_uJ, sN_uP, sN_nO, sN_nA]; omega) (by simp (disch := omega) only [sN_uI, sN_uR, sN_uA, sN_uJ, sN_uP, sN_nO, sN_nA, sK_uI, sK_uR, sK_uA, sK_uJ, sK_uP, sK_nO, sK_nA, va_up_ne, hk]) (Nat.le_of_ble_eq_true rfl) (Nat.le_of_ble_eq_true rfl) rfl rfl rfl rfl rfl rfl ?_
  refine V_abs (fun T9 => BLD lyOrders 10 [6, 5, 4, 2, 1, 0] Γ.2.2.2.2.1 S h T9 ∧ FR h (h + 9) S5 T9 ∧ sA T9 (h + 9) = (fun _ => 0) ∧ sP T9 (h + 9) = (fun _ => none)) (bld_arr B5 6 15 19 rfl rfl) (fun S6 hx => ?_)
  obtain ⟨B6, E, Z, P⟩ := hx
  replace hk := (show sK S6 h = 5 from by have q := B6.1.2.2.2.2.1; exact (Option.some.inj q).symm)
  replace hb := B6.1.2.2.1
  replace z1 : sA S6 (h + 1) = (fun _ => 0) := by rw [(E.1 (h + 1) (by omega) (by omega)).2.2.2.2.2.1]; exact z1
  replace z2 : sA S6 (h + 2) = (fun _ => 0) := by rw [(E.1 (h + 2) (by omega) (by omega)).2.2.2.2.2.1]; exact z2
  replace z3 : sA S6 (h + 3) = (fun _ => 0) := by rw [(E.1 (h + 3) (by omega) (by omega)).2.2.2.2.2.1]; exact z3
  have hIe := E.2
  replace hI : sI S6 h = fun _ => 0 := hIe.trans hI
  have hN : NEWO lyOrders Γ.2.2.2.2.1 S h S6 := bld_end B6 rfl (by decide)
  have F := hN.2.2
  refine V_aload_0 56 dX5_init_56 ?_
  refine V_callV 57 (ci := 5) [] _ (c_X5_forgetCounts M.2.1 Γ _ (t := h) F) dX5_init_57 cb_X5_forgetCounts ml_RX5_35 im_yX5_forgetCounts se_yX5_forgetCounts (F.m 0 (Nat.le_of_ble_eq_true rfl)) (F.k 0 5 rfl) (Nat.le_of_ble_eq_true rfl) ⟨(Nat.le_of_ble_eq_true rfl), (Nat.le_of_ble_eq_true rfl)⟩ rfl rfl (Nat.le_of_ble_eq_true rfl) ⟨(Nat.le_of_ble_eq_true rfl), (Nat.le_of_ble_eq_true rfl)⟩ (RV.go (fun S9 hq => ?_))
  obtain ⟨g, rfl, hg⟩ := hq
  refine V_vret 60 dX5_init_60 rfl (Nat.le_of_ble_eq_true rfl) (Nat.le_of_ble_eq_true rfl) (RV.mk ⟨NEWO.setJ hN (by omega) (by omega), z1, z2, z3, hI⟩)
set_option maxRecDepth 100000 in
set_option maxHeartbeats 8000000 in
theorem c_X11_initZ (l : Launch) (Γ : GC) (S : PS) {h : Nat} (hw : Γ.2.2.2.2.2.1 = Γ.2.2.2.2.1) (hh : Γ.2.2.2.2.1 + sN S = h + 1) (hlo : Γ.2.2.2.2.1 ≤ h) (hk : sK S h = 11) (h0 : sI S h = fun _ => 0) : CT l Γ yX11_init cX11_init 2 none (7) (252) (20764) [.ref h] S (RV (fun S' => NEWO lySockTable Γ.2.2.2.2.1 S h S' ∧ FRESH h S' ∧ ZS h 43 S')) := by
  refine CT.of RX11 "<init>" [some (.ref h), none] (by decide +kernel) rfl rfl (Nat.le_of_ble_eq_true rfl) rfl (fun M hM => ?_)
  subst hM
  have B0 : BLD lySockTable 1 [] Γ.2.2.2.2.1 S h S := BLD.one hh hlo (by rw [hk]; rfl) (by rw [hk]; decide)
  have hb := hh
  have hI : sI S h = fun _ => 0 := h0
  refine V_aload_0 0 dX11_init_0 ?_
  refine V_objInit 1 dX11_init_1 ml_RX11_1 ⟨(Nat.le_of_ble_eq_true rfl), (Nat.le_of_ble_eq_true rfl)⟩ ?_
  refine V_aload_0 4 dX11_init_4 ?_
  refine V_new 5 9 dX11_init_5 kl_RX11_7 ib_RX9 in_RX9 (Nat.le_of_ble_eq_true rfl) hw (Nat.le_of_ble_eq_true rfl) (Nat.le_of_ble_eq_true rfl) ?_
  refine V_dup 8 dX11_init_8 rfl ?_
  refine V_callIN 9 [] _ (c_X9_init M.2.1 Γ (nO S (Γ.2.2.2.2.1 + sN S) 9) (h := (Γ.2.2.2.2.1 + sN S)) hw rfl (Nat.le_add_right _ _) (va_up_self _ _ _) (va_up_self _ _ _)) dX11_init_9 cb_X9_init ne_RX11_9 im_yX9_init rfl ⟨(Nat.le_of_ble_eq_true rfl), (Nat.le_of_ble_eq_true rfl)⟩ rfl rfl (Nat.le_of_ble_eq_true rfl) ⟨(Nat.le_of_ble_eq_true rfl), (Nat.le_of_ble_eq_true rfl)⟩ (RV.go (fun Y1 hq => ?_))
  have hb1 := new_n2 hq.1 hb 26 len_Teller
  have hkS := hk
  replace hk := ((new_e hq.1 (a := h) (by omega)).1.trans hkS)
  have hbS := hb
  replace hb : Γ.2.2.2.2.1 + sN Y1 = h + 27 := hb1
  refine V_putF 12 (c := 11) 0 dX11_init_12 fl_RX11_10 (by simp only [PL_mem, sN_uI, sN_uR, sN_uA, sN_uJ, sN_uP, sN_nO, sN_nA]; omega) (by simp (disch := omega) only [sN_uI, sN_uR, sN_uA, sN_uJ, sN_uP, sN_nO, sN_nA, sK_uI, sK_uR, sK_uA, sK_uJ, sK_uP, sK_nO, sK_nA, va_up_ne, hk]) (Nat.le_of_ble_eq_true rfl) (Nat.le_of_ble_eq_true rfl) rfl rfl rfl rfl rfl rfl ?_
  refine V_abs (fun T9 => BLD lySockTable 27 [0] Γ.2.2.2.2.1 S h T9 ∧ FR h (h + 1) S T9 ∧ ∀ a, a ≠ h → eqA Y1 T9 a) (bld_obj2 26 len_Teller B0 lyTeller 0 9 rfl hs_Sock_1 hq.1) (fun S1 hx => ?_)
  obtain ⟨B1, E, E2⟩ := hx
  replace hk := (show sK S1 h = 11 from by have q := B1.1.2.2.2.2.1; exact (Option.some.inj q).symm)
  replace hb := B1.1.2.2.1
  have d_teller_0y := hq.2
  rw [hbS] at d_teller_0y
  have d_teller_0 : sI S1 (h + 3) = (fun _ => 0) := by rw [(E2 (h + 3) (by omega)).2.2.1]; exact d_teller_0y
  have hIe := E.2
  replace hI : sI S1 h = fun _ => 0 := hIe.trans hI
  clear hIe E E2 hq hbS hkS hb1 B0 d_teller_0y
  have hv1 : sR S1 h 0 = some (h + 1) := B1.2.2.2 0 1 (by decide) rfl
  have en := B1.2.2.1 1 _ (by decide) (by decide) (rfl : lySockTable[1]? = some _)
  have hm2 : h + 1 ∈ PL Γ.2.2.2.2.1 S1 := PL_mem.mpr ⟨by omega, by omega⟩
  have hk2 : sK S1 (h + 1) = 9 := en.1
  have hv2 : sR S1 (h + 1) 0 = some (h + 2) := en.2.1 0 2 rfl
  refine V_aload_0 15 dX11_init_15 ?_
  refine V_aload_0 16 dX11_init_16 ?_
  refine V_getR 17 (c := 11) 0 hv1 dX11_init_17 fl_RX11_10 (by simp only [PL_mem, sN_uI, sN_uR, sN_uA, sN_uJ, sN_uP, sN_nO, sN_nA]; omega) (by simp (disch := omega) only [sN_uI, sN_uR, sN_uA, sN_uJ, sN_uP, sN_nO, sN_nA, sK_uI, sK_uR, sK_uA, sK_uJ, sK_uP, sK_nO, sK_nA, va_up_ne, hk]) (Nat.le_of_ble_eq_true rfl) (Nat.le_of_ble_eq_true rfl) rfl ?_
  refine V_getR 20 (c := 9) 0 hv2 dX11_init_20 fl_RX11_16 hm2 hk2 (Nat.le_of_ble_eq_true rfl) (Nat.le_of_ble_eq_true rfl) rfl ?_
  refine V_putF 23 (c := 11) 1 dX11_init_23 fl_RX11_20 (by simp only [PL_mem, sN_uI, sN_uR, sN_uA, sN_uJ, sN_uP, sN_nO, sN_nA]; omega) (by simp (disch := omega) only [sN_uI, sN_uR, sN_uA, sN_uJ, sN_uP, sN_nO, sN_nA, sK_uI, sK_uR, sK_uA, sK_uJ, sK_uP, sK_nO, sK_nA, va_up_ne, hk]) (Nat.le_of_ble_eq_true rfl) (Nat.le_of_ble_eq_true rfl) rfl rfl rfl rfl rfl rfl ?_
  refine V_abs (fun T9 => BLD lySockTable 27 [1, 0] Γ.2.2.2.2.1 S h T9 ∧ FR h (h + 27) S1 T9) (bld_ali B1 1 2 rfl) (fun S2 hx => ?_)
  obtain ⟨B2, E⟩ := hx
  replace hk := (show sK S2 h = 11 from by have q := B2.1.2.2.2.2.1; exact (Option.some.inj q).symm)
  replace hb := B2.1.2.2.1
  replace d_teller_0 : sI S2 (h + 3) = (fun _ => 0) := by rw [(E.1 (h + 3) (by omega) (by omega)).2.2.1]; exact d_teller_0
  have hIe := E.2
  replace hI : sI S2 h = fun _ => 0 := hIe.trans hI
  clear hIe E hv1 en hm2 hk2 hv2 B1
  have hv1 : sR S2 h 1 = some (h + 2) := B2.2.2.2 1 2 (by decide) rfl
  have en := B2.2.2.1 2 _ (by decide) (by decide) (rfl : lySockTable[2]? = some _)
  have hm2 : h + 2 ∈ PL Γ.2.2.2.2.1 S2 := PL_mem.mpr ⟨by omega, by omega⟩
  have hk2 : sK S2 (h + 2) = 0 := en.1
  have hv2 : sR S2 (h + 2) 0 = some (h + 3) := en.2.1 0 3 rfl
  refine V_aload_0 26 dX11_init_26 ?_
  refine V_aload_0 27 dX11_init_27 ?_
  refine V_getR 28 (c := 11) 1 hv1 dX11_init_28 fl_RX11_20 (by simp only [PL_mem, sN_uI, sN_uR, sN_uA, sN_uJ, sN_uP, sN_nO, sN_nA]; omega) (by simp (disch := omega) only [sN_uI, sN_uR, sN_uA, sN_uJ, sN_uP, sN_nO, sN_nA, sK_uI, sK_uR, sK_uA, sK_uJ, sK_uP, sK_nO, sK_nA, va_up_ne, hk]) (Nat.le_of_ble_eq_true rfl) (Nat.le_of_ble_eq_true rfl) rfl ?_
  refine V_getR 31 (c := 0) 0 hv2 dX11_init_31 fl_RX11_21 hm2 hk2 (Nat.le_of_ble_eq_true rfl) (Nat.le_of_ble_eq_true rfl) rfl ?_
  refine V_putF 34 (c := 11) 2 dX11_init_34 fl_RX11_27 (by simp only [PL_mem, sN_uI, sN_uR, sN_uA, sN_uJ, sN_uP, sN_nO, sN_nA]; omega) (by simp (disch := omega) only [sN_uI, sN_uR, sN_uA, sN_uJ, sN_uP, sN_nO, sN_nA, sK_uI, sK_uR, sK_uA, sK_uJ, sK_uP, sK_nO, sK_nA, va_up_ne, hk]) (Nat.le_of_ble_eq_true rfl) (Nat.le_of_ble_eq_true rfl) rfl rfl rfl rfl rfl rfl ?_
  refine V_abs (fun T9 => BLD lySockTable 27 [2, 1, 0] Γ.2.2.2.2.1 S h T9 ∧ FR h (h + 27) S2 T9) (bld_ali B2 2 3 rfl) (fun S3 hx => ?_)
  obtain ⟨B3, E⟩ := hx
  replace hk := (show sK S3 h = 11 from by have q := B3.1.2.2.2.2.1; exact (Option.some.inj q).symm)
  replace hb := B3.1.2.2.1
  replace d_teller_0 : sI S3 (h + 3) = (fun _ => 0) := by rw [(E.1 (h + 3) (by omega) (by omega)).2.2.1]; exact d_teller_0
  have hIe := E.2
  replace hI : sI S3 h = fun _ => 0 := hIe.trans hI
  clear hIe E hv1 en hm2 hk2 hv2 B2
  refine V_aload_0 37 dX11_init_37 ?_
  refine V_new 38 10 dX11_init_38 kl_RX11_28 ib_RX10 in_RX10 (Nat.le_of_ble_eq_true rfl) hw (Nat.le_of_ble_eq_true rfl) (Nat.le_of_ble_eq_true rfl) ?_
  refine V_dup 41 dX11_init_41 rfl ?_
  refine V_callI 42 [] _ (c_X10_init M.2.1 Γ (nO S3 (Γ.2.2.2.2.1 + sN S3) 10) (h := (Γ.2.2.2.2.1 + sN S3)) hw rfl (Nat.le_add_right _ _) (va_up_self _ _ _) (va_up_self _ _ _)) dX11_init_42 cb_X10_init ml_RX11_30 im_yX10_init rfl ⟨(Nat.le_of_ble_eq_true rfl), (Nat.le_of_ble_eq_true rfl)⟩ rfl rfl (Nat.le_of_ble_eq_true rfl) ⟨(Nat.le_of_ble_eq_true rfl), (Nat.le_of_ble_eq_true rfl)⟩ (RV.go (fun Y1 hq => ?_))
  have hb1 := new_n2 hq.1 hb 14 len_Text
  have hkS := hk
  replace hk := ((new_e hq.1 (a := h) (by omega)).1.trans hkS)
  have hbS := hb
  replace hb : Γ.2.2.2.2.1 + sN Y1 = h + 41 := hb1
  refine V_putF 45 (c := 11) 3 dX11_init_45 fl_RX11_31 (by simp only [PL_mem, sN_uI, sN_uR, sN_uA, sN_uJ, sN_uP, sN_nO, sN_nA]; omega) (by simp (disch := omega) only [sN_uI, sN_uR, sN_uA, sN_uJ, sN_uP, sN_nO, sN_nA, sK_uI, sK_uR, sK_uA, sK_uJ, sK_uP, sK_nO, sK_nA, va_up_ne, hk]) (Nat.le_of_ble_eq_true rfl) (Nat.le_of_ble_eq_true rfl) rfl rfl rfl rfl rfl rfl ?_
  refine V_abs (fun T9 => BLD lySockTable 41 [3, 2, 1, 0] Γ.2.2.2.2.1 S h T9 ∧ FR h (h + 27) S3 T9 ∧ ∀ a, a ≠ h → eqA Y1 T9 a) (bld_obj2 14 len_Text B3 lyText 3 10 rfl hs_Sock_27 hq.1) (fun S4 hx => ?_)
  obtain ⟨B4, E, E2⟩ := hx
  replace hk := (show sK S4 h = 11 from by have q := B4.1.2.2.2.2.1; exact (Option.some.inj q).symm)
  replace hb := B4.1.2.2.1
  replace d_teller_0 : sI S4 (h + 3) = (fun _ => 0) := by rw [(E.1 (h + 3) (by omega) (by omega)).2.2.1]; exact d_teller_0
  have d_told_0y := hq.2
  rw [hbS] at d_told_0y
  have d_told_0 : FText (h + 27) S4 := d_told_0y.eq (E2 (h + 27) (by omega)) (E2 (h + 28) (by omega)) (E2 (h + 29) (by omega))
  have hIe := E.2
  replace hI : sI S4 h = fun _ => 0 := hIe.trans hI
  clear hIe E E2 hq hbS hkS hb1 B3 d_told_0y
  refine V_aload_0 48 dX11_init_48 ?_
  refine V_iconst 49 (-1) dX11_init_49 (by decide) ?_
  refine V_putI 50 (c := 11) 4 dX11_init_50 fl_RX11_35 (by simp only [PL_mem, sN_uI, sN_uR, sN_uA, sN_uJ, sN_uP, sN_nO, sN_nA]; omega) (by simp (disch := omega) only [sN_uI, sN_uR, sN_uA, sN_uJ, sN_uP, sN_nO, sN_nA, sK_uI, sK_uR, sK_uA, sK_uJ, sK_uP, sK_nO, sK_nA, va_up_ne, hk]) (Nat.le_of_ble_eq_true rfl) (Nat.le_of_ble_eq_true rfl) rfl (Or.inl rfl) ?_
  refine V_abs (fun T9 => BLD lySockTable 41 [3, 2, 1, 0] Γ.2.2.2.2.1 S h T9 ∧ (∀ a, a < h + 41 → a ≠ h → eqA S4 T9 a) ∧ sI T9 h 4 = (-1) ∧ ∀ i, i ≠ 4 → sI T9 h i = sI S4 h i) (bld_int B4 4 (-1)) (fun S5 hx => ?_)
  obtain ⟨B5, E, hI1, hI2⟩ := hx
  replace hk := (show sK S5 h = 11 from by have q := B5.1.2.2.2.2.1; exact (Option.some.inj q).symm)
  replace hb := B5.1.2.2.1
  replace d_teller_0 : sI S5 (h + 3) = (fun _ => 0) := by rw [(E (h + 3) (by omega) (by omega)).2.2.1]; exact d_teller_0
  replace d_told_0 : FText (h + 27) S5 := d_told_0.eq (E (h + 27) (by omega) (by omega)) (E (h + 28) (by omega) (by omega)) (E (h + 29) (by omega) (by omega))
  have hI3 : ∀ i, i ≠ 4 → sI S5 h i = 0 := fun i hi => by rw [hI2 i hi, hI]
  clear E B4
  refine V_aload_0 53 dX11_init_53 ?_
  refine V_new 54 7 dX11_init_54 kl_RX11_39 ib_RX7 in_RX7 (Nat.le_of_ble_eq_true rfl) hw (Nat.le_of_ble_eq_true rfl) (Nat.le_of_ble_eq_true rfl) ?_
  refine V_dup 57 dX11_init_57 rfl ?_
  refine V_callIN 58 [] _ (c_X7_init M.2.1 Γ (nO S5 (Γ.2.2.2.2.1 + sN S5) 7) (h := (Γ.2.2.2.2.1 + sN S5)) hw rfl (Nat.le_add_right _ _) (va_up_self _ _ _) (va_up_self _ _ _)) dX11_init_58 cb_X7_init ne_RX11_41 im_yX7_init rfl ⟨(Nat.le_of_ble_eq_true rfl), (Nat.le_of_ble_eq_true rfl)⟩ rfl rfl (Nat.le_of_ble_eq_true rfl) ⟨(Nat.le_of_ble_eq_true rfl), (Nat.le_of_ble_eq_true rfl)⟩ (RV.go (fun Y1 hq => ?_))
  have hb1 := new_n2 hq.1 hb 4 len_State
  have hkS := hk
  replace hk := ((new_e hq.1 (a := h) (by omega)).1.trans hkS)
  have hbS := hb
  replace hb : Γ.2.2.2.2.1 + sN Y1 = h + 45 := hb1
  refine V_putF 61 (c := 11) 5 dX11_init_61 fl_RX11_42 (by simp only [PL_mem, sN_uI, sN_uR, sN_uA, sN_uJ, sN_uP, sN_nO, sN_nA]; omega) (by simp (disch := omega) only [sN_uI, sN_uR, sN_uA, sN_uJ, sN_uP, sN_nO, sN_nA, sK_uI, sK_uR, sK_uA, sK_uJ, sK_uP, sK_nO, sK_nA, va_up_ne, hk]) (Nat.le_of_ble_eq_true rfl) (Nat.le_of_ble_eq_true rfl) rfl rfl rfl rfl rfl rfl ?_
  refine V_abs (fun T9 => BLD lySockTable 45 [5, 3, 2, 1, 0] Γ.2.2.2.2.1 S h T9 ∧ FR h (h + 41) S5 T9 ∧ ∀ a, a ≠ h → eqA Y1 T9 a) (bld_obj2 4 len_State B5 lyState 5 7 rfl hs_Sock_41 hq.1) (fun S6 hx => ?_)
  obtain ⟨B6, E, E2⟩ := hx
  replace hk := (show sK S6 h = 11 from by have q := B6.1.2.2.2.2.1; exact (Option.some.inj q).symm)
  replace hb := B6.1.2.2.1
  replace d_teller_0 : sI S6 (h + 3) = (fun _ => 0) := by rw [(E.1 (h + 3) (by omega) (by omega)).2.2.1]; exact d_teller_0
  replace d_told_0 : FText (h + 27) S6 := d_told_0.eq (E.1 (h + 27) (by omega) (by omega)) (E.1 (h + 28) (by omega) (by omega)) (E.1 (h + 29) (by omega) (by omega))
  have d_now_0y := hq.2.1
  rw [hbS] at d_now_0y
  have d_now_0 : sA S6 (h + 42) = (fun _ => 0) := by rw [(E2 (h + 42) (by omega)).2.2.2.2.2.1]; exact d_now_0y
  have d_now_1y := hq.2.2.1
  rw [hbS] at d_now_1y
  have d_now_1 : sA S6 (h + 43) = (fun _ => 0) := by rw [(E2 (h + 43) (by omega)).2.2.2.2.2.1]; exact d_now_1y
  have d_now_2y := hq.2.2.2.1
  rw [hbS] at d_now_2y
  have d_now_2 : sA S6 (h + 44) = (fun _ => 0) := by rw [(E2 (h + 44) (by omega)).2.2.2.2.2.1]; exact d_now_2y
  have d_now_3y := hq.2.2.2.2
  rw [hbS] at d_now_3y
  have d_now_3 : sI S6 (h + 41) = (fun _ => 0) := by rw [(E2 (h + 41) (by omega)).2.2.1]; exact d_now_3y
  have hIe := E.2
  replace hI1 : sI S6 h 4 = (-1) := by rw [hIe]; exact hI1
  replace hI3 : ∀ i, i ≠ 4 → sI S6 h i = 0 := fun i hi => by rw [hIe]; exact hI3 i hi
  clear hIe E E2 hq hbS hkS hb1 B5 d_now_0y d_now_1y d_now_2y d_now_3y
  refine V_aload_0 64 dX11_init_64 ?_
  refine V_new 65 7 dX11_init_65 kl_RX11_39 ib_RX7 in_RX7 (Nat.le_of_ble_eq_true rfl) hw (Nat.le_of_ble_eq_true rfl) (Nat.le_of_ble_eq_true rfl) ?_
  refine V_dup 68 dX11_init_68 rfl ?_
  refine V_callIN 69 [] _ (c_X7_init M.2.1 Γ (nO S6 (Γ.2.2.2.2.1 + sN S6) 7) (h := (Γ.2.2.2.2.1 + sN S6)) hw rfl (Nat.le_add_right _ _) (va_up_self _ _ _) (va_up_self _ _ _)) dX11_init_69 cb_X7_init ne_RX11_41 im_yX7_init rfl ⟨(Nat.le_of_ble_eq_true rfl), (Nat.le_of_ble_eq_true rfl)⟩ rfl rfl (Nat.le_of_ble_eq_true rfl) ⟨(Nat.le_of_ble_eq_true rfl), (Nat.le_of_ble_eq_true rfl)⟩ (RV.go (fun Y1 hq => ?_))
  have hb1 := new_n2 hq.1 hb 4 len_State
  have hkS := hk
  replace hk := ((new_e hq.1 (a := h) (by omega)).1.trans hkS)
  have hbS := hb
  replace hb : Γ.2.2.2.2.1 + sN Y1 = h + 49 := hb1
  refine V_putF 72 (c := 11) 6 dX11_init_72 fl_RX11_46 (by simp only [PL_mem, sN_uI, sN_uR, sN_uA, sN_uJ, sN_uP, sN_nO, sN_nA]; omega) (by simp (disch := omega) only [sN_uI, sN_uR, sN_uA, sN_uJ, sN_uP, sN_nO, sN_nA, sK_uI, sK_uR, sK_uA, sK_uJ, sK_uP, sK_nO, sK_nA, va_up_ne, hk]) (Nat.le_of_ble_eq_true rfl) (Nat.le_of_ble_eq_true rfl) rfl rfl rfl rfl rfl rfl ?_
  refine V_abs (fun T9 => BLD lySockTable 49 [6, 5, 3, 2, 1, 0] Γ.2.2.2.2.1 S h T9 ∧ FR h (h + 45) S6 T9 ∧ ∀ a, a ≠ h → eqA Y1 T9 a) (bld_obj2 4 len_State B6 lyState 6 7 rfl hs_Sock_45 hq.1) (fun S7 hx => ?_)
  obtain ⟨B7, E, E2⟩ := hx
  replace hk := (show sK S7 h = 11 from by have q := B7.1.2.2.2.2.1; exact (Option.some.inj q).symm)
  replace hb := B7.1.2.2.1
  replace d_teller_0 : sI S7 (h + 3) = (fun _ => 0) := by rw [(E.1 (h + 3) (by omega) (by omega)).2.2.1]; exact d_teller_0
  replace d_told_0 : FText (h + 27) S7 := d_told_0.eq (E.1 (h + 27) (by omega) (by omega)) (E.1 (h + 28) (by omega) (by omega)) (E.1 (h + 29) (by omega) (by omega))
  replace d_now_0 : sA S7 (h + 42) = (fun _ => 0) := by rw [(E.1 (h + 42) (by omega) (by omega)).2.2.2.2.2.1]; exact d_now_0
  replace d_now_1 : sA S7 (h + 43) = (fun _ => 0) := by rw [(E.1 (h + 43) (by omega) (by omega)).2.2.2.2.2.1]; exact d_now_1
  replace d_now_2 : sA S7 (h + 44) = (fun _ => 0) := by rw [(E.1 (h + 44) (by omega) (by omega)).2.2.2.2.2.1]; exact d_now_2
  replace d_now_3 : sI S7 (h + 41) = (fun _ => 0) := by rw [(E.1 (h + 41) (by omega) (by omega)).2.2.1]; exact d_now_3
  have hIe := E.2
  replace hI1 : sI S7 h 4 = (-1) := by rw [hIe]; exact hI1
  replace hI3 : ∀ i, i ≠ 4 → sI S7 h i = 0 := fun i hi => by rw [hIe]; exact hI3 i hi
  clear hIe E E2 hq hbS hkS hb1 B6
  refine V_aload_0 75 dX11_init_75 ?_
  refine V_bipush 76 (40) dX11_init_76 (by decide) ?_
  refine V_anewarray 78 40 dX11_init_78 kl_RX11_39 (by decide) (by decide) (Nat.le_of_ble_eq_true rfl) hw (Nat.le_of_ble_eq_true rfl) (Nat.le_of_ble_eq_true rfl) ?_
  refine V_putF 81 (c := 11) 7 dX11_init_81 fl_RX11_49 (by simp only [PL_mem, sN_uI, sN_uR, sN_uA, sN_uJ, sN_uP, sN_nO, sN_nA]; omega) (by simp (disch := omega) only [sN_uI, sN_uR, sN_uA, sN_uJ, sN_uP, sN_nO, sN_nA, sK_uI, sK_uR, sK_uA, sK_uJ, sK_uP, sK_nO, sK_nA, va_up_ne, hk]) (Nat.le_of_ble_eq_true rfl) (Nat.le_of_ble_eq_true rfl) rfl rfl rfl rfl rfl rfl ?_
  refine V_abs (fun T9 => BLD lySockTable 50 [7, 6, 5, 3, 2, 1, 0] Γ.2.2.2.2.1 S h T9 ∧ FR h (h + 49) S7 T9 ∧ sA T9 (h + 49) = (fun _ => 0) ∧ sP T9 (h + 49) = (fun _ => none)) (bld_arr B7 7 17 40 rfl rfl) (fun S8 hx => ?_)
  obtain ⟨B8, E, Z, P⟩ := hx
  replace hk := (show sK S8 h = 11 from by have q := B8.1.2.2.2.2.1; exact (Option.some.inj q).symm)
  replace hb := B8.1.2.2.1
  replace d_teller_0 : sI S8 (h + 3) = (fun _ => 0) := by rw [(E.1 (h + 3) (by omega) (by omega)).2.2.1]; exact d_teller_0
  replace d_told_0 : FText (h + 27) S8 := d_told_0.eq (E.1 (h + 27) (by omega) (by omega)) (E.1 (h + 28) (by omega) (by omega)) (E.1 (h + 29) (by omega) (by omega))
  replace d_now_0 : sA S8 (h + 42) = (fun _ => 0) := by rw [(E.1 (h + 42) (by omega) (by omega)).2.2.2.2.2.1]; exact d_now_0
  replace d_now_1 : sA S8 (h + 43) = (fun _ => 0) := by rw [(E.1 (h + 43) (by omega) (by omega)).2.2.2.2.2.1]; exact d_now_1
  replace d_now_2 : sA S8 (h + 44) = (fun _ => 0) := by rw [(E.1 (h + 44) (by omega) (by omega)).2.2.2.2.2.1]; exact d_now_2
  replace d_now_3 : sI S8 (h + 41) = (fun _ => 0) := by rw [(E.1 (h + 41) (by omega) (by omega)).2.2.1]; exact d_now_3
  have p49 : sP S8 (h + 49) = (fun _ => none) := P
  have hIe := E.2
  replace hI1 : sI S8 h 4 = (-1) := by rw [hIe]; exact hI1
  replace hI3 : ∀ i, i ≠ 4 → sI S8 h i = 0 := fun i hi => by rw [hIe]; exact hI3 i hi
  clear hIe E Z P B7
  refine V_aload_0 84 dX11_init_84 ?_
  refine V_iconst 85 (3) dX11_init_85 (by decide) ?_
  refine V_anewarray 86 3 dX11_init_86 kl_RX11_39 (by decide) (by decide) (Nat.le_of_ble_eq_true rfl) hw (Nat.le_of_ble_eq_true rfl) (Nat.le_of_ble_eq_true rfl) ?_
  refine V_putF 89 (c := 11) 10 dX11_init_89 fl_RX11_53 (by simp only [PL_mem, sN_uI, sN_uR, sN_uA, sN_uJ, sN_uP, sN_nO, sN_nA]; omega) (by simp (disch := omega) only [sN_uI, sN_uR, sN_uA, sN_uJ, sN_uP, sN_nO, sN_nA, sK_uI, sK_uR, sK_uA, sK_uJ, sK_uP, sK_nO, sK_nA, va_up_ne, hk]) (Nat.le_of_ble_eq_true rfl) (Nat.le_of_ble_eq_true rfl) rfl rfl rfl rfl rfl rfl ?_
  refine V_abs (fun T9 => BLD lySockTable 51 [10, 7, 6, 5, 3, 2, 1, 0] Γ.2.2.2.2.1 S h T9 ∧ FR h (h + 50) S8 T9 ∧ sA T9 (h + 50) = (fun _ => 0) ∧ sP T9 (h + 50) = (fun _ => none)) (bld_arr B8 10 17 3 rfl rfl) (fun S9 hx => ?_)
  obtain ⟨B9, E, Z, P⟩ := hx
  replace hk := (show sK S9 h = 11 from by have q := B9.1.2.2.2.2.1; exact (Option.some.inj q).symm)
  replace hb := B9.1.2.2.1
  replace d_teller_0 : sI S9 (h + 3) = (fun _ => 0) := by rw [(E.1 (h + 3) (by omega) (by omega)).2.2.1]; exact d_teller_0
  replace d_told_0 : FText (h + 27) S9 := d_told_0.eq (E.1 (h + 27) (by omega) (by omega)) (E.1 (h + 28) (by omega) (by omega)) (E.1 (h + 29) (by omega) (by omega))
  replace d_now_0 : sA S9 (h + 42) = (fun _ => 0) := by rw [(E.1 (h + 42) (by omega) (by omega)).2.2.2.2.2.1]; exact d_now_0
  replace d_now_1 : sA S9 (h + 43) = (fun _ => 0) := by rw [(E.1 (h + 43) (by omega) (by omega)).2.2.2.2.2.1]; exact d_now_1
  replace d_now_2 : sA S9 (h + 44) = (fun _ => 0) := by rw [(E.1 (h + 44) (by omega) (by omega)).2.2.2.2.2.1]; exact d_now_2
  replace d_now_3 : sI S9 (h + 41) = (fun _ => 0) := by rw [(E.1 (h + 41) (by omega) (by omega)).2.2.1]; exact d_now_3
  replace p49 : sP S9 (h + 49) = (fun _ => none) := by rw [(E.1 (h + 49) (by omega) (by omega)).2.2.2.2.1]; exact p49
  have p50 : sP S9 (h + 50) = (fun _ => none) := P
  have hIe := E.2
  replace hI1 : sI S9 h 4 = (-1) := by rw [hIe]; exact hI1
  replace hI3 : ∀ i, i ≠ 4 → sI S9 h i = 0 := fun i hi => by rw [hIe]; exact hI3 i hi
  clear hIe E Z P B8
  refine V_aload_0 92 dX11_init_92 ?_
  refine V_iconst 93 (3) dX11_init_93 (by decide) ?_
  refine V_newarray 94 16 3 (Or.inr (Or.inr (Or.inr ⟨rfl, rfl⟩))) dX11_init_94 ac_boolean (by decide) (by decide) (Nat.le_of_ble_eq_true rfl) hw (Nat.le_of_ble_eq_true rfl) (Nat.le_of_ble_eq_true rfl) ?_
  refine V_putF 96 (c := 11) 11 dX11_init_96 fl_RX11_56 (by simp only [PL_mem, sN_uI, sN_uR, sN_uA, sN_uJ, sN_uP, sN_nO, sN_nA]; omega) (by simp (disch := omega) only [sN_uI, sN_uR, sN_uA, sN_uJ, sN_uP, sN_nO, sN_nA, sK_uI, sK_uR, sK_uA, sK_uJ, sK_uP, sK_nO, sK_nA, va_up_ne, hk]) (Nat.le_of_ble_eq_true rfl) (Nat.le_of_ble_eq_true rfl) rfl rfl rfl rfl rfl rfl ?_
  refine V_abs (fun T9 => BLD lySockTable 52 [11, 10, 7, 6, 5, 3, 2, 1, 0] Γ.2.2.2.2.1 S h T9 ∧ FR h (h + 51) S9 T9 ∧ sA T9 (h + 51) = (fun _ => 0) ∧ sP T9 (h + 51) = (fun _ => none)) (bld_arr B9 11 16 3 rfl rfl) (fun S10 hx => ?_)
  obtain ⟨B10, E, Z, P⟩ := hx
  replace hk := (show sK S10 h = 11 from by have q := B10.1.2.2.2.2.1; exact (Option.some.inj q).symm)
  replace hb := B10.1.2.2.1
  replace d_teller_0 : sI S10 (h + 3) = (fun _ => 0) := by rw [(E.1 (h + 3) (by omega) (by omega)).2.2.1]; exact d_teller_0
  replace d_told_0 : FText (h + 27) S10 := d_told_0.eq (E.1 (h + 27) (by omega) (by omega)) (E.1 (h + 28) (by omega) (by omega)) (E.1 (h + 29) (by omega) (by omega))
  replace d_now_0 : sA S10 (h + 42) = (fun _ => 0) := by rw [(E.1 (h + 42) (by omega) (by omega)).2.2.2.2.2.1]; exact d_now_0
  replace d_now_1 : sA S10 (h + 43) = (fun _ => 0) := by rw [(E.1 (h + 43) (by omega) (by omega)).2.2.2.2.2.1]; exact d_now_1
  replace d_now_2 : sA S10 (h + 44) = (fun _ => 0) := by rw [(E.1 (h + 44) (by omega) (by omega)).2.2.2.2.2.1]; exact d_now_2
  replace d_now_3 : sI S10 (h + 41) = (fun _ => 0) := by rw [(E.1 (h + 41) (by omega) (by omega)).2.2.1]; exact d_now_3
  replace p49 : sP S10 (h + 49) = (fun _ => none) := by rw [(E.1 (h + 49) (by omega) (by omega)).2.2.2.2.1]; exact p49
  replace p50 : sP S10 (h + 50) = (fun _ => none) := by rw [(E.1 (h + 50) (by omega) (by omega)).2.2.2.2.1]; exact p50
  have z51 : sA S10 (h + 51) = (fun _ => 0) := Z
  have hIe := E.2
  replace hI1 : sI S10 h 4 = (-1) := by rw [hIe]; exact hI1
  replace hI3 : ∀ i, i ≠ 4 → sI S10 h i = 0 := fun i hi => by rw [hIe]; exact hI3 i hi
  clear hIe E Z P B9
  refine V_aload_0 99 dX11_init_99 ?_
  refine V_new 100 5 dX11_init_100 kl_RX11_60 ib_RX5 in_RX5 (Nat.le_of_ble_eq_true rfl) hw (Nat.le_of_ble_eq_true rfl) (Nat.le_of_ble_eq_true rfl) ?_
  refine V_dup 103 dX11_init_103 rfl ?_
  refine V_callI 104 [] _ (c_X5_initZ M.2.1 Γ (nO S10 (Γ.2.2.2.2.1 + sN S10) 5) (h := (Γ.2.2.2.2.1 + sN S10)) hw rfl (Nat.le_add_right _ _) (va_up_self _ _ _) (va_up_self _ _ _)) dX11_init_104 cb_X5_init ml_RX11_62 im_yX5_init rfl ⟨(Nat.le_of_ble_eq_true rfl), (Nat.le_of_ble_eq_true rfl)⟩ rfl rfl (Nat.le_of_ble_eq_true rfl) ⟨(Nat.le_of_ble_eq_true rfl), (Nat.le_of_ble_eq_true rfl)⟩ (RV.go (fun Y1 hq => ?_))
  have hb1 := new_n2 hq.1 hb 10 len_Orders
  have hkS := hk
  replace hk := ((new_e hq.1 (a := h) (by omega)).1.trans hkS)
  have hbS := hb
  replace hb : Γ.2.2.2.2.1 + sN Y1 = h + 62 := hb1
  refine V_putF 107 (c := 11) 12 dX11_init_107 fl_RX11_63 (by simp only [PL_mem, sN_uI, sN_uR, sN_uA, sN_uJ, sN_uP, sN_nO, sN_nA]; omega) (by simp (disch := omega) only [sN_uI, sN_uR, sN_uA, sN_uJ, sN_uP, sN_nO, sN_nA, sK_uI, sK_uR, sK_uA, sK_uJ, sK_uP, sK_nO, sK_nA, va_up_ne, hk]) (Nat.le_of_ble_eq_true rfl) (Nat.le_of_ble_eq_true rfl) rfl rfl rfl rfl rfl rfl ?_
  refine V_abs (fun T9 => BLD lySockTable 62 [12, 11, 10, 7, 6, 5, 3, 2, 1, 0] Γ.2.2.2.2.1 S h T9 ∧ FR h (h + 52) S10 T9 ∧ ∀ a, a ≠ h → eqA Y1 T9 a) (bld_obj2 10 len_Orders B10 lyOrders 12 5 rfl hs_Sock_52 hq.1) (fun S11 hx => ?_)
  obtain ⟨B11, E, E2⟩ := hx
  replace hk := (show sK S11 h = 11 from by have q := B11.1.2.2.2.2.1; exact (Option.some.inj q).symm)
  replace hb := B11.1.2.2.1
  replace d_teller_0 : sI S11 (h + 3) = (fun _ => 0) := by rw [(E.1 (h + 3) (by omega) (by omega)).2.2.1]; exact d_teller_0
  replace d_told_0 : FText (h + 27) S11 := d_told_0.eq (E.1 (h + 27) (by omega) (by omega)) (E.1 (h + 28) (by omega) (by omega)) (E.1 (h + 29) (by omega) (by omega))
  replace d_now_0 : sA S11 (h + 42) = (fun _ => 0) := by rw [(E.1 (h + 42) (by omega) (by omega)).2.2.2.2.2.1]; exact d_now_0
  replace d_now_1 : sA S11 (h + 43) = (fun _ => 0) := by rw [(E.1 (h + 43) (by omega) (by omega)).2.2.2.2.2.1]; exact d_now_1
  replace d_now_2 : sA S11 (h + 44) = (fun _ => 0) := by rw [(E.1 (h + 44) (by omega) (by omega)).2.2.2.2.2.1]; exact d_now_2
  replace d_now_3 : sI S11 (h + 41) = (fun _ => 0) := by rw [(E.1 (h + 41) (by omega) (by omega)).2.2.1]; exact d_now_3
  replace p49 : sP S11 (h + 49) = (fun _ => none) := by rw [(E.1 (h + 49) (by omega) (by omega)).2.2.2.2.1]; exact p49
  replace p50 : sP S11 (h + 50) = (fun _ => none) := by rw [(E.1 (h + 50) (by omega) (by omega)).2.2.2.2.1]; exact p50
  replace z51 : sA S11 (h + 51) = (fun _ => 0) := by rw [(E.1 (h + 51) (by omega) (by omega)).2.2.2.2.2.1]; exact z51
  have d_orders_0y := hq.2.1
  rw [hbS] at d_orders_0y
  have d_orders_0 : sA S11 (h + 53) = (fun _ => 0) := by rw [(E2 (h + 53) (by omega)).2.2.2.2.2.1]; exact d_orders_0y
  have d_orders_1y := hq.2.2.1
  rw [hbS] at d_orders_1y
  have d_orders_1 : sA S11 (h + 54) = (fun _ => 0) := by rw [(E2 (h + 54) (by omega)).2.2.2.2.2.1]; exact d_orders_1y
  have d_orders_2y := hq.2.2.2.1
  have d_orders_3y := hq.2.2.2.2
  rw [hbS] at d_orders_3y
  have d_orders_3 : sI S11 (h + 52) = (fun _ => 0) := by rw [(E2 (h + 52) (by omega)).2.2.1]; exact d_orders_3y
  rw [hbS] at d_orders_2y
  have d_orders_2 : sA S11 (h + 55) = (fun _ => 0) := by rw [(E2 (h + 55) (by omega)).2.2.2.2.2.1]; exact d_orders_2y
  have hIe := E.2
  replace hI1 : sI S11 h 4 = (-1) := by rw [hIe]; exact hI1
  replace hI3 : ∀ i, i ≠ 4 → sI S11 h i = 0 := fun i hi => by rw [hIe]; exact hI3 i hi
  clear hIe E E2 hq hbS hkS hb1 B10 d_orders_0y d_orders_1y d_orders_2y d_orders_3y
  refine V_aload_0 110 dX11_init_110 ?_
  refine V_new 111 4 dX11_init_111 kl_RX11_67 ib_RX4 in_RX4 (Nat.le_of_ble_eq_true rfl) hw (Nat.le_of_ble_eq_true rfl) (Nat.le_of_ble_eq_true rfl) ?_
  refine V_dup 114 dX11_init_114 rfl ?_
  refine V_callIN 115 [] _ (c_X4_init M.2.1 Γ (nO S11 (Γ.2.2.2.2.1 + sN S11) 4) (h := (Γ.2.2.2.2.1 + sN S11)) hw rfl (Nat.le_add_right _ _) (va_up_self _ _ _) (va_up_self _ _ _)) dX11_init_115 cb_X4_init ne_RX11_69 im_yX4_init rfl ⟨(Nat.le_of_ble_eq_true rfl), (Nat.le_of_ble_eq_true rfl)⟩ rfl rfl (Nat.le_of_ble_eq_true rfl) ⟨(Nat.le_of_ble_eq_true rfl), (Nat.le_of_ble_eq_true rfl)⟩ (RV.go (fun Y1 hq => ?_))
  have hb1 := new_n2 hq.1 hb 6 len_Odds
  have hkS := hk
  replace hk := ((new_e hq.1 (a := h) (by omega)).1.trans hkS)
  have hbS := hb
  replace hb : Γ.2.2.2.2.1 + sN Y1 = h + 68 := hb1
  refine V_putF 118 (c := 11) 13 dX11_init_118 fl_RX11_70 (by simp only [PL_mem, sN_uI, sN_uR, sN_uA, sN_uJ, sN_uP, sN_nO, sN_nA]; omega) (by simp (disch := omega) only [sN_uI, sN_uR, sN_uA, sN_uJ, sN_uP, sN_nO, sN_nA, sK_uI, sK_uR, sK_uA, sK_uJ, sK_uP, sK_nO, sK_nA, va_up_ne, hk]) (Nat.le_of_ble_eq_true rfl) (Nat.le_of_ble_eq_true rfl) rfl rfl rfl rfl rfl rfl ?_
  refine V_abs (fun T9 => BLD lySockTable 68 [13, 12, 11, 10, 7, 6, 5, 3, 2, 1, 0] Γ.2.2.2.2.1 S h T9 ∧ FR h (h + 62) S11 T9 ∧ ∀ a, a ≠ h → eqA Y1 T9 a) (bld_obj2 6 len_Odds B11 lyOdds 13 4 rfl hs_Sock_62 hq.1) (fun S12 hx => ?_)
  obtain ⟨B12, E, E2⟩ := hx
  replace hk := (show sK S12 h = 11 from by have q := B12.1.2.2.2.2.1; exact (Option.some.inj q).symm)
  replace hb := B12.1.2.2.1
  replace d_teller_0 : sI S12 (h + 3) = (fun _ => 0) := by rw [(E.1 (h + 3) (by omega) (by omega)).2.2.1]; exact d_teller_0
  replace d_told_0 : FText (h + 27) S12 := d_told_0.eq (E.1 (h + 27) (by omega) (by omega)) (E.1 (h + 28) (by omega) (by omega)) (E.1 (h + 29) (by omega) (by omega))
  replace d_now_0 : sA S12 (h + 42) = (fun _ => 0) := by rw [(E.1 (h + 42) (by omega) (by omega)).2.2.2.2.2.1]; exact d_now_0
  replace d_now_1 : sA S12 (h + 43) = (fun _ => 0) := by rw [(E.1 (h + 43) (by omega) (by omega)).2.2.2.2.2.1]; exact d_now_1
  replace d_now_2 : sA S12 (h + 44) = (fun _ => 0) := by rw [(E.1 (h + 44) (by omega) (by omega)).2.2.2.2.2.1]; exact d_now_2
  replace d_now_3 : sI S12 (h + 41) = (fun _ => 0) := by rw [(E.1 (h + 41) (by omega) (by omega)).2.2.1]; exact d_now_3
  replace p49 : sP S12 (h + 49) = (fun _ => none) := by rw [(E.1 (h + 49) (by omega) (by omega)).2.2.2.2.1]; exact p49
  replace p50 : sP S12 (h + 50) = (fun _ => none) := by rw [(E.1 (h + 50) (by omega) (by omega)).2.2.2.2.1]; exact p50
  replace z51 : sA S12 (h + 51) = (fun _ => 0) := by rw [(E.1 (h + 51) (by omega) (by omega)).2.2.2.2.2.1]; exact z51
  replace d_orders_0 : sA S12 (h + 53) = (fun _ => 0) := by rw [(E.1 (h + 53) (by omega) (by omega)).2.2.2.2.2.1]; exact d_orders_0
  replace d_orders_1 : sA S12 (h + 54) = (fun _ => 0) := by rw [(E.1 (h + 54) (by omega) (by omega)).2.2.2.2.2.1]; exact d_orders_1
  replace d_orders_2 : sA S12 (h + 55) = (fun _ => 0) := by rw [(E.1 (h + 55) (by omega) (by omega)).2.2.2.2.2.1]; exact d_orders_2
  replace d_orders_3 : sI S12 (h + 52) = (fun _ => 0) := by rw [(E.1 (h + 52) (by omega) (by omega)).2.2.1]; exact d_orders_3
  have hIe := E.2
  replace hI1 : sI S12 h 4 = (-1) := by rw [hIe]; exact hI1
  replace hI3 : ∀ i, i ≠ 4 → sI S12 h i = 0 := fun i hi => by rw [hIe]; exact hI3 i hi
  clear hIe E E2 hq hbS hkS hb1 B11
  refine V_aload_0 121 dX11_init_121 ?_
  refine V_new 122 3 dX11_init_122 kl_RX11_74 ib_RX3 in_RX3 (Nat.le_of_ble_eq_true rfl) hw (Nat.le_of_ble_eq_true rfl) (Nat.le_of_ble_eq_true rfl) ?_
  refine V_dup 125 dX11_init_125 rfl ?_
  refine V_callIN 126 [] _ (c_X3_init M.2.1 Γ (nO S12 (Γ.2.2.2.2.1 + sN S12) 3) (h := (Γ.2.2.2.2.1 + sN S12)) hw rfl (Nat.le_add_right _ _) (va_up_self _ _ _) (va_up_self _ _ _)) dX11_init_126 cb_X3_init ne_RX11_76 im_yX3_init rfl ⟨(Nat.le_of_ble_eq_true rfl), (Nat.le_of_ble_eq_true rfl)⟩ rfl rfl (Nat.le_of_ble_eq_true rfl) ⟨(Nat.le_of_ble_eq_true rfl), (Nat.le_of_ble_eq_true rfl)⟩ (RV.go (fun Y1 hq => ?_))
  have hb1 := new_n2 hq.1 hb 8 len_Losses
  have hkS := hk
  replace hk := ((new_e hq.1 (a := h) (by omega)).1.trans hkS)
  have hbS := hb
  replace hb : Γ.2.2.2.2.1 + sN Y1 = h + 76 := hb1
  refine V_putF 129 (c := 11) 14 dX11_init_129 fl_RX11_77 (by simp only [PL_mem, sN_uI, sN_uR, sN_uA, sN_uJ, sN_uP, sN_nO, sN_nA]; omega) (by simp (disch := omega) only [sN_uI, sN_uR, sN_uA, sN_uJ, sN_uP, sN_nO, sN_nA, sK_uI, sK_uR, sK_uA, sK_uJ, sK_uP, sK_nO, sK_nA, va_up_ne, hk]) (Nat.le_of_ble_eq_true rfl) (Nat.le_of_ble_eq_true rfl) rfl rfl rfl rfl rfl rfl ?_
  refine V_abs (fun T9 => BLD lySockTable 76 [14, 13, 12, 11, 10, 7, 6, 5, 3, 2, 1, 0] Γ.2.2.2.2.1 S h T9 ∧ FR h (h + 68) S12 T9 ∧ ∀ a, a ≠ h → eqA Y1 T9 a) (bld_obj2 8 len_Losses B12 lyLosses 14 3 rfl hs_Sock_68 hq.1) (fun S13 hx => ?_)
  obtain ⟨B13, E, E2⟩ := hx
  replace hk := (show sK S13 h = 11 from by have q := B13.1.2.2.2.2.1; exact (Option.some.inj q).symm)
  replace hb := B13.1.2.2.1
  replace d_teller_0 : sI S13 (h + 3) = (fun _ => 0) := by rw [(E.1 (h + 3) (by omega) (by omega)).2.2.1]; exact d_teller_0
  replace d_told_0 : FText (h + 27) S13 := d_told_0.eq (E.1 (h + 27) (by omega) (by omega)) (E.1 (h + 28) (by omega) (by omega)) (E.1 (h + 29) (by omega) (by omega))
  replace d_now_0 : sA S13 (h + 42) = (fun _ => 0) := by rw [(E.1 (h + 42) (by omega) (by omega)).2.2.2.2.2.1]; exact d_now_0
  replace d_now_1 : sA S13 (h + 43) = (fun _ => 0) := by rw [(E.1 (h + 43) (by omega) (by omega)).2.2.2.2.2.1]; exact d_now_1
  replace d_now_2 : sA S13 (h + 44) = (fun _ => 0) := by rw [(E.1 (h + 44) (by omega) (by omega)).2.2.2.2.2.1]; exact d_now_2
  replace d_now_3 : sI S13 (h + 41) = (fun _ => 0) := by rw [(E.1 (h + 41) (by omega) (by omega)).2.2.1]; exact d_now_3
  replace p49 : sP S13 (h + 49) = (fun _ => none) := by rw [(E.1 (h + 49) (by omega) (by omega)).2.2.2.2.1]; exact p49
  replace p50 : sP S13 (h + 50) = (fun _ => none) := by rw [(E.1 (h + 50) (by omega) (by omega)).2.2.2.2.1]; exact p50
  replace z51 : sA S13 (h + 51) = (fun _ => 0) := by rw [(E.1 (h + 51) (by omega) (by omega)).2.2.2.2.2.1]; exact z51
  replace d_orders_0 : sA S13 (h + 53) = (fun _ => 0) := by rw [(E.1 (h + 53) (by omega) (by omega)).2.2.2.2.2.1]; exact d_orders_0
  replace d_orders_1 : sA S13 (h + 54) = (fun _ => 0) := by rw [(E.1 (h + 54) (by omega) (by omega)).2.2.2.2.2.1]; exact d_orders_1
  replace d_orders_2 : sA S13 (h + 55) = (fun _ => 0) := by rw [(E.1 (h + 55) (by omega) (by omega)).2.2.2.2.2.1]; exact d_orders_2
  replace d_orders_3 : sI S13 (h + 52) = (fun _ => 0) := by rw [(E.1 (h + 52) (by omega) (by omega)).2.2.1]; exact d_orders_3
  have d_losses_0y := hq.2.1
  rw [hbS] at d_losses_0y
  have d_losses_0 : sA S13 (h + 71) = (fun _ => 0) := by rw [(E2 (h + 71) (by omega)).2.2.2.2.2.1]; exact d_losses_0y
  have d_losses_1y := hq.2.2.1
  rw [hbS] at d_losses_1y
  have d_losses_1 : sI S13 (h + 68) 6 = (-1) := by rw [(E2 (h + 68) (by omega)).2.2.1]; exact d_losses_1y
  have d_losses_2y := hq.2.2.2
  rw [hbS] at d_losses_2y
  have d_losses_2 : ∀ i, i ≠ 6 → sI S13 (h + 68) i = 0 := fun i hi => by rw [(E2 (h + 68) (by omega)).2.2.1]; exact d_losses_2y i hi
  have hIe := E.2
  replace hI1 : sI S13 h 4 = (-1) := by rw [hIe]; exact hI1
  replace hI3 : ∀ i, i ≠ 4 → sI S13 h i = 0 := fun i hi => by rw [hIe]; exact hI3 i hi
  clear hIe E E2 hq hbS hkS hb1 B12 d_losses_0y d_losses_1y d_losses_2y
  refine V_aload_0 132 dX11_init_132 ?_
  refine V_new 133 6 dX11_init_133 kl_RX11_81 ib_RX6 in_RX6 (Nat.le_of_ble_eq_true rfl) hw (Nat.le_of_ble_eq_true rfl) (Nat.le_of_ble_eq_true rfl) ?_
  refine V_dup 136 dX11_init_136 rfl ?_
  refine V_callIN 137 [] _ (c_X6_init M.2.1 Γ (nO S13 (Γ.2.2.2.2.1 + sN S13) 6) (h := (Γ.2.2.2.2.1 + sN S13)) hw rfl (Nat.le_add_right _ _) (va_up_self _ _ _) (va_up_self _ _ _)) dX11_init_137 cb_X6_init ne_RX11_83 im_yX6_init rfl ⟨(Nat.le_of_ble_eq_true rfl), (Nat.le_of_ble_eq_true rfl)⟩ rfl rfl (Nat.le_of_ble_eq_true rfl) ⟨(Nat.le_of_ble_eq_true rfl), (Nat.le_of_ble_eq_true rfl)⟩ (RV.go (fun Y1 hq => ?_))
  have hb1 := new_n2 hq.1 hb 5 len_Seen
  have hkS := hk
  replace hk := ((new_e hq.1 (a := h) (by omega)).1.trans hkS)
  have hbS := hb
  replace hb : Γ.2.2.2.2.1 + sN Y1 = h + 81 := hb1
  refine V_putF 140 (c := 11) 15 dX11_init_140 fl_RX11_84 (by simp only [PL_mem, sN_uI, sN_uR, sN_uA, sN_uJ, sN_uP, sN_nO, sN_nA]; omega) (by simp (disch := omega) only [sN_uI, sN_uR, sN_uA, sN_uJ, sN_uP, sN_nO, sN_nA, sK_uI, sK_uR, sK_uA, sK_uJ, sK_uP, sK_nO, sK_nA, va_up_ne, hk]) (Nat.le_of_ble_eq_true rfl) (Nat.le_of_ble_eq_true rfl) rfl rfl rfl rfl rfl rfl ?_
  refine V_abs (fun T9 => BLD lySockTable 81 [15, 14, 13, 12, 11, 10, 7, 6, 5, 3, 2, 1, 0] Γ.2.2.2.2.1 S h T9 ∧ FR h (h + 76) S13 T9 ∧ ∀ a, a ≠ h → eqA Y1 T9 a) (bld_obj2 5 len_Seen B13 lySeen 15 6 rfl hs_Sock_76 hq.1) (fun S14 hx => ?_)
  obtain ⟨B14, E, E2⟩ := hx
  replace hk := (show sK S14 h = 11 from by have q := B14.1.2.2.2.2.1; exact (Option.some.inj q).symm)
  replace hb := B14.1.2.2.1
  replace d_teller_0 : sI S14 (h + 3) = (fun _ => 0) := by rw [(E.1 (h + 3) (by omega) (by omega)).2.2.1]; exact d_teller_0
  replace d_told_0 : FText (h + 27) S14 := d_told_0.eq (E.1 (h + 27) (by omega) (by omega)) (E.1 (h + 28) (by omega) (by omega)) (E.1 (h + 29) (by omega) (by omega))
  replace d_now_0 : sA S14 (h + 42) = (fun _ => 0) := by rw [(E.1 (h + 42) (by omega) (by omega)).2.2.2.2.2.1]; exact d_now_0
  replace d_now_1 : sA S14 (h + 43) = (fun _ => 0) := by rw [(E.1 (h + 43) (by omega) (by omega)).2.2.2.2.2.1]; exact d_now_1
  replace d_now_2 : sA S14 (h + 44) = (fun _ => 0) := by rw [(E.1 (h + 44) (by omega) (by omega)).2.2.2.2.2.1]; exact d_now_2
  replace d_now_3 : sI S14 (h + 41) = (fun _ => 0) := by rw [(E.1 (h + 41) (by omega) (by omega)).2.2.1]; exact d_now_3
  replace p49 : sP S14 (h + 49) = (fun _ => none) := by rw [(E.1 (h + 49) (by omega) (by omega)).2.2.2.2.1]; exact p49
  replace p50 : sP S14 (h + 50) = (fun _ => none) := by rw [(E.1 (h + 50) (by omega) (by omega)).2.2.2.2.1]; exact p50
  replace z51 : sA S14 (h + 51) = (fun _ => 0) := by rw [(E.1 (h + 51) (by omega) (by omega)).2.2.2.2.2.1]; exact z51
  replace d_orders_0 : sA S14 (h + 53) = (fun _ => 0) := by rw [(E.1 (h + 53) (by omega) (by omega)).2.2.2.2.2.1]; exact d_orders_0
  replace d_orders_1 : sA S14 (h + 54) = (fun _ => 0) := by rw [(E.1 (h + 54) (by omega) (by omega)).2.2.2.2.2.1]; exact d_orders_1
  replace d_orders_2 : sA S14 (h + 55) = (fun _ => 0) := by rw [(E.1 (h + 55) (by omega) (by omega)).2.2.2.2.2.1]; exact d_orders_2
  replace d_orders_3 : sI S14 (h + 52) = (fun _ => 0) := by rw [(E.1 (h + 52) (by omega) (by omega)).2.2.1]; exact d_orders_3
  replace d_losses_0 : sA S14 (h + 71) = (fun _ => 0) := by rw [(E.1 (h + 71) (by omega) (by omega)).2.2.2.2.2.1]; exact d_losses_0
  replace d_losses_1 : sI S14 (h + 68) 6 = (-1) := by rw [(E.1 (h + 68) (by omega) (by omega)).2.2.1]; exact d_losses_1
  replace d_losses_2 : ∀ i, i ≠ 6 → sI S14 (h + 68) i = 0 := fun i hi => by rw [(E.1 (h + 68) (by omega) (by omega)).2.2.1]; exact d_losses_2 i hi
  have d_seen_0y := hq.2
  rw [hbS] at d_seen_0y
  have d_seen_0 : sI S14 (h + 76) = (fun _ => 0) := by rw [(E2 (h + 76) (by omega)).2.2.1]; exact d_seen_0y
  have hIe := E.2
  replace hI1 : sI S14 h 4 = (-1) := by rw [hIe]; exact hI1
  replace hI3 : ∀ i, i ≠ 4 → sI S14 h i = 0 := fun i hi => by rw [hIe]; exact hI3 i hi
  clear hIe E E2 hq hbS hkS hb1 B13 d_seen_0y
  have D0 : DD h S14 := ⟨hI1, hI3, d_teller_0, d_told_0, ⟨d_now_0, d_now_1, d_now_2, d_now_3⟩, z51, ⟨d_orders_0, d_orders_1, d_orders_2⟩, ⟨d_losses_0, d_losses_1, d_losses_2⟩, d_seen_0⟩
  have B := B14
  have G0 : LPs h [15, 14, 13, 12, 11, 10, 7, 6, 5, 3, 2, 1, 0] Γ.2.2.2.2.1 S 0 S14 := ⟨B, D0, fun k hk => absurd hk (Nat.not_lt_zero _), fun k hk => absurd hk (Nat.not_lt_zero _)⟩
  clear D0 B
  refine V_iconst 143 (0) dX11_init_143 (by decide) ?_
  refine V_istore_1 144 dX11_init_144 rfl (Nat.le_of_ble_eq_true rfl) ?_
  refine V.widen 80 19517 (Nat.le_of_ble_eq_true rfl) (Nat.le_of_ble_eq_true rfl) ?_
  refine V_whileK (α := Nat × PS) (fun x => 40 - x.1) (fun x => x.1 ≤ 40 ∧ LPs h [15, 14, 13, 12, 11, 10, 7, 6, 5, 3, 2, 1, 0] Γ.2.2.2.2.1 S x.1 x.2 ∧ ZS h x.1 x.2) (fun x => 80 + 4 * x.1) (fun x => 19517 + 29 * x.1) (fun x => x.2) (fun x => [some (.ref h), some (.int (nI x.1))]) (0, _) ⟨Nat.zero_le _, G0, d_orders_3, fun k hk => absurd hk (Nat.not_lt_zero _)⟩ (fun x hx ih => ?_)
  obtain ⟨i, T⟩ := x
  obtain ⟨hi, L, Z⟩ := hx
  dsimp only at hi L Z ih ⊢
  have hm := L.1.mem
  have hk : sK T h = 11 := (Option.some.inj L.1.1.2.2.2.2.1).symm
  have hv : sR T h 7 = some (h + 49) := L.1.2.2.2 7 49 (by decide) rfl
  have en := L.1.2.2.1 49 _ (by decide) (by omega) (rfl : lySockTable[49]? = some _)
  have hm2 : h + 49 ∈ PL Γ.2.2.2.2.1 T := PL_mem.mpr ⟨by have := L.1.1.2.1; omega, by have := L.1.1.2.2.1; omega⟩
  have hk2 : sK T (h + 49) = 17 := en.1
  have hl2 : sL T (h + 49) = 40 := en.2.2 (by decide)
  refine V_iload_1 145 dX11_init_145 ?_
  refine V_aload_0 146 dX11_init_146 ?_
  refine V_getR 147 (c := 11) 7 hv dX11_init_147 fl_RX11_49 hm hk (Nat.le_of_ble_eq_true rfl) (Nat.le_of_ble_eq_true rfl) rfl ?_
  refine V_alen2 150 dX11_init_150 hm2 hk2 (Nat.le_of_ble_eq_true rfl) (Nat.le_of_ble_eq_true rfl) hl2 ?_
  refine V_icmp_ge 151 173 dX11_init_151 (by decide) (fun c => ?_) (fun c => ?_)
  ·
    have hi2 := nI_ge8 (by decide) hi c
    subst hi2
    refine V_iconst 173 (0) dX11_init_173 (by decide) ?_
    refine V_istore_1 174 dX11_init_174 rfl (Nat.le_of_ble_eq_true rfl) ?_
    refine V_whileK (α := Nat × PS) (fun x => 3 - x.1) (fun x => x.1 ≤ 3 ∧ LPs h [15, 14, 13, 12, 11, 10, 7, 6, 5, 3, 2, 1, 0] Γ.2.2.2.2.1 S (40 + x.1) x.2 ∧ ZS h (40 + x.1) x.2) (fun x => 240 + 4 * x.1) (fun x => 19517 + 1160 + 29 * x.1) (fun x => x.2) (fun x => [some (.ref h), some (.int (nI x.1))]) (0, _) ⟨Nat.zero_le _, L, Z⟩ (fun x hx ih => ?_)
    obtain ⟨i, T⟩ := x
    obtain ⟨hi, L, Z⟩ := hx
    dsimp only at hi L Z ih ⊢
    have hm := L.1.mem
    have hk : sK T h = 11 := (Option.some.inj L.1.1.2.2.2.2.1).symm
    have hv : sR T h 10 = some (h + 50) := L.1.2.2.2 10 50 (by decide) rfl
    have en := L.1.2.2.1 50 _ (by decide) (by omega) (rfl : lySockTable[50]? = some _)
    have hm2 : h + 50 ∈ PL Γ.2.2.2.2.1 T := PL_mem.mpr ⟨by have := L.1.1.2.1; omega, by have := L.1.1.2.2.1; omega⟩
    have hk2 : sK T (h + 50) = 17 := en.1
    have hl2 : sL T (h + 50) = 3 := en.2.2 (by decide)
    refine V_iload_1 175 dX11_init_175 ?_
    refine V_aload_0 176 dX11_init_176 ?_
    refine V_getR 177 (c := 11) 10 hv dX11_init_177 fl_RX11_53 hm hk (Nat.le_of_ble_eq_true rfl) (Nat.le_of_ble_eq_true rfl) rfl ?_
    refine V_alen2 180 dX11_init_180 hm2 hk2 (Nat.le_of_ble_eq_true rfl) (Nat.le_of_ble_eq_true rfl) hl2 ?_
    refine V_icmp_ge 181 203 dX11_init_181 (by decide) (fun c2 => ?_) (fun c2 => ?_)
    ·
      have hi2 := nI_ge8 (by decide) hi c2
      subst hi2
      have hN : NEWO lySockTable Γ.2.2.2.2.1 S h T := bld_end (by rw [len_Sock]; exact L.1) rfl (show ∀ j, j < 16 → j ∈ [15, 14, 13, 12, 11, 10, 7, 6, 5, 3, 2, 1, 0] ∨ lyR lySockTable j = some none by decide +kernel)
      refine V_vret 203 dX11_init_203 rfl (Nat.le_of_ble_eq_true rfl) (Nat.le_of_ble_eq_true rfl) (RV.mk ⟨hN, ⟨L.2.1, fun k hk => L.2.2.1 k (by omega) hk, fun k hk => ?_⟩, Z⟩)
      have q := L.2.2.2 (40 + k) (by omega) (by omega)
      rwa [show 40 + k - 40 = k by omega] at q
    ·
      have hi2 := nI_lt8 (by decide) hi c2
      refine V_aload_0 184 dX11_init_184 ?_
      refine V_getR 185 (c := 11) 10 hv dX11_init_185 fl_RX11_53 hm hk (Nat.le_of_ble_eq_true rfl) (Nat.le_of_ble_eq_true rfl) rfl ?_
      refine V_iload_1 188 dX11_init_188 ?_
      refine V_new 189 7 dX11_init_189 kl_RX11_39 ib_RX7 in_RX7 (Nat.le_of_ble_eq_true rfl) hw (show 240 + 4 * i + 1 ≤ 252 by omega) (show 19517 + 1160 + 29 * i + 5 ≤ 20764 by omega) ?_
      refine V_dup 192 dX11_init_192 rfl ?_
      refine V_callIN 193 [] _ (c_X7_init M.2.1 Γ (nO T (Γ.2.2.2.2.1 + sN T) 7) (h := Γ.2.2.2.2.1 + sN T) hw rfl (Nat.le_add_right _ _) (va_up_self _ _ _) (va_up_self _ _ _)) dX11_init_193 cb_X7_init ne_RX11_41 im_yX7_init rfl ⟨Nat.le_of_ble_eq_true rfl, Nat.le_of_ble_eq_true rfl⟩ rfl rfl (Nat.le_of_ble_eq_true rfl) ⟨show 240 + 4 * i + 1 + 3 ≤ 252 by omega, show 19517 + 1160 + 29 * i + 5 + 24 ≤ 20764 by omega⟩ (RV.go (fun Y hq => ?_))
      have hN := hq.1
      have e49 := new_e hN (a := h + 50) (by have := L.1.1.2.2.1; omega)
      have hm3 : h + 50 ∈ PL Γ.2.2.2.2.1 Y := PL_mem.mpr ⟨by have := L.1.1.2.1; omega, by have := new_n hN L.1.1.2.2.1; omega⟩
      have Z2 := Z.step L.1.1.2.2.1 hN hq.2
      have L2 := L.step (by omega) hN
      rw [if_neg (by omega), show 40 + i - 40 = i by omega] at L2
      refine V_aastore2 196 dX11_init_196 hm3 (e49.1.trans hk2) (e49.2.2.2.1.trans hl2) (vp_in_nI hi2 (by decide)) (hN.2.2.m 0 (by decide)) (hN.2.2.k 0 7 rfl) ?_
      rw [nI_clamp (by omega)]
      refine V_iinc_1 197 (1) dX11_init_197 (by decide) rfl (Nat.le_of_ble_eq_true rfl) ?_
      refine V_goto 200 175 dX11_init_200 (by decide) ?_
      rw [← nI_succ]
      exact ih (i + 1, _) ⟨by dsimp only; omega, L2, Z2 _ _ _⟩ (by dsimp only; omega)
  ·
    have hi2 := nI_lt8 (by decide) hi c
    refine V_aload_0 154 dX11_init_154 ?_
    refine V_getR 155 (c := 11) 7 hv dX11_init_155 fl_RX11_49 hm hk (Nat.le_of_ble_eq_true rfl) (Nat.le_of_ble_eq_true rfl) rfl ?_
    refine V_iload_1 158 dX11_init_158 ?_
    refine V_new 159 7 dX11_init_159 kl_RX11_39 ib_RX7 in_RX7 (Nat.le_of_ble_eq_true rfl) hw (show 80 + 4 * i + 1 ≤ 252 by omega) (show 19517 + 29 * i + 5 ≤ 20764 by omega) ?_
    refine V_dup 162 dX11_init_162 rfl ?_
    refine V_callIN 163 [] _ (c_X7_init M.2.1 Γ (nO T (Γ.2.2.2.2.1 + sN T) 7) (h := Γ.2.2.2.2.1 + sN T) hw rfl (Nat.le_add_right _ _) (va_up_self _ _ _) (va_up_self _ _ _)) dX11_init_163 cb_X7_init ne_RX11_41 im_yX7_init rfl ⟨Nat.le_of_ble_eq_true rfl, Nat.le_of_ble_eq_true rfl⟩ rfl rfl (Nat.le_of_ble_eq_true rfl) ⟨show 80 + 4 * i + 1 + 3 ≤ 252 by omega, show 19517 + 29 * i + 5 + 24 ≤ 20764 by omega⟩ (RV.go (fun Y hq => ?_))
    have hN := hq.1
    have e49 := new_e hN (a := h + 49) (by have := L.1.1.2.2.1; omega)
    have hm3 : h + 49 ∈ PL Γ.2.2.2.2.1 Y := PL_mem.mpr ⟨by have := L.1.1.2.1; omega, by have := new_n hN L.1.1.2.2.1; omega⟩
    have Z2 := Z.step L.1.1.2.2.1 hN hq.2
    have L2 := L.step (by omega) hN
    rw [if_pos hi2] at L2
    refine V_aastore2 166 dX11_init_166 hm3 (e49.1.trans hk2) (e49.2.2.2.1.trans hl2) (vp_in_nI hi2 (by decide)) (hN.2.2.m 0 (by decide)) (hN.2.2.k 0 7 rfl) ?_
    rw [nI_clamp (by omega)]
    refine V_iinc_1 167 (1) dX11_init_167 (by decide) rfl (Nat.le_of_ble_eq_true rfl) ?_
    refine V_goto 170 145 dX11_init_170 (by decide) ?_
    rw [← nI_succ]
    exact ih (i + 1, _) ⟨by dsimp only; omega, L2, Z2 _ _ _⟩ (by dsimp only; omega)


theorem IB.z0 {B : Nat} {x : Int32} (h : x = 0) : IB B x := by rw [h]; exact IB.zero
/-- a new object keeps it -/
theorem IV.start {lo h : Nat} {S : PS} (F : isL lySockTable lo S h) (D : FRESH h S) (Z : ZS h 43 S) : IV lo h 9 0 S := by
  obtain ⟨⟨d1, d2, d3, d4, ⟨d5, d6, d7, d8⟩, d9, ⟨d10, d11, d12⟩, ⟨d13, d14, d15⟩, d16⟩, P1, P2⟩ := D
  refine ⟨F.wk (by decide +kernel), Or.inl ⟨F.r 68 0 69 (by decide +kernel), F.r 68 1 70 (by decide +kernel)⟩, Or.inl ⟨F.r 76 3 79 (by decide +kernel), F.r 76 4 80 (by decide +kernel)⟩, fun i hi => ?_, ⟨Or.inl ?_, fun i => ⟨?_, ?_⟩⟩, fun i hi => ?_, ⟨fun i => ?_, ?_⟩, ⟨0, by decide, ?_⟩, fun i hi => ?_, fun i hi => ?_, ?_⟩
  · rw [d4.2.1 i hi]; decide
  · rw [d8]
  · exact IB.z0 (congrFun d5 i)
  · exact IB.z0 (congrFun d6 i)
  · obtain ⟨z1, z2, z3⟩ := Z.2 i hi
    rw [← Nat.add_assoc] at z1 z2 z3
    exact ⟨Or.inl (congrFun z3 4), fun j => ⟨IB.z0 (congrFun z1 j), IB.z0 (congrFun z2 j)⟩⟩
  · exact IB.z0 (congrFun d10 i)
  · exact IB.z0 (congrFun Z.1 3)
  · exact d15 5 (by decide)
  · rw [P1 i hi, ← Nat.add_assoc]
  · rw [P2 i hi, ← Nat.add_assoc]
  · rw [d3]

