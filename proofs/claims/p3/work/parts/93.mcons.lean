/-! the model: its constructor -/
set_option maxRecDepth 100000 in
set_option maxHeartbeats 8000000 in
theorem c_X12_init (l : Launch) (Γ : GC) (S : PS) {h : Nat} (hw : Γ.2.2.2.2.2.1 = Γ.2.2.2.2.1) (hh : Γ.2.2.2.2.1 + sN S = h + 1) (hlo : Γ.2.2.2.2.1 ≤ h) (hk : sK S h = 12) (h0 : sI S h = fun _ => 0) : CT l Γ yX12_init cX12_init 1 none (3) (56) (293027) [.ref h] S (RV (fun S' => NEWO lyModel Γ.2.2.2.2.1 S h S' ∧ FRM h S')) := by
  refine CT.of RX12 "<init>" [some (.ref h)] (by decide +kernel) rfl rfl (Nat.le_of_ble_eq_true rfl) rfl (fun M hM => ?_)
  subst hM
  have B : MB 1 [] Γ.2.2.2.2.1 S h S := ⟨BLD.one hh hlo (by rw [hk]; rfl) (by rw [hk]; decide), fun r h1 h2 => absurd h1 (by omega)⟩
  have hb := hh
  have hI : sI S h = fun _ => 0 := h0
  clear hh h0
  refine V_aload_0 0 dX12_init_0 ?_
  refine V_objInit 1 dX12_init_1 ml_RX12_7 ⟨(Nat.le_of_ble_eq_true rfl), (Nat.le_of_ble_eq_true rfl)⟩ ?_
  refine V_aload_0 4 dX12_init_4 ?_
  refine V_sipush 5 (2000) dX12_init_5 (by decide) ?_
  refine V_newarray 8 13 2000 (Or.inl ⟨rfl, rfl⟩) dX12_init_8 ac_byte (by decide) (by decide) (Nat.le_of_ble_eq_true rfl) hw (Nat.le_of_ble_eq_true rfl) (Nat.le_of_ble_eq_true rfl) ?_
  refine V_putF 10 (c := 12) 1 dX12_init_10 fl_RX12_13 (by simp only [PL_mem, sN_uI, sN_uR, sN_uA, sN_uJ, sN_uP, sN_nO, sN_nA]; omega) (by simp (disch := omega) only [sN_uI, sN_uR, sN_uA, sN_uJ, sN_uP, sN_nO, sN_nA, sK_uI, sK_uR, sK_uA, sK_uJ, sK_uP, sK_nO, sK_nA, va_up_ne, hk]) (Nat.le_of_ble_eq_true rfl) (Nat.le_of_ble_eq_true rfl) rfl rfl rfl rfl rfl rfl ?_
  refine V_abs (fun T9 => MB 2 [1] Γ.2.2.2.2.1 S h T9 ∧ sI T9 h = sI S h) (mb_arr B 1 13 2000 rfl rfl) (fun S1 hx => ?_)
  obtain ⟨B1, E⟩ := hx
  replace hI := E.trans hI
  clear E
  replace B := B1
  replace hk : sK S1 h = 12 := (Option.some.inj B1.1.1.2.2.2.2.1).symm
  replace hb := B1.1.1.2.2.1
  clear B1
  refine V_aload_0 13 dX12_init_13 ?_
  refine V_sipush 14 (2000) dX12_init_14 (by decide) ?_
  refine V_newarray 17 13 2000 (Or.inl ⟨rfl, rfl⟩) dX12_init_17 ac_byte (by decide) (by decide) (Nat.le_of_ble_eq_true rfl) hw (Nat.le_of_ble_eq_true rfl) (Nat.le_of_ble_eq_true rfl) ?_
  refine V_putF 19 (c := 12) 3 dX12_init_19 fl_RX12_17 (by simp only [PL_mem, sN_uI, sN_uR, sN_uA, sN_uJ, sN_uP, sN_nO, sN_nA]; omega) (by simp (disch := omega) only [sN_uI, sN_uR, sN_uA, sN_uJ, sN_uP, sN_nO, sN_nA, sK_uI, sK_uR, sK_uA, sK_uJ, sK_uP, sK_nO, sK_nA, va_up_ne, hk]) (Nat.le_of_ble_eq_true rfl) (Nat.le_of_ble_eq_true rfl) rfl rfl rfl rfl rfl rfl ?_
  refine V_abs (fun T9 => MB 3 [3, 1] Γ.2.2.2.2.1 S h T9 ∧ sI T9 h = sI S1 h) (mb_arr B 3 13 2000 rfl rfl) (fun S2 hx => ?_)
  obtain ⟨B2, E⟩ := hx
  replace hI := E.trans hI
  clear E
  replace B := B2
  replace hk : sK S2 h = 12 := (Option.some.inj B2.1.1.2.2.2.2.1).symm
  replace hb := B2.1.1.2.2.1
  clear B2
  refine V_aload_0 22 dX12_init_22 ?_
  refine V_sipush 23 (403) dX12_init_23 (by decide) ?_
  refine V_newarray 26 14 403 (Or.inr (Or.inl ⟨rfl, rfl⟩)) dX12_init_26 ac_int (by decide) (by decide) (Nat.le_of_ble_eq_true rfl) hw (Nat.le_of_ble_eq_true rfl) (Nat.le_of_ble_eq_true rfl) ?_
  refine V_putF 28 (c := 12) 5 dX12_init_28 fl_RX12_20 (by simp only [PL_mem, sN_uI, sN_uR, sN_uA, sN_uJ, sN_uP, sN_nO, sN_nA]; omega) (by simp (disch := omega) only [sN_uI, sN_uR, sN_uA, sN_uJ, sN_uP, sN_nO, sN_nA, sK_uI, sK_uR, sK_uA, sK_uJ, sK_uP, sK_nO, sK_nA, va_up_ne, hk]) (Nat.le_of_ble_eq_true rfl) (Nat.le_of_ble_eq_true rfl) rfl rfl rfl rfl rfl rfl ?_
  refine V_abs (fun T9 => MB 4 [5, 3, 1] Γ.2.2.2.2.1 S h T9 ∧ sI T9 h = sI S2 h) (mb_arr B 5 14 403 rfl rfl) (fun S3 hx => ?_)
  obtain ⟨B3, E⟩ := hx
  replace hI := E.trans hI
  clear E
  replace B := B3
  replace hk : sK S3 h = 12 := (Option.some.inj B3.1.1.2.2.2.2.1).symm
  replace hb := B3.1.1.2.2.1
  clear B3
  refine V_aload_0 31 dX12_init_31 ?_
  refine V_sipush 32 (403) dX12_init_32 (by decide) ?_
  refine V_newarray 35 14 403 (Or.inr (Or.inl ⟨rfl, rfl⟩)) dX12_init_35 ac_int (by decide) (by decide) (Nat.le_of_ble_eq_true rfl) hw (Nat.le_of_ble_eq_true rfl) (Nat.le_of_ble_eq_true rfl) ?_
  refine V_putF 37 (c := 12) 6 dX12_init_37 fl_RX12_24 (by simp only [PL_mem, sN_uI, sN_uR, sN_uA, sN_uJ, sN_uP, sN_nO, sN_nA]; omega) (by simp (disch := omega) only [sN_uI, sN_uR, sN_uA, sN_uJ, sN_uP, sN_nO, sN_nA, sK_uI, sK_uR, sK_uA, sK_uJ, sK_uP, sK_nO, sK_nA, va_up_ne, hk]) (Nat.le_of_ble_eq_true rfl) (Nat.le_of_ble_eq_true rfl) rfl rfl rfl rfl rfl rfl ?_
  refine V_abs (fun T9 => MB 5 [6, 5, 3, 1] Γ.2.2.2.2.1 S h T9 ∧ sI T9 h = sI S3 h) (mb_arr B 6 14 403 rfl rfl) (fun S4 hx => ?_)
  obtain ⟨B4, E⟩ := hx
  replace hI := E.trans hI
  clear E
  replace B := B4
  replace hk : sK S4 h = 12 := (Option.some.inj B4.1.1.2.2.2.2.1).symm
  replace hb := B4.1.1.2.2.1
  clear B4
  refine V_aload_0 40 dX12_init_40 ?_
  refine V_sipush 41 (403) dX12_init_41 (by decide) ?_
  refine V_newarray 44 14 403 (Or.inr (Or.inl ⟨rfl, rfl⟩)) dX12_init_44 ac_int (by decide) (by decide) (Nat.le_of_ble_eq_true rfl) hw (Nat.le_of_ble_eq_true rfl) (Nat.le_of_ble_eq_true rfl) ?_
  refine V_putF 46 (c := 12) 7 dX12_init_46 fl_RX12_27 (by simp only [PL_mem, sN_uI, sN_uR, sN_uA, sN_uJ, sN_uP, sN_nO, sN_nA]; omega) (by simp (disch := omega) only [sN_uI, sN_uR, sN_uA, sN_uJ, sN_uP, sN_nO, sN_nA, sK_uI, sK_uR, sK_uA, sK_uJ, sK_uP, sK_nO, sK_nA, va_up_ne, hk]) (Nat.le_of_ble_eq_true rfl) (Nat.le_of_ble_eq_true rfl) rfl rfl rfl rfl rfl rfl ?_
  refine V_abs (fun T9 => MB 6 [7, 6, 5, 3, 1] Γ.2.2.2.2.1 S h T9 ∧ sI T9 h = sI S4 h) (mb_arr B 7 14 403 rfl rfl) (fun S5 hx => ?_)
  obtain ⟨B5, E⟩ := hx
  replace hI := E.trans hI
  clear E
  replace B := B5
  replace hk : sK S5 h = 12 := (Option.some.inj B5.1.1.2.2.2.2.1).symm
  replace hb := B5.1.1.2.2.1
  clear B5
  refine V_aload_0 49 dX12_init_49 ?_
  refine V_sipush 50 (403) dX12_init_50 (by decide) ?_
  refine V_newarray 53 15 403 (Or.inr (Or.inr (Or.inl ⟨rfl, rfl⟩))) dX12_init_53 ac_long (by decide) (by decide) (Nat.le_of_ble_eq_true rfl) hw (Nat.le_of_ble_eq_true rfl) (Nat.le_of_ble_eq_true rfl) ?_
  refine V_putF 55 (c := 12) 8 dX12_init_55 fl_RX12_30 (by simp only [PL_mem, sN_uI, sN_uR, sN_uA, sN_uJ, sN_uP, sN_nO, sN_nA]; omega) (by simp (disch := omega) only [sN_uI, sN_uR, sN_uA, sN_uJ, sN_uP, sN_nO, sN_nA, sK_uI, sK_uR, sK_uA, sK_uJ, sK_uP, sK_nO, sK_nA, va_up_ne, hk]) (Nat.le_of_ble_eq_true rfl) (Nat.le_of_ble_eq_true rfl) rfl rfl rfl rfl rfl rfl ?_
  refine V_abs (fun T9 => MB 7 [8, 7, 6, 5, 3, 1] Γ.2.2.2.2.1 S h T9 ∧ sI T9 h = sI S5 h) (mb_arr B 8 15 403 rfl rfl) (fun S6 hx => ?_)
  obtain ⟨B6, E⟩ := hx
  replace hI := E.trans hI
  clear E
  replace B := B6
  replace hk : sK S6 h = 12 := (Option.some.inj B6.1.1.2.2.2.2.1).symm
  replace hb := B6.1.1.2.2.1
  clear B6
  refine V_aload_0 58 dX12_init_58 ?_
  refine V_bipush 59 (22) dX12_init_59 (by decide) ?_
  refine V_newarray 61 15 22 (Or.inr (Or.inr (Or.inl ⟨rfl, rfl⟩))) dX12_init_61 ac_long (by decide) (by decide) (Nat.le_of_ble_eq_true rfl) hw (Nat.le_of_ble_eq_true rfl) (Nat.le_of_ble_eq_true rfl) ?_
  refine V_putF 63 (c := 12) 9 dX12_init_63 fl_RX12_34 (by simp only [PL_mem, sN_uI, sN_uR, sN_uA, sN_uJ, sN_uP, sN_nO, sN_nA]; omega) (by simp (disch := omega) only [sN_uI, sN_uR, sN_uA, sN_uJ, sN_uP, sN_nO, sN_nA, sK_uI, sK_uR, sK_uA, sK_uJ, sK_uP, sK_nO, sK_nA, va_up_ne, hk]) (Nat.le_of_ble_eq_true rfl) (Nat.le_of_ble_eq_true rfl) rfl rfl rfl rfl rfl rfl ?_
  refine V_abs (fun T9 => MB 8 [9, 8, 7, 6, 5, 3, 1] Γ.2.2.2.2.1 S h T9 ∧ sI T9 h = sI S6 h) (mb_arr B 9 15 22 rfl rfl) (fun S7 hx => ?_)
  obtain ⟨B7, E⟩ := hx
  replace hI := E.trans hI
  clear E
  replace B := B7
  replace hk : sK S7 h = 12 := (Option.some.inj B7.1.1.2.2.2.2.1).symm
  replace hb := B7.1.1.2.2.1
  clear B7
  refine V_aload_0 66 dX12_init_66 ?_
  refine V_iconst 67 (-1) dX12_init_67 (by decide) ?_
  refine V_putI 68 (c := 12) 17 dX12_init_68 fl_RX12_37 (by simp only [PL_mem, sN_uI, sN_uR, sN_uA, sN_uJ, sN_uP, sN_nO, sN_nA]; omega) (by simp (disch := omega) only [sN_uI, sN_uR, sN_uA, sN_uJ, sN_uP, sN_nO, sN_nA, sK_uI, sK_uR, sK_uA, sK_uJ, sK_uP, sK_nO, sK_nA, va_up_ne, hk]) (Nat.le_of_ble_eq_true rfl) (Nat.le_of_ble_eq_true rfl) rfl (Or.inl rfl) ?_
  refine V_abs (fun T9 => MB 8 [9, 8, 7, 6, 5, 3, 1] Γ.2.2.2.2.1 S h T9 ∧ sI T9 h = (fun i => if i = 17 then -1 else sI S7 h i)) (mb_int B 17 (-1)) (fun S8 hx => ?_)
  obtain ⟨B8, E⟩ := hx
  rw [hI] at E
  replace hI := E
  clear E
  replace B := B8
  replace hk : sK S8 h = 12 := (Option.some.inj B8.1.1.2.2.2.2.1).symm
  replace hb := B8.1.1.2.2.1
  clear B8
  refine V_aload_0 71 dX12_init_71 ?_
  refine V_iconst 72 (2) dX12_init_72 (by decide) ?_
  refine V_newarray 73 14 2 (Or.inr (Or.inl ⟨rfl, rfl⟩)) dX12_init_73 ac_int (by decide) (by decide) (Nat.le_of_ble_eq_true rfl) hw (Nat.le_of_ble_eq_true rfl) (Nat.le_of_ble_eq_true rfl) ?_
  refine V_putF 75 (c := 12) 20 dX12_init_75 fl_RX12_40 (by simp only [PL_mem, sN_uI, sN_uR, sN_uA, sN_uJ, sN_uP, sN_nO, sN_nA]; omega) (by simp (disch := omega) only [sN_uI, sN_uR, sN_uA, sN_uJ, sN_uP, sN_nO, sN_nA, sK_uI, sK_uR, sK_uA, sK_uJ, sK_uP, sK_nO, sK_nA, va_up_ne, hk]) (Nat.le_of_ble_eq_true rfl) (Nat.le_of_ble_eq_true rfl) rfl rfl rfl rfl rfl rfl ?_
  refine V_abs (fun T9 => MB 9 [20, 9, 8, 7, 6, 5, 3, 1] Γ.2.2.2.2.1 S h T9 ∧ sI T9 h = sI S8 h) (mb_arr B 20 14 2 rfl rfl) (fun S9 hx => ?_)
  obtain ⟨B9, E⟩ := hx
  replace hI := E.trans hI
  clear E
  replace B := B9
  replace hk : sK S9 h = 12 := (Option.some.inj B9.1.1.2.2.2.2.1).symm
  replace hb := B9.1.1.2.2.1
  clear B9
  refine V_aload_0 78 dX12_init_78 ?_
  refine V_bipush 79 (8) dX12_init_79 (by decide) ?_
  refine V_newarray 81 15 8 (Or.inr (Or.inr (Or.inl ⟨rfl, rfl⟩))) dX12_init_81 ac_long (by decide) (by decide) (Nat.le_of_ble_eq_true rfl) hw (Nat.le_of_ble_eq_true rfl) (Nat.le_of_ble_eq_true rfl) ?_
  refine V_putF 83 (c := 12) 21 dX12_init_83 fl_RX12_43 (by simp only [PL_mem, sN_uI, sN_uR, sN_uA, sN_uJ, sN_uP, sN_nO, sN_nA]; omega) (by simp (disch := omega) only [sN_uI, sN_uR, sN_uA, sN_uJ, sN_uP, sN_nO, sN_nA, sK_uI, sK_uR, sK_uA, sK_uJ, sK_uP, sK_nO, sK_nA, va_up_ne, hk]) (Nat.le_of_ble_eq_true rfl) (Nat.le_of_ble_eq_true rfl) rfl rfl rfl rfl rfl rfl ?_
  refine V_abs (fun T9 => MB 10 [21, 20, 9, 8, 7, 6, 5, 3, 1] Γ.2.2.2.2.1 S h T9 ∧ sI T9 h = sI S9 h) (mb_arr B 21 15 8 rfl rfl) (fun S10 hx => ?_)
  obtain ⟨B10, E⟩ := hx
  replace hI := E.trans hI
  clear E
  replace B := B10
  replace hk : sK S10 h = 12 := (Option.some.inj B10.1.1.2.2.2.2.1).symm
  replace hb := B10.1.1.2.2.1
  clear B10
  refine V_aload_0 86 dX12_init_86 ?_
  refine V_bipush 87 (16) dX12_init_87 (by decide) ?_
  refine V_newarray 89 14 16 (Or.inr (Or.inl ⟨rfl, rfl⟩)) dX12_init_89 ac_int (by decide) (by decide) (Nat.le_of_ble_eq_true rfl) hw (Nat.le_of_ble_eq_true rfl) (Nat.le_of_ble_eq_true rfl) ?_
  refine V_putF 91 (c := 12) 22 dX12_init_91 fl_RX12_46 (by simp only [PL_mem, sN_uI, sN_uR, sN_uA, sN_uJ, sN_uP, sN_nO, sN_nA]; omega) (by simp (disch := omega) only [sN_uI, sN_uR, sN_uA, sN_uJ, sN_uP, sN_nO, sN_nA, sK_uI, sK_uR, sK_uA, sK_uJ, sK_uP, sK_nO, sK_nA, va_up_ne, hk]) (Nat.le_of_ble_eq_true rfl) (Nat.le_of_ble_eq_true rfl) rfl rfl rfl rfl rfl rfl ?_
  refine V_abs (fun T9 => MB 11 [22, 21, 20, 9, 8, 7, 6, 5, 3, 1] Γ.2.2.2.2.1 S h T9 ∧ sI T9 h = sI S10 h) (mb_arr B 22 14 16 rfl rfl) (fun S11 hx => ?_)
  obtain ⟨B11, E⟩ := hx
  replace hI := E.trans hI
  clear E
  replace B := B11
  replace hk : sK S11 h = 12 := (Option.some.inj B11.1.1.2.2.2.2.1).symm
  replace hb := B11.1.1.2.2.1
  clear B11
  refine V_aload_0 94 dX12_init_94 ?_
  refine V_iconst 95 (2) dX12_init_95 (by decide) ?_
  refine V_newarray 96 14 2 (Or.inr (Or.inl ⟨rfl, rfl⟩)) dX12_init_96 ac_int (by decide) (by decide) (Nat.le_of_ble_eq_true rfl) hw (Nat.le_of_ble_eq_true rfl) (Nat.le_of_ble_eq_true rfl) ?_
  refine V_putF 98 (c := 12) 23 dX12_init_98 fl_RX12_49 (by simp only [PL_mem, sN_uI, sN_uR, sN_uA, sN_uJ, sN_uP, sN_nO, sN_nA]; omega) (by simp (disch := omega) only [sN_uI, sN_uR, sN_uA, sN_uJ, sN_uP, sN_nO, sN_nA, sK_uI, sK_uR, sK_uA, sK_uJ, sK_uP, sK_nO, sK_nA, va_up_ne, hk]) (Nat.le_of_ble_eq_true rfl) (Nat.le_of_ble_eq_true rfl) rfl rfl rfl rfl rfl rfl ?_
  refine V_abs (fun T9 => MB 12 [23, 22, 21, 20, 9, 8, 7, 6, 5, 3, 1] Γ.2.2.2.2.1 S h T9 ∧ sI T9 h = sI S11 h) (mb_arr B 23 14 2 rfl rfl) (fun S12 hx => ?_)
  obtain ⟨B12, E⟩ := hx
  replace hI := E.trans hI
  clear E
  replace B := B12
  replace hk : sK S12 h = 12 := (Option.some.inj B12.1.1.2.2.2.2.1).symm
  replace hb := B12.1.1.2.2.1
  clear B12
  refine V_aload_0 101 dX12_init_101 ?_
  refine V_bipush 102 (16) dX12_init_102 (by decide) ?_
  refine V_newarray 104 14 16 (Or.inr (Or.inl ⟨rfl, rfl⟩)) dX12_init_104 ac_int (by decide) (by decide) (Nat.le_of_ble_eq_true rfl) hw (Nat.le_of_ble_eq_true rfl) (Nat.le_of_ble_eq_true rfl) ?_
  refine V_putF 106 (c := 12) 24 dX12_init_106 fl_RX12_52 (by simp only [PL_mem, sN_uI, sN_uR, sN_uA, sN_uJ, sN_uP, sN_nO, sN_nA]; omega) (by simp (disch := omega) only [sN_uI, sN_uR, sN_uA, sN_uJ, sN_uP, sN_nO, sN_nA, sK_uI, sK_uR, sK_uA, sK_uJ, sK_uP, sK_nO, sK_nA, va_up_ne, hk]) (Nat.le_of_ble_eq_true rfl) (Nat.le_of_ble_eq_true rfl) rfl rfl rfl rfl rfl rfl ?_
  refine V_abs (fun T9 => MB 13 [24, 23, 22, 21, 20, 9, 8, 7, 6, 5, 3, 1] Γ.2.2.2.2.1 S h T9 ∧ sI T9 h = sI S12 h) (mb_arr B 24 14 16 rfl rfl) (fun S13 hx => ?_)
  obtain ⟨B13, E⟩ := hx
  replace hI := E.trans hI
  clear E
  replace B := B13
  replace hk : sK S13 h = 12 := (Option.some.inj B13.1.1.2.2.2.2.1).symm
  replace hb := B13.1.1.2.2.1
  clear B13
  refine V_aload_0 109 dX12_init_109 ?_
  refine V_bipush 110 (16) dX12_init_110 (by decide) ?_
  refine V_newarray 112 14 16 (Or.inr (Or.inl ⟨rfl, rfl⟩)) dX12_init_112 ac_int (by decide) (by decide) (Nat.le_of_ble_eq_true rfl) hw (Nat.le_of_ble_eq_true rfl) (Nat.le_of_ble_eq_true rfl) ?_
  refine V_putF 114 (c := 12) 25 dX12_init_114 fl_RX12_55 (by simp only [PL_mem, sN_uI, sN_uR, sN_uA, sN_uJ, sN_uP, sN_nO, sN_nA]; omega) (by simp (disch := omega) only [sN_uI, sN_uR, sN_uA, sN_uJ, sN_uP, sN_nO, sN_nA, sK_uI, sK_uR, sK_uA, sK_uJ, sK_uP, sK_nO, sK_nA, va_up_ne, hk]) (Nat.le_of_ble_eq_true rfl) (Nat.le_of_ble_eq_true rfl) rfl rfl rfl rfl rfl rfl ?_
  refine V_abs (fun T9 => MB 14 [25, 24, 23, 22, 21, 20, 9, 8, 7, 6, 5, 3, 1] Γ.2.2.2.2.1 S h T9 ∧ sI T9 h = sI S13 h) (mb_arr B 25 14 16 rfl rfl) (fun S14 hx => ?_)
  obtain ⟨B14, E⟩ := hx
  replace hI := E.trans hI
  clear E
  replace B := B14
  replace hk : sK S14 h = 12 := (Option.some.inj B14.1.1.2.2.2.2.1).symm
  replace hb := B14.1.1.2.2.1
  clear B14
  refine V_aload_0 117 dX12_init_117 ?_
  refine V_bipush 118 (16) dX12_init_118 (by decide) ?_
  refine V_newarray 120 14 16 (Or.inr (Or.inl ⟨rfl, rfl⟩)) dX12_init_120 ac_int (by decide) (by decide) (Nat.le_of_ble_eq_true rfl) hw (Nat.le_of_ble_eq_true rfl) (Nat.le_of_ble_eq_true rfl) ?_
  refine V_putF 122 (c := 12) 26 dX12_init_122 fl_RX12_58 (by simp only [PL_mem, sN_uI, sN_uR, sN_uA, sN_uJ, sN_uP, sN_nO, sN_nA]; omega) (by simp (disch := omega) only [sN_uI, sN_uR, sN_uA, sN_uJ, sN_uP, sN_nO, sN_nA, sK_uI, sK_uR, sK_uA, sK_uJ, sK_uP, sK_nO, sK_nA, va_up_ne, hk]) (Nat.le_of_ble_eq_true rfl) (Nat.le_of_ble_eq_true rfl) rfl rfl rfl rfl rfl rfl ?_
  refine V_abs (fun T9 => MB 15 [26, 25, 24, 23, 22, 21, 20, 9, 8, 7, 6, 5, 3, 1] Γ.2.2.2.2.1 S h T9 ∧ sI T9 h = sI S14 h) (mb_arr B 26 14 16 rfl rfl) (fun S15 hx => ?_)
  obtain ⟨B15, E⟩ := hx
  replace hI := E.trans hI
  clear E
  replace B := B15
  replace hk : sK S15 h = 12 := (Option.some.inj B15.1.1.2.2.2.2.1).symm
  replace hb := B15.1.1.2.2.1
  clear B15
  refine V_aload_0 125 dX12_init_125 ?_
  refine V_iconst 126 (2) dX12_init_126 (by decide) ?_
  refine V_newarray 127 14 2 (Or.inr (Or.inl ⟨rfl, rfl⟩)) dX12_init_127 ac_int (by decide) (by decide) (Nat.le_of_ble_eq_true rfl) hw (Nat.le_of_ble_eq_true rfl) (Nat.le_of_ble_eq_true rfl) ?_
  refine V_putF 129 (c := 12) 27 dX12_init_129 fl_RX12_61 (by simp only [PL_mem, sN_uI, sN_uR, sN_uA, sN_uJ, sN_uP, sN_nO, sN_nA]; omega) (by simp (disch := omega) only [sN_uI, sN_uR, sN_uA, sN_uJ, sN_uP, sN_nO, sN_nA, sK_uI, sK_uR, sK_uA, sK_uJ, sK_uP, sK_nO, sK_nA, va_up_ne, hk]) (Nat.le_of_ble_eq_true rfl) (Nat.le_of_ble_eq_true rfl) rfl rfl rfl rfl rfl rfl ?_
  refine V_abs (fun T9 => MB 16 [27, 26, 25, 24, 23, 22, 21, 20, 9, 8, 7, 6, 5, 3, 1] Γ.2.2.2.2.1 S h T9 ∧ sI T9 h = sI S15 h) (mb_arr B 27 14 2 rfl rfl) (fun S16 hx => ?_)
  obtain ⟨B16, E⟩ := hx
  replace hI := E.trans hI
  clear E
  replace B := B16
  replace hk : sK S16 h = 12 := (Option.some.inj B16.1.1.2.2.2.2.1).symm
  replace hb := B16.1.1.2.2.1
  clear B16
  refine V_aload_0 132 dX12_init_132 ?_
  refine V_iconst 133 (2) dX12_init_133 (by decide) ?_
  refine V_newarray 134 14 2 (Or.inr (Or.inl ⟨rfl, rfl⟩)) dX12_init_134 ac_int (by decide) (by decide) (Nat.le_of_ble_eq_true rfl) hw (Nat.le_of_ble_eq_true rfl) (Nat.le_of_ble_eq_true rfl) ?_
  refine V_putF 136 (c := 12) 28 dX12_init_136 fl_RX12_64 (by simp only [PL_mem, sN_uI, sN_uR, sN_uA, sN_uJ, sN_uP, sN_nO, sN_nA]; omega) (by simp (disch := omega) only [sN_uI, sN_uR, sN_uA, sN_uJ, sN_uP, sN_nO, sN_nA, sK_uI, sK_uR, sK_uA, sK_uJ, sK_uP, sK_nO, sK_nA, va_up_ne, hk]) (Nat.le_of_ble_eq_true rfl) (Nat.le_of_ble_eq_true rfl) rfl rfl rfl rfl rfl rfl ?_
  refine V_abs (fun T9 => MB 17 [28, 27, 26, 25, 24, 23, 22, 21, 20, 9, 8, 7, 6, 5, 3, 1] Γ.2.2.2.2.1 S h T9 ∧ sI T9 h = sI S16 h) (mb_arr B 28 14 2 rfl rfl) (fun S17 hx => ?_)
  obtain ⟨B17, E⟩ := hx
  replace hI := E.trans hI
  clear E
  replace B := B17
  replace hk : sK S17 h = 12 := (Option.some.inj B17.1.1.2.2.2.2.1).symm
  replace hb := B17.1.1.2.2.1
  clear B17
  refine V_aload_0 139 dX12_init_139 ?_
  refine V_sipush 140 (128) dX12_init_140 (by decide) ?_
  refine V_newarray 143 14 128 (Or.inr (Or.inl ⟨rfl, rfl⟩)) dX12_init_143 ac_int (by decide) (by decide) (Nat.le_of_ble_eq_true rfl) hw (Nat.le_of_ble_eq_true rfl) (Nat.le_of_ble_eq_true rfl) ?_
  refine V_putF 145 (c := 12) 29 dX12_init_145 fl_RX12_67 (by simp only [PL_mem, sN_uI, sN_uR, sN_uA, sN_uJ, sN_uP, sN_nO, sN_nA]; omega) (by simp (disch := omega) only [sN_uI, sN_uR, sN_uA, sN_uJ, sN_uP, sN_nO, sN_nA, sK_uI, sK_uR, sK_uA, sK_uJ, sK_uP, sK_nO, sK_nA, va_up_ne, hk]) (Nat.le_of_ble_eq_true rfl) (Nat.le_of_ble_eq_true rfl) rfl rfl rfl rfl rfl rfl ?_
  refine V_abs (fun T9 => MB 18 [29, 28, 27, 26, 25, 24, 23, 22, 21, 20, 9, 8, 7, 6, 5, 3, 1] Γ.2.2.2.2.1 S h T9 ∧ sI T9 h = sI S17 h) (mb_arr B 29 14 128 rfl rfl) (fun S18 hx => ?_)
  obtain ⟨B18, E⟩ := hx
  replace hI := E.trans hI
  clear E
  replace B := B18
  replace hk : sK S18 h = 12 := (Option.some.inj B18.1.1.2.2.2.2.1).symm
  replace hb := B18.1.1.2.2.1
  clear B18
  refine V_aload_0 148 dX12_init_148 ?_
  refine V_iconst 149 (2) dX12_init_149 (by decide) ?_
  refine V_newarray 150 14 2 (Or.inr (Or.inl ⟨rfl, rfl⟩)) dX12_init_150 ac_int (by decide) (by decide) (Nat.le_of_ble_eq_true rfl) hw (Nat.le_of_ble_eq_true rfl) (Nat.le_of_ble_eq_true rfl) ?_
  refine V_putF 152 (c := 12) 30 dX12_init_152 fl_RX12_70 (by simp only [PL_mem, sN_uI, sN_uR, sN_uA, sN_uJ, sN_uP, sN_nO, sN_nA]; omega) (by simp (disch := omega) only [sN_uI, sN_uR, sN_uA, sN_uJ, sN_uP, sN_nO, sN_nA, sK_uI, sK_uR, sK_uA, sK_uJ, sK_uP, sK_nO, sK_nA, va_up_ne, hk]) (Nat.le_of_ble_eq_true rfl) (Nat.le_of_ble_eq_true rfl) rfl rfl rfl rfl rfl rfl ?_
  refine V_abs (fun T9 => MB 19 [30, 29, 28, 27, 26, 25, 24, 23, 22, 21, 20, 9, 8, 7, 6, 5, 3, 1] Γ.2.2.2.2.1 S h T9 ∧ sI T9 h = sI S18 h) (mb_arr B 30 14 2 rfl rfl) (fun S19 hx => ?_)
  obtain ⟨B19, E⟩ := hx
  replace hI := E.trans hI
  clear E
  replace B := B19
  replace hk : sK S19 h = 12 := (Option.some.inj B19.1.1.2.2.2.2.1).symm
  replace hb := B19.1.1.2.2.1
  clear B19
  refine V_aload_0 155 dX12_init_155 ?_
  refine V_iconst 156 (2) dX12_init_156 (by decide) ?_
  refine V_newarray 157 14 2 (Or.inr (Or.inl ⟨rfl, rfl⟩)) dX12_init_157 ac_int (by decide) (by decide) (Nat.le_of_ble_eq_true rfl) hw (Nat.le_of_ble_eq_true rfl) (Nat.le_of_ble_eq_true rfl) ?_
  refine V_putF 159 (c := 12) 31 dX12_init_159 fl_RX12_73 (by simp only [PL_mem, sN_uI, sN_uR, sN_uA, sN_uJ, sN_uP, sN_nO, sN_nA]; omega) (by simp (disch := omega) only [sN_uI, sN_uR, sN_uA, sN_uJ, sN_uP, sN_nO, sN_nA, sK_uI, sK_uR, sK_uA, sK_uJ, sK_uP, sK_nO, sK_nA, va_up_ne, hk]) (Nat.le_of_ble_eq_true rfl) (Nat.le_of_ble_eq_true rfl) rfl rfl rfl rfl rfl rfl ?_
  refine V_abs (fun T9 => MB 20 [31, 30, 29, 28, 27, 26, 25, 24, 23, 22, 21, 20, 9, 8, 7, 6, 5, 3, 1] Γ.2.2.2.2.1 S h T9 ∧ sI T9 h = sI S19 h) (mb_arr B 31 14 2 rfl rfl) (fun S20 hx => ?_)
  obtain ⟨B20, E⟩ := hx
  replace hI := E.trans hI
  clear E
  replace B := B20
  replace hk : sK S20 h = 12 := (Option.some.inj B20.1.1.2.2.2.2.1).symm
  replace hb := B20.1.1.2.2.1
  clear B20
  refine V_aload_0 162 dX12_init_162 ?_
  refine V_iconst 163 (2) dX12_init_163 (by decide) ?_
  refine V_newarray 164 14 2 (Or.inr (Or.inl ⟨rfl, rfl⟩)) dX12_init_164 ac_int (by decide) (by decide) (Nat.le_of_ble_eq_true rfl) hw (Nat.le_of_ble_eq_true rfl) (Nat.le_of_ble_eq_true rfl) ?_
  refine V_putF 166 (c := 12) 32 dX12_init_166 fl_RX12_76 (by simp only [PL_mem, sN_uI, sN_uR, sN_uA, sN_uJ, sN_uP, sN_nO, sN_nA]; omega) (by simp (disch := omega) only [sN_uI, sN_uR, sN_uA, sN_uJ, sN_uP, sN_nO, sN_nA, sK_uI, sK_uR, sK_uA, sK_uJ, sK_uP, sK_nO, sK_nA, va_up_ne, hk]) (Nat.le_of_ble_eq_true rfl) (Nat.le_of_ble_eq_true rfl) rfl rfl rfl rfl rfl rfl ?_
  refine V_abs (fun T9 => MB 21 [32, 31, 30, 29, 28, 27, 26, 25, 24, 23, 22, 21, 20, 9, 8, 7, 6, 5, 3, 1] Γ.2.2.2.2.1 S h T9 ∧ sI T9 h = sI S20 h) (mb_arr B 32 14 2 rfl rfl) (fun S21 hx => ?_)
  obtain ⟨B21, E⟩ := hx
  replace hI := E.trans hI
  clear E
  replace B := B21
  replace hk : sK S21 h = 12 := (Option.some.inj B21.1.1.2.2.2.2.1).symm
  replace hb := B21.1.1.2.2.1
  clear B21
  refine V_aload_0 169 dX12_init_169 ?_
  refine V_iconst 170 (2) dX12_init_170 (by decide) ?_
  refine V_newarray 171 14 2 (Or.inr (Or.inl ⟨rfl, rfl⟩)) dX12_init_171 ac_int (by decide) (by decide) (Nat.le_of_ble_eq_true rfl) hw (Nat.le_of_ble_eq_true rfl) (Nat.le_of_ble_eq_true rfl) ?_
  refine V_putF 173 (c := 12) 33 dX12_init_173 fl_RX12_79 (by simp only [PL_mem, sN_uI, sN_uR, sN_uA, sN_uJ, sN_uP, sN_nO, sN_nA]; omega) (by simp (disch := omega) only [sN_uI, sN_uR, sN_uA, sN_uJ, sN_uP, sN_nO, sN_nA, sK_uI, sK_uR, sK_uA, sK_uJ, sK_uP, sK_nO, sK_nA, va_up_ne, hk]) (Nat.le_of_ble_eq_true rfl) (Nat.le_of_ble_eq_true rfl) rfl rfl rfl rfl rfl rfl ?_
  refine V_abs (fun T9 => MB 22 [33, 32, 31, 30, 29, 28, 27, 26, 25, 24, 23, 22, 21, 20, 9, 8, 7, 6, 5, 3, 1] Γ.2.2.2.2.1 S h T9 ∧ sI T9 h = sI S21 h) (mb_arr B 33 14 2 rfl rfl) (fun S22 hx => ?_)
  obtain ⟨B22, E⟩ := hx
  replace hI := E.trans hI
  clear E
  replace B := B22
  replace hk : sK S22 h = 12 := (Option.some.inj B22.1.1.2.2.2.2.1).symm
  replace hb := B22.1.1.2.2.1
  clear B22
  refine V_aload_0 176 dX12_init_176 ?_
  refine V_bipush 177 (36) dX12_init_177 (by decide) ?_
  refine V_newarray 179 14 36 (Or.inr (Or.inl ⟨rfl, rfl⟩)) dX12_init_179 ac_int (by decide) (by decide) (Nat.le_of_ble_eq_true rfl) hw (Nat.le_of_ble_eq_true rfl) (Nat.le_of_ble_eq_true rfl) ?_
  refine V_putF 181 (c := 12) 34 dX12_init_181 fl_RX12_82 (by simp only [PL_mem, sN_uI, sN_uR, sN_uA, sN_uJ, sN_uP, sN_nO, sN_nA]; omega) (by simp (disch := omega) only [sN_uI, sN_uR, sN_uA, sN_uJ, sN_uP, sN_nO, sN_nA, sK_uI, sK_uR, sK_uA, sK_uJ, sK_uP, sK_nO, sK_nA, va_up_ne, hk]) (Nat.le_of_ble_eq_true rfl) (Nat.le_of_ble_eq_true rfl) rfl rfl rfl rfl rfl rfl ?_
  refine V_abs (fun T9 => MB 23 [34, 33, 32, 31, 30, 29, 28, 27, 26, 25, 24, 23, 22, 21, 20, 9, 8, 7, 6, 5, 3, 1] Γ.2.2.2.2.1 S h T9 ∧ sI T9 h = sI S22 h) (mb_arr B 34 14 36 rfl rfl) (fun S23 hx => ?_)
  obtain ⟨B23, E⟩ := hx
  replace hI := E.trans hI
  clear E
  replace B := B23
  replace hk : sK S23 h = 12 := (Option.some.inj B23.1.1.2.2.2.2.1).symm
  replace hb := B23.1.1.2.2.1
  clear B23
  refine V_aload_0 184 dX12_init_184 ?_
  refine V_bipush 185 (8) dX12_init_185 (by decide) ?_
  refine V_newarray 187 14 8 (Or.inr (Or.inl ⟨rfl, rfl⟩)) dX12_init_187 ac_int (by decide) (by decide) (Nat.le_of_ble_eq_true rfl) hw (Nat.le_of_ble_eq_true rfl) (Nat.le_of_ble_eq_true rfl) ?_
  refine V_putF 189 (c := 12) 35 dX12_init_189 fl_RX12_85 (by simp only [PL_mem, sN_uI, sN_uR, sN_uA, sN_uJ, sN_uP, sN_nO, sN_nA]; omega) (by simp (disch := omega) only [sN_uI, sN_uR, sN_uA, sN_uJ, sN_uP, sN_nO, sN_nA, sK_uI, sK_uR, sK_uA, sK_uJ, sK_uP, sK_nO, sK_nA, va_up_ne, hk]) (Nat.le_of_ble_eq_true rfl) (Nat.le_of_ble_eq_true rfl) rfl rfl rfl rfl rfl rfl ?_
  refine V_abs (fun T9 => MB 24 [35, 34, 33, 32, 31, 30, 29, 28, 27, 26, 25, 24, 23, 22, 21, 20, 9, 8, 7, 6, 5, 3, 1] Γ.2.2.2.2.1 S h T9 ∧ sI T9 h = sI S23 h) (mb_arr B 35 14 8 rfl rfl) (fun S24 hx => ?_)
  obtain ⟨B24, E⟩ := hx
  replace hI := E.trans hI
  clear E
  replace B := B24
  replace hk : sK S24 h = 12 := (Option.some.inj B24.1.1.2.2.2.2.1).symm
  replace hb := B24.1.1.2.2.1
  clear B24
  refine V_aload_0 192 dX12_init_192 ?_
  refine V_iconst 193 (2) dX12_init_193 (by decide) ?_
  refine V_newarray 194 14 2 (Or.inr (Or.inl ⟨rfl, rfl⟩)) dX12_init_194 ac_int (by decide) (by decide) (Nat.le_of_ble_eq_true rfl) hw (Nat.le_of_ble_eq_true rfl) (Nat.le_of_ble_eq_true rfl) ?_
  refine V_putF 196 (c := 12) 36 dX12_init_196 fl_RX12_88 (by simp only [PL_mem, sN_uI, sN_uR, sN_uA, sN_uJ, sN_uP, sN_nO, sN_nA]; omega) (by simp (disch := omega) only [sN_uI, sN_uR, sN_uA, sN_uJ, sN_uP, sN_nO, sN_nA, sK_uI, sK_uR, sK_uA, sK_uJ, sK_uP, sK_nO, sK_nA, va_up_ne, hk]) (Nat.le_of_ble_eq_true rfl) (Nat.le_of_ble_eq_true rfl) rfl rfl rfl rfl rfl rfl ?_
  refine V_abs (fun T9 => MB 25 [36, 35, 34, 33, 32, 31, 30, 29, 28, 27, 26, 25, 24, 23, 22, 21, 20, 9, 8, 7, 6, 5, 3, 1] Γ.2.2.2.2.1 S h T9 ∧ sI T9 h = sI S24 h) (mb_arr B 36 14 2 rfl rfl) (fun S25 hx => ?_)
  obtain ⟨B25, E⟩ := hx
  replace hI := E.trans hI
  clear E
  replace B := B25
  replace hk : sK S25 h = 12 := (Option.some.inj B25.1.1.2.2.2.2.1).symm
  replace hb := B25.1.1.2.2.1
  clear B25
  refine V_aload_0 199 dX12_init_199 ?_
  refine V_iconst 200 (2) dX12_init_200 (by decide) ?_
  refine V_newarray 201 14 2 (Or.inr (Or.inl ⟨rfl, rfl⟩)) dX12_init_201 ac_int (by decide) (by decide) (Nat.le_of_ble_eq_true rfl) hw (Nat.le_of_ble_eq_true rfl) (Nat.le_of_ble_eq_true rfl) ?_
  refine V_putF 203 (c := 12) 37 dX12_init_203 fl_RX12_91 (by simp only [PL_mem, sN_uI, sN_uR, sN_uA, sN_uJ, sN_uP, sN_nO, sN_nA]; omega) (by simp (disch := omega) only [sN_uI, sN_uR, sN_uA, sN_uJ, sN_uP, sN_nO, sN_nA, sK_uI, sK_uR, sK_uA, sK_uJ, sK_uP, sK_nO, sK_nA, va_up_ne, hk]) (Nat.le_of_ble_eq_true rfl) (Nat.le_of_ble_eq_true rfl) rfl rfl rfl rfl rfl rfl ?_
  refine V_abs (fun T9 => MB 26 [37, 36, 35, 34, 33, 32, 31, 30, 29, 28, 27, 26, 25, 24, 23, 22, 21, 20, 9, 8, 7, 6, 5, 3, 1] Γ.2.2.2.2.1 S h T9 ∧ sI T9 h = sI S25 h) (mb_arr B 37 14 2 rfl rfl) (fun S26 hx => ?_)
  obtain ⟨B26, E⟩ := hx
  replace hI := E.trans hI
  clear E
  replace B := B26
  replace hk : sK S26 h = 12 := (Option.some.inj B26.1.1.2.2.2.2.1).symm
  replace hb := B26.1.1.2.2.1
  clear B26
  refine V_aload_0 206 dX12_init_206 ?_
  refine V_iconst 207 (2) dX12_init_207 (by decide) ?_
  refine V_newarray 208 14 2 (Or.inr (Or.inl ⟨rfl, rfl⟩)) dX12_init_208 ac_int (by decide) (by decide) (Nat.le_of_ble_eq_true rfl) hw (Nat.le_of_ble_eq_true rfl) (Nat.le_of_ble_eq_true rfl) ?_
  refine V_putF 210 (c := 12) 38 dX12_init_210 fl_RX12_94 (by simp only [PL_mem, sN_uI, sN_uR, sN_uA, sN_uJ, sN_uP, sN_nO, sN_nA]; omega) (by simp (disch := omega) only [sN_uI, sN_uR, sN_uA, sN_uJ, sN_uP, sN_nO, sN_nA, sK_uI, sK_uR, sK_uA, sK_uJ, sK_uP, sK_nO, sK_nA, va_up_ne, hk]) (Nat.le_of_ble_eq_true rfl) (Nat.le_of_ble_eq_true rfl) rfl rfl rfl rfl rfl rfl ?_
  refine V_abs (fun T9 => MB 27 [38, 37, 36, 35, 34, 33, 32, 31, 30, 29, 28, 27, 26, 25, 24, 23, 22, 21, 20, 9, 8, 7, 6, 5, 3, 1] Γ.2.2.2.2.1 S h T9 ∧ sI T9 h = sI S26 h) (mb_arr B 38 14 2 rfl rfl) (fun S27 hx => ?_)
  obtain ⟨B27, E⟩ := hx
  replace hI := E.trans hI
  clear E
  replace B := B27
  replace hk : sK S27 h = 12 := (Option.some.inj B27.1.1.2.2.2.2.1).symm
  replace hb := B27.1.1.2.2.1
  clear B27
  refine V_aload_0 213 dX12_init_213 ?_
  refine V_sipush 214 (260) dX12_init_214 (by decide) ?_
  refine V_newarray 217 16 260 (Or.inr (Or.inr (Or.inr ⟨rfl, rfl⟩))) dX12_init_217 ac_boolean (by decide) (by decide) (Nat.le_of_ble_eq_true rfl) hw (Nat.le_of_ble_eq_true rfl) (Nat.le_of_ble_eq_true rfl) ?_
  refine V_putF 219 (c := 12) 40 dX12_init_219 fl_RX12_97 (by simp only [PL_mem, sN_uI, sN_uR, sN_uA, sN_uJ, sN_uP, sN_nO, sN_nA]; omega) (by simp (disch := omega) only [sN_uI, sN_uR, sN_uA, sN_uJ, sN_uP, sN_nO, sN_nA, sK_uI, sK_uR, sK_uA, sK_uJ, sK_uP, sK_nO, sK_nA, va_up_ne, hk]) (Nat.le_of_ble_eq_true rfl) (Nat.le_of_ble_eq_true rfl) rfl rfl rfl rfl rfl rfl ?_
  refine V_abs (fun T9 => MB 28 [40, 38, 37, 36, 35, 34, 33, 32, 31, 30, 29, 28, 27, 26, 25, 24, 23, 22, 21, 20, 9, 8, 7, 6, 5, 3, 1] Γ.2.2.2.2.1 S h T9 ∧ sI T9 h = sI S27 h) (mb_arr B 40 16 260 rfl rfl) (fun S28 hx => ?_)
  obtain ⟨B28, E⟩ := hx
  replace hI := E.trans hI
  clear E
  replace B := B28
  replace hk : sK S28 h = 12 := (Option.some.inj B28.1.1.2.2.2.2.1).symm
  replace hb := B28.1.1.2.2.1
  clear B28
  refine V_aload_0 222 dX12_init_222 ?_
  refine V_sipush 223 (260) dX12_init_223 (by decide) ?_
  refine V_newarray 226 14 260 (Or.inr (Or.inl ⟨rfl, rfl⟩)) dX12_init_226 ac_int (by decide) (by decide) (Nat.le_of_ble_eq_true rfl) hw (Nat.le_of_ble_eq_true rfl) (Nat.le_of_ble_eq_true rfl) ?_
  refine V_putF 228 (c := 12) 41 dX12_init_228 fl_RX12_101 (by simp only [PL_mem, sN_uI, sN_uR, sN_uA, sN_uJ, sN_uP, sN_nO, sN_nA]; omega) (by simp (disch := omega) only [sN_uI, sN_uR, sN_uA, sN_uJ, sN_uP, sN_nO, sN_nA, sK_uI, sK_uR, sK_uA, sK_uJ, sK_uP, sK_nO, sK_nA, va_up_ne, hk]) (Nat.le_of_ble_eq_true rfl) (Nat.le_of_ble_eq_true rfl) rfl rfl rfl rfl rfl rfl ?_
  refine V_abs (fun T9 => MB 29 [41, 40, 38, 37, 36, 35, 34, 33, 32, 31, 30, 29, 28, 27, 26, 25, 24, 23, 22, 21, 20, 9, 8, 7, 6, 5, 3, 1] Γ.2.2.2.2.1 S h T9 ∧ sI T9 h = sI S28 h) (mb_arr B 41 14 260 rfl rfl) (fun S29 hx => ?_)
  obtain ⟨B29, E⟩ := hx
  replace hI := E.trans hI
  clear E
  replace B := B29
  replace hk : sK S29 h = 12 := (Option.some.inj B29.1.1.2.2.2.2.1).symm
  replace hb := B29.1.1.2.2.1
  clear B29
  refine V_aload_0 231 dX12_init_231 ?_
  refine V_sipush 232 (260) dX12_init_232 (by decide) ?_
  refine V_newarray 235 14 260 (Or.inr (Or.inl ⟨rfl, rfl⟩)) dX12_init_235 ac_int (by decide) (by decide) (Nat.le_of_ble_eq_true rfl) hw (Nat.le_of_ble_eq_true rfl) (Nat.le_of_ble_eq_true rfl) ?_
  refine V_putF 237 (c := 12) 42 dX12_init_237 fl_RX12_104 (by simp only [PL_mem, sN_uI, sN_uR, sN_uA, sN_uJ, sN_uP, sN_nO, sN_nA]; omega) (by simp (disch := omega) only [sN_uI, sN_uR, sN_uA, sN_uJ, sN_uP, sN_nO, sN_nA, sK_uI, sK_uR, sK_uA, sK_uJ, sK_uP, sK_nO, sK_nA, va_up_ne, hk]) (Nat.le_of_ble_eq_true rfl) (Nat.le_of_ble_eq_true rfl) rfl rfl rfl rfl rfl rfl ?_
  refine V_abs (fun T9 => MB 30 [42, 41, 40, 38, 37, 36, 35, 34, 33, 32, 31, 30, 29, 28, 27, 26, 25, 24, 23, 22, 21, 20, 9, 8, 7, 6, 5, 3, 1] Γ.2.2.2.2.1 S h T9 ∧ sI T9 h = sI S29 h) (mb_arr B 42 14 260 rfl rfl) (fun S30 hx => ?_)
  obtain ⟨B30, E⟩ := hx
  replace hI := E.trans hI
  clear E
  replace B := B30
  replace hk : sK S30 h = 12 := (Option.some.inj B30.1.1.2.2.2.2.1).symm
  replace hb := B30.1.1.2.2.1
  clear B30
  refine V_aload_0 240 dX12_init_240 ?_
  refine V_sipush 241 (260) dX12_init_241 (by decide) ?_
  refine V_newarray 244 14 260 (Or.inr (Or.inl ⟨rfl, rfl⟩)) dX12_init_244 ac_int (by decide) (by decide) (Nat.le_of_ble_eq_true rfl) hw (Nat.le_of_ble_eq_true rfl) (Nat.le_of_ble_eq_true rfl) ?_
  refine V_putF 246 (c := 12) 43 dX12_init_246 fl_RX12_107 (by simp only [PL_mem, sN_uI, sN_uR, sN_uA, sN_uJ, sN_uP, sN_nO, sN_nA]; omega) (by simp (disch := omega) only [sN_uI, sN_uR, sN_uA, sN_uJ, sN_uP, sN_nO, sN_nA, sK_uI, sK_uR, sK_uA, sK_uJ, sK_uP, sK_nO, sK_nA, va_up_ne, hk]) (Nat.le_of_ble_eq_true rfl) (Nat.le_of_ble_eq_true rfl) rfl rfl rfl rfl rfl rfl ?_
  refine V_abs (fun T9 => MB 31 [43, 42, 41, 40, 38, 37, 36, 35, 34, 33, 32, 31, 30, 29, 28, 27, 26, 25, 24, 23, 22, 21, 20, 9, 8, 7, 6, 5, 3, 1] Γ.2.2.2.2.1 S h T9 ∧ sI T9 h = sI S30 h) (mb_arr B 43 14 260 rfl rfl) (fun S31 hx => ?_)
  obtain ⟨B31, E⟩ := hx
  replace hI := E.trans hI
  clear E
  replace B := B31
  replace hk : sK S31 h = 12 := (Option.some.inj B31.1.1.2.2.2.2.1).symm
  replace hb := B31.1.1.2.2.1
  clear B31
  refine V_aload_0 249 dX12_init_249 ?_
  refine V_sipush 250 (260) dX12_init_250 (by decide) ?_
  refine V_newarray 253 14 260 (Or.inr (Or.inl ⟨rfl, rfl⟩)) dX12_init_253 ac_int (by decide) (by decide) (Nat.le_of_ble_eq_true rfl) hw (Nat.le_of_ble_eq_true rfl) (Nat.le_of_ble_eq_true rfl) ?_
  refine V_putF 255 (c := 12) 44 dX12_init_255 fl_RX12_110 (by simp only [PL_mem, sN_uI, sN_uR, sN_uA, sN_uJ, sN_uP, sN_nO, sN_nA]; omega) (by simp (disch := omega) only [sN_uI, sN_uR, sN_uA, sN_uJ, sN_uP, sN_nO, sN_nA, sK_uI, sK_uR, sK_uA, sK_uJ, sK_uP, sK_nO, sK_nA, va_up_ne, hk]) (Nat.le_of_ble_eq_true rfl) (Nat.le_of_ble_eq_true rfl) rfl rfl rfl rfl rfl rfl ?_
  refine V_abs (fun T9 => MB 32 [44, 43, 42, 41, 40, 38, 37, 36, 35, 34, 33, 32, 31, 30, 29, 28, 27, 26, 25, 24, 23, 22, 21, 20, 9, 8, 7, 6, 5, 3, 1] Γ.2.2.2.2.1 S h T9 ∧ sI T9 h = sI S31 h) (mb_arr B 44 14 260 rfl rfl) (fun S32 hx => ?_)
  obtain ⟨B32, E⟩ := hx
  replace hI := E.trans hI
  clear E
  replace B := B32
  replace hk : sK S32 h = 12 := (Option.some.inj B32.1.1.2.2.2.2.1).symm
  replace hb := B32.1.1.2.2.1
  clear B32
  refine V_aload_0 258 dX12_init_258 ?_
  refine V_sipush 259 (840) dX12_init_259 (by decide) ?_
  refine V_newarray 262 14 840 (Or.inr (Or.inl ⟨rfl, rfl⟩)) dX12_init_262 ac_int (by decide) (by decide) (Nat.le_of_ble_eq_true rfl) hw (Nat.le_of_ble_eq_true rfl) (Nat.le_of_ble_eq_true rfl) ?_
  refine V_putF 264 (c := 12) 46 dX12_init_264 fl_RX12_113 (by simp only [PL_mem, sN_uI, sN_uR, sN_uA, sN_uJ, sN_uP, sN_nO, sN_nA]; omega) (by simp (disch := omega) only [sN_uI, sN_uR, sN_uA, sN_uJ, sN_uP, sN_nO, sN_nA, sK_uI, sK_uR, sK_uA, sK_uJ, sK_uP, sK_nO, sK_nA, va_up_ne, hk]) (Nat.le_of_ble_eq_true rfl) (Nat.le_of_ble_eq_true rfl) rfl rfl rfl rfl rfl rfl ?_
  refine V_abs (fun T9 => MB 33 [46, 44, 43, 42, 41, 40, 38, 37, 36, 35, 34, 33, 32, 31, 30, 29, 28, 27, 26, 25, 24, 23, 22, 21, 20, 9, 8, 7, 6, 5, 3, 1] Γ.2.2.2.2.1 S h T9 ∧ sI T9 h = sI S32 h) (mb_arr B 46 14 840 rfl rfl) (fun S33 hx => ?_)
  obtain ⟨B33, E⟩ := hx
  replace hI := E.trans hI
  clear E
  replace B := B33
  replace hk : sK S33 h = 12 := (Option.some.inj B33.1.1.2.2.2.2.1).symm
  replace hb := B33.1.1.2.2.1
  clear B33
  refine V_aload_0 267 dX12_init_267 ?_
  refine V_sipush 268 (840) dX12_init_268 (by decide) ?_
  refine V_newarray 271 14 840 (Or.inr (Or.inl ⟨rfl, rfl⟩)) dX12_init_271 ac_int (by decide) (by decide) (Nat.le_of_ble_eq_true rfl) hw (Nat.le_of_ble_eq_true rfl) (Nat.le_of_ble_eq_true rfl) ?_
  refine V_putF 273 (c := 12) 47 dX12_init_273 fl_RX12_116 (by simp only [PL_mem, sN_uI, sN_uR, sN_uA, sN_uJ, sN_uP, sN_nO, sN_nA]; omega) (by simp (disch := omega) only [sN_uI, sN_uR, sN_uA, sN_uJ, sN_uP, sN_nO, sN_nA, sK_uI, sK_uR, sK_uA, sK_uJ, sK_uP, sK_nO, sK_nA, va_up_ne, hk]) (Nat.le_of_ble_eq_true rfl) (Nat.le_of_ble_eq_true rfl) rfl rfl rfl rfl rfl rfl ?_
  refine V_abs (fun T9 => MB 34 [47, 46, 44, 43, 42, 41, 40, 38, 37, 36, 35, 34, 33, 32, 31, 30, 29, 28, 27, 26, 25, 24, 23, 22, 21, 20, 9, 8, 7, 6, 5, 3, 1] Γ.2.2.2.2.1 S h T9 ∧ sI T9 h = sI S33 h) (mb_arr B 47 14 840 rfl rfl) (fun S34 hx => ?_)
  obtain ⟨B34, E⟩ := hx
  replace hI := E.trans hI
  clear E
  replace B := B34
  replace hk : sK S34 h = 12 := (Option.some.inj B34.1.1.2.2.2.2.1).symm
  replace hb := B34.1.1.2.2.1
  clear B34
  refine V_aload_0 276 dX12_init_276 ?_
  refine V_bipush 277 (64) dX12_init_277 (by decide) ?_
  refine V_newarray 279 14 64 (Or.inr (Or.inl ⟨rfl, rfl⟩)) dX12_init_279 ac_int (by decide) (by decide) (Nat.le_of_ble_eq_true rfl) hw (Nat.le_of_ble_eq_true rfl) (Nat.le_of_ble_eq_true rfl) ?_
  refine V_putF 281 (c := 12) 48 dX12_init_281 fl_RX12_119 (by simp only [PL_mem, sN_uI, sN_uR, sN_uA, sN_uJ, sN_uP, sN_nO, sN_nA]; omega) (by simp (disch := omega) only [sN_uI, sN_uR, sN_uA, sN_uJ, sN_uP, sN_nO, sN_nA, sK_uI, sK_uR, sK_uA, sK_uJ, sK_uP, sK_nO, sK_nA, va_up_ne, hk]) (Nat.le_of_ble_eq_true rfl) (Nat.le_of_ble_eq_true rfl) rfl rfl rfl rfl rfl rfl ?_
  refine V_abs (fun T9 => MB 35 [48, 47, 46, 44, 43, 42, 41, 40, 38, 37, 36, 35, 34, 33, 32, 31, 30, 29, 28, 27, 26, 25, 24, 23, 22, 21, 20, 9, 8, 7, 6, 5, 3, 1] Γ.2.2.2.2.1 S h T9 ∧ sI T9 h = sI S34 h) (mb_arr B 48 14 64 rfl rfl) (fun S35 hx => ?_)
  obtain ⟨B35, E⟩ := hx
  replace hI := E.trans hI
  clear E
  replace B := B35
  replace hk : sK S35 h = 12 := (Option.some.inj B35.1.1.2.2.2.2.1).symm
  replace hb := B35.1.1.2.2.1
  clear B35
  refine V_aload_0 284 dX12_init_284 ?_
  refine V_iconst 285 (5) dX12_init_285 (by decide) ?_
  refine V_newarray 286 14 5 (Or.inr (Or.inl ⟨rfl, rfl⟩)) dX12_init_286 ac_int (by decide) (by decide) (Nat.le_of_ble_eq_true rfl) hw (Nat.le_of_ble_eq_true rfl) (Nat.le_of_ble_eq_true rfl) ?_
  refine V_putF 288 (c := 12) 50 dX12_init_288 fl_RX12_122 (by simp only [PL_mem, sN_uI, sN_uR, sN_uA, sN_uJ, sN_uP, sN_nO, sN_nA]; omega) (by simp (disch := omega) only [sN_uI, sN_uR, sN_uA, sN_uJ, sN_uP, sN_nO, sN_nA, sK_uI, sK_uR, sK_uA, sK_uJ, sK_uP, sK_nO, sK_nA, va_up_ne, hk]) (Nat.le_of_ble_eq_true rfl) (Nat.le_of_ble_eq_true rfl) rfl rfl rfl rfl rfl rfl ?_
  refine V_abs (fun T9 => MB 36 [50, 48, 47, 46, 44, 43, 42, 41, 40, 38, 37, 36, 35, 34, 33, 32, 31, 30, 29, 28, 27, 26, 25, 24, 23, 22, 21, 20, 9, 8, 7, 6, 5, 3, 1] Γ.2.2.2.2.1 S h T9 ∧ sI T9 h = sI S35 h) (mb_arr B 50 14 5 rfl rfl) (fun S36 hx => ?_)
  obtain ⟨B36, E⟩ := hx
  replace hI := E.trans hI
  clear E
  replace B := B36
  replace hk : sK S36 h = 12 := (Option.some.inj B36.1.1.2.2.2.2.1).symm
  replace hb := B36.1.1.2.2.1
  clear B36
  refine V_aload_0 291 dX12_init_291 ?_
  refine V_sipush 292 (400) dX12_init_292 (by decide) ?_
  refine V_newarray 295 14 400 (Or.inr (Or.inl ⟨rfl, rfl⟩)) dX12_init_295 ac_int (by decide) (by decide) (Nat.le_of_ble_eq_true rfl) hw (Nat.le_of_ble_eq_true rfl) (Nat.le_of_ble_eq_true rfl) ?_
  refine V_putF 297 (c := 12) 51 dX12_init_297 fl_RX12_125 (by simp only [PL_mem, sN_uI, sN_uR, sN_uA, sN_uJ, sN_uP, sN_nO, sN_nA]; omega) (by simp (disch := omega) only [sN_uI, sN_uR, sN_uA, sN_uJ, sN_uP, sN_nO, sN_nA, sK_uI, sK_uR, sK_uA, sK_uJ, sK_uP, sK_nO, sK_nA, va_up_ne, hk]) (Nat.le_of_ble_eq_true rfl) (Nat.le_of_ble_eq_true rfl) rfl rfl rfl rfl rfl rfl ?_
  refine V_abs (fun T9 => MB 37 [51, 50, 48, 47, 46, 44, 43, 42, 41, 40, 38, 37, 36, 35, 34, 33, 32, 31, 30, 29, 28, 27, 26, 25, 24, 23, 22, 21, 20, 9, 8, 7, 6, 5, 3, 1] Γ.2.2.2.2.1 S h T9 ∧ sI T9 h = sI S36 h) (mb_arr B 51 14 400 rfl rfl) (fun S37 hx => ?_)
  obtain ⟨B37, E⟩ := hx
  replace hI := E.trans hI
  clear E
  replace B := B37
  replace hk : sK S37 h = 12 := (Option.some.inj B37.1.1.2.2.2.2.1).symm
  replace hb := B37.1.1.2.2.1
  clear B37
  refine V_aload_0 300 dX12_init_300 ?_
  refine V_bipush 301 (30) dX12_init_301 (by decide) ?_
  refine V_newarray 303 14 30 (Or.inr (Or.inl ⟨rfl, rfl⟩)) dX12_init_303 ac_int (by decide) (by decide) (Nat.le_of_ble_eq_true rfl) hw (Nat.le_of_ble_eq_true rfl) (Nat.le_of_ble_eq_true rfl) ?_
  refine V_putF 305 (c := 12) 53 dX12_init_305 fl_RX12_128 (by simp only [PL_mem, sN_uI, sN_uR, sN_uA, sN_uJ, sN_uP, sN_nO, sN_nA]; omega) (by simp (disch := omega) only [sN_uI, sN_uR, sN_uA, sN_uJ, sN_uP, sN_nO, sN_nA, sK_uI, sK_uR, sK_uA, sK_uJ, sK_uP, sK_nO, sK_nA, va_up_ne, hk]) (Nat.le_of_ble_eq_true rfl) (Nat.le_of_ble_eq_true rfl) rfl rfl rfl rfl rfl rfl ?_
  refine V_abs (fun T9 => MB 38 [53, 51, 50, 48, 47, 46, 44, 43, 42, 41, 40, 38, 37, 36, 35, 34, 33, 32, 31, 30, 29, 28, 27, 26, 25, 24, 23, 22, 21, 20, 9, 8, 7, 6, 5, 3, 1] Γ.2.2.2.2.1 S h T9 ∧ sI T9 h = sI S37 h) (mb_arr B 53 14 30 rfl rfl) (fun S38 hx => ?_)
  obtain ⟨B38, E⟩ := hx
  replace hI := E.trans hI
  clear E
  replace B := B38
  replace hk : sK S38 h = 12 := (Option.some.inj B38.1.1.2.2.2.2.1).symm
  replace hb := B38.1.1.2.2.1
  clear B38
  refine V_aload_0 308 dX12_init_308 ?_
  refine V_bipush 309 (30) dX12_init_309 (by decide) ?_
  refine V_newarray 311 14 30 (Or.inr (Or.inl ⟨rfl, rfl⟩)) dX12_init_311 ac_int (by decide) (by decide) (Nat.le_of_ble_eq_true rfl) hw (Nat.le_of_ble_eq_true rfl) (Nat.le_of_ble_eq_true rfl) ?_
  refine V_putF 313 (c := 12) 54 dX12_init_313 fl_RX12_131 (by simp only [PL_mem, sN_uI, sN_uR, sN_uA, sN_uJ, sN_uP, sN_nO, sN_nA]; omega) (by simp (disch := omega) only [sN_uI, sN_uR, sN_uA, sN_uJ, sN_uP, sN_nO, sN_nA, sK_uI, sK_uR, sK_uA, sK_uJ, sK_uP, sK_nO, sK_nA, va_up_ne, hk]) (Nat.le_of_ble_eq_true rfl) (Nat.le_of_ble_eq_true rfl) rfl rfl rfl rfl rfl rfl ?_
  refine V_abs (fun T9 => MB 39 [54, 53, 51, 50, 48, 47, 46, 44, 43, 42, 41, 40, 38, 37, 36, 35, 34, 33, 32, 31, 30, 29, 28, 27, 26, 25, 24, 23, 22, 21, 20, 9, 8, 7, 6, 5, 3, 1] Γ.2.2.2.2.1 S h T9 ∧ sI T9 h = sI S38 h) (mb_arr B 54 14 30 rfl rfl) (fun S39 hx => ?_)
  obtain ⟨B39, E⟩ := hx
  replace hI := E.trans hI
  clear E
  replace B := B39
  replace hk : sK S39 h = 12 := (Option.some.inj B39.1.1.2.2.2.2.1).symm
  replace hb := B39.1.1.2.2.1
  clear B39
  refine V_aload_0 316 dX12_init_316 ?_
  refine V_sipush 317 (1200) dX12_init_317 (by decide) ?_
  refine V_newarray 320 14 1200 (Or.inr (Or.inl ⟨rfl, rfl⟩)) dX12_init_320 ac_int (by decide) (by decide) (Nat.le_of_ble_eq_true rfl) hw (Nat.le_of_ble_eq_true rfl) (Nat.le_of_ble_eq_true rfl) ?_
  refine V_putF 322 (c := 12) 58 dX12_init_322 fl_RX12_134 (by simp only [PL_mem, sN_uI, sN_uR, sN_uA, sN_uJ, sN_uP, sN_nO, sN_nA]; omega) (by simp (disch := omega) only [sN_uI, sN_uR, sN_uA, sN_uJ, sN_uP, sN_nO, sN_nA, sK_uI, sK_uR, sK_uA, sK_uJ, sK_uP, sK_nO, sK_nA, va_up_ne, hk]) (Nat.le_of_ble_eq_true rfl) (Nat.le_of_ble_eq_true rfl) rfl rfl rfl rfl rfl rfl ?_
  refine V_abs (fun T9 => MB 40 [58, 54, 53, 51, 50, 48, 47, 46, 44, 43, 42, 41, 40, 38, 37, 36, 35, 34, 33, 32, 31, 30, 29, 28, 27, 26, 25, 24, 23, 22, 21, 20, 9, 8, 7, 6, 5, 3, 1] Γ.2.2.2.2.1 S h T9 ∧ sI T9 h = sI S39 h) (mb_arr B 58 14 1200 rfl rfl) (fun S40 hx => ?_)
  obtain ⟨B40, E⟩ := hx
  replace hI := E.trans hI
  clear E
  replace B := B40
  replace hk : sK S40 h = 12 := (Option.some.inj B40.1.1.2.2.2.2.1).symm
  replace hb := B40.1.1.2.2.1
  clear B40
  refine V_aload_0 325 dX12_init_325 ?_
  refine V_bipush 326 (9) dX12_init_326 (by decide) ?_
  refine V_newarray 328 14 9 (Or.inr (Or.inl ⟨rfl, rfl⟩)) dX12_init_328 ac_int (by decide) (by decide) (Nat.le_of_ble_eq_true rfl) hw (Nat.le_of_ble_eq_true rfl) (Nat.le_of_ble_eq_true rfl) ?_
  refine V_putF 330 (c := 12) 59 dX12_init_330 fl_RX12_137 (by simp only [PL_mem, sN_uI, sN_uR, sN_uA, sN_uJ, sN_uP, sN_nO, sN_nA]; omega) (by simp (disch := omega) only [sN_uI, sN_uR, sN_uA, sN_uJ, sN_uP, sN_nO, sN_nA, sK_uI, sK_uR, sK_uA, sK_uJ, sK_uP, sK_nO, sK_nA, va_up_ne, hk]) (Nat.le_of_ble_eq_true rfl) (Nat.le_of_ble_eq_true rfl) rfl rfl rfl rfl rfl rfl ?_
  refine V_abs (fun T9 => MB 41 [59, 58, 54, 53, 51, 50, 48, 47, 46, 44, 43, 42, 41, 40, 38, 37, 36, 35, 34, 33, 32, 31, 30, 29, 28, 27, 26, 25, 24, 23, 22, 21, 20, 9, 8, 7, 6, 5, 3, 1] Γ.2.2.2.2.1 S h T9 ∧ sI T9 h = sI S40 h) (mb_arr B 59 14 9 rfl rfl) (fun S41 hx => ?_)
  obtain ⟨B41, E⟩ := hx
  replace hI := E.trans hI
  clear E
  replace B := B41
  replace hk : sK S41 h = 12 := (Option.some.inj B41.1.1.2.2.2.2.1).symm
  replace hb := B41.1.1.2.2.1
  clear B41
  refine V_aload_0 333 dX12_init_333 ?_
  refine V_sipush 334 (20000) dX12_init_334 (by decide) ?_
  refine V_newarray 337 15 20000 (Or.inr (Or.inr (Or.inl ⟨rfl, rfl⟩))) dX12_init_337 ac_long (by decide) (by decide) (Nat.le_of_ble_eq_true rfl) hw (Nat.le_of_ble_eq_true rfl) (Nat.le_of_ble_eq_true rfl) ?_
  refine V_putF 339 (c := 12) 60 dX12_init_339 fl_RX12_140 (by simp only [PL_mem, sN_uI, sN_uR, sN_uA, sN_uJ, sN_uP, sN_nO, sN_nA]; omega) (by simp (disch := omega) only [sN_uI, sN_uR, sN_uA, sN_uJ, sN_uP, sN_nO, sN_nA, sK_uI, sK_uR, sK_uA, sK_uJ, sK_uP, sK_nO, sK_nA, va_up_ne, hk]) (Nat.le_of_ble_eq_true rfl) (Nat.le_of_ble_eq_true rfl) rfl rfl rfl rfl rfl rfl ?_
  refine V_abs (fun T9 => MB 42 [60, 59, 58, 54, 53, 51, 50, 48, 47, 46, 44, 43, 42, 41, 40, 38, 37, 36, 35, 34, 33, 32, 31, 30, 29, 28, 27, 26, 25, 24, 23, 22, 21, 20, 9, 8, 7, 6, 5, 3, 1] Γ.2.2.2.2.1 S h T9 ∧ sI T9 h = sI S41 h) (mb_arr B 60 15 20000 rfl rfl) (fun S42 hx => ?_)
  obtain ⟨B42, E⟩ := hx
  replace hI := E.trans hI
  clear E
  replace B := B42
  replace hk : sK S42 h = 12 := (Option.some.inj B42.1.1.2.2.2.2.1).symm
  replace hb := B42.1.1.2.2.1
  clear B42
  refine V_aload_0 342 dX12_init_342 ?_
  refine V_bipush 343 (8) dX12_init_343 (by decide) ?_
  refine V_newarray 345 14 8 (Or.inr (Or.inl ⟨rfl, rfl⟩)) dX12_init_345 ac_int (by decide) (by decide) (Nat.le_of_ble_eq_true rfl) hw (Nat.le_of_ble_eq_true rfl) (Nat.le_of_ble_eq_true rfl) ?_
  refine V_putF 347 (c := 12) 61 dX12_init_347 fl_RX12_143 (by simp only [PL_mem, sN_uI, sN_uR, sN_uA, sN_uJ, sN_uP, sN_nO, sN_nA]; omega) (by simp (disch := omega) only [sN_uI, sN_uR, sN_uA, sN_uJ, sN_uP, sN_nO, sN_nA, sK_uI, sK_uR, sK_uA, sK_uJ, sK_uP, sK_nO, sK_nA, va_up_ne, hk]) (Nat.le_of_ble_eq_true rfl) (Nat.le_of_ble_eq_true rfl) rfl rfl rfl rfl rfl rfl ?_
  refine V_abs (fun T9 => MB 43 [61, 60, 59, 58, 54, 53, 51, 50, 48, 47, 46, 44, 43, 42, 41, 40, 38, 37, 36, 35, 34, 33, 32, 31, 30, 29, 28, 27, 26, 25, 24, 23, 22, 21, 20, 9, 8, 7, 6, 5, 3, 1] Γ.2.2.2.2.1 S h T9 ∧ sI T9 h = sI S42 h) (mb_arr B 61 14 8 rfl rfl) (fun S43 hx => ?_)
  obtain ⟨B43, E⟩ := hx
  replace hI := E.trans hI
  clear E
  replace B := B43
  replace hk : sK S43 h = 12 := (Option.some.inj B43.1.1.2.2.2.2.1).symm
  replace hb := B43.1.1.2.2.1
  clear B43
  refine V_aload_0 350 dX12_init_350 ?_
  refine V_bipush 351 (18) dX12_init_351 (by decide) ?_
  refine V_newarray 353 14 18 (Or.inr (Or.inl ⟨rfl, rfl⟩)) dX12_init_353 ac_int (by decide) (by decide) (Nat.le_of_ble_eq_true rfl) hw (Nat.le_of_ble_eq_true rfl) (Nat.le_of_ble_eq_true rfl) ?_
  refine V_putF 355 (c := 12) 62 dX12_init_355 fl_RX12_146 (by simp only [PL_mem, sN_uI, sN_uR, sN_uA, sN_uJ, sN_uP, sN_nO, sN_nA]; omega) (by simp (disch := omega) only [sN_uI, sN_uR, sN_uA, sN_uJ, sN_uP, sN_nO, sN_nA, sK_uI, sK_uR, sK_uA, sK_uJ, sK_uP, sK_nO, sK_nA, va_up_ne, hk]) (Nat.le_of_ble_eq_true rfl) (Nat.le_of_ble_eq_true rfl) rfl rfl rfl rfl rfl rfl ?_
  refine V_abs (fun T9 => MB 44 [62, 61, 60, 59, 58, 54, 53, 51, 50, 48, 47, 46, 44, 43, 42, 41, 40, 38, 37, 36, 35, 34, 33, 32, 31, 30, 29, 28, 27, 26, 25, 24, 23, 22, 21, 20, 9, 8, 7, 6, 5, 3, 1] Γ.2.2.2.2.1 S h T9 ∧ sI T9 h = sI S43 h) (mb_arr B 62 14 18 rfl rfl) (fun S44 hx => ?_)
  obtain ⟨B44, E⟩ := hx
  replace hI := E.trans hI
  clear E
  replace B := B44
  replace hk : sK S44 h = 12 := (Option.some.inj B44.1.1.2.2.2.2.1).symm
  replace hb := B44.1.1.2.2.1
  clear B44
  refine V_aload_0 358 dX12_init_358 ?_
  refine V_bipush 359 (8) dX12_init_359 (by decide) ?_
  refine V_newarray 361 14 8 (Or.inr (Or.inl ⟨rfl, rfl⟩)) dX12_init_361 ac_int (by decide) (by decide) (Nat.le_of_ble_eq_true rfl) hw (Nat.le_of_ble_eq_true rfl) (Nat.le_of_ble_eq_true rfl) ?_
  refine V_putF 363 (c := 12) 63 dX12_init_363 fl_RX12_149 (by simp only [PL_mem, sN_uI, sN_uR, sN_uA, sN_uJ, sN_uP, sN_nO, sN_nA]; omega) (by simp (disch := omega) only [sN_uI, sN_uR, sN_uA, sN_uJ, sN_uP, sN_nO, sN_nA, sK_uI, sK_uR, sK_uA, sK_uJ, sK_uP, sK_nO, sK_nA, va_up_ne, hk]) (Nat.le_of_ble_eq_true rfl) (Nat.le_of_ble_eq_true rfl) rfl rfl rfl rfl rfl rfl ?_
  refine V_abs (fun T9 => MB 45 [63, 62, 61, 60, 59, 58, 54, 53, 51, 50, 48, 47, 46, 44, 43, 42, 41, 40, 38, 37, 36, 35, 34, 33, 32, 31, 30, 29, 28, 27, 26, 25, 24, 23, 22, 21, 20, 9, 8, 7, 6, 5, 3, 1] Γ.2.2.2.2.1 S h T9 ∧ sI T9 h = sI S44 h) (mb_arr B 63 14 8 rfl rfl) (fun S45 hx => ?_)
  obtain ⟨B45, E⟩ := hx
  replace hI := E.trans hI
  clear E
  replace B := B45
  replace hk : sK S45 h = 12 := (Option.some.inj B45.1.1.2.2.2.2.1).symm
  replace hb := B45.1.1.2.2.1
  clear B45
  refine V_aload_0 366 dX12_init_366 ?_
  refine V_bipush 367 (18) dX12_init_367 (by decide) ?_
  refine V_newarray 369 14 18 (Or.inr (Or.inl ⟨rfl, rfl⟩)) dX12_init_369 ac_int (by decide) (by decide) (Nat.le_of_ble_eq_true rfl) hw (Nat.le_of_ble_eq_true rfl) (Nat.le_of_ble_eq_true rfl) ?_
  refine V_putF 371 (c := 12) 64 dX12_init_371 fl_RX12_152 (by simp only [PL_mem, sN_uI, sN_uR, sN_uA, sN_uJ, sN_uP, sN_nO, sN_nA]; omega) (by simp (disch := omega) only [sN_uI, sN_uR, sN_uA, sN_uJ, sN_uP, sN_nO, sN_nA, sK_uI, sK_uR, sK_uA, sK_uJ, sK_uP, sK_nO, sK_nA, va_up_ne, hk]) (Nat.le_of_ble_eq_true rfl) (Nat.le_of_ble_eq_true rfl) rfl rfl rfl rfl rfl rfl ?_
  refine V_abs (fun T9 => MB 46 [64, 63, 62, 61, 60, 59, 58, 54, 53, 51, 50, 48, 47, 46, 44, 43, 42, 41, 40, 38, 37, 36, 35, 34, 33, 32, 31, 30, 29, 28, 27, 26, 25, 24, 23, 22, 21, 20, 9, 8, 7, 6, 5, 3, 1] Γ.2.2.2.2.1 S h T9 ∧ sI T9 h = sI S45 h) (mb_arr B 64 14 18 rfl rfl) (fun S46 hx => ?_)
  obtain ⟨B46, E⟩ := hx
  replace hI := E.trans hI
  clear E
  replace B := B46
  replace hk : sK S46 h = 12 := (Option.some.inj B46.1.1.2.2.2.2.1).symm
  replace hb := B46.1.1.2.2.1
  clear B46
  refine V_aload_0 374 dX12_init_374 ?_
  refine V_ldc 375 dX12_init_375 kc_RX12_155 ?_
  refine V_newarray 377 14 262144 (Or.inr (Or.inl ⟨rfl, rfl⟩)) dX12_init_377 ac_int (by decide) (by decide) (Nat.le_of_ble_eq_true rfl) hw (Nat.le_of_ble_eq_true rfl) (Nat.le_of_ble_eq_true rfl) ?_
  refine V_putF 379 (c := 12) 65 dX12_init_379 fl_RX12_156 (by simp only [PL_mem, sN_uI, sN_uR, sN_uA, sN_uJ, sN_uP, sN_nO, sN_nA]; omega) (by simp (disch := omega) only [sN_uI, sN_uR, sN_uA, sN_uJ, sN_uP, sN_nO, sN_nA, sK_uI, sK_uR, sK_uA, sK_uJ, sK_uP, sK_nO, sK_nA, va_up_ne, hk]) (Nat.le_of_ble_eq_true rfl) (Nat.le_of_ble_eq_true rfl) rfl rfl rfl rfl rfl rfl ?_
  refine V_abs (fun T9 => MB 47 [65, 64, 63, 62, 61, 60, 59, 58, 54, 53, 51, 50, 48, 47, 46, 44, 43, 42, 41, 40, 38, 37, 36, 35, 34, 33, 32, 31, 30, 29, 28, 27, 26, 25, 24, 23, 22, 21, 20, 9, 8, 7, 6, 5, 3, 1] Γ.2.2.2.2.1 S h T9 ∧ sI T9 h = sI S46 h) (mb_arr B 65 14 262144 rfl rfl) (fun S47 hx => ?_)
  obtain ⟨B47, E⟩ := hx
  replace hI := E.trans hI
  clear E
  replace B := B47
  replace hk : sK S47 h = 12 := (Option.some.inj B47.1.1.2.2.2.2.1).symm
  replace hb := B47.1.1.2.2.1
  clear B47
  refine V_aload_0 382 dX12_init_382 ?_
  refine V_bipush 383 (19) dX12_init_383 (by decide) ?_
  refine V_newarray 385 15 19 (Or.inr (Or.inr (Or.inl ⟨rfl, rfl⟩))) dX12_init_385 ac_long (by decide) (by decide) (Nat.le_of_ble_eq_true rfl) hw (Nat.le_of_ble_eq_true rfl) (Nat.le_of_ble_eq_true rfl) ?_
  refine V_putF 387 (c := 12) 66 dX12_init_387 fl_RX12_159 (by simp only [PL_mem, sN_uI, sN_uR, sN_uA, sN_uJ, sN_uP, sN_nO, sN_nA]; omega) (by simp (disch := omega) only [sN_uI, sN_uR, sN_uA, sN_uJ, sN_uP, sN_nO, sN_nA, sK_uI, sK_uR, sK_uA, sK_uJ, sK_uP, sK_nO, sK_nA, va_up_ne, hk]) (Nat.le_of_ble_eq_true rfl) (Nat.le_of_ble_eq_true rfl) rfl rfl rfl rfl rfl rfl ?_
  refine V_abs (fun T9 => MB 48 [66, 65, 64, 63, 62, 61, 60, 59, 58, 54, 53, 51, 50, 48, 47, 46, 44, 43, 42, 41, 40, 38, 37, 36, 35, 34, 33, 32, 31, 30, 29, 28, 27, 26, 25, 24, 23, 22, 21, 20, 9, 8, 7, 6, 5, 3, 1] Γ.2.2.2.2.1 S h T9 ∧ sI T9 h = sI S47 h) (mb_arr B 66 15 19 rfl rfl) (fun S48 hx => ?_)
  obtain ⟨B48, E⟩ := hx
  replace hI := E.trans hI
  clear E
  replace B := B48
  replace hk : sK S48 h = 12 := (Option.some.inj B48.1.1.2.2.2.2.1).symm
  replace hb := B48.1.1.2.2.1
  clear B48
  refine V_aload_0 390 dX12_init_390 ?_
  refine V_bipush 391 (19) dX12_init_391 (by decide) ?_
  refine V_newarray 393 15 19 (Or.inr (Or.inr (Or.inl ⟨rfl, rfl⟩))) dX12_init_393 ac_long (by decide) (by decide) (Nat.le_of_ble_eq_true rfl) hw (Nat.le_of_ble_eq_true rfl) (Nat.le_of_ble_eq_true rfl) ?_
  refine V_putF 395 (c := 12) 67 dX12_init_395 fl_RX12_162 (by simp only [PL_mem, sN_uI, sN_uR, sN_uA, sN_uJ, sN_uP, sN_nO, sN_nA]; omega) (by simp (disch := omega) only [sN_uI, sN_uR, sN_uA, sN_uJ, sN_uP, sN_nO, sN_nA, sK_uI, sK_uR, sK_uA, sK_uJ, sK_uP, sK_nO, sK_nA, va_up_ne, hk]) (Nat.le_of_ble_eq_true rfl) (Nat.le_of_ble_eq_true rfl) rfl rfl rfl rfl rfl rfl ?_
  refine V_abs (fun T9 => MB 49 [67, 66, 65, 64, 63, 62, 61, 60, 59, 58, 54, 53, 51, 50, 48, 47, 46, 44, 43, 42, 41, 40, 38, 37, 36, 35, 34, 33, 32, 31, 30, 29, 28, 27, 26, 25, 24, 23, 22, 21, 20, 9, 8, 7, 6, 5, 3, 1] Γ.2.2.2.2.1 S h T9 ∧ sI T9 h = sI S48 h) (mb_arr B 67 15 19 rfl rfl) (fun S49 hx => ?_)
  obtain ⟨B49, E⟩ := hx
  replace hI := E.trans hI
  clear E
  replace B := B49
  replace hk : sK S49 h = 12 := (Option.some.inj B49.1.1.2.2.2.2.1).symm
  replace hb := B49.1.1.2.2.1
  clear B49
  refine V_aload_0 398 dX12_init_398 ?_
  refine V_bipush 399 (18) dX12_init_399 (by decide) ?_
  refine V_newarray 401 16 18 (Or.inr (Or.inr (Or.inr ⟨rfl, rfl⟩))) dX12_init_401 ac_boolean (by decide) (by decide) (Nat.le_of_ble_eq_true rfl) hw (Nat.le_of_ble_eq_true rfl) (Nat.le_of_ble_eq_true rfl) ?_
  refine V_putF 403 (c := 12) 68 dX12_init_403 fl_RX12_165 (by simp only [PL_mem, sN_uI, sN_uR, sN_uA, sN_uJ, sN_uP, sN_nO, sN_nA]; omega) (by simp (disch := omega) only [sN_uI, sN_uR, sN_uA, sN_uJ, sN_uP, sN_nO, sN_nA, sK_uI, sK_uR, sK_uA, sK_uJ, sK_uP, sK_nO, sK_nA, va_up_ne, hk]) (Nat.le_of_ble_eq_true rfl) (Nat.le_of_ble_eq_true rfl) rfl rfl rfl rfl rfl rfl ?_
  refine V_abs (fun T9 => MB 50 [68, 67, 66, 65, 64, 63, 62, 61, 60, 59, 58, 54, 53, 51, 50, 48, 47, 46, 44, 43, 42, 41, 40, 38, 37, 36, 35, 34, 33, 32, 31, 30, 29, 28, 27, 26, 25, 24, 23, 22, 21, 20, 9, 8, 7, 6, 5, 3, 1] Γ.2.2.2.2.1 S h T9 ∧ sI T9 h = sI S49 h) (mb_arr B 68 16 18 rfl rfl) (fun S50 hx => ?_)
  obtain ⟨B50, E⟩ := hx
  replace hI := E.trans hI
  clear E
  replace B := B50
  replace hk : sK S50 h = 12 := (Option.some.inj B50.1.1.2.2.2.2.1).symm
  replace hb := B50.1.1.2.2.1
  clear B50
  refine V_aload_0 406 dX12_init_406 ?_
  refine V_bipush 407 (8) dX12_init_407 (by decide) ?_
  refine V_newarray 409 14 8 (Or.inr (Or.inl ⟨rfl, rfl⟩)) dX12_init_409 ac_int (by decide) (by decide) (Nat.le_of_ble_eq_true rfl) hw (Nat.le_of_ble_eq_true rfl) (Nat.le_of_ble_eq_true rfl) ?_
  refine V_putF 411 (c := 12) 69 dX12_init_411 fl_RX12_168 (by simp only [PL_mem, sN_uI, sN_uR, sN_uA, sN_uJ, sN_uP, sN_nO, sN_nA]; omega) (by simp (disch := omega) only [sN_uI, sN_uR, sN_uA, sN_uJ, sN_uP, sN_nO, sN_nA, sK_uI, sK_uR, sK_uA, sK_uJ, sK_uP, sK_nO, sK_nA, va_up_ne, hk]) (Nat.le_of_ble_eq_true rfl) (Nat.le_of_ble_eq_true rfl) rfl rfl rfl rfl rfl rfl ?_
  refine V_abs (fun T9 => MB 51 [69, 68, 67, 66, 65, 64, 63, 62, 61, 60, 59, 58, 54, 53, 51, 50, 48, 47, 46, 44, 43, 42, 41, 40, 38, 37, 36, 35, 34, 33, 32, 31, 30, 29, 28, 27, 26, 25, 24, 23, 22, 21, 20, 9, 8, 7, 6, 5, 3, 1] Γ.2.2.2.2.1 S h T9 ∧ sI T9 h = sI S50 h) (mb_arr B 69 14 8 rfl rfl) (fun S51 hx => ?_)
  obtain ⟨B51, E⟩ := hx
  replace hI := E.trans hI
  clear E
  replace B := B51
  replace hk : sK S51 h = 12 := (Option.some.inj B51.1.1.2.2.2.2.1).symm
  replace hb := B51.1.1.2.2.1
  clear B51
  refine V_aload_0 414 dX12_init_414 ?_
  refine V_bipush 415 (20) dX12_init_415 (by decide) ?_
  refine V_newarray 417 14 20 (Or.inr (Or.inl ⟨rfl, rfl⟩)) dX12_init_417 ac_int (by decide) (by decide) (Nat.le_of_ble_eq_true rfl) hw (Nat.le_of_ble_eq_true rfl) (Nat.le_of_ble_eq_true rfl) ?_
  refine V_putF 419 (c := 12) 71 dX12_init_419 fl_RX12_171 (by simp only [PL_mem, sN_uI, sN_uR, sN_uA, sN_uJ, sN_uP, sN_nO, sN_nA]; omega) (by simp (disch := omega) only [sN_uI, sN_uR, sN_uA, sN_uJ, sN_uP, sN_nO, sN_nA, sK_uI, sK_uR, sK_uA, sK_uJ, sK_uP, sK_nO, sK_nA, va_up_ne, hk]) (Nat.le_of_ble_eq_true rfl) (Nat.le_of_ble_eq_true rfl) rfl rfl rfl rfl rfl rfl ?_
  refine V_abs (fun T9 => MB 52 [71, 69, 68, 67, 66, 65, 64, 63, 62, 61, 60, 59, 58, 54, 53, 51, 50, 48, 47, 46, 44, 43, 42, 41, 40, 38, 37, 36, 35, 34, 33, 32, 31, 30, 29, 28, 27, 26, 25, 24, 23, 22, 21, 20, 9, 8, 7, 6, 5, 3, 1] Γ.2.2.2.2.1 S h T9 ∧ sI T9 h = sI S51 h) (mb_arr B 71 14 20 rfl rfl) (fun S52 hx => ?_)
  obtain ⟨B52, E⟩ := hx
  replace hI := E.trans hI
  clear E
  replace B := B52
  replace hk : sK S52 h = 12 := (Option.some.inj B52.1.1.2.2.2.2.1).symm
  replace hb := B52.1.1.2.2.1
  clear B52
  refine V_aload_0 422 dX12_init_422 ?_
  refine V_bipush 423 (20) dX12_init_423 (by decide) ?_
  refine V_newarray 425 14 20 (Or.inr (Or.inl ⟨rfl, rfl⟩)) dX12_init_425 ac_int (by decide) (by decide) (Nat.le_of_ble_eq_true rfl) hw (Nat.le_of_ble_eq_true rfl) (Nat.le_of_ble_eq_true rfl) ?_
  refine V_putF 427 (c := 12) 72 dX12_init_427 fl_RX12_174 (by simp only [PL_mem, sN_uI, sN_uR, sN_uA, sN_uJ, sN_uP, sN_nO, sN_nA]; omega) (by simp (disch := omega) only [sN_uI, sN_uR, sN_uA, sN_uJ, sN_uP, sN_nO, sN_nA, sK_uI, sK_uR, sK_uA, sK_uJ, sK_uP, sK_nO, sK_nA, va_up_ne, hk]) (Nat.le_of_ble_eq_true rfl) (Nat.le_of_ble_eq_true rfl) rfl rfl rfl rfl rfl rfl ?_
  refine V_abs (fun T9 => MB 53 [72, 71, 69, 68, 67, 66, 65, 64, 63, 62, 61, 60, 59, 58, 54, 53, 51, 50, 48, 47, 46, 44, 43, 42, 41, 40, 38, 37, 36, 35, 34, 33, 32, 31, 30, 29, 28, 27, 26, 25, 24, 23, 22, 21, 20, 9, 8, 7, 6, 5, 3, 1] Γ.2.2.2.2.1 S h T9 ∧ sI T9 h = sI S52 h) (mb_arr B 72 14 20 rfl rfl) (fun S53 hx => ?_)
  obtain ⟨B53, E⟩ := hx
  replace hI := E.trans hI
  clear E
  replace B := B53
  replace hk : sK S53 h = 12 := (Option.some.inj B53.1.1.2.2.2.2.1).symm
  replace hb := B53.1.1.2.2.1
  clear B53
  refine V_aload_0 430 dX12_init_430 ?_
  refine V_bipush 431 (8) dX12_init_431 (by decide) ?_
  refine V_newarray 433 14 8 (Or.inr (Or.inl ⟨rfl, rfl⟩)) dX12_init_433 ac_int (by decide) (by decide) (Nat.le_of_ble_eq_true rfl) hw (Nat.le_of_ble_eq_true rfl) (Nat.le_of_ble_eq_true rfl) ?_
  refine V_putF 435 (c := 12) 73 dX12_init_435 fl_RX12_177 (by simp only [PL_mem, sN_uI, sN_uR, sN_uA, sN_uJ, sN_uP, sN_nO, sN_nA]; omega) (by simp (disch := omega) only [sN_uI, sN_uR, sN_uA, sN_uJ, sN_uP, sN_nO, sN_nA, sK_uI, sK_uR, sK_uA, sK_uJ, sK_uP, sK_nO, sK_nA, va_up_ne, hk]) (Nat.le_of_ble_eq_true rfl) (Nat.le_of_ble_eq_true rfl) rfl rfl rfl rfl rfl rfl ?_
  refine V_abs (fun T9 => MB 54 [73, 72, 71, 69, 68, 67, 66, 65, 64, 63, 62, 61, 60, 59, 58, 54, 53, 51, 50, 48, 47, 46, 44, 43, 42, 41, 40, 38, 37, 36, 35, 34, 33, 32, 31, 30, 29, 28, 27, 26, 25, 24, 23, 22, 21, 20, 9, 8, 7, 6, 5, 3, 1] Γ.2.2.2.2.1 S h T9 ∧ sI T9 h = sI S53 h) (mb_arr B 73 14 8 rfl rfl) (fun S54 hx => ?_)
  obtain ⟨B54, E⟩ := hx
  replace hI := E.trans hI
  clear E
  replace B := B54
  replace hk : sK S54 h = 12 := (Option.some.inj B54.1.1.2.2.2.2.1).symm
  replace hb := B54.1.1.2.2.1
  clear B54
  refine V_aload_0 438 dX12_init_438 ?_
  refine V_bipush 439 (8) dX12_init_439 (by decide) ?_
  refine V_newarray 441 14 8 (Or.inr (Or.inl ⟨rfl, rfl⟩)) dX12_init_441 ac_int (by decide) (by decide) (Nat.le_of_ble_eq_true rfl) hw (Nat.le_of_ble_eq_true rfl) (Nat.le_of_ble_eq_true rfl) ?_
  refine V_putF 443 (c := 12) 74 dX12_init_443 fl_RX12_180 (by simp only [PL_mem, sN_uI, sN_uR, sN_uA, sN_uJ, sN_uP, sN_nO, sN_nA]; omega) (by simp (disch := omega) only [sN_uI, sN_uR, sN_uA, sN_uJ, sN_uP, sN_nO, sN_nA, sK_uI, sK_uR, sK_uA, sK_uJ, sK_uP, sK_nO, sK_nA, va_up_ne, hk]) (Nat.le_of_ble_eq_true rfl) (Nat.le_of_ble_eq_true rfl) rfl rfl rfl rfl rfl rfl ?_
  refine V_abs (fun T9 => MB 55 [74, 73, 72, 71, 69, 68, 67, 66, 65, 64, 63, 62, 61, 60, 59, 58, 54, 53, 51, 50, 48, 47, 46, 44, 43, 42, 41, 40, 38, 37, 36, 35, 34, 33, 32, 31, 30, 29, 28, 27, 26, 25, 24, 23, 22, 21, 20, 9, 8, 7, 6, 5, 3, 1] Γ.2.2.2.2.1 S h T9 ∧ sI T9 h = sI S54 h) (mb_arr B 74 14 8 rfl rfl) (fun S55 hx => ?_)
  obtain ⟨B55, E⟩ := hx
  replace hI := E.trans hI
  clear E
  replace B := B55
  replace hk : sK S55 h = 12 := (Option.some.inj B55.1.1.2.2.2.2.1).symm
  replace hb := B55.1.1.2.2.1
  clear B55
  refine V_aload_0 446 dX12_init_446 ?_
  refine V_iconst 447 (3) dX12_init_447 (by decide) ?_
  refine V_newarray 448 16 3 (Or.inr (Or.inr (Or.inr ⟨rfl, rfl⟩))) dX12_init_448 ac_boolean (by decide) (by decide) (Nat.le_of_ble_eq_true rfl) hw (Nat.le_of_ble_eq_true rfl) (Nat.le_of_ble_eq_true rfl) ?_
  refine V_putF 450 (c := 12) 75 dX12_init_450 fl_RX12_183 (by simp only [PL_mem, sN_uI, sN_uR, sN_uA, sN_uJ, sN_uP, sN_nO, sN_nA]; omega) (by simp (disch := omega) only [sN_uI, sN_uR, sN_uA, sN_uJ, sN_uP, sN_nO, sN_nA, sK_uI, sK_uR, sK_uA, sK_uJ, sK_uP, sK_nO, sK_nA, va_up_ne, hk]) (Nat.le_of_ble_eq_true rfl) (Nat.le_of_ble_eq_true rfl) rfl rfl rfl rfl rfl rfl ?_
  refine V_abs (fun T9 => MB 56 [75, 74, 73, 72, 71, 69, 68, 67, 66, 65, 64, 63, 62, 61, 60, 59, 58, 54, 53, 51, 50, 48, 47, 46, 44, 43, 42, 41, 40, 38, 37, 36, 35, 34, 33, 32, 31, 30, 29, 28, 27, 26, 25, 24, 23, 22, 21, 20, 9, 8, 7, 6, 5, 3, 1] Γ.2.2.2.2.1 S h T9 ∧ sI T9 h = sI S55 h) (mb_arr B 75 16 3 rfl rfl) (fun S56 hx => ?_)
  obtain ⟨B56, E⟩ := hx
  replace hI := E.trans hI
  clear E
  replace B := B56
  replace hk : sK S56 h = 12 := (Option.some.inj B56.1.1.2.2.2.2.1).symm
  replace hb := B56.1.1.2.2.1
  clear B56
  refine V_aload_0 453 dX12_init_453 ?_
  refine V_bipush 454 (90) dX12_init_454 (by decide) ?_
  refine V_newarray 456 14 90 (Or.inr (Or.inl ⟨rfl, rfl⟩)) dX12_init_456 ac_int (by decide) (by decide) (Nat.le_of_ble_eq_true rfl) hw (Nat.le_of_ble_eq_true rfl) (Nat.le_of_ble_eq_true rfl) ?_
  refine V_putF 458 (c := 12) 76 dX12_init_458 fl_RX12_186 (by simp only [PL_mem, sN_uI, sN_uR, sN_uA, sN_uJ, sN_uP, sN_nO, sN_nA]; omega) (by simp (disch := omega) only [sN_uI, sN_uR, sN_uA, sN_uJ, sN_uP, sN_nO, sN_nA, sK_uI, sK_uR, sK_uA, sK_uJ, sK_uP, sK_nO, sK_nA, va_up_ne, hk]) (Nat.le_of_ble_eq_true rfl) (Nat.le_of_ble_eq_true rfl) rfl rfl rfl rfl rfl rfl ?_
  refine V_abs (fun T9 => MB 57 [76, 75, 74, 73, 72, 71, 69, 68, 67, 66, 65, 64, 63, 62, 61, 60, 59, 58, 54, 53, 51, 50, 48, 47, 46, 44, 43, 42, 41, 40, 38, 37, 36, 35, 34, 33, 32, 31, 30, 29, 28, 27, 26, 25, 24, 23, 22, 21, 20, 9, 8, 7, 6, 5, 3, 1] Γ.2.2.2.2.1 S h T9 ∧ sI T9 h = sI S56 h) (mb_arr B 76 14 90 rfl rfl) (fun S57 hx => ?_)
  obtain ⟨B57, E⟩ := hx
  replace hI := E.trans hI
  clear E
  replace B := B57
  replace hk : sK S57 h = 12 := (Option.some.inj B57.1.1.2.2.2.2.1).symm
  replace hb := B57.1.1.2.2.1
  clear B57
  have hN : NEWO lyModel Γ.2.2.2.2.1 S h S57 := bld_end B.1 rfl (by decide +kernel)
  have F := hN.2.2
  refine V_aload_0 461 dX12_init_461 ?_
  refine V_iconst 462 (0) dX12_init_462 (by decide) ?_
  refine V_callV 463 (ci := 12) [.int _] _ (c_plain M.2.1 Γ S57 (m := h) F 0 (by decide)) dX12_init_463 cb_X12_plain ml_RX12_189 im_yX12_plain se_yX12_plain (F.m 0 (Nat.le_of_ble_eq_true rfl)) (F.k 0 12 rfl) (Nat.le_of_ble_eq_true rfl) ⟨(Nat.le_of_ble_eq_true rfl), (Nat.le_of_ble_eq_true rfl)⟩ rfl rfl (Nat.le_of_ble_eq_true rfl) ⟨(Nat.le_of_ble_eq_true rfl), (Nat.le_of_ble_eq_true rfl)⟩ (RV.go (fun T0 hp => ?_))
  have N0 := hN.ro hp.1 (fun a ha => by simp [PLL] at ha; omega)
  have D0 : FRM h T0 := by
    refine ⟨⟨?_, fun i hi => ?_, fun r hr => ?_, hp.2.1, hp.2.2.1, hp.2.2.2⟩, fun j => ?_⟩
    · rw [hp.1.2.1, hI]; rfl
    · rw [hp.1.2.1, hI]; exact if_neg hi.1
    · rw [hp.1.2.2.2 (h + r) (fun q => ?_)]
      · exact B.2 r (by revert r hr; decide) (by revert r hr; decide)
      · have h9 : ∀ r, r ∈ ZRL → r ≠ 8 ∧ r ≠ 11 ∧ r ≠ 15 ∧ r ≠ 16 ∧ r ≠ 18 ∧ r ≠ 19 ∧ r ≠ 20 ∧ r ≠ 21 ∧ r ≠ 24 ∧ r ≠ 25 ∧ r ≠ 26 ∧ r ≠ 17 := by decide
        have := h9 r hr
        simp [PLL] at q; omega
    · rw [hp.1.2.2.2 (h + 55) (by simp [PLL])]; exact congrFun (B.2 55 (by decide) (by decide)) j
  clear hI hp hk hb B hN F
  have J : JO (h + 7) T0 T0 := JO.rf
  have F1 := N0.2.2.ss J.1
  refine V_aload_0 466 dX12_init_466 ?_
  refine V_getR 467 (c := 12) 9 (F1.r 0 9 7 rfl) dX12_init_467 fl_RX12_34 (F1.m 0 (Nat.le_of_ble_eq_true rfl)) (F1.k 0 12 rfl) (Nat.le_of_ble_eq_true rfl) (Nat.le_of_ble_eq_true rfl) rfl ?_
  refine V_iconst 470 (0) dX12_init_470 (by decide) ?_
  refine V_bipush 471 (115) dX12_init_471 (by decide) ?_
  refine V_bipush 473 (111) dX12_init_473 (by decide) ?_
  refine V_bipush 475 (99) dX12_init_475 (by decide) ?_
  refine V_bipush 477 (107) dX12_init_477 (by decide) ?_
  refine V_iconst 479 (0) dX12_init_479 (by decide) ?_
  refine V_iconst 480 (0) dX12_init_480 (by decide) ?_
  refine V_iconst 481 (0) dX12_init_481 (by decide) ?_
  refine V_callS 482 [.int _, .int _, .int _, .int _, .int _, .int _, .int _] _ (c_word M.2.1 Γ _ _ _ _ _ _ _ _) dX12_init_482 cb_X12_word ml_RX12_193 sm_yX12_word ⟨(Nat.le_of_ble_eq_true rfl), (Nat.le_of_ble_eq_true rfl)⟩ rfl rfl (Nat.le_of_ble_eq_true rfl) ⟨(Nat.le_of_ble_eq_true rfl), (Nat.le_of_ble_eq_true rfl)⟩ (RLg.go (fun r1 U1 hq => ?_))
  replace J : JO (h + 7) T0 U1 := by rw [hq]; exact J
  have G1 := N0.2.2.ss J.1
  refine V_lastore2 485 dX12_init_485 (G1.m 7 (Nat.le_of_ble_eq_true rfl)) (G1.k 7 15 rfl) (G1.l 7 22 rfl) ?_ ?_
  · exact (by unfold vp_in; decide)
  refine V_abs (fun T9 => JO (h + 7) T0 T9) (J.uJ) (fun T1 J1 => ?_)
  replace J := J1
  clear J1 F1 G1 hq
  have F2 := N0.2.2.ss J.1
  refine V_aload_0 486 dX12_init_486 ?_
  refine V_getR 487 (c := 12) 9 (F2.r 0 9 7 rfl) dX12_init_487 fl_RX12_34 (F2.m 0 (Nat.le_of_ble_eq_true rfl)) (F2.k 0 12 rfl) (Nat.le_of_ble_eq_true rfl) (Nat.le_of_ble_eq_true rfl) rfl ?_
  refine V_iconst 490 (1) dX12_init_490 (by decide) ?_
  refine V_bipush 491 (103) dX12_init_491 (by decide) ?_
  refine V_bipush 493 (108) dX12_init_493 (by decide) ?_
  refine V_bipush 495 (111) dX12_init_495 (by decide) ?_
  refine V_bipush 497 (118) dX12_init_497 (by decide) ?_
  refine V_bipush 499 (101) dX12_init_499 (by decide) ?_
  refine V_iconst 501 (0) dX12_init_501 (by decide) ?_
  refine V_iconst 502 (0) dX12_init_502 (by decide) ?_
  refine V_callS 503 [.int _, .int _, .int _, .int _, .int _, .int _, .int _] _ (c_word M.2.1 Γ _ _ _ _ _ _ _ _) dX12_init_503 cb_X12_word ml_RX12_193 sm_yX12_word ⟨(Nat.le_of_ble_eq_true rfl), (Nat.le_of_ble_eq_true rfl)⟩ rfl rfl (Nat.le_of_ble_eq_true rfl) ⟨(Nat.le_of_ble_eq_true rfl), (Nat.le_of_ble_eq_true rfl)⟩ (RLg.go (fun r2 U2 hq => ?_))
  replace J : JO (h + 7) T0 U2 := by rw [hq]; exact J
  have G2 := N0.2.2.ss J.1
  refine V_lastore2 506 dX12_init_506 (G2.m 7 (Nat.le_of_ble_eq_true rfl)) (G2.k 7 15 rfl) (G2.l 7 22 rfl) ?_ ?_
  · exact (by unfold vp_in; decide)
  refine V_abs (fun T9 => JO (h + 7) T0 T9) (J.uJ) (fun T2 J2 => ?_)
  replace J := J2
  clear J2 F2 G2 hq
  have F3 := N0.2.2.ss J.1
  refine V_aload_0 507 dX12_init_507 ?_
  refine V_getR 508 (c := 12) 9 (F3.r 0 9 7 rfl) dX12_init_508 fl_RX12_34 (F3.m 0 (Nat.le_of_ble_eq_true rfl)) (F3.k 0 12 rfl) (Nat.le_of_ble_eq_true rfl) (Nat.le_of_ble_eq_true rfl) rfl ?_
  refine V_iconst 511 (2) dX12_init_511 (by decide) ?_
  refine V_bipush 512 (108) dX12_init_512 (by decide) ?_
  refine V_bipush 514 (105) dX12_init_514 (by decide) ?_
  refine V_bipush 516 (107) dX12_init_516 (by decide) ?_
  refine V_bipush 518 (101) dX12_init_518 (by decide) ?_
  refine V_iconst 520 (0) dX12_init_520 (by decide) ?_
  refine V_iconst 521 (0) dX12_init_521 (by decide) ?_
  refine V_iconst 522 (0) dX12_init_522 (by decide) ?_
  refine V_callS 523 [.int _, .int _, .int _, .int _, .int _, .int _, .int _] _ (c_word M.2.1 Γ _ _ _ _ _ _ _ _) dX12_init_523 cb_X12_word ml_RX12_193 sm_yX12_word ⟨(Nat.le_of_ble_eq_true rfl), (Nat.le_of_ble_eq_true rfl)⟩ rfl rfl (Nat.le_of_ble_eq_true rfl) ⟨(Nat.le_of_ble_eq_true rfl), (Nat.le_of_ble_eq_true rfl)⟩ (RLg.go (fun r3 U3 hq => ?_))
  replace J : JO (h + 7) T0 U3 := by rw [hq]; exact J
  have G3 := N0.2.2.ss J.1
  refine V_lastore2 526 dX12_init_526 (G3.m 7 (Nat.le_of_ble_eq_true rfl)) (G3.k 7 15 rfl) (G3.l 7 22 rfl) ?_ ?_
  · exact (by unfold vp_in; decide)
  refine V_abs (fun T9 => JO (h + 7) T0 T9) (J.uJ) (fun T3 J3 => ?_)
  replace J := J3
  clear J3 F3 G3 hq
  have F4 := N0.2.2.ss J.1
  refine V_aload_0 527 dX12_init_527 ?_
  refine V_getR 528 (c := 12) 9 (F4.r 0 9 7 rfl) dX12_init_528 fl_RX12_34 (F4.m 0 (Nat.le_of_ble_eq_true rfl)) (F4.k 0 12 rfl) (Nat.le_of_ble_eq_true rfl) (Nat.le_of_ble_eq_true rfl) rfl ?_
  refine V_iconst 531 (3) dX12_init_531 (by decide) ?_
  refine V_bipush 532 (110) dX12_init_532 (by decide) ?_
  refine V_bipush 534 (101) dX12_init_534 (by decide) ?_
  refine V_bipush 536 (97) dX12_init_536 (by decide) ?_
  refine V_bipush 538 (114) dX12_init_538 (by decide) ?_
  refine V_iconst 540 (0) dX12_init_540 (by decide) ?_
  refine V_iconst 541 (0) dX12_init_541 (by decide) ?_
  refine V_iconst 542 (0) dX12_init_542 (by decide) ?_
  refine V_callS 543 [.int _, .int _, .int _, .int _, .int _, .int _, .int _] _ (c_word M.2.1 Γ _ _ _ _ _ _ _ _) dX12_init_543 cb_X12_word ml_RX12_193 sm_yX12_word ⟨(Nat.le_of_ble_eq_true rfl), (Nat.le_of_ble_eq_true rfl)⟩ rfl rfl (Nat.le_of_ble_eq_true rfl) ⟨(Nat.le_of_ble_eq_true rfl), (Nat.le_of_ble_eq_true rfl)⟩ (RLg.go (fun r4 U4 hq => ?_))
  replace J : JO (h + 7) T0 U4 := by rw [hq]; exact J
  have G4 := N0.2.2.ss J.1
  refine V_lastore2 546 dX12_init_546 (G4.m 7 (Nat.le_of_ble_eq_true rfl)) (G4.k 7 15 rfl) (G4.l 7 22 rfl) ?_ ?_
  · exact (by unfold vp_in; decide)
  refine V_abs (fun T9 => JO (h + 7) T0 T9) (J.uJ) (fun T4 J4 => ?_)
  replace J := J4
  clear J4 F4 G4 hq
  have F5 := N0.2.2.ss J.1
  refine V_aload_0 547 dX12_init_547 ?_
  refine V_getR 548 (c := 12) 9 (F5.r 0 9 7 rfl) dX12_init_548 fl_RX12_34 (F5.m 0 (Nat.le_of_ble_eq_true rfl)) (F5.k 0 12 rfl) (Nat.le_of_ble_eq_true rfl) (Nat.le_of_ble_eq_true rfl) rfl ?_
  refine V_iconst 551 (4) dX12_init_551 (by decide) ?_
  refine V_bipush 552 (116) dX12_init_552 (by decide) ?_
  refine V_bipush 554 (97) dX12_init_554 (by decide) ?_
  refine V_bipush 556 (98) dX12_init_556 (by decide) ?_
  refine V_bipush 558 (108) dX12_init_558 (by decide) ?_
  refine V_bipush 560 (101) dX12_init_560 (by decide) ?_
  refine V_iconst 562 (0) dX12_init_562 (by decide) ?_
  refine V_iconst 563 (0) dX12_init_563 (by decide) ?_
  refine V_callS 564 [.int _, .int _, .int _, .int _, .int _, .int _, .int _] _ (c_word M.2.1 Γ _ _ _ _ _ _ _ _) dX12_init_564 cb_X12_word ml_RX12_193 sm_yX12_word ⟨(Nat.le_of_ble_eq_true rfl), (Nat.le_of_ble_eq_true rfl)⟩ rfl rfl (Nat.le_of_ble_eq_true rfl) ⟨(Nat.le_of_ble_eq_true rfl), (Nat.le_of_ble_eq_true rfl)⟩ (RLg.go (fun r5 U5 hq => ?_))
  replace J : JO (h + 7) T0 U5 := by rw [hq]; exact J
  have G5 := N0.2.2.ss J.1
  refine V_lastore2 567 dX12_init_567 (G5.m 7 (Nat.le_of_ble_eq_true rfl)) (G5.k 7 15 rfl) (G5.l 7 22 rfl) ?_ ?_
  · exact (by unfold vp_in; decide)
  refine V_abs (fun T9 => JO (h + 7) T0 T9) (J.uJ) (fun T5 J5 => ?_)
  replace J := J5
  clear J5 F5 G5 hq
  have F6 := N0.2.2.ss J.1
  refine V_aload_0 568 dX12_init_568 ?_
  refine V_getR 569 (c := 12) 9 (F6.r 0 9 7 rfl) dX12_init_569 fl_RX12_34 (F6.m 0 (Nat.le_of_ble_eq_true rfl)) (F6.k 0 12 rfl) (Nat.le_of_ble_eq_true rfl) (Nat.le_of_ble_eq_true rfl) rfl ?_
  refine V_iconst 572 (5) dX12_init_572 (by decide) ?_
  refine V_bipush 573 (102) dX12_init_573 (by decide) ?_
  refine V_bipush 575 (117) dX12_init_575 (by decide) ?_
  refine V_bipush 577 (108) dX12_init_577 (by decide) ?_
  refine V_bipush 579 (108) dX12_init_579 (by decide) ?_
  refine V_iconst 581 (0) dX12_init_581 (by decide) ?_
  refine V_iconst 582 (0) dX12_init_582 (by decide) ?_
  refine V_iconst 583 (0) dX12_init_583 (by decide) ?_
  refine V_callS 584 [.int _, .int _, .int _, .int _, .int _, .int _, .int _] _ (c_word M.2.1 Γ _ _ _ _ _ _ _ _) dX12_init_584 cb_X12_word ml_RX12_193 sm_yX12_word ⟨(Nat.le_of_ble_eq_true rfl), (Nat.le_of_ble_eq_true rfl)⟩ rfl rfl (Nat.le_of_ble_eq_true rfl) ⟨(Nat.le_of_ble_eq_true rfl), (Nat.le_of_ble_eq_true rfl)⟩ (RLg.go (fun r6 U6 hq => ?_))
  replace J : JO (h + 7) T0 U6 := by rw [hq]; exact J
  have G6 := N0.2.2.ss J.1
  refine V_lastore2 587 dX12_init_587 (G6.m 7 (Nat.le_of_ble_eq_true rfl)) (G6.k 7 15 rfl) (G6.l 7 22 rfl) ?_ ?_
  · exact (by unfold vp_in; decide)
  refine V_abs (fun T9 => JO (h + 7) T0 T9) (J.uJ) (fun T6 J6 => ?_)
  replace J := J6
  clear J6 F6 G6 hq
  have F7 := N0.2.2.ss J.1
  refine V_aload_0 588 dX12_init_588 ?_
  refine V_getR 589 (c := 12) 9 (F7.r 0 9 7 rfl) dX12_init_589 fl_RX12_34 (F7.m 0 (Nat.le_of_ble_eq_true rfl)) (F7.k 0 12 rfl) (Nat.le_of_ble_eq_true rfl) (Nat.le_of_ble_eq_true rfl) rfl ?_
  refine V_bipush 592 (6) dX12_init_592 (by decide) ?_
  refine V_bipush 594 (98) dX12_init_594 (by decide) ?_
  refine V_bipush 596 (97) dX12_init_596 (by decide) ?_
  refine V_bipush 598 (99) dX12_init_598 (by decide) ?_
  refine V_bipush 600 (107) dX12_init_600 (by decide) ?_
  refine V_iconst 602 (0) dX12_init_602 (by decide) ?_
  refine V_iconst 603 (0) dX12_init_603 (by decide) ?_
  refine V_iconst 604 (0) dX12_init_604 (by decide) ?_
  refine V_callS 605 [.int _, .int _, .int _, .int _, .int _, .int _, .int _] _ (c_word M.2.1 Γ _ _ _ _ _ _ _ _) dX12_init_605 cb_X12_word ml_RX12_193 sm_yX12_word ⟨(Nat.le_of_ble_eq_true rfl), (Nat.le_of_ble_eq_true rfl)⟩ rfl rfl (Nat.le_of_ble_eq_true rfl) ⟨(Nat.le_of_ble_eq_true rfl), (Nat.le_of_ble_eq_true rfl)⟩ (RLg.go (fun r7 U7 hq => ?_))
  replace J : JO (h + 7) T0 U7 := by rw [hq]; exact J
  have G7 := N0.2.2.ss J.1
  refine V_lastore2 608 dX12_init_608 (G7.m 7 (Nat.le_of_ble_eq_true rfl)) (G7.k 7 15 rfl) (G7.l 7 22 rfl) ?_ ?_
  · exact (by unfold vp_in; decide)
  refine V_abs (fun T9 => JO (h + 7) T0 T9) (J.uJ) (fun T7 J7 => ?_)
  replace J := J7
  clear J7 F7 G7 hq
  have F8 := N0.2.2.ss J.1
  refine V_aload_0 609 dX12_init_609 ?_
  refine V_getR 610 (c := 12) 9 (F8.r 0 9 7 rfl) dX12_init_610 fl_RX12_34 (F8.m 0 (Nat.le_of_ble_eq_true rfl)) (F8.k 0 12 rfl) (Nat.le_of_ble_eq_true rfl) (Nat.le_of_ble_eq_true rfl) rfl ?_
  refine V_bipush 613 (7) dX12_init_613 (by decide) ?_
  refine V_bipush 615 (115) dX12_init_615 (by decide) ?_
  refine V_bipush 617 (116) dX12_init_617 (by decide) ?_
  refine V_bipush 619 (111) dX12_init_619 (by decide) ?_
  refine V_bipush 621 (112) dX12_init_621 (by decide) ?_
  refine V_iconst 623 (0) dX12_init_623 (by decide) ?_
  refine V_iconst 624 (0) dX12_init_624 (by decide) ?_
  refine V_iconst 625 (0) dX12_init_625 (by decide) ?_
  refine V_callS 626 [.int _, .int _, .int _, .int _, .int _, .int _, .int _] _ (c_word M.2.1 Γ _ _ _ _ _ _ _ _) dX12_init_626 cb_X12_word ml_RX12_193 sm_yX12_word ⟨(Nat.le_of_ble_eq_true rfl), (Nat.le_of_ble_eq_true rfl)⟩ rfl rfl (Nat.le_of_ble_eq_true rfl) ⟨(Nat.le_of_ble_eq_true rfl), (Nat.le_of_ble_eq_true rfl)⟩ (RLg.go (fun r8 U8 hq => ?_))
  replace J : JO (h + 7) T0 U8 := by rw [hq]; exact J
  have G8 := N0.2.2.ss J.1
  refine V_lastore2 629 dX12_init_629 (G8.m 7 (Nat.le_of_ble_eq_true rfl)) (G8.k 7 15 rfl) (G8.l 7 22 rfl) ?_ ?_
  · exact (by unfold vp_in; decide)
  refine V_abs (fun T9 => JO (h + 7) T0 T9) (J.uJ) (fun T8 J8 => ?_)
  replace J := J8
  clear J8 F8 G8 hq
  have F9 := N0.2.2.ss J.1
  refine V_aload_0 630 dX12_init_630 ?_
  refine V_getR 631 (c := 12) 9 (F9.r 0 9 7 rfl) dX12_init_631 fl_RX12_34 (F9.m 0 (Nat.le_of_ble_eq_true rfl)) (F9.k 0 12 rfl) (Nat.le_of_ble_eq_true rfl) (Nat.le_of_ble_eq_true rfl) rfl ?_
  refine V_bipush 634 (8) dX12_init_634 (by decide) ?_
  refine V_bipush 636 (102) dX12_init_636 (by decide) ?_
  refine V_bipush 638 (101) dX12_init_638 (by decide) ?_
  refine V_bipush 640 (119) dX12_init_640 (by decide) ?_
  refine V_iconst 642 (0) dX12_init_642 (by decide) ?_
  refine V_iconst 643 (0) dX12_init_643 (by decide) ?_
  refine V_iconst 644 (0) dX12_init_644 (by decide) ?_
  refine V_iconst 645 (0) dX12_init_645 (by decide) ?_
  refine V_callS 646 [.int _, .int _, .int _, .int _, .int _, .int _, .int _] _ (c_word M.2.1 Γ _ _ _ _ _ _ _ _) dX12_init_646 cb_X12_word ml_RX12_193 sm_yX12_word ⟨(Nat.le_of_ble_eq_true rfl), (Nat.le_of_ble_eq_true rfl)⟩ rfl rfl (Nat.le_of_ble_eq_true rfl) ⟨(Nat.le_of_ble_eq_true rfl), (Nat.le_of_ble_eq_true rfl)⟩ (RLg.go (fun r9 U9 hq => ?_))
  replace J : JO (h + 7) T0 U9 := by rw [hq]; exact J
  have G9 := N0.2.2.ss J.1
  refine V_lastore2 649 dX12_init_649 (G9.m 7 (Nat.le_of_ble_eq_true rfl)) (G9.k 7 15 rfl) (G9.l 7 22 rfl) ?_ ?_
  · exact (by unfold vp_in; decide)
  refine V_abs (fun T9 => JO (h + 7) T0 T9) (J.uJ) (fun T9 J9 => ?_)
  replace J := J9
  clear J9 F9 G9 hq
  have F10 := N0.2.2.ss J.1
  refine V_aload_0 650 dX12_init_650 ?_
  refine V_getR 651 (c := 12) 9 (F10.r 0 9 7 rfl) dX12_init_651 fl_RX12_34 (F10.m 0 (Nat.le_of_ble_eq_true rfl)) (F10.k 0 12 rfl) (Nat.le_of_ble_eq_true rfl) (Nat.le_of_ble_eq_true rfl) rfl ?_
  refine V_bipush 654 (9) dX12_init_654 (by decide) ?_
  refine V_bipush 656 (109) dX12_init_656 (by decide) ?_
  refine V_bipush 658 (97) dX12_init_658 (by decide) ?_
  refine V_bipush 660 (110) dX12_init_660 (by decide) ?_
  refine V_bipush 662 (121) dX12_init_662 (by decide) ?_
  refine V_iconst 664 (0) dX12_init_664 (by decide) ?_
  refine V_iconst 665 (0) dX12_init_665 (by decide) ?_
  refine V_iconst 666 (0) dX12_init_666 (by decide) ?_
  refine V_callS 667 [.int _, .int _, .int _, .int _, .int _, .int _, .int _] _ (c_word M.2.1 Γ _ _ _ _ _ _ _ _) dX12_init_667 cb_X12_word ml_RX12_193 sm_yX12_word ⟨(Nat.le_of_ble_eq_true rfl), (Nat.le_of_ble_eq_true rfl)⟩ rfl rfl (Nat.le_of_ble_eq_true rfl) ⟨(Nat.le_of_ble_eq_true rfl), (Nat.le_of_ble_eq_true rfl)⟩ (RLg.go (fun r10 U10 hq => ?_))
  replace J : JO (h + 7) T0 U10 := by rw [hq]; exact J
  have G10 := N0.2.2.ss J.1
  refine V_lastore2 670 dX12_init_670 (G10.m 7 (Nat.le_of_ble_eq_true rfl)) (G10.k 7 15 rfl) (G10.l 7 22 rfl) ?_ ?_
  · exact (by unfold vp_in; decide)
  refine V_abs (fun T9 => JO (h + 7) T0 T9) (J.uJ) (fun T10 J10 => ?_)
  replace J := J10
  clear J10 F10 G10 hq
  have F11 := N0.2.2.ss J.1
  refine V_aload_0 671 dX12_init_671 ?_
  refine V_getR 672 (c := 12) 9 (F11.r 0 9 7 rfl) dX12_init_672 fl_RX12_34 (F11.m 0 (Nat.le_of_ble_eq_true rfl)) (F11.k 0 12 rfl) (Nat.le_of_ble_eq_true rfl) (Nat.le_of_ble_eq_true rfl) rfl ?_
  refine V_bipush 675 (10) dX12_init_675 (by decide) ?_
  refine V_bipush 677 (108) dX12_init_677 (by decide) ?_
  refine V_bipush 679 (105) dX12_init_679 (by decide) ?_
  refine V_bipush 681 (110) dX12_init_681 (by decide) ?_
  refine V_bipush 683 (101) dX12_init_683 (by decide) ?_
  refine V_iconst 685 (0) dX12_init_685 (by decide) ?_
  refine V_iconst 686 (0) dX12_init_686 (by decide) ?_
  refine V_iconst 687 (0) dX12_init_687 (by decide) ?_
  refine V_callS 688 [.int _, .int _, .int _, .int _, .int _, .int _, .int _] _ (c_word M.2.1 Γ _ _ _ _ _ _ _ _) dX12_init_688 cb_X12_word ml_RX12_193 sm_yX12_word ⟨(Nat.le_of_ble_eq_true rfl), (Nat.le_of_ble_eq_true rfl)⟩ rfl rfl (Nat.le_of_ble_eq_true rfl) ⟨(Nat.le_of_ble_eq_true rfl), (Nat.le_of_ble_eq_true rfl)⟩ (RLg.go (fun r11 U11 hq => ?_))
  replace J : JO (h + 7) T0 U11 := by rw [hq]; exact J
  have G11 := N0.2.2.ss J.1
  refine V_lastore2 691 dX12_init_691 (G11.m 7 (Nat.le_of_ble_eq_true rfl)) (G11.k 7 15 rfl) (G11.l 7 22 rfl) ?_ ?_
  · exact (by unfold vp_in; decide)
  refine V_abs (fun T9 => JO (h + 7) T0 T9) (J.uJ) (fun T11 J11 => ?_)
  replace J := J11
  clear J11 F11 G11 hq
  have F12 := N0.2.2.ss J.1
  refine V_aload_0 692 dX12_init_692 ?_
  refine V_getR 693 (c := 12) 9 (F12.r 0 9 7 rfl) dX12_init_693 fl_RX12_34 (F12.m 0 (Nat.le_of_ble_eq_true rfl)) (F12.k 0 12 rfl) (Nat.le_of_ble_eq_true rfl) (Nat.le_of_ble_eq_true rfl) rfl ?_
  refine V_bipush 696 (11) dX12_init_696 (by decide) ?_
  refine V_bipush 698 (114) dX12_init_698 (by decide) ?_
  refine V_bipush 700 (105) dX12_init_700 (by decide) ?_
  refine V_bipush 702 (103) dX12_init_702 (by decide) ?_
  refine V_bipush 704 (104) dX12_init_704 (by decide) ?_
  refine V_bipush 706 (116) dX12_init_706 (by decide) ?_
  refine V_iconst 708 (0) dX12_init_708 (by decide) ?_
  refine V_iconst 709 (0) dX12_init_709 (by decide) ?_
  refine V_callS 710 [.int _, .int _, .int _, .int _, .int _, .int _, .int _] _ (c_word M.2.1 Γ _ _ _ _ _ _ _ _) dX12_init_710 cb_X12_word ml_RX12_193 sm_yX12_word ⟨(Nat.le_of_ble_eq_true rfl), (Nat.le_of_ble_eq_true rfl)⟩ rfl rfl (Nat.le_of_ble_eq_true rfl) ⟨(Nat.le_of_ble_eq_true rfl), (Nat.le_of_ble_eq_true rfl)⟩ (RLg.go (fun r12 U12 hq => ?_))
  replace J : JO (h + 7) T0 U12 := by rw [hq]; exact J
  have G12 := N0.2.2.ss J.1
  refine V_lastore2 713 dX12_init_713 (G12.m 7 (Nat.le_of_ble_eq_true rfl)) (G12.k 7 15 rfl) (G12.l 7 22 rfl) ?_ ?_
  · exact (by unfold vp_in; decide)
  refine V_abs (fun T9 => JO (h + 7) T0 T9) (J.uJ) (fun T12 J12 => ?_)
  replace J := J12
  clear J12 F12 G12 hq
  have F13 := N0.2.2.ss J.1
  refine V_aload_0 714 dX12_init_714 ?_
  refine V_getR 715 (c := 12) 9 (F13.r 0 9 7 rfl) dX12_init_715 fl_RX12_34 (F13.m 0 (Nat.le_of_ble_eq_true rfl)) (F13.k 0 12 rfl) (Nat.le_of_ble_eq_true rfl) (Nat.le_of_ble_eq_true rfl) rfl ?_
  refine V_bipush 718 (12) dX12_init_718 (by decide) ?_
  refine V_bipush 720 (115) dX12_init_720 (by decide) ?_
  refine V_bipush 722 (101) dX12_init_722 (by decide) ?_
  refine V_bipush 724 (101) dX12_init_724 (by decide) ?_
  refine V_bipush 726 (100) dX12_init_726 (by decide) ?_
  refine V_iconst 728 (0) dX12_init_728 (by decide) ?_
  refine V_iconst 729 (0) dX12_init_729 (by decide) ?_
  refine V_iconst 730 (0) dX12_init_730 (by decide) ?_
  refine V_callS 731 [.int _, .int _, .int _, .int _, .int _, .int _, .int _] _ (c_word M.2.1 Γ _ _ _ _ _ _ _ _) dX12_init_731 cb_X12_word ml_RX12_193 sm_yX12_word ⟨(Nat.le_of_ble_eq_true rfl), (Nat.le_of_ble_eq_true rfl)⟩ rfl rfl (Nat.le_of_ble_eq_true rfl) ⟨(Nat.le_of_ble_eq_true rfl), (Nat.le_of_ble_eq_true rfl)⟩ (RLg.go (fun r13 U13 hq => ?_))
  replace J : JO (h + 7) T0 U13 := by rw [hq]; exact J
  have G13 := N0.2.2.ss J.1
  refine V_lastore2 734 dX12_init_734 (G13.m 7 (Nat.le_of_ble_eq_true rfl)) (G13.k 7 15 rfl) (G13.l 7 22 rfl) ?_ ?_
  · exact (by unfold vp_in; decide)
  refine V_abs (fun T9 => JO (h + 7) T0 T9) (J.uJ) (fun T13 J13 => ?_)
  replace J := J13
  clear J13 F13 G13 hq
  have F14 := N0.2.2.ss J.1
  refine V_aload_0 735 dX12_init_735 ?_
  refine V_getR 736 (c := 12) 9 (F14.r 0 9 7 rfl) dX12_init_736 fl_RX12_34 (F14.m 0 (Nat.le_of_ble_eq_true rfl)) (F14.k 0 12 rfl) (Nat.le_of_ble_eq_true rfl) (Nat.le_of_ble_eq_true rfl) rfl ?_
  refine V_bipush 739 (13) dX12_init_739 (by decide) ?_
  refine V_bipush 741 (108) dX12_init_741 (by decide) ?_
  refine V_bipush 743 (111) dX12_init_743 (by decide) ?_
  refine V_bipush 745 (115) dX12_init_745 (by decide) ?_
  refine V_bipush 747 (101) dX12_init_747 (by decide) ?_
  refine V_iconst 749 (0) dX12_init_749 (by decide) ?_
  refine V_iconst 750 (0) dX12_init_750 (by decide) ?_
  refine V_iconst 751 (0) dX12_init_751 (by decide) ?_
  refine V_callS 752 [.int _, .int _, .int _, .int _, .int _, .int _, .int _] _ (c_word M.2.1 Γ _ _ _ _ _ _ _ _) dX12_init_752 cb_X12_word ml_RX12_193 sm_yX12_word ⟨(Nat.le_of_ble_eq_true rfl), (Nat.le_of_ble_eq_true rfl)⟩ rfl rfl (Nat.le_of_ble_eq_true rfl) ⟨(Nat.le_of_ble_eq_true rfl), (Nat.le_of_ble_eq_true rfl)⟩ (RLg.go (fun r14 U14 hq => ?_))
  replace J : JO (h + 7) T0 U14 := by rw [hq]; exact J
  have G14 := N0.2.2.ss J.1
  refine V_lastore2 755 dX12_init_755 (G14.m 7 (Nat.le_of_ble_eq_true rfl)) (G14.k 7 15 rfl) (G14.l 7 22 rfl) ?_ ?_
  · exact (by unfold vp_in; decide)
  refine V_abs (fun T9 => JO (h + 7) T0 T9) (J.uJ) (fun T14 J14 => ?_)
  replace J := J14
  clear J14 F14 G14 hq
  have F15 := N0.2.2.ss J.1
  refine V_aload_0 756 dX12_init_756 ?_
  refine V_getR 757 (c := 12) 9 (F15.r 0 9 7 rfl) dX12_init_757 fl_RX12_34 (F15.m 0 (Nat.le_of_ble_eq_true rfl)) (F15.k 0 12 rfl) (Nat.le_of_ble_eq_true rfl) (Nat.le_of_ble_eq_true rfl) rfl ?_
  refine V_bipush 760 (14) dX12_init_760 (by decide) ?_
  refine V_bipush 762 (105) dX12_init_762 (by decide) ?_
  refine V_bipush 764 (102) dX12_init_764 (by decide) ?_
  refine V_iconst 766 (0) dX12_init_766 (by decide) ?_
  refine V_iconst 767 (0) dX12_init_767 (by decide) ?_
  refine V_iconst 768 (0) dX12_init_768 (by decide) ?_
  refine V_iconst 769 (0) dX12_init_769 (by decide) ?_
  refine V_iconst 770 (0) dX12_init_770 (by decide) ?_
  refine V_callS 771 [.int _, .int _, .int _, .int _, .int _, .int _, .int _] _ (c_word M.2.1 Γ _ _ _ _ _ _ _ _) dX12_init_771 cb_X12_word ml_RX12_193 sm_yX12_word ⟨(Nat.le_of_ble_eq_true rfl), (Nat.le_of_ble_eq_true rfl)⟩ rfl rfl (Nat.le_of_ble_eq_true rfl) ⟨(Nat.le_of_ble_eq_true rfl), (Nat.le_of_ble_eq_true rfl)⟩ (RLg.go (fun r15 U15 hq => ?_))
  replace J : JO (h + 7) T0 U15 := by rw [hq]; exact J
  have G15 := N0.2.2.ss J.1
  refine V_lastore2 774 dX12_init_774 (G15.m 7 (Nat.le_of_ble_eq_true rfl)) (G15.k 7 15 rfl) (G15.l 7 22 rfl) ?_ ?_
  · exact (by unfold vp_in; decide)
  refine V_abs (fun T9 => JO (h + 7) T0 T9) (J.uJ) (fun T15 J15 => ?_)
  replace J := J15
  clear J15 F15 G15 hq
  have F16 := N0.2.2.ss J.1
  refine V_aload_0 775 dX12_init_775 ?_
  refine V_getR 776 (c := 12) 9 (F16.r 0 9 7 rfl) dX12_init_776 fl_RX12_34 (F16.m 0 (Nat.le_of_ble_eq_true rfl)) (F16.k 0 12 rfl) (Nat.le_of_ble_eq_true rfl) (Nat.le_of_ble_eq_true rfl) rfl ?_
  refine V_bipush 779 (15) dX12_init_779 (by decide) ?_
  refine V_bipush 781 (116) dX12_init_781 (by decide) ?_
  refine V_bipush 783 (104) dX12_init_783 (by decide) ?_
  refine V_bipush 785 (101) dX12_init_785 (by decide) ?_
  refine V_bipush 787 (110) dX12_init_787 (by decide) ?_
  refine V_iconst 789 (0) dX12_init_789 (by decide) ?_
  refine V_iconst 790 (0) dX12_init_790 (by decide) ?_
  refine V_iconst 791 (0) dX12_init_791 (by decide) ?_
  refine V_callS 792 [.int _, .int _, .int _, .int _, .int _, .int _, .int _] _ (c_word M.2.1 Γ _ _ _ _ _ _ _ _) dX12_init_792 cb_X12_word ml_RX12_193 sm_yX12_word ⟨(Nat.le_of_ble_eq_true rfl), (Nat.le_of_ble_eq_true rfl)⟩ rfl rfl (Nat.le_of_ble_eq_true rfl) ⟨(Nat.le_of_ble_eq_true rfl), (Nat.le_of_ble_eq_true rfl)⟩ (RLg.go (fun r16 U16 hq => ?_))
  replace J : JO (h + 7) T0 U16 := by rw [hq]; exact J
  have G16 := N0.2.2.ss J.1
  refine V_lastore2 795 dX12_init_795 (G16.m 7 (Nat.le_of_ble_eq_true rfl)) (G16.k 7 15 rfl) (G16.l 7 22 rfl) ?_ ?_
  · exact (by unfold vp_in; decide)
  refine V_abs (fun T9 => JO (h + 7) T0 T9) (J.uJ) (fun T16 J16 => ?_)
  replace J := J16
  clear J16 F16 G16 hq
  have F17 := N0.2.2.ss J.1
  refine V_aload_0 796 dX12_init_796 ?_
  refine V_getR 797 (c := 12) 9 (F17.r 0 9 7 rfl) dX12_init_797 fl_RX12_34 (F17.m 0 (Nat.le_of_ble_eq_true rfl)) (F17.k 0 12 rfl) (Nat.le_of_ble_eq_true rfl) (Nat.le_of_ble_eq_true rfl) rfl ?_
  refine V_bipush 800 (16) dX12_init_800 (by decide) ?_
  refine V_bipush 802 (101) dX12_init_802 (by decide) ?_
  refine V_bipush 804 (108) dX12_init_804 (by decide) ?_
  refine V_bipush 806 (115) dX12_init_806 (by decide) ?_
  refine V_bipush 808 (101) dX12_init_808 (by decide) ?_
  refine V_iconst 810 (0) dX12_init_810 (by decide) ?_
  refine V_iconst 811 (0) dX12_init_811 (by decide) ?_
  refine V_iconst 812 (0) dX12_init_812 (by decide) ?_
  refine V_callS 813 [.int _, .int _, .int _, .int _, .int _, .int _, .int _] _ (c_word M.2.1 Γ _ _ _ _ _ _ _ _) dX12_init_813 cb_X12_word ml_RX12_193 sm_yX12_word ⟨(Nat.le_of_ble_eq_true rfl), (Nat.le_of_ble_eq_true rfl)⟩ rfl rfl (Nat.le_of_ble_eq_true rfl) ⟨(Nat.le_of_ble_eq_true rfl), (Nat.le_of_ble_eq_true rfl)⟩ (RLg.go (fun r17 U17 hq => ?_))
  replace J : JO (h + 7) T0 U17 := by rw [hq]; exact J
  have G17 := N0.2.2.ss J.1
  refine V_lastore2 816 dX12_init_816 (G17.m 7 (Nat.le_of_ble_eq_true rfl)) (G17.k 7 15 rfl) (G17.l 7 22 rfl) ?_ ?_
  · exact (by unfold vp_in; decide)
  refine V_abs (fun T9 => JO (h + 7) T0 T9) (J.uJ) (fun T17 J17 => ?_)
  replace J := J17
  clear J17 F17 G17 hq
  have F18 := N0.2.2.ss J.1
  refine V_aload_0 817 dX12_init_817 ?_
  refine V_getR 818 (c := 12) 9 (F18.r 0 9 7 rfl) dX12_init_818 fl_RX12_34 (F18.m 0 (Nat.le_of_ble_eq_true rfl)) (F18.k 0 12 rfl) (Nat.le_of_ble_eq_true rfl) (Nat.le_of_ble_eq_true rfl) rfl ?_
  refine V_bipush 821 (17) dX12_init_821 (by decide) ?_
  refine V_bipush 823 (119) dX12_init_823 (by decide) ?_
  refine V_bipush 825 (101) dX12_init_825 (by decide) ?_
  refine V_bipush 827 (101) dX12_init_827 (by decide) ?_
  refine V_bipush 829 (107) dX12_init_829 (by decide) ?_
  refine V_iconst 831 (0) dX12_init_831 (by decide) ?_
  refine V_iconst 832 (0) dX12_init_832 (by decide) ?_
  refine V_iconst 833 (0) dX12_init_833 (by decide) ?_
  refine V_callS 834 [.int _, .int _, .int _, .int _, .int _, .int _, .int _] _ (c_word M.2.1 Γ _ _ _ _ _ _ _ _) dX12_init_834 cb_X12_word ml_RX12_193 sm_yX12_word ⟨(Nat.le_of_ble_eq_true rfl), (Nat.le_of_ble_eq_true rfl)⟩ rfl rfl (Nat.le_of_ble_eq_true rfl) ⟨(Nat.le_of_ble_eq_true rfl), (Nat.le_of_ble_eq_true rfl)⟩ (RLg.go (fun r18 U18 hq => ?_))
  replace J : JO (h + 7) T0 U18 := by rw [hq]; exact J
  have G18 := N0.2.2.ss J.1
  refine V_lastore2 837 dX12_init_837 (G18.m 7 (Nat.le_of_ble_eq_true rfl)) (G18.k 7 15 rfl) (G18.l 7 22 rfl) ?_ ?_
  · exact (by unfold vp_in; decide)
  refine V_abs (fun T9 => JO (h + 7) T0 T9) (J.uJ) (fun T18 J18 => ?_)
  replace J := J18
  clear J18 F18 G18 hq
  have F19 := N0.2.2.ss J.1
  refine V_aload_0 838 dX12_init_838 ?_
  refine V_getR 839 (c := 12) 9 (F19.r 0 9 7 rfl) dX12_init_839 fl_RX12_34 (F19.m 0 (Nat.le_of_ble_eq_true rfl)) (F19.k 0 12 rfl) (Nat.le_of_ble_eq_true rfl) (Nat.le_of_ble_eq_true rfl) rfl ?_
  refine V_bipush 842 (18) dX12_init_842 (by decide) ?_
  refine V_bipush 844 (107) dX12_init_844 (by decide) ?_
  refine V_bipush 846 (105) dX12_init_846 (by decide) ?_
  refine V_bipush 848 (110) dX12_init_848 (by decide) ?_
  refine V_bipush 850 (100) dX12_init_850 (by decide) ?_
  refine V_iconst 852 (0) dX12_init_852 (by decide) ?_
  refine V_iconst 853 (0) dX12_init_853 (by decide) ?_
  refine V_iconst 854 (0) dX12_init_854 (by decide) ?_
  refine V_callS 855 [.int _, .int _, .int _, .int _, .int _, .int _, .int _] _ (c_word M.2.1 Γ _ _ _ _ _ _ _ _) dX12_init_855 cb_X12_word ml_RX12_193 sm_yX12_word ⟨(Nat.le_of_ble_eq_true rfl), (Nat.le_of_ble_eq_true rfl)⟩ rfl rfl (Nat.le_of_ble_eq_true rfl) ⟨(Nat.le_of_ble_eq_true rfl), (Nat.le_of_ble_eq_true rfl)⟩ (RLg.go (fun r19 U19 hq => ?_))
  replace J : JO (h + 7) T0 U19 := by rw [hq]; exact J
  have G19 := N0.2.2.ss J.1
  refine V_lastore2 858 dX12_init_858 (G19.m 7 (Nat.le_of_ble_eq_true rfl)) (G19.k 7 15 rfl) (G19.l 7 22 rfl) ?_ ?_
  · exact (by unfold vp_in; decide)
  refine V_abs (fun T9 => JO (h + 7) T0 T9) (J.uJ) (fun T19 J19 => ?_)
  replace J := J19
  clear J19 F19 G19 hq
  have F20 := N0.2.2.ss J.1
  refine V_aload_0 859 dX12_init_859 ?_
  refine V_getR 860 (c := 12) 9 (F20.r 0 9 7 rfl) dX12_init_860 fl_RX12_34 (F20.m 0 (Nat.le_of_ble_eq_true rfl)) (F20.k 0 12 rfl) (Nat.le_of_ble_eq_true rfl) (Nat.le_of_ble_eq_true rfl) rfl ?_
  refine V_bipush 863 (19) dX12_init_863 (by decide) ?_
  refine V_bipush 865 (116) dX12_init_865 (by decide) ?_
  refine V_bipush 867 (104) dX12_init_867 (by decide) ?_
  refine V_bipush 869 (101) dX12_init_869 (by decide) ?_
  refine V_bipush 871 (114) dX12_init_871 (by decide) ?_
  refine V_bipush 873 (101) dX12_init_873 (by decide) ?_
  refine V_iconst 875 (0) dX12_init_875 (by decide) ?_
  refine V_iconst 876 (0) dX12_init_876 (by decide) ?_
  refine V_callS 877 [.int _, .int _, .int _, .int _, .int _, .int _, .int _] _ (c_word M.2.1 Γ _ _ _ _ _ _ _ _) dX12_init_877 cb_X12_word ml_RX12_193 sm_yX12_word ⟨(Nat.le_of_ble_eq_true rfl), (Nat.le_of_ble_eq_true rfl)⟩ rfl rfl (Nat.le_of_ble_eq_true rfl) ⟨(Nat.le_of_ble_eq_true rfl), (Nat.le_of_ble_eq_true rfl)⟩ (RLg.go (fun r20 U20 hq => ?_))
  replace J : JO (h + 7) T0 U20 := by rw [hq]; exact J
  have G20 := N0.2.2.ss J.1
  refine V_lastore2 880 dX12_init_880 (G20.m 7 (Nat.le_of_ble_eq_true rfl)) (G20.k 7 15 rfl) (G20.l 7 22 rfl) ?_ ?_
  · exact (by unfold vp_in; decide)
  refine V_abs (fun T9 => JO (h + 7) T0 T9) (J.uJ) (fun T20 J20 => ?_)
  replace J := J20
  clear J20 F20 G20 hq
  have F21 := N0.2.2.ss J.1
  refine V_aload_0 881 dX12_init_881 ?_
  refine V_getR 882 (c := 12) 9 (F21.r 0 9 7 rfl) dX12_init_882 fl_RX12_34 (F21.m 0 (Nat.le_of_ble_eq_true rfl)) (F21.k 0 12 rfl) (Nat.le_of_ble_eq_true rfl) (Nat.le_of_ble_eq_true rfl) rfl ?_
  refine V_bipush 885 (20) dX12_init_885 (by decide) ?_
  refine V_bipush 887 (97) dX12_init_887 (by decide) ?_
  refine V_bipush 889 (108) dX12_init_889 (by decide) ?_
  refine V_bipush 891 (108) dX12_init_891 (by decide) ?_
  refine V_iconst 893 (0) dX12_init_893 (by decide) ?_
  refine V_iconst 894 (0) dX12_init_894 (by decide) ?_
  refine V_iconst 895 (0) dX12_init_895 (by decide) ?_
  refine V_iconst 896 (0) dX12_init_896 (by decide) ?_
  refine V_callS 897 [.int _, .int _, .int _, .int _, .int _, .int _, .int _] _ (c_word M.2.1 Γ _ _ _ _ _ _ _ _) dX12_init_897 cb_X12_word ml_RX12_193 sm_yX12_word ⟨(Nat.le_of_ble_eq_true rfl), (Nat.le_of_ble_eq_true rfl)⟩ rfl rfl (Nat.le_of_ble_eq_true rfl) ⟨(Nat.le_of_ble_eq_true rfl), (Nat.le_of_ble_eq_true rfl)⟩ (RLg.go (fun r21 U21 hq => ?_))
  replace J : JO (h + 7) T0 U21 := by rw [hq]; exact J
  have G21 := N0.2.2.ss J.1
  refine V_lastore2 900 dX12_init_900 (G21.m 7 (Nat.le_of_ble_eq_true rfl)) (G21.k 7 15 rfl) (G21.l 7 22 rfl) ?_ ?_
  · exact (by unfold vp_in; decide)
  refine V_abs (fun T9 => JO (h + 7) T0 T9) (J.uJ) (fun T21 J21 => ?_)
  replace J := J21
  clear J21 F21 G21 hq
  have F22 := N0.2.2.ss J.1
  refine V_aload_0 901 dX12_init_901 ?_
  refine V_getR 902 (c := 12) 9 (F22.r 0 9 7 rfl) dX12_init_902 fl_RX12_34 (F22.m 0 (Nat.le_of_ble_eq_true rfl)) (F22.k 0 12 rfl) (Nat.le_of_ble_eq_true rfl) (Nat.le_of_ble_eq_true rfl) rfl ?_
  refine V_bipush 905 (21) dX12_init_905 (by decide) ?_
  refine V_bipush 907 (108) dX12_init_907 (by decide) ?_
  refine V_bipush 909 (111) dX12_init_909 (by decide) ?_
  refine V_bipush 911 (116) dX12_init_911 (by decide) ?_
  refine V_iconst 913 (0) dX12_init_913 (by decide) ?_
  refine V_iconst 914 (0) dX12_init_914 (by decide) ?_
  refine V_iconst 915 (0) dX12_init_915 (by decide) ?_
  refine V_iconst 916 (0) dX12_init_916 (by decide) ?_
  refine V_callS 917 [.int _, .int _, .int _, .int _, .int _, .int _, .int _] _ (c_word M.2.1 Γ _ _ _ _ _ _ _ _) dX12_init_917 cb_X12_word ml_RX12_193 sm_yX12_word ⟨(Nat.le_of_ble_eq_true rfl), (Nat.le_of_ble_eq_true rfl)⟩ rfl rfl (Nat.le_of_ble_eq_true rfl) ⟨(Nat.le_of_ble_eq_true rfl), (Nat.le_of_ble_eq_true rfl)⟩ (RLg.go (fun r22 U22 hq => ?_))
  replace J : JO (h + 7) T0 U22 := by rw [hq]; exact J
  have G22 := N0.2.2.ss J.1
  refine V_lastore2 920 dX12_init_920 (G22.m 7 (Nat.le_of_ble_eq_true rfl)) (G22.k 7 15 rfl) (G22.l 7 22 rfl) ?_ ?_
  · exact (by unfold vp_in; decide)
  refine V_abs (fun T9 => JO (h + 7) T0 T9) (J.uJ) (fun T22 J22 => ?_)
  replace J := J22
  clear J22 F22 G22 hq
  have hF : FMd h T22 := D0.1.to (fun j _ => by rw [J.2.1]) (fun r _ => by rw [J.2.2.1])
  refine V_vret 921 dX12_init_921 rfl (Nat.le_of_ble_eq_true rfl) (Nat.le_of_ble_eq_true rfl) (RV.mk ⟨N0.jo J (by omega), hF, fun j => by rw [J.2.2.1]; exact D0.2 j⟩)

