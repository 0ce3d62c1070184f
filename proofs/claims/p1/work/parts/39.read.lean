/-! the class on a new table: read -/
theorem cpA_ss {S : PS} {a b n : Nat} : SSm S (cpA S a b n) := ⟨rfl, rfl, rfl, rfl, rfl⟩
set_option maxRecDepth 100000 in
set_option maxHeartbeats 8000000 in
theorem c_X2_become (l : Launch) (Γ : GC) (S : PS) {a b : Nat} (Fa : isL lyLaw Γ.2.2.2.2.1 S a) (Fb : isL lyLaw Γ.2.2.2.2.1 S b) : CT l Γ yX2_become cX2_become 2 none (1) (0) (0) [.ref a, .ref b] S (RV (fun S' => SSm S S' ∧ (∀ c, c ≠ a → sI S' c = sI S c) ∧ ∀ c, c ∉ [a + 1, a + 2] → sA S' c = sA S c)) := by
  refine CT.of RX2 "become" [some (.ref a), some (.ref b)] (by decide +kernel) rfl rfl (Nat.le_of_ble_eq_true rfl) rfl (fun M hM => ?_)
  subst hM
  have R1 : RO [a + 1, a + 2] S (cpA S (b + 1) (a + 1) (sL S (b + 1))) := RO.rf.cpy (by simp)
  refine V_aload_1 0 dX2_become_0 ?_
  refine V_getR 1 (c := 2) 0 (Fb.r 0 0 1 rfl) dX2_become_1 fl_RX2_9 (Fb.m 0 (Nat.le_of_ble_eq_true rfl)) (Fb.k 0 2 rfl) (Nat.le_of_ble_eq_true rfl) (Nat.le_of_ble_eq_true rfl) rfl ?_
  refine V_aload_0 4 dX2_become_4 ?_
  refine V_getR 5 (c := 2) 0 (Fa.r 0 0 1 rfl) dX2_become_5 fl_RX2_9 (Fa.m 0 (Nat.le_of_ble_eq_true rfl)) (Fa.k 0 2 rfl) (Nat.le_of_ble_eq_true rfl) (Nat.le_of_ble_eq_true rfl) rfl ?_
  refine V_callSN 8 [.ref _, .ref _] _ (c_copyRow M.2.1 Γ S (a := b + 1) (b := a + 1) (Fb.m 1 (by decide)) (Fb.k 1 14 rfl) (by rw [Fb.l 1 402 rfl]; decide) (Fa.m 1 (by decide)) (Fa.k 1 14 rfl) ((Fa.l 1 402 rfl).trans (Fb.l 1 402 rfl).symm)) dX2_become_8 cb_X11_copyRow ne_RX2_25 sm_yX11_copyRow ⟨(Nat.le_of_ble_eq_true rfl), (Nat.le_of_ble_eq_true rfl)⟩ rfl rfl (Nat.le_of_ble_eq_true rfl) ⟨(Nat.le_of_ble_eq_true rfl), (Nat.le_of_ble_eq_true rfl)⟩ (RV.go (fun S1 hq => ?_))
  rw [← hq] at R1
  have Fa1 := Fa.ss R1.1
  have Fb1 := Fb.ss R1.1
  have R2 : RO [a + 1, a + 2] S (cpA S1 (b + 2) (a + 2) (sL S1 (b + 2))) := R1.cpy (by simp)
  refine V_aload_1 11 dX2_become_11 ?_
  refine V_getR 12 (c := 2) 1 (Fb1.r 0 1 2 rfl) dX2_become_12 fl_RX2_15 (Fb1.m 0 (Nat.le_of_ble_eq_true rfl)) (Fb1.k 0 2 rfl) (Nat.le_of_ble_eq_true rfl) (Nat.le_of_ble_eq_true rfl) rfl ?_
  refine V_aload_0 15 dX2_become_15 ?_
  refine V_getR 16 (c := 2) 1 (Fa1.r 0 1 2 rfl) dX2_become_16 fl_RX2_15 (Fa1.m 0 (Nat.le_of_ble_eq_true rfl)) (Fa1.k 0 2 rfl) (Nat.le_of_ble_eq_true rfl) (Nat.le_of_ble_eq_true rfl) rfl ?_
  refine V_callSN 19 [.ref _, .ref _] _ (c_copyRow M.2.1 Γ S1 (a := b + 2) (b := a + 2) (Fb1.m 2 (by decide)) (Fb1.k 2 14 rfl) (by rw [Fb1.l 2 402 rfl]; decide) (Fa1.m 2 (by decide)) (Fa1.k 2 14 rfl) ((Fa1.l 2 402 rfl).trans (Fb1.l 2 402 rfl).symm)) dX2_become_19 cb_X11_copyRow ne_RX2_25 sm_yX11_copyRow ⟨(Nat.le_of_ble_eq_true rfl), (Nat.le_of_ble_eq_true rfl)⟩ rfl rfl (Nat.le_of_ble_eq_true rfl) ⟨(Nat.le_of_ble_eq_true rfl), (Nat.le_of_ble_eq_true rfl)⟩ (RV.go (fun S2 hq2 => ?_))
  rw [← hq2] at R2
  have Fa2 := Fa.ss R2.1
  have Fb2 := Fb.ss R2.1
  refine V_aload_0 22 dX2_become_22 ?_
  refine V_aload_1 23 dX2_become_23 ?_
  refine V_getI 24 (c := 2) 2 dX2_become_24 fl_RX2_21 (Fb2.m 0 (Nat.le_of_ble_eq_true rfl)) (Fb2.k 0 2 rfl) (Nat.le_of_ble_eq_true rfl) (Nat.le_of_ble_eq_true rfl) rfl ?_
  refine V_putI 27 (c := 2) 2 dX2_become_27 fl_RX2_21 (Fa2.m 0 (Nat.le_of_ble_eq_true rfl)) (Fa2.k 0 2 rfl) (Nat.le_of_ble_eq_true rfl) (Nat.le_of_ble_eq_true rfl) rfl (Or.inl rfl) ?_
  refine V_vret 30 dX2_become_30 rfl (Nat.le_of_ble_eq_true rfl) (Nat.le_of_ble_eq_true rfl) (RV.mk ⟨R2.1, fun c hc => by rw [sI_uI, up2_an _ _ hc, R2.2.1], R2.2.2.2⟩)
set_option maxRecDepth 100000 in
set_option maxHeartbeats 8000000 in
theorem c_X10_become (l : Launch) (Γ : GC) (S : PS) {a b : Nat} (Fa : isL lyText Γ.2.2.2.2.1 S a) (Fb : isL lyText Γ.2.2.2.2.1 S b) : CT l Γ yX10_become cX10_become 2 none (2) (0) (0) [.ref a, .ref b] S (RV (fun S' => SSm S S')) := by
  refine CT.of RX10 "become" [some (.ref a), some (.ref b)] (by decide +kernel) rfl rfl (Nat.le_of_ble_eq_true rfl) rfl (fun M hM => ?_)
  subst hM
  refine V_aload_0 0 dX10_become_0 ?_
  refine V_aload_1 1 dX10_become_1 ?_
  refine V_getI 2 (c := 10) 0 dX10_become_2 fl_RX10_50 (Fb.m 0 (Nat.le_of_ble_eq_true rfl)) (Fb.k 0 10 rfl) (Nat.le_of_ble_eq_true rfl) (Nat.le_of_ble_eq_true rfl) rfl ?_
  refine V_putI 5 (c := 10) 0 dX10_become_5 fl_RX10_50 (Fa.m 0 (Nat.le_of_ble_eq_true rfl)) (Fa.k 0 10 rfl) (Nat.le_of_ble_eq_true rfl) (Nat.le_of_ble_eq_true rfl) rfl (Or.inl rfl) ?_
  refine V_aload_0 8 dX10_become_8 ?_
  refine V_aload_1 9 dX10_become_9 ?_
  refine V_getI 10 (c := 10) 1 dX10_become_10 fl_RX10_54 (Fb.m 0 (Nat.le_of_ble_eq_true rfl)) (Fb.k 0 10 rfl) (Nat.le_of_ble_eq_true rfl) (Nat.le_of_ble_eq_true rfl) rfl ?_
  refine V_putI 13 (c := 10) 1 dX10_become_13 fl_RX10_54 (Fa.m 0 (Nat.le_of_ble_eq_true rfl)) (Fa.k 0 10 rfl) (Nat.le_of_ble_eq_true rfl) (Nat.le_of_ble_eq_true rfl) rfl (Or.inl rfl) ?_
  refine V_abs (SSm S) ⟨rfl, rfl, rfl, rfl, rfl⟩ (fun S1 h1 => ?_)
  have Fa1 := Fa.ss h1
  have Fb1 := Fb.ss h1
  refine V_aload_1 16 dX10_become_16 ?_
  refine V_getR 17 (c := 10) 2 (Fb1.r 0 2 1 rfl) dX10_become_17 fl_RX10_9 (Fb1.m 0 (Nat.le_of_ble_eq_true rfl)) (Fb1.k 0 10 rfl) (Nat.le_of_ble_eq_true rfl) (Nat.le_of_ble_eq_true rfl) rfl ?_
  refine V_aload_0 20 dX10_become_20 ?_
  refine V_getR 21 (c := 10) 2 (Fa1.r 0 2 1 rfl) dX10_become_21 fl_RX10_9 (Fa1.m 0 (Nat.le_of_ble_eq_true rfl)) (Fa1.k 0 10 rfl) (Nat.le_of_ble_eq_true rfl) (Nat.le_of_ble_eq_true rfl) rfl ?_
  refine V_callSN 24 [.ref _, .ref _] _ (c_copyRow M.2.1 Γ S1 (a := b + 1) (b := a + 1) (Fb1.m 1 (by decide)) (Fb1.k 1 14 rfl) (by rw [Fb1.l 1 8 rfl]; decide) (Fa1.m 1 (by decide)) (Fa1.k 1 14 rfl) ((Fa1.l 1 8 rfl).trans (Fb1.l 1 8 rfl).symm)) dX10_become_24 cb_X11_copyRow ne_RX10_77 sm_yX11_copyRow ⟨(Nat.le_of_ble_eq_true rfl), (Nat.le_of_ble_eq_true rfl)⟩ rfl rfl (Nat.le_of_ble_eq_true rfl) ⟨(Nat.le_of_ble_eq_true rfl), (Nat.le_of_ble_eq_true rfl)⟩ (RV.go (fun S2 hq => ?_))
  have h2 : SSm S S2 := by rw [hq]; exact h1.tr cpA_ss
  clear hq
  have Fa2 := Fa.ss h2
  have Fb2 := Fb.ss h2
  refine V_aload_1 27 dX10_become_27 ?_
  refine V_getR 28 (c := 10) 3 (Fb2.r 0 3 2 rfl) dX10_become_28 fl_RX10_15 (Fb2.m 0 (Nat.le_of_ble_eq_true rfl)) (Fb2.k 0 10 rfl) (Nat.le_of_ble_eq_true rfl) (Nat.le_of_ble_eq_true rfl) rfl ?_
  refine V_aload_0 31 dX10_become_31 ?_
  refine V_getR 32 (c := 10) 3 (Fa2.r 0 3 2 rfl) dX10_become_32 fl_RX10_15 (Fa2.m 0 (Nat.le_of_ble_eq_true rfl)) (Fa2.k 0 10 rfl) (Nat.le_of_ble_eq_true rfl) (Nat.le_of_ble_eq_true rfl) rfl ?_
  refine V_callSN 35 [.ref _, .ref _] _ (c_copyRow M.2.1 Γ S2 (a := b + 2) (b := a + 2) (Fb2.m 2 (by decide)) (Fb2.k 2 14 rfl) (by rw [Fb2.l 2 8 rfl]; decide) (Fa2.m 2 (by decide)) (Fa2.k 2 14 rfl) ((Fa2.l 2 8 rfl).trans (Fb2.l 2 8 rfl).symm)) dX10_become_35 cb_X11_copyRow ne_RX10_77 sm_yX11_copyRow ⟨(Nat.le_of_ble_eq_true rfl), (Nat.le_of_ble_eq_true rfl)⟩ rfl rfl (Nat.le_of_ble_eq_true rfl) ⟨(Nat.le_of_ble_eq_true rfl), (Nat.le_of_ble_eq_true rfl)⟩ (RV.go (fun S3 hq => ?_))
  have h3 : SSm S S3 := by rw [hq]; exact h2.tr cpA_ss
  clear hq
  have Fa3 := Fa.ss h3
  have Fb3 := Fb.ss h3
  refine V_aload_1 38 dX10_become_38 ?_
  refine V_getR 39 (c := 10) 4 (Fb3.r 0 4 3 rfl) dX10_become_39 fl_RX10_18 (Fb3.m 0 (Nat.le_of_ble_eq_true rfl)) (Fb3.k 0 10 rfl) (Nat.le_of_ble_eq_true rfl) (Nat.le_of_ble_eq_true rfl) rfl ?_
  refine V_aload_0 42 dX10_become_42 ?_
  refine V_getR 43 (c := 10) 4 (Fa3.r 0 4 3 rfl) dX10_become_43 fl_RX10_18 (Fa3.m 0 (Nat.le_of_ble_eq_true rfl)) (Fa3.k 0 10 rfl) (Nat.le_of_ble_eq_true rfl) (Nat.le_of_ble_eq_true rfl) rfl ?_
  refine V_callSN 46 [.ref _, .ref _] _ (c_copyRow M.2.1 Γ S3 (a := b + 3) (b := a + 3) (Fb3.m 3 (by decide)) (Fb3.k 3 14 rfl) (by rw [Fb3.l 3 8 rfl]; decide) (Fa3.m 3 (by decide)) (Fa3.k 3 14 rfl) ((Fa3.l 3 8 rfl).trans (Fb3.l 3 8 rfl).symm)) dX10_become_46 cb_X11_copyRow ne_RX10_77 sm_yX11_copyRow ⟨(Nat.le_of_ble_eq_true rfl), (Nat.le_of_ble_eq_true rfl)⟩ rfl rfl (Nat.le_of_ble_eq_true rfl) ⟨(Nat.le_of_ble_eq_true rfl), (Nat.le_of_ble_eq_true rfl)⟩ (RV.go (fun S4 hq => ?_))
  have h4 : SSm S S4 := by rw [hq]; exact h3.tr cpA_ss
  clear hq
  have Fa4 := Fa.ss h4
  have Fb4 := Fb.ss h4
  refine V_aload_1 49 dX10_become_49 ?_
  refine V_getR 50 (c := 10) 7 (Fb4.r 0 7 6 rfl) dX10_become_50 fl_RX10_28 (Fb4.m 0 (Nat.le_of_ble_eq_true rfl)) (Fb4.k 0 10 rfl) (Nat.le_of_ble_eq_true rfl) (Nat.le_of_ble_eq_true rfl) rfl ?_
  refine V_aload_0 53 dX10_become_53 ?_
  refine V_getR 54 (c := 10) 7 (Fa4.r 0 7 6 rfl) dX10_become_54 fl_RX10_28 (Fa4.m 0 (Nat.le_of_ble_eq_true rfl)) (Fa4.k 0 10 rfl) (Nat.le_of_ble_eq_true rfl) (Nat.le_of_ble_eq_true rfl) rfl ?_
  refine V_callSN 57 [.ref _, .ref _] _ (c_copyRow M.2.1 Γ S4 (a := b + 6) (b := a + 6) (Fb4.m 6 (by decide)) (Fb4.k 6 14 rfl) (by rw [Fb4.l 6 64 rfl]; decide) (Fa4.m 6 (by decide)) (Fa4.k 6 14 rfl) ((Fa4.l 6 64 rfl).trans (Fb4.l 6 64 rfl).symm)) dX10_become_57 cb_X11_copyRow ne_RX10_77 sm_yX11_copyRow ⟨(Nat.le_of_ble_eq_true rfl), (Nat.le_of_ble_eq_true rfl)⟩ rfl rfl (Nat.le_of_ble_eq_true rfl) ⟨(Nat.le_of_ble_eq_true rfl), (Nat.le_of_ble_eq_true rfl)⟩ (RV.go (fun S5 hq => ?_))
  have h5 : SSm S S5 := by rw [hq]; exact h4.tr cpA_ss
  clear hq
  have Fa5 := Fa.ss h5
  have Fb5 := Fb.ss h5
  refine V_aload_0 60 dX10_become_60 ?_
  refine V_aload_1 61 dX10_become_61 ?_
  refine V_getI 62 (c := 10) 8 dX10_become_62 fl_RX10_61 (Fb5.m 0 (Nat.le_of_ble_eq_true rfl)) (Fb5.k 0 10 rfl) (Nat.le_of_ble_eq_true rfl) (Nat.le_of_ble_eq_true rfl) rfl ?_
  refine V_putI 65 (c := 10) 8 dX10_become_65 fl_RX10_61 (Fa5.m 0 (Nat.le_of_ble_eq_true rfl)) (Fa5.k 0 10 rfl) (Nat.le_of_ble_eq_true rfl) (Nat.le_of_ble_eq_true rfl) rfl (Or.inl rfl) ?_
  refine V_aload_0 68 dX10_become_68 ?_
  refine V_aload_1 69 dX10_become_69 ?_
  refine V_getI 70 (c := 10) 9 dX10_become_70 fl_RX10_64 (Fb5.m 0 (Nat.le_of_ble_eq_true rfl)) (Fb5.k 0 10 rfl) (Nat.le_of_ble_eq_true rfl) (Nat.le_of_ble_eq_true rfl) rfl ?_
  refine V_putI 73 (c := 10) 9 dX10_become_73 fl_RX10_64 (Fa5.m 0 (Nat.le_of_ble_eq_true rfl)) (Fa5.k 0 10 rfl) (Nat.le_of_ble_eq_true rfl) (Nat.le_of_ble_eq_true rfl) rfl (Or.inl rfl) ?_
  refine V_aload_0 76 dX10_become_76 ?_
  refine V_aload_1 77 dX10_become_77 ?_
  refine V_getI 78 (c := 10) 10 dX10_become_78 fl_RX10_67 (Fb5.m 0 (Nat.le_of_ble_eq_true rfl)) (Fb5.k 0 10 rfl) (Nat.le_of_ble_eq_true rfl) (Nat.le_of_ble_eq_true rfl) rfl ?_
  refine V_putI 81 (c := 10) 10 dX10_become_81 fl_RX10_67 (Fa5.m 0 (Nat.le_of_ble_eq_true rfl)) (Fa5.k 0 10 rfl) (Nat.le_of_ble_eq_true rfl) (Nat.le_of_ble_eq_true rfl) rfl (Or.inl rfl) ?_
  refine V_aload_0 84 dX10_become_84 ?_
  refine V_aload_1 85 dX10_become_85 ?_
  refine V_getI 86 (c := 10) 11 dX10_become_86 fl_RX10_70 (Fb5.m 0 (Nat.le_of_ble_eq_true rfl)) (Fb5.k 0 10 rfl) (Nat.le_of_ble_eq_true rfl) (Nat.le_of_ble_eq_true rfl) rfl ?_
  refine V_putI 89 (c := 10) 11 dX10_become_89 fl_RX10_70 (Fa5.m 0 (Nat.le_of_ble_eq_true rfl)) (Fa5.k 0 10 rfl) (Nat.le_of_ble_eq_true rfl) (Nat.le_of_ble_eq_true rfl) rfl (Or.inl rfl) ?_
  refine V_abs (SSm S) (h5.tr ⟨rfl, rfl, rfl, rfl, rfl⟩) (fun S6 h6 => ?_)
  have Fa6 := Fa.ss h6
  have Fb6 := Fb.ss h6
  refine V_aload_1 92 dX10_become_92 ?_
  refine V_getR 93 (c := 10) 12 (Fb6.r 0 12 7 rfl) dX10_become_93 fl_RX10_31 (Fb6.m 0 (Nat.le_of_ble_eq_true rfl)) (Fb6.k 0 10 rfl) (Nat.le_of_ble_eq_true rfl) (Nat.le_of_ble_eq_true rfl) rfl ?_
  refine V_aload_0 96 dX10_become_96 ?_
  refine V_getR 97 (c := 10) 12 (Fa6.r 0 12 7 rfl) dX10_become_97 fl_RX10_31 (Fa6.m 0 (Nat.le_of_ble_eq_true rfl)) (Fa6.k 0 10 rfl) (Nat.le_of_ble_eq_true rfl) (Nat.le_of_ble_eq_true rfl) rfl ?_
  refine V_callSN 100 [.ref _, .ref _] _ (c_copyRow M.2.1 Γ S6 (a := b + 7) (b := a + 7) (Fb6.m 7 (by decide)) (Fb6.k 7 14 rfl) (by rw [Fb6.l 7 18 rfl]; decide) (Fa6.m 7 (by decide)) (Fa6.k 7 14 rfl) ((Fa6.l 7 18 rfl).trans (Fb6.l 7 18 rfl).symm)) dX10_become_100 cb_X11_copyRow ne_RX10_77 sm_yX11_copyRow ⟨(Nat.le_of_ble_eq_true rfl), (Nat.le_of_ble_eq_true rfl)⟩ rfl rfl (Nat.le_of_ble_eq_true rfl) ⟨(Nat.le_of_ble_eq_true rfl), (Nat.le_of_ble_eq_true rfl)⟩ (RV.go (fun S7 hq => ?_))
  have h7 : SSm S S7 := by rw [hq]; exact h6.tr cpA_ss
  clear hq
  have Fa7 := Fa.ss h7
  have Fb7 := Fb.ss h7
  refine V_aload_0 103 dX10_become_103 ?_
  refine V_aload_1 104 dX10_become_104 ?_
  refine V_getI 105 (c := 10) 13 dX10_become_105 fl_RX10_81 (Fb7.m 0 (Nat.le_of_ble_eq_true rfl)) (Fb7.k 0 10 rfl) (Nat.le_of_ble_eq_true rfl) (Nat.le_of_ble_eq_true rfl) rfl ?_
  refine V_putI 108 (c := 10) 13 dX10_become_108 fl_RX10_81 (Fa7.m 0 (Nat.le_of_ble_eq_true rfl)) (Fa7.k 0 10 rfl) (Nat.le_of_ble_eq_true rfl) (Nat.le_of_ble_eq_true rfl) rfl (Or.inl rfl) ?_
  refine V_abs (SSm S) (h7.tr ⟨rfl, rfl, rfl, rfl, rfl⟩) (fun S8 h8 => ?_)
  have Fa8 := Fa.ss h8
  have Fb8 := Fb.ss h8
  refine V_aload_0 111 dX10_become_111 ?_
  refine V_getR 112 (c := 10) 16 (Fa8.r 0 16 10 rfl) dX10_become_112 fl_RX10_43 (Fa8.m 0 (Nat.le_of_ble_eq_true rfl)) (Fa8.k 0 10 rfl) (Nat.le_of_ble_eq_true rfl) (Nat.le_of_ble_eq_true rfl) rfl ?_
  refine V_aload_1 115 dX10_become_115 ?_
  refine V_getR 116 (c := 10) 16 (Fb8.r 0 16 10 rfl) dX10_become_116 fl_RX10_43 (Fb8.m 0 (Nat.le_of_ble_eq_true rfl)) (Fb8.k 0 10 rfl) (Nat.le_of_ble_eq_true rfl) (Nat.le_of_ble_eq_true rfl) rfl ?_
  refine V_callV 119 (ci := 2) [.ref _] _ (c_X2_become M.2.1 Γ S8 (a := a + 10) (b := b + 10) (Fa8.sub 10 lyLaw rfl (by decide)) (Fb8.sub 10 lyLaw rfl (by decide))) dX10_become_119 cb_X2_become ml_RX10_84 im_yX2_become se_yX2_become (Fa8.m 10 (Nat.le_of_ble_eq_true rfl)) (Fa8.k 10 2 rfl) (Nat.le_of_ble_eq_true rfl) ⟨(Nat.le_of_ble_eq_true rfl), (Nat.le_of_ble_eq_true rfl)⟩ rfl rfl (Nat.le_of_ble_eq_true rfl) ⟨(Nat.le_of_ble_eq_true rfl), (Nat.le_of_ble_eq_true rfl)⟩ (RV.go (fun S9 hq => ?_))
  refine V_vret 122 dX10_become_122 rfl (Nat.le_of_ble_eq_true rfl) (Nat.le_of_ble_eq_true rfl) (RV.mk (h8.tr hq.1))
set_option maxRecDepth 100000 in
set_option maxHeartbeats 8000000 in
theorem c_X7_begin (l : Launch) (Γ : GC) (S : PS) {a t : Nat} (Fa : isL lyState Γ.2.2.2.2.1 S a) (Ft : isL lyText Γ.2.2.2.2.1 S t) : CT l Γ yX7_begin cX7_begin 3 none (1) (0) (0) [.ref a, .ref t] S (RV (fun S' => SSm S S')) := by
  refine CT.of RX7 "begin" [some (.ref a), some (.ref t), none] (by decide +kernel) rfl rfl (Nat.le_of_ble_eq_true rfl) rfl (fun M hM => ?_)
  subst hM
  refine V_aload_1 0 dX7_begin_0 ?_
  refine V_getR 1 (c := 10) 2 (Ft.r 0 2 1 rfl) dX7_begin_1 fl_RX7_21 (Ft.m 0 (Nat.le_of_ble_eq_true rfl)) (Ft.k 0 10 rfl) (Nat.le_of_ble_eq_true rfl) (Nat.le_of_ble_eq_true rfl) rfl ?_
  refine V_aload_0 4 dX7_begin_4 ?_
  refine V_getR 5 (c := 7) 0 (Fa.r 0 0 1 rfl) dX7_begin_5 fl_RX7_9 (Fa.m 0 (Nat.le_of_ble_eq_true rfl)) (Fa.k 0 7 rfl) (Nat.le_of_ble_eq_true rfl) (Nat.le_of_ble_eq_true rfl) rfl ?_
  refine V_callSN 8 [.ref _, .ref _] _ (c_copyRow M.2.1 Γ S (a := t + 1) (b := a + 1) (Ft.m 1 (by decide)) (Ft.k 1 14 rfl) (by rw [Ft.l 1 8 rfl]; decide) (Fa.m 1 (by decide)) (Fa.k 1 14 rfl) ((Fa.l 1 8 rfl).trans (Ft.l 1 8 rfl).symm)) dX7_begin_8 cb_X11_copyRow ne_RX7_26 sm_yX11_copyRow ⟨(Nat.le_of_ble_eq_true rfl), (Nat.le_of_ble_eq_true rfl)⟩ rfl rfl (Nat.le_of_ble_eq_true rfl) ⟨(Nat.le_of_ble_eq_true rfl), (Nat.le_of_ble_eq_true rfl)⟩ (RV.go (fun S1 hq => ?_))
  have h1 : SSm S S1 := by rw [hq]; exact cpA_ss
  clear hq
  refine V_iconst 11 (0) dX7_begin_11 (by decide) ?_
  refine V_istore_2 12 dX7_begin_12 rfl (Nat.le_of_ble_eq_true rfl) ?_
  refine V_while (α := Nat × PS) (fun x => 8 - x.1) (fun x => x.1 ≤ 8 ∧ SSm S x.2) (fun x => x.2) (fun x => [some (.ref a), some (.ref t), some (.int (nI x.1))]) (0, S1) ⟨Nat.zero_le _, h1⟩ (fun x hx ih => ?_)
  obtain ⟨i, S2⟩ := x
  obtain ⟨hi, hR⟩ := hx
  dsimp only at hi hR ih ⊢
  have F2 := Fa.ss hR
  refine V_iload_2 13 dX7_begin_13 ?_
  refine V_bipush 14 (8) dX7_begin_14 (by decide) ?_
  refine V_icmp_ge 16 39 dX7_begin_16 (by decide) (fun c => ?_) (fun c => ?_)
  ·
    refine V_aload_0 39 dX7_begin_39 ?_
    refine V_iconst 40 (0) dX7_begin_40 (by decide) ?_
    refine V_putI 41 (c := 7) 3 dX7_begin_41 fl_RX7_30 (F2.m 0 (Nat.le_of_ble_eq_true rfl)) (F2.k 0 7 rfl) (Nat.le_of_ble_eq_true rfl) (Nat.le_of_ble_eq_true rfl) rfl (Or.inl rfl) ?_
    refine V_aload_0 44 dX7_begin_44 ?_
    refine V_iconst 45 (0) dX7_begin_45 (by decide) ?_
    refine V_putI 46 (c := 7) 4 dX7_begin_46 fl_RX7_34 (F2.m 0 (Nat.le_of_ble_eq_true rfl)) (F2.k 0 7 rfl) (Nat.le_of_ble_eq_true rfl) (Nat.le_of_ble_eq_true rfl) rfl (Or.inr ⟨rfl, (Or.inl rfl)⟩) ?_
    refine V_vret 49 dX7_begin_49 rfl (Nat.le_of_ble_eq_true rfl) (Nat.le_of_ble_eq_true rfl) (RV.mk (hR.tr ⟨rfl, rfl, rfl, rfl, rfl⟩))
  ·
    have hi2 := nI_lt8 (by decide) hi c
    refine V_aload_0 19 dX7_begin_19 ?_
    refine V_getR 20 (c := 7) 1 (F2.r 0 1 2 rfl) dX7_begin_20 fl_RX7_15 (F2.m 0 (Nat.le_of_ble_eq_true rfl)) (F2.k 0 7 rfl) (Nat.le_of_ble_eq_true rfl) (Nat.le_of_ble_eq_true rfl) rfl ?_
    refine V_iload_2 23 dX7_begin_23 ?_
    refine V_iconst 24 (0) dX7_begin_24 (by decide) ?_
    refine V_iastore2 25 dX7_begin_25 (F2.m 2 (Nat.le_of_ble_eq_true rfl)) (F2.k 2 14 rfl) (F2.l 2 8 rfl) ?_ ?_
    · exact vp_in_nI hi2 (by decide)
    refine V_aload_0 26 dX7_begin_26 ?_
    refine V_getR 27 (c := 7) 2 (F2.r 0 2 3 rfl) dX7_begin_27 fl_RX7_18 (F2.m 0 (Nat.le_of_ble_eq_true rfl)) (F2.k 0 7 rfl) (Nat.le_of_ble_eq_true rfl) (Nat.le_of_ble_eq_true rfl) rfl ?_
    refine V_iload_2 30 dX7_begin_30 ?_
    refine V_iconst 31 (0) dX7_begin_31 (by decide) ?_
    refine V_iastore2 32 dX7_begin_32 (F2.m 3 (Nat.le_of_ble_eq_true rfl)) (F2.k 3 14 rfl) (F2.l 3 8 rfl) ?_ ?_
    · exact vp_in_nI hi2 (by decide)
    refine V_iinc_2 33 (1) dX7_begin_33 (by decide) rfl (Nat.le_of_ble_eq_true rfl) ?_
    refine V_goto 36 13 dX7_begin_36 (by decide) ?_
    rw [← nI_succ]
    exact ih (i + 1, _) ⟨by dsimp only; omega, hR.tr ⟨rfl, rfl, rfl, rfl, rfl⟩⟩ (by dsimp only; omega)
set_option maxRecDepth 100000 in
set_option maxHeartbeats 8000000 in
theorem c_X3_begin (l : Launch) (Γ : GC) (S : PS) {a t : Nat} (Fa : isL lyLosses Γ.2.2.2.2.1 S a) (Ft : isL lyText Γ.2.2.2.2.1 S t) : CT l Γ yX3_begin cX3_begin 3 none (1) (0) (0) [.ref a, .ref t] S (RV (fun S' => SSm S S')) := by
  refine CT.of RX3 "begin" [some (.ref a), some (.ref t), none] (by decide +kernel) rfl rfl (Nat.le_of_ble_eq_true rfl) rfl (fun M hM => ?_)
  subst hM
  refine V_aload_1 0 dX3_begin_0 ?_
  refine V_getR 1 (c := 10) 2 (Ft.r 0 2 1 rfl) dX3_begin_1 fl_RX3_89 (Ft.m 0 (Nat.le_of_ble_eq_true rfl)) (Ft.k 0 10 rfl) (Nat.le_of_ble_eq_true rfl) (Nat.le_of_ble_eq_true rfl) rfl ?_
  refine V_aload_0 4 dX3_begin_4 ?_
  refine V_getR 5 (c := 3) 2 (Fa.r 0 2 3 rfl) dX3_begin_5 fl_RX3_18 (Fa.m 0 (Nat.le_of_ble_eq_true rfl)) (Fa.k 0 3 rfl) (Nat.le_of_ble_eq_true rfl) (Nat.le_of_ble_eq_true rfl) rfl ?_
  refine V_callSN 8 [.ref _, .ref _] _ (c_copyRow M.2.1 Γ S (a := t + 1) (b := a + 3) (Ft.m 1 (by decide)) (Ft.k 1 14 rfl) (by rw [Ft.l 1 8 rfl]; decide) (Fa.m 3 (by decide)) (Fa.k 3 14 rfl) ((Fa.l 3 8 rfl).trans (Ft.l 1 8 rfl).symm)) dX3_begin_8 cb_X11_copyRow ne_RX3_92 sm_yX11_copyRow ⟨(Nat.le_of_ble_eq_true rfl), (Nat.le_of_ble_eq_true rfl)⟩ rfl rfl (Nat.le_of_ble_eq_true rfl) ⟨(Nat.le_of_ble_eq_true rfl), (Nat.le_of_ble_eq_true rfl)⟩ (RV.go (fun S1 hq => ?_))
  have h1 : SSm S S1 := by rw [hq]; exact cpA_ss
  clear hq
  refine V_iconst 11 (0) dX3_begin_11 (by decide) ?_
  refine V_istore_2 12 dX3_begin_12 rfl (Nat.le_of_ble_eq_true rfl) ?_
  refine V_while (α := Nat × PS) (fun x => 18 - x.1) (fun x => x.1 ≤ 18 ∧ SSm S x.2) (fun x => x.2) (fun x => [some (.ref a), some (.ref t), some (.int (nI x.1))]) (0, S1) ⟨Nat.zero_le _, h1⟩ (fun x hx ih => ?_)
  obtain ⟨i, S2⟩ := x
  obtain ⟨hi, hR⟩ := hx
  dsimp only at hi hR ih ⊢
  have F2 := Fa.ss hR
  refine V_iload_2 13 dX3_begin_13 ?_
  refine V_aload_0 14 dX3_begin_14 ?_
  refine V_getR 15 (c := 3) 3 (F2.r 0 3 4 rfl) dX3_begin_15 fl_RX3_22 (F2.m 0 (Nat.le_of_ble_eq_true rfl)) (F2.k 0 3 rfl) (Nat.le_of_ble_eq_true rfl) (Nat.le_of_ble_eq_true rfl) rfl ?_
  refine V_alen2 18 dX3_begin_18 (F2.m 4 (Nat.le_of_ble_eq_true rfl)) (F2.k 4 16 rfl) (Nat.le_of_ble_eq_true rfl) (Nat.le_of_ble_eq_true rfl) (F2.l 4 18 rfl) ?_
  refine V_icmp_ge 19 35 dX3_begin_19 (by decide) (fun c => ?_) (fun c => ?_)
  ·
    refine V_aload_0 35 dX3_begin_35 ?_
    refine V_iconst 36 (0) dX3_begin_36 (by decide) ?_
    refine V_putI 37 (c := 3) 5 dX3_begin_37 fl_RX3_96 (F2.m 0 (Nat.le_of_ble_eq_true rfl)) (F2.k 0 3 rfl) (Nat.le_of_ble_eq_true rfl) (Nat.le_of_ble_eq_true rfl) rfl (Or.inl rfl) ?_
    refine V_aload_0 40 dX3_begin_40 ?_
    refine V_iconst 41 (-1) dX3_begin_41 (by decide) ?_
    refine V_putI 42 (c := 3) 6 dX3_begin_42 fl_RX3_29 (F2.m 0 (Nat.le_of_ble_eq_true rfl)) (F2.k 0 3 rfl) (Nat.le_of_ble_eq_true rfl) (Nat.le_of_ble_eq_true rfl) rfl (Or.inl rfl) ?_
    refine V_vret 45 dX3_begin_45 rfl (Nat.le_of_ble_eq_true rfl) (Nat.le_of_ble_eq_true rfl) (RV.mk (hR.tr ⟨rfl, rfl, rfl, rfl, rfl⟩))
  ·
    have hi2 := nI_lt8 (by decide) hi c
    refine V_aload_0 22 dX3_begin_22 ?_
    refine V_getR 23 (c := 3) 3 (F2.r 0 3 4 rfl) dX3_begin_23 fl_RX3_22 (F2.m 0 (Nat.le_of_ble_eq_true rfl)) (F2.k 0 3 rfl) (Nat.le_of_ble_eq_true rfl) (Nat.le_of_ble_eq_true rfl) rfl ?_
    refine V_iload_2 26 dX3_begin_26 ?_
    refine V_iconst 27 (0) dX3_begin_27 (by decide) ?_
    refine V_zastore2 28 dX3_begin_28 (F2.m 4 (Nat.le_of_ble_eq_true rfl)) (F2.k 4 16 rfl) (F2.l 4 18 rfl) ?_ (Or.inl rfl) ?_
    · exact vp_in_nI hi2 (by decide)
    refine V_iinc_2 29 (1) dX3_begin_29 (by decide) rfl (Nat.le_of_ble_eq_true rfl) ?_
    refine V_goto 32 13 dX3_begin_32 (by decide) ?_
    rw [← nI_succ]
    exact ih (i + 1, _) ⟨by dsimp only; omega, hR.tr ⟨rfl, rfl, rfl, rfl, rfl⟩⟩ (by dsimp only; omega)
set_option maxRecDepth 100000 in
set_option maxHeartbeats 8000000 in
theorem c_beginAnew (l : Launch) (Γ : GC) (S : PS) {h : Nat} (F : isL lySockTable Γ.2.2.2.2.1 S h) : CT l Γ yX11_beginAnew cX11_beginAnew 2 none (2) (0) (0) [.ref h] S (RV (fun S' => SSm S S')) := by
  refine CT.of RX11 "beginAnew" [some (.ref h), none] (by decide +kernel) rfl rfl (Nat.le_of_ble_eq_true rfl) rfl (fun M hM => ?_)
  subst hM
  refine V_aload_0 0 dX11_beginAnew_0 ?_
  refine V_getR 1 (c := 11) 5 (F.r 0 5 41 rfl) dX11_beginAnew_1 fl_RX11_42 (F.m 0 (Nat.le_of_ble_eq_true rfl)) (F.k 0 11 rfl) (Nat.le_of_ble_eq_true rfl) (Nat.le_of_ble_eq_true rfl) rfl ?_
  refine V_aload_0 4 dX11_beginAnew_4 ?_
  refine V_getR 5 (c := 11) 3 (F.r 0 3 27 rfl) dX11_beginAnew_5 fl_RX11_31 (F.m 0 (Nat.le_of_ble_eq_true rfl)) (F.k 0 11 rfl) (Nat.le_of_ble_eq_true rfl) (Nat.le_of_ble_eq_true rfl) rfl ?_
  refine V_callV 8 (ci := 7) [.ref _] _ (c_X7_begin M.2.1 Γ S (a := h + 41) (t := h + 27) (F.sub 41 lyState rfl (by decide)) (F.sub 27 lyText rfl (by decide))) dX11_beginAnew_8 cb_X7_begin ml_RX11_290 im_yX7_begin se_yX7_begin (F.m 41 (Nat.le_of_ble_eq_true rfl)) (F.k 41 7 rfl) (Nat.le_of_ble_eq_true rfl) ⟨(Nat.le_of_ble_eq_true rfl), (Nat.le_of_ble_eq_true rfl)⟩ rfl rfl (Nat.le_of_ble_eq_true rfl) ⟨(Nat.le_of_ble_eq_true rfl), (Nat.le_of_ble_eq_true rfl)⟩ (RV.go (fun S1 h1 => ?_))
  have F1 := F.ss h1
  refine V_aload_0 11 dX11_beginAnew_11 ?_
  refine V_getR 12 (c := 11) 14 (F1.r 0 14 68 rfl) dX11_beginAnew_12 fl_RX11_77 (F1.m 0 (Nat.le_of_ble_eq_true rfl)) (F1.k 0 11 rfl) (Nat.le_of_ble_eq_true rfl) (Nat.le_of_ble_eq_true rfl) rfl ?_
  refine V_aload_0 15 dX11_beginAnew_15 ?_
  refine V_getR 16 (c := 11) 3 (F1.r 0 3 27 rfl) dX11_beginAnew_16 fl_RX11_31 (F1.m 0 (Nat.le_of_ble_eq_true rfl)) (F1.k 0 11 rfl) (Nat.le_of_ble_eq_true rfl) (Nat.le_of_ble_eq_true rfl) rfl ?_
  refine V_callV 19 (ci := 3) [.ref _] _ (c_X3_begin M.2.1 Γ S1 (a := h + 68) (t := h + 27) (F1.sub 68 lyLosses rfl (by decide)) (F1.sub 27 lyText rfl (by decide))) dX11_beginAnew_19 cb_X3_begin ml_RX11_293 im_yX3_begin se_yX3_begin (F1.m 68 (Nat.le_of_ble_eq_true rfl)) (F1.k 68 3 rfl) (Nat.le_of_ble_eq_true rfl) ⟨(Nat.le_of_ble_eq_true rfl), (Nat.le_of_ble_eq_true rfl)⟩ rfl rfl (Nat.le_of_ble_eq_true rfl) ⟨(Nat.le_of_ble_eq_true rfl), (Nat.le_of_ble_eq_true rfl)⟩ (RV.go (fun S2 h2 => ?_))
  have F2 := F1.ss h2
  refine V_aload_0 22 dX11_beginAnew_22 ?_
  refine V_getR 23 (c := 11) 15 (F2.r 0 15 76 rfl) dX11_beginAnew_23 fl_RX11_84 (F2.m 0 (Nat.le_of_ble_eq_true rfl)) (F2.k 0 11 rfl) (Nat.le_of_ble_eq_true rfl) (Nat.le_of_ble_eq_true rfl) rfl ?_
  refine V_iconst 26 (0) dX11_beginAnew_26 (by decide) ?_
  refine V_putI 27 (c := 6) 2 dX11_beginAnew_27 fl_RX11_268 (F2.m 76 (Nat.le_of_ble_eq_true rfl)) (F2.k 76 6 rfl) (Nat.le_of_ble_eq_true rfl) (Nat.le_of_ble_eq_true rfl) rfl (Or.inl rfl) ?_
  refine V_aload_0 30 dX11_beginAnew_30 ?_
  refine V_iconst 31 (0) dX11_beginAnew_31 (by decide) ?_
  refine V_putI 32 (c := 11) 9 dX11_beginAnew_32 fl_RX11_193 (F2.m 0 (Nat.le_of_ble_eq_true rfl)) (F2.k 0 11 rfl) (Nat.le_of_ble_eq_true rfl) (Nat.le_of_ble_eq_true rfl) rfl (Or.inl rfl) ?_
  refine V_iconst 35 (0) dX11_beginAnew_35 (by decide) ?_
  refine V_istore_1 36 dX11_beginAnew_36 rfl (Nat.le_of_ble_eq_true rfl) ?_
  refine V_while (α := Nat × PS) (fun x => 3 - x.1) (fun x => x.1 ≤ 3 ∧ SSm S x.2) (fun x => x.2) (fun x => [some (.ref h), some (.int (nI x.1))]) (0, _) ⟨Nat.zero_le _, (h1.tr h2).tr ⟨rfl, rfl, rfl, rfl, rfl⟩⟩ (fun x hx ih => ?_)
  obtain ⟨i, S3⟩ := x
  obtain ⟨hi, hR⟩ := hx
  dsimp only at hi hR ih ⊢
  have F3 := F.ss hR
  refine V_iload_1 37 dX11_beginAnew_37 ?_
  refine V_aload_0 38 dX11_beginAnew_38 ?_
  refine V_getR 39 (c := 11) 11 (F3.r 0 11 51 rfl) dX11_beginAnew_39 fl_RX11_56 (F3.m 0 (Nat.le_of_ble_eq_true rfl)) (F3.k 0 11 rfl) (Nat.le_of_ble_eq_true rfl) (Nat.le_of_ble_eq_true rfl) rfl ?_
  refine V_alen2 42 dX11_beginAnew_42 (F3.m 51 (Nat.le_of_ble_eq_true rfl)) (F3.k 51 16 rfl) (Nat.le_of_ble_eq_true rfl) (Nat.le_of_ble_eq_true rfl) (F3.l 51 3 rfl) ?_
  refine V_icmp_ge 43 59 dX11_beginAnew_43 (by decide) (fun c => ?_) (fun c => ?_)
  ·
    refine V_vret 59 dX11_beginAnew_59 rfl (Nat.le_of_ble_eq_true rfl) (Nat.le_of_ble_eq_true rfl) (RV.mk hR)
  ·
    have hi2 := nI_lt8 (by decide) hi c
    refine V_aload_0 46 dX11_beginAnew_46 ?_
    refine V_getR 47 (c := 11) 11 (F3.r 0 11 51 rfl) dX11_beginAnew_47 fl_RX11_56 (F3.m 0 (Nat.le_of_ble_eq_true rfl)) (F3.k 0 11 rfl) (Nat.le_of_ble_eq_true rfl) (Nat.le_of_ble_eq_true rfl) rfl ?_
    refine V_iload_1 50 dX11_beginAnew_50 ?_
    refine V_iconst 51 (0) dX11_beginAnew_51 (by decide) ?_
    refine V_zastore2 52 dX11_beginAnew_52 (F3.m 51 (Nat.le_of_ble_eq_true rfl)) (F3.k 51 16 rfl) (F3.l 51 3 rfl) ?_ (Or.inl rfl) ?_
    · exact vp_in_nI hi2 (by decide)
    refine V_iinc_1 53 (1) dX11_beginAnew_53 (by decide) rfl (Nat.le_of_ble_eq_true rfl) ?_
    refine V_goto 56 37 dX11_beginAnew_56 (by decide) ?_
    rw [← nI_succ]
    exact ih (i + 1, _) ⟨by dsimp only; omega, hR.tr ⟨rfl, rfl, rfl, rfl, rfl⟩⟩ (by dsimp only; omega)
set_option maxRecDepth 100000 in
set_option maxHeartbeats 8000000 in
theorem c_afterBlanks (l : Launch) (Γ : GC) (S : PS) {t : Nat} (F : isL lyTape Γ.2.2.2.2.1 S t) (hz : sI S t 1 = 0) : CT l Γ yX8_afterBlanks cX8_afterBlanks 3 (some .int) (0) (0) (0) [.ref t, .int 0] S (RI (fun r S' => r = 0 ∧ S' = S)) := by
  refine CT.of RX8 "afterBlanks" [some (.ref t), some (.int 0), none] (by decide +kernel) rfl rfl (Nat.le_of_ble_eq_true rfl) rfl (fun M hM => ?_)
  subst hM
  refine V_iload_1 0 dX8_afterBlanks_0 ?_
  refine V_istore_2 1 dX8_afterBlanks_1 rfl (Nat.le_of_ble_eq_true rfl) ?_
  refine V_iload_2 2 dX8_afterBlanks_2 ?_
  refine V_aload_0 3 dX8_afterBlanks_3 ?_
  refine V_getI 4 (c := 8) 1 dX8_afterBlanks_4 fl_RX8_44 (F.m 0 (Nat.le_of_ble_eq_true rfl)) (F.k 0 8 rfl) (Nat.le_of_ble_eq_true rfl) (Nat.le_of_ble_eq_true rfl) rfl ?_
  rw [hz]
  refine V_icmp_ge 7 30 dX8_afterBlanks_7 (by decide) (fun _ => ?_) (fun q => absurd (by decide) q)
  refine V_iload_2 30 dX8_afterBlanks_30 ?_
  refine V_iret 31 .int dX8_afterBlanks_31 rfl rfl (Nat.le_of_ble_eq_true rfl) (Nat.le_of_ble_eq_true rfl) (RI.mk ⟨rfl, rfl⟩)
set_option maxRecDepth 100000 in
set_option maxHeartbeats 8000000 in
theorem c_addToken (l : Launch) (Γ : GC) (S : PS) {t : Nat} (F : isL lyTape Γ.2.2.2.2.1 S t) (hz : sI S t 5 = 0) : CT l Γ yX8_addToken cX8_addToken 5 none (0) (0) (0) [.ref t, .int 0, .long 0, .int 0] S (RV (fun S' => SSm S S' ∧ sI S' t 5 = 1 ∧ sA S' (t + 2) 0 = 0)) := by
  refine CT.of RX8 "addToken" [some (.ref t), some (.int 0), some (.long 0), none, some (.int 0)] (by decide +kernel) rfl rfl (Nat.le_of_ble_eq_true rfl) rfl (fun M hM => ?_)
  subst hM
  refine V_aload_0 0 dX8_addToken_0 ?_
  refine V_getI 1 (c := 8) 5 dX8_addToken_1 fl_RX8_51 (F.m 0 (Nat.le_of_ble_eq_true rfl)) (F.k 0 8 rfl) (Nat.le_of_ble_eq_true rfl) (Nat.le_of_ble_eq_true rfl) rfl ?_
  rw [hz]
  refine V_if_lt 4 84 dX8_addToken_4 (by decide) (fun q => absurd q (by decide)) (fun _ => ?_)
  refine V_aload_0 7 dX8_addToken_7 ?_
  refine V_getI 8 (c := 8) 5 dX8_addToken_8 fl_RX8_51 (F.m 0 (Nat.le_of_ble_eq_true rfl)) (F.k 0 8 rfl) (Nat.le_of_ble_eq_true rfl) (Nat.le_of_ble_eq_true rfl) rfl ?_
  rw [hz]
  refine V_aload_0 11 dX8_addToken_11 ?_
  refine V_getR 12 (c := 8) 2 (F.r 0 2 2 rfl) dX8_addToken_12 fl_RX8_15 (F.m 0 (Nat.le_of_ble_eq_true rfl)) (F.k 0 8 rfl) (Nat.le_of_ble_eq_true rfl) (Nat.le_of_ble_eq_true rfl) rfl ?_
  refine V_alen2 15 dX8_addToken_15 (F.m 2 (Nat.le_of_ble_eq_true rfl)) (F.k 2 14 rfl) (Nat.le_of_ble_eq_true rfl) (Nat.le_of_ble_eq_true rfl) (F.l 2 402 rfl) ?_
  refine V_icmp_ge 16 84 dX8_addToken_16 (by decide) (fun q => absurd q (by decide)) (fun _ => ?_)
  refine V_aload_0 19 dX8_addToken_19 ?_
  refine V_getI 20 (c := 8) 5 dX8_addToken_20 fl_RX8_51 (F.m 0 (Nat.le_of_ble_eq_true rfl)) (F.k 0 8 rfl) (Nat.le_of_ble_eq_true rfl) (Nat.le_of_ble_eq_true rfl) rfl ?_
  rw [hz]
  refine V_aload_0 23 dX8_addToken_23 ?_
  refine V_getR 24 (c := 8) 3 (F.r 0 3 3 rfl) dX8_addToken_24 fl_RX8_18 (F.m 0 (Nat.le_of_ble_eq_true rfl)) (F.k 0 8 rfl) (Nat.le_of_ble_eq_true rfl) (Nat.le_of_ble_eq_true rfl) rfl ?_
  refine V_alen2 27 dX8_addToken_27 (F.m 3 (Nat.le_of_ble_eq_true rfl)) (F.k 3 15 rfl) (Nat.le_of_ble_eq_true rfl) (Nat.le_of_ble_eq_true rfl) (F.l 3 402 rfl) ?_
  refine V_icmp_ge 28 84 dX8_addToken_28 (by decide) (fun q => absurd q (by decide)) (fun _ => ?_)
  refine V_aload_0 31 dX8_addToken_31 ?_
  refine V_getI 32 (c := 8) 5 dX8_addToken_32 fl_RX8_51 (F.m 0 (Nat.le_of_ble_eq_true rfl)) (F.k 0 8 rfl) (Nat.le_of_ble_eq_true rfl) (Nat.le_of_ble_eq_true rfl) rfl ?_
  rw [hz]
  refine V_aload_0 35 dX8_addToken_35 ?_
  refine V_getR 36 (c := 8) 4 (F.r 0 4 4 rfl) dX8_addToken_36 fl_RX8_22 (F.m 0 (Nat.le_of_ble_eq_true rfl)) (F.k 0 8 rfl) (Nat.le_of_ble_eq_true rfl) (Nat.le_of_ble_eq_true rfl) rfl ?_
  refine V_alen2 39 dX8_addToken_39 (F.m 4 (Nat.le_of_ble_eq_true rfl)) (F.k 4 14 rfl) (Nat.le_of_ble_eq_true rfl) (Nat.le_of_ble_eq_true rfl) (F.l 4 402 rfl) ?_
  refine V_icmp_ge 40 84 dX8_addToken_40 (by decide) (fun q => absurd q (by decide)) (fun _ => ?_)
  refine V_aload_0 43 dX8_addToken_43 ?_
  refine V_getR 44 (c := 8) 2 (F.r 0 2 2 rfl) dX8_addToken_44 fl_RX8_15 (F.m 0 (Nat.le_of_ble_eq_true rfl)) (F.k 0 8 rfl) (Nat.le_of_ble_eq_true rfl) (Nat.le_of_ble_eq_true rfl) rfl ?_
  refine V_aload_0 47 dX8_addToken_47 ?_
  refine V_getI 48 (c := 8) 5 dX8_addToken_48 fl_RX8_51 (F.m 0 (Nat.le_of_ble_eq_true rfl)) (F.k 0 8 rfl) (Nat.le_of_ble_eq_true rfl) (Nat.le_of_ble_eq_true rfl) rfl ?_
  rw [hz]
  refine V_iload_1 51 dX8_addToken_51 ?_
  refine V_iastore2 52 dX8_addToken_52 (F.m 2 (Nat.le_of_ble_eq_true rfl)) (F.k 2 14 rfl) (F.l 2 402 rfl) ?_ ?_
  · exact in0 (by decide) (by decide)
  refine V_aload_0 53 dX8_addToken_53 ?_
  refine V_getR 54 (c := 8) 3 (F.r 0 3 3 rfl) dX8_addToken_54 fl_RX8_18 (F.m 0 (Nat.le_of_ble_eq_true rfl)) (F.k 0 8 rfl) (Nat.le_of_ble_eq_true rfl) (Nat.le_of_ble_eq_true rfl) rfl ?_
  refine V_aload_0 57 dX8_addToken_57 ?_
  refine V_getI 58 (c := 8) 5 dX8_addToken_58 fl_RX8_51 (F.m 0 (Nat.le_of_ble_eq_true rfl)) (F.k 0 8 rfl) (Nat.le_of_ble_eq_true rfl) (Nat.le_of_ble_eq_true rfl) rfl ?_
  rw [show sI (uA S (t + 2) (0 : Int32).toNatClampNeg 0) t 5 = 0 from hz]
  refine V_lload_2 61 dX8_addToken_61 ?_
  refine V_lastore2 62 dX8_addToken_62 (F.m 3 (Nat.le_of_ble_eq_true rfl)) (F.k 3 15 rfl) (F.l 3 402 rfl) ?_ ?_
  · exact in0 (by decide) (by decide)
  refine V_aload_0 63 dX8_addToken_63 ?_
  refine V_getR 64 (c := 8) 4 (F.r 0 4 4 rfl) dX8_addToken_64 fl_RX8_22 (F.m 0 (Nat.le_of_ble_eq_true rfl)) (F.k 0 8 rfl) (Nat.le_of_ble_eq_true rfl) (Nat.le_of_ble_eq_true rfl) rfl ?_
  refine V_aload_0 67 dX8_addToken_67 ?_
  refine V_getI 68 (c := 8) 5 dX8_addToken_68 fl_RX8_51 (F.m 0 (Nat.le_of_ble_eq_true rfl)) (F.k 0 8 rfl) (Nat.le_of_ble_eq_true rfl) (Nat.le_of_ble_eq_true rfl) rfl ?_
  rw [show sI (uJ (uA S (t + 2) (0 : Int32).toNatClampNeg 0) (t + 3) (0 : Int32).toNatClampNeg 0) t 5 = 0 from hz]
  refine V_iload_4 71 dX8_addToken_71 ?_
  refine V_iastore2 73 dX8_addToken_73 (F.m 4 (Nat.le_of_ble_eq_true rfl)) (F.k 4 14 rfl) (F.l 4 402 rfl) ?_ ?_
  · exact in0 (by decide) (by decide)
  refine V_aload_0 74 dX8_addToken_74 ?_
  refine V_dup 75 dX8_addToken_75 rfl ?_
  refine V_getI 76 (c := 8) 5 dX8_addToken_76 fl_RX8_51 (F.m 0 (Nat.le_of_ble_eq_true rfl)) (F.k 0 8 rfl) (Nat.le_of_ble_eq_true rfl) (Nat.le_of_ble_eq_true rfl) rfl ?_
  refine V_iconst 79 (1) dX8_addToken_79 (by decide) ?_
  refine V_iadd 80 dX8_addToken_80 ?_
  refine V_putI 81 (c := 8) 5 dX8_addToken_81 fl_RX8_51 (F.m 0 (Nat.le_of_ble_eq_true rfl)) (F.k 0 8 rfl) (Nat.le_of_ble_eq_true rfl) (Nat.le_of_ble_eq_true rfl) rfl (Or.inl rfl) ?_
  rw [show sI (uA (uJ (uA S (t + 2) (0 : Int32).toNatClampNeg 0) (t + 3) (0 : Int32).toNatClampNeg 0) (t + 4) (0 : Int32).toNatClampNeg 0) t 5 = 0 from hz]
  refine V_vret 84 dX8_addToken_84 rfl (Nat.le_of_ble_eq_true rfl) (Nat.le_of_ble_eq_true rfl) (RV.mk ⟨⟨rfl, rfl, rfl, rfl, rfl⟩, by rw [sI_uI, up2_s]; decide, by rw [sA_uI, sA_uA, up2_an _ _ (by omega), sA_uJ, sA_uA]; exact up2_s _ _ _ _⟩)
set_option maxRecDepth 100000 in
set_option maxHeartbeats 8000000 in
theorem c_split (l : Launch) (Γ : GC) (S : PS) {t : Nat} (F : isL lyTape Γ.2.2.2.2.1 S t) (hz : sI S t 1 = 0) : CT l Γ yX8_split cX8_split 3 none (1) (0) (0) [.ref t] S (RV (fun S' => SSm S S' ∧ sI S' t 5 = 1 ∧ sA S' (t + 2) 0 = 0)) := by
  refine CT.of RX8 "split" [some (.ref t), none, none] (by decide +kernel) rfl rfl (Nat.le_of_ble_eq_true rfl) rfl (fun M hM => ?_)
  subst hM
  refine V_aload_0 0 dX8_split_0 ?_
  refine V_iconst 1 (0) dX8_split_1 (by decide) ?_
  refine V_putI 2 (c := 8) 5 dX8_split_2 fl_RX8_51 (F.m 0 (Nat.le_of_ble_eq_true rfl)) (F.k 0 8 rfl) (Nat.le_of_ble_eq_true rfl) (Nat.le_of_ble_eq_true rfl) rfl (Or.inl rfl) ?_
  refine V_abs (fun T => SSm S T ∧ sI T t 1 = 0 ∧ sI T t 5 = 0) ⟨⟨rfl, rfl, rfl, rfl, rfl⟩, by rw [sI_uI, up2_k _ _ (by decide)]; exact hz, by rw [sI_uI, up2_s]⟩ (fun S1 h1 => ?_)
  have F1 := F.ss h1.1
  refine V_aload_0 5 dX8_split_5 ?_
  refine V_iconst 6 (0) dX8_split_6 (by decide) ?_
  refine V_callV 7 (ci := 8) [.int _] _ (c_afterBlanks M.2.1 Γ S1 F1 h1.2.1) dX8_split_7 cb_X8_afterBlanks ml_RX8_54 im_yX8_afterBlanks se_yX8_afterBlanks (F1.m 0 (Nat.le_of_ble_eq_true rfl)) (F1.k 0 8 rfl) (Nat.le_of_ble_eq_true rfl) ⟨(Nat.le_of_ble_eq_true rfl), (Nat.le_of_ble_eq_true rfl)⟩ rfl rfl (Nat.le_of_ble_eq_true rfl) ⟨(Nat.le_of_ble_eq_true rfl), (Nat.le_of_ble_eq_true rfl)⟩ (RI.go (fun r S2 hq => ?_))
  obtain ⟨rfl, rfl⟩ := hq
  refine V_istore_1 10 dX8_split_10 rfl (Nat.le_of_ble_eq_true rfl) ?_
  refine V_iconst 11 (0) dX8_split_11 (by decide) ?_
  refine V_istore_2 12 dX8_split_12 rfl (Nat.le_of_ble_eq_true rfl) ?_
  refine V_iload_2 13 dX8_split_13 ?_
  refine V_sipush 14 (400) dX8_split_14 (by decide) ?_
  refine V_icmp_gt 17 44 dX8_split_17 (by decide) (fun q => absurd q (by decide)) (fun _ => ?_)
  refine V_iload_1 20 dX8_split_20 ?_
  refine V_aload_0 21 dX8_split_21 ?_
  refine V_getI 22 (c := 8) 1 dX8_split_22 fl_RX8_44 (F1.m 0 (Nat.le_of_ble_eq_true rfl)) (F1.k 0 8 rfl) (Nat.le_of_ble_eq_true rfl) (Nat.le_of_ble_eq_true rfl) rfl ?_
  rw [h1.2.1]
  refine V_icmp_ge 25 44 dX8_split_25 (by decide) (fun _ => ?_) (fun q => absurd (by decide) q)
  refine V_aload_0 44 dX8_split_44 ?_
  refine V_iconst 45 (0) dX8_split_45 (by decide) ?_
  refine V_lconst 46 0 dX8_split_46 (by decide) ?_
  refine V_aload_0 47 dX8_split_47 ?_
  refine V_getI 48 (c := 8) 1 dX8_split_48 fl_RX8_44 (F1.m 0 (Nat.le_of_ble_eq_true rfl)) (F1.k 0 8 rfl) (Nat.le_of_ble_eq_true rfl) (Nat.le_of_ble_eq_true rfl) rfl ?_
  rw [h1.2.1]
  refine V_callV 51 (ci := 8) [.int _, .long _, .int _] _ (c_addToken M.2.1 Γ S2 F1 h1.2.2) dX8_split_51 cb_X8_addToken ml_RX8_61 im_yX8_addToken se_yX8_addToken (F1.m 0 (Nat.le_of_ble_eq_true rfl)) (F1.k 0 8 rfl) (Nat.le_of_ble_eq_true rfl) ⟨(Nat.le_of_ble_eq_true rfl), (Nat.le_of_ble_eq_true rfl)⟩ rfl rfl (Nat.le_of_ble_eq_true rfl) ⟨(Nat.le_of_ble_eq_true rfl), (Nat.le_of_ble_eq_true rfl)⟩ (RV.go (fun S3 hq => ?_))
  refine V_vret 54 dX8_split_54 rfl (Nat.le_of_ble_eq_true rfl) (Nat.le_of_ble_eq_true rfl) (RV.mk ⟨h1.1.tr hq.1, hq.2⟩)
set_option maxRecDepth 100000 in
set_option maxHeartbeats 8000000 in
theorem c_typeAt (l : Launch) (Γ : GC) (S : PS) {t : Nat} (F : isL lyTape Γ.2.2.2.2.1 S t) (h1 : sI S t 5 = 1) (h2 : sA S (t + 2) 0 = 0) : CT l Γ yX8_typeAt cX8_typeAt 2 (some .int) (0) (0) (0) [.ref t, .int 0] S (RI (fun r S' => r = 0 ∧ S' = S)) := by
  refine CT.of RX8 "typeAt" [some (.ref t), some (.int 0)] (by decide +kernel) rfl rfl (Nat.le_of_ble_eq_true rfl) rfl (fun M hM => ?_)
  subst hM
  refine V_iload_1 0 dX8_typeAt_0 ?_
  refine V_if_lt 1 30 dX8_typeAt_1 (by decide) (fun q => absurd q (by decide)) (fun _ => ?_)
  refine V_iload_1 4 dX8_typeAt_4 ?_
  refine V_aload_0 5 dX8_typeAt_5 ?_
  refine V_getI 6 (c := 8) 5 dX8_typeAt_6 fl_RX8_51 (F.m 0 (Nat.le_of_ble_eq_true rfl)) (F.k 0 8 rfl) (Nat.le_of_ble_eq_true rfl) (Nat.le_of_ble_eq_true rfl) rfl ?_
  rw [h1]
  refine V_icmp_ge 9 30 dX8_typeAt_9 (by decide) (fun q => absurd q (by decide)) (fun _ => ?_)
  refine V_iload_1 12 dX8_typeAt_12 ?_
  refine V_aload_0 13 dX8_typeAt_13 ?_
  refine V_getR 14 (c := 8) 2 (F.r 0 2 2 rfl) dX8_typeAt_14 fl_RX8_15 (F.m 0 (Nat.le_of_ble_eq_true rfl)) (F.k 0 8 rfl) (Nat.le_of_ble_eq_true rfl) (Nat.le_of_ble_eq_true rfl) rfl ?_
  refine V_alen2 17 dX8_typeAt_17 (F.m 2 (Nat.le_of_ble_eq_true rfl)) (F.k 2 14 rfl) (Nat.le_of_ble_eq_true rfl) (Nat.le_of_ble_eq_true rfl) (F.l 2 402 rfl) ?_
  refine V_icmp_ge 18 30 dX8_typeAt_18 (by decide) (fun q => absurd q (by decide)) (fun _ => ?_)
  refine V_aload_0 21 dX8_typeAt_21 ?_
  refine V_getR 22 (c := 8) 2 (F.r 0 2 2 rfl) dX8_typeAt_22 fl_RX8_15 (F.m 0 (Nat.le_of_ble_eq_true rfl)) (F.k 0 8 rfl) (Nat.le_of_ble_eq_true rfl) (Nat.le_of_ble_eq_true rfl) rfl ?_
  refine V_iload_1 25 dX8_typeAt_25 ?_
  refine V_iaload2 26 dX8_typeAt_26 (F.m 2 (Nat.le_of_ble_eq_true rfl)) (F.k 2 14 rfl) (F.l 2 402 rfl) ?_ ?_
  · exact in0 (by decide) (by decide)
  rw [cl0, h2]
  refine V_goto 27 31 dX8_typeAt_27 (by decide) ?_
  refine V_iret 31 .int dX8_typeAt_31 rfl rfl (Nat.le_of_ble_eq_true rfl) (Nat.le_of_ble_eq_true rfl) (RI.mk ⟨rfl, rfl⟩)
set_option maxRecDepth 100000 in
set_option maxHeartbeats 8000000 in
theorem c_check (l : Launch) (Γ : GC) (S : PS) {g : Nat} (F : isL lyGrammar Γ.2.2.2.2.1 S g) (h1 : sI S (g + 1) 5 = 1) (h2 : sA S (g + 3) 0 = 0) : CT l Γ yX0_check cX0_check 3 (some .int) (1) (0) (0) [.ref g] S (RI (fun r S' => r = 0 ∧ SSm S S' ∧ sI S' (g + 1) 5 = 1 ∧ sA S' (g + 3) 0 = 0)) := by
  refine CT.of RX0 "check" [some (.ref g), none, none] (by decide +kernel) rfl rfl (Nat.le_of_ble_eq_true rfl) rfl (fun M hM => ?_)
  subst hM
  refine V_aload_0 0 dX0_check_0 ?_
  refine V_getR 1 (c := 0) 1 (F.r 0 1 7 rfl) dX0_check_1 fl_RX0_21 (F.m 0 (Nat.le_of_ble_eq_true rfl)) (F.k 0 0 rfl) (Nat.le_of_ble_eq_true rfl) (Nat.le_of_ble_eq_true rfl) rfl ?_
  refine V_callV 4 (ci := 2) [] _ (c_X2_clear M.2.1 Γ S (t := g + 7) (F.sub 7 lyLaw rfl (by decide))) dX0_check_4 cb_X2_clear ml_RX0_25 im_yX2_clear se_yX2_clear (F.m 7 (Nat.le_of_ble_eq_true rfl)) (F.k 7 2 rfl) (Nat.le_of_ble_eq_true rfl) ⟨(Nat.le_of_ble_eq_true rfl), (Nat.le_of_ble_eq_true rfl)⟩ rfl rfl (Nat.le_of_ble_eq_true rfl) ⟨(Nat.le_of_ble_eq_true rfl), (Nat.le_of_ble_eq_true rfl)⟩ (RV.go (fun S1 hq => ?_))
  have s1 : SSm S S1 := by rw [hq]; exact ⟨rfl, rfl, rfl, rfl, rfl⟩
  have t1 : sI S1 (g + 1) 5 = 1 := by rw [hq, sI_uI, up2_a _ _ (by omega)]; exact h1
  have t2 : sA S1 (g + 3) 0 = 0 := by rw [hq]; exact h2
  clear hq
  have F1 := F.ss s1
  refine V_aload_0 7 dX0_check_7 ?_
  refine V_iconst 8 (0) dX0_check_8 (by decide) ?_
  refine V_putI 9 (c := 0) 2 dX0_check_9 fl_RX0_28 (F1.m 0 (Nat.le_of_ble_eq_true rfl)) (F1.k 0 0 rfl) (Nat.le_of_ble_eq_true rfl) (Nat.le_of_ble_eq_true rfl) rfl (Or.inl rfl) ?_
  refine V_abs (fun T => SSm S T ∧ sI T (g + 1) 5 = 1 ∧ sA T (g + 3) 0 = 0) ⟨s1.tr ⟨rfl, rfl, rfl, rfl, rfl⟩, by rw [sI_uI, up2_a _ _ (by omega)]; exact t1, t2⟩ (fun S2 h3 => ?_)
  have F2 := F.ss h3.1
  refine V_aload_0 12 dX0_check_12 ?_
  refine V_aload_0 13 dX0_check_13 ?_
  refine V_getR 14 (c := 0) 0 (F2.r 0 0 1 rfl) dX0_check_14 fl_RX0_12 (F2.m 0 (Nat.le_of_ble_eq_true rfl)) (F2.k 0 0 rfl) (Nat.le_of_ble_eq_true rfl) (Nat.le_of_ble_eq_true rfl) rfl ?_
  refine V_iconst 17 (0) dX0_check_17 (by decide) ?_
  refine V_callV 18 (ci := 8) [.int _] _ (c_typeAt M.2.1 Γ S2 (t := g + 1) (F2.sub 1 lyTape rfl (by decide)) h3.2.1 h3.2.2) dX0_check_18 cb_X8_typeAt ml_RX0_32 im_yX8_typeAt se_yX8_typeAt (F2.m 1 (Nat.le_of_ble_eq_true rfl)) (F2.k 1 8 rfl) (Nat.le_of_ble_eq_true rfl) ⟨(Nat.le_of_ble_eq_true rfl), (Nat.le_of_ble_eq_true rfl)⟩ rfl rfl (Nat.le_of_ble_eq_true rfl) ⟨(Nat.le_of_ble_eq_true rfl), (Nat.le_of_ble_eq_true rfl)⟩ (RI.go (fun r S3 hq => ?_))
  obtain ⟨rfl, rfl⟩ := hq
  refine V_putI 21 (c := 0) 3 dX0_check_21 fl_RX0_36 (F2.m 0 (Nat.le_of_ble_eq_true rfl)) (F2.k 0 0 rfl) (Nat.le_of_ble_eq_true rfl) (Nat.le_of_ble_eq_true rfl) rfl (Or.inl rfl) ?_
  refine V_aload_0 24 dX0_check_24 ?_
  refine V_iconst 25 (0) dX0_check_25 (by decide) ?_
  refine V_putI 26 (c := 0) 4 dX0_check_26 fl_RX0_39 (F2.m 0 (Nat.le_of_ble_eq_true rfl)) (F2.k 0 0 rfl) (Nat.le_of_ble_eq_true rfl) (Nat.le_of_ble_eq_true rfl) rfl (Or.inl rfl) ?_
  refine V_aload_0 29 dX0_check_29 ?_
  refine V_iconst 30 (0) dX0_check_30 (by decide) ?_
  refine V_putI 31 (c := 0) 5 dX0_check_31 fl_RX0_42 (F2.m 0 (Nat.le_of_ble_eq_true rfl)) (F2.k 0 0 rfl) (Nat.le_of_ble_eq_true rfl) (Nat.le_of_ble_eq_true rfl) rfl (Or.inl rfl) ?_
  refine V_aload_0 34 dX0_check_34 ?_
  refine V_iconst 35 (0) dX0_check_35 (by decide) ?_
  refine V_putI 36 (c := 0) 6 dX0_check_36 fl_RX0_45 (F2.m 0 (Nat.le_of_ble_eq_true rfl)) (F2.k 0 0 rfl) (Nat.le_of_ble_eq_true rfl) (Nat.le_of_ble_eq_true rfl) rfl (Or.inl rfl) ?_
  refine V_aload_0 39 dX0_check_39 ?_
  refine V_iconst 40 (0) dX0_check_40 (by decide) ?_
  refine V_putI 41 (c := 0) 7 dX0_check_41 fl_RX0_48 (F2.m 0 (Nat.le_of_ble_eq_true rfl)) (F2.k 0 0 rfl) (Nat.le_of_ble_eq_true rfl) (Nat.le_of_ble_eq_true rfl) rfl (Or.inl rfl) ?_
  refine V_abs (fun T => SSm S T ∧ sI T (g + 1) 5 = 1 ∧ sA T (g + 3) 0 = 0 ∧ sI T g 3 = 0 ∧ sI T g 4 = 0) ⟨h3.1.tr ⟨rfl, rfl, rfl, rfl, rfl⟩, by simp (disch := omega) only [sI_uI, up2_a]; exact h3.2.1, h3.2.2, by simp (disch := decide) only [sI_uI, up2_k, up2_s], by simp (disch := decide) only [sI_uI, up2_k, up2_s]⟩ (fun S4 h4 => ?_)
  have F4 := F.ss h4.1
  refine V_iconst 44 (1) dX0_check_44 (by decide) ?_
  refine V_istore_1 45 dX0_check_45 rfl (Nat.le_of_ble_eq_true rfl) ?_
  refine V_iconst 46 (0) dX0_check_46 (by decide) ?_
  refine V_istore_2 47 dX0_check_47 rfl (Nat.le_of_ble_eq_true rfl) ?_
  refine V_iload_2 48 dX0_check_48 ?_
  refine V_sipush 49 (400) dX0_check_49 (by decide) ?_
  refine V_icmp_gt 52 130 dX0_check_52 (by decide) (fun q => absurd q (by decide)) (fun _ => ?_)
  refine V_iload_1 55 dX0_check_55 ?_
  refine V_if_eq 56 130 dX0_check_56 (by decide) (fun q => absurd q (by decide)) (fun _ => ?_)
  refine V_aload_0 59 dX0_check_59 ?_
  refine V_getI 60 (c := 0) 3 dX0_check_60 fl_RX0_36 (F4.m 0 (Nat.le_of_ble_eq_true rfl)) (F4.k 0 0 rfl) (Nat.le_of_ble_eq_true rfl) (Nat.le_of_ble_eq_true rfl) rfl ?_
  rw [h4.2.2.2.1]
  refine V_if_eq 63 130 dX0_check_63 (by decide) (fun _ => ?_) (fun q => absurd (rfl) q)
  refine V_aload_0 130 dX0_check_130 ?_
  refine V_getI 131 (c := 0) 4 dX0_check_131 fl_RX0_39 (F4.m 0 (Nat.le_of_ble_eq_true rfl)) (F4.k 0 0 rfl) (Nat.le_of_ble_eq_true rfl) (Nat.le_of_ble_eq_true rfl) rfl ?_
  refine V_iret 134 .int dX0_check_134 rfl rfl (Nat.le_of_ble_eq_true rfl) (Nat.le_of_ble_eq_true rfl) (RI.mk ⟨h4.2.2.2.2, h4.1, h4.2.1, h4.2.2.1⟩)
set_option maxRecDepth 100000 in
set_option maxHeartbeats 8000000 in
theorem c_X9_tell (l : Launch) (Γ : GC) (S : PS) {b : Nat} (F : isL lyTeller Γ.2.2.2.2.1 S b) (h1 : sI S (b + 2) 5 = 1) (h2 : sA S (b + 4) 0 = 0) : CT l Γ yX9_tell cX9_tell 2 none (1) (0) (0) [.ref b, .int 0] S (RV (fun S' => S' = S)) := by
  refine CT.of RX9 "tell" [some (.ref b), some (.int 0)] (by decide +kernel) rfl rfl (Nat.le_of_ble_eq_true rfl) rfl (fun M hM => ?_)
  subst hM
  refine V_aload_0 0 dX9_tell_0 ?_
  refine V_getR 1 (c := 9) 1 (F.r 0 1 2 rfl) dX9_tell_1 fl_RX9_22 (F.m 0 (Nat.le_of_ble_eq_true rfl)) (F.k 0 9 rfl) (Nat.le_of_ble_eq_true rfl) (Nat.le_of_ble_eq_true rfl) rfl ?_
  refine V_iload_1 4 dX9_tell_4 ?_
  refine V_callV 5 (ci := 8) [.int _] _ (c_typeAt M.2.1 Γ S (t := b + 2) (F.sub 2 lyTape rfl (by decide)) h1 h2) dX9_tell_5 cb_X8_typeAt ml_RX9_60 im_yX8_typeAt se_yX8_typeAt (F.m 2 (Nat.le_of_ble_eq_true rfl)) (F.k 2 8 rfl) (Nat.le_of_ble_eq_true rfl) ⟨(Nat.le_of_ble_eq_true rfl), (Nat.le_of_ble_eq_true rfl)⟩ rfl rfl (Nat.le_of_ble_eq_true rfl) ⟨(Nat.le_of_ble_eq_true rfl), (Nat.le_of_ble_eq_true rfl)⟩ (RI.go (fun r S1 hq => ?_))
  obtain ⟨rfl, rfl⟩ := hq
  refine V_tableOut 8 194 dX9_tell_8 (Or.inl (by decide)) (by decide) ?_
  refine V_vret 194 dX9_tell_194 rfl (Nat.le_of_ble_eq_true rfl) (Nat.le_of_ble_eq_true rfl) (RV.mk rfl)
set_option maxRecDepth 100000 in
set_option maxHeartbeats 8000000 in
theorem c_tellAll (l : Launch) (Γ : GC) (S : PS) {b : Nat} (F : isL lyTeller Γ.2.2.2.2.1 S b) (h1 : sI S (b + 2) 5 = 1) (h2 : sA S (b + 4) 0 = 0) : CT l Γ yX9_tellAll cX9_tellAll 2 (some .int) (2) (0) (0) [.ref b] S (RI (fun r S' => r = 0 ∧ SSm S S')) := by
  refine CT.of RX9 "tellAll" [some (.ref b), none] (by decide +kernel) rfl rfl (Nat.le_of_ble_eq_true rfl) rfl (fun M hM => ?_)
  subst hM
  refine V_aload_0 0 dX9_tellAll_0 ?_
  refine V_getR 1 (c := 9) 2 (F.r 0 2 12 rfl) dX9_tellAll_1 fl_RX9_26 (F.m 0 (Nat.le_of_ble_eq_true rfl)) (F.k 0 9 rfl) (Nat.le_of_ble_eq_true rfl) (Nat.le_of_ble_eq_true rfl) rfl ?_
  refine V_callV 4 (ci := 10) [] _ (c_X10_clear M.2.1 Γ S (t := b + 12) (F.sub 12 lyText rfl (by decide))) dX9_tellAll_4 cb_X10_clear ml_RX9_30 im_yX10_clear se_yX10_clear (F.m 12 (Nat.le_of_ble_eq_true rfl)) (F.k 12 10 rfl) (Nat.le_of_ble_eq_true rfl) ⟨(Nat.le_of_ble_eq_true rfl), (Nat.le_of_ble_eq_true rfl)⟩ rfl rfl (Nat.le_of_ble_eq_true rfl) ⟨(Nat.le_of_ble_eq_true rfl), (Nat.le_of_ble_eq_true rfl)⟩ (RV.go (fun S1 hq => ?_))
  have s1 := hq.1
  have t1 : sI S1 (b + 2) 5 = 1 := by rw [hq.2.1 (b + 2) (by omega) (by omega)]; exact h1
  have t2 : sA S1 (b + 4) 0 = 0 := by rw [hq.2.2.1 (b + 4) (by simp)]; exact h2
  clear hq
  have F1 := F.ss s1
  refine V_aload_0 7 dX9_tellAll_7 ?_
  refine V_getR 8 (c := 9) 2 (F1.r 0 2 12 rfl) dX9_tellAll_8 fl_RX9_26 (F1.m 0 (Nat.le_of_ble_eq_true rfl)) (F1.k 0 9 rfl) (Nat.le_of_ble_eq_true rfl) (Nat.le_of_ble_eq_true rfl) rfl ?_
  refine V_getR 11 (c := 10) 16 (F1.r 12 16 22 rfl) dX9_tellAll_11 fl_RX9_33 (F1.m 12 (Nat.le_of_ble_eq_true rfl)) (F1.k 12 10 rfl) (Nat.le_of_ble_eq_true rfl) (Nat.le_of_ble_eq_true rfl) rfl ?_
  refine V_aload_0 14 dX9_tellAll_14 ?_
  refine V_getR 15 (c := 9) 0 (F1.r 0 0 1 rfl) dX9_tellAll_15 fl_RX9_12 (F1.m 0 (Nat.le_of_ble_eq_true rfl)) (F1.k 0 9 rfl) (Nat.le_of_ble_eq_true rfl) (Nat.le_of_ble_eq_true rfl) rfl ?_
  refine V_getR 18 (c := 0) 1 (F1.r 1 1 8 rfl) dX9_tellAll_18 fl_RX9_37 (F1.m 1 (Nat.le_of_ble_eq_true rfl)) (F1.k 1 0 rfl) (Nat.le_of_ble_eq_true rfl) (Nat.le_of_ble_eq_true rfl) rfl ?_
  refine V_callV 21 (ci := 2) [.ref _] _ (c_X2_become M.2.1 Γ S1 (a := b + 22) (b := b + 8) (F1.sub 22 lyLaw rfl (by decide)) (F1.sub 8 lyLaw rfl (by decide))) dX9_tellAll_21 cb_X2_become ml_RX9_38 im_yX2_become se_yX2_become (F1.m 22 (Nat.le_of_ble_eq_true rfl)) (F1.k 22 2 rfl) (Nat.le_of_ble_eq_true rfl) ⟨(Nat.le_of_ble_eq_true rfl), (Nat.le_of_ble_eq_true rfl)⟩ rfl rfl (Nat.le_of_ble_eq_true rfl) ⟨(Nat.le_of_ble_eq_true rfl), (Nat.le_of_ble_eq_true rfl)⟩ (RV.go (fun S2 hq => ?_))
  have s2 := s1.tr hq.1
  have t3 : sI S2 (b + 2) 5 = 1 := by rw [hq.2.1 (b + 2) (by omega)]; exact t1
  have t4 : sA S2 (b + 4) 0 = 0 := by rw [hq.2.2 (b + 4) (by simp)]; exact t2
  clear hq
  have F2 := F.ss s2
  refine V_aload_0 24 dX9_tellAll_24 ?_
  refine V_iconst 25 (0) dX9_tellAll_25 (by decide) ?_
  refine V_putI 26 (c := 9) 3 dX9_tellAll_26 fl_RX9_44 (F2.m 0 (Nat.le_of_ble_eq_true rfl)) (F2.k 0 9 rfl) (Nat.le_of_ble_eq_true rfl) (Nat.le_of_ble_eq_true rfl) rfl (Or.inl rfl) ?_
  refine V_aload_0 29 dX9_tellAll_29 ?_
  refine V_iconst 30 (-1) dX9_tellAll_30 (by decide) ?_
  refine V_putI 31 (c := 9) 4 dX9_tellAll_31 fl_RX9_48 (F2.m 0 (Nat.le_of_ble_eq_true rfl)) (F2.k 0 9 rfl) (Nat.le_of_ble_eq_true rfl) (Nat.le_of_ble_eq_true rfl) rfl (Or.inl rfl) ?_
  refine V_abs (fun T => SSm S T ∧ sI T (b + 2) 5 = 1 ∧ sA T (b + 4) 0 = 0 ∧ sI T b 3 = 0) ⟨s2.tr ⟨rfl, rfl, rfl, rfl, rfl⟩, by rw [sI_uI, up2_a _ _ (by omega), sI_uI, up2_a _ _ (by omega)]; exact t3, t4, by rw [sI_uI, up2_k _ _ (by decide), sI_uI, up2_s]⟩ (fun S3 h3 => ?_)
  have F3 := F.ss h3.1
  refine V_iconst 34 (0) dX9_tellAll_34 (by decide) ?_
  refine V_istore_1 35 dX9_tellAll_35 rfl (Nat.le_of_ble_eq_true rfl) ?_
  refine V_iload_1 36 dX9_tellAll_36 ?_
  refine V_aload_0 37 dX9_tellAll_37 ?_
  refine V_getR 38 (c := 9) 1 (F3.r 0 1 2 rfl) dX9_tellAll_38 fl_RX9_22 (F3.m 0 (Nat.le_of_ble_eq_true rfl)) (F3.k 0 9 rfl) (Nat.le_of_ble_eq_true rfl) (Nat.le_of_ble_eq_true rfl) rfl ?_
  refine V_getI 41 (c := 8) 5 dX9_tellAll_41 fl_RX9_51 (F3.m 2 (Nat.le_of_ble_eq_true rfl)) (F3.k 2 8 rfl) (Nat.le_of_ble_eq_true rfl) (Nat.le_of_ble_eq_true rfl) rfl ?_
  rw [h3.2.1]
  refine V_icmp_ge 44 65 dX9_tellAll_44 (by decide) (fun q => absurd q (by decide)) (fun _ => ?_)
  refine V_aload_0 47 dX9_tellAll_47 ?_
  refine V_getI 48 (c := 9) 3 dX9_tellAll_48 fl_RX9_44 (F3.m 0 (Nat.le_of_ble_eq_true rfl)) (F3.k 0 9 rfl) (Nat.le_of_ble_eq_true rfl) (Nat.le_of_ble_eq_true rfl) rfl ?_
  rw [h3.2.2.2]
  refine V_if_ne 51 65 dX9_tellAll_51 (by decide) (fun q => absurd (rfl) q) (fun _ => ?_)
  refine V_aload_0 54 dX9_tellAll_54 ?_
  refine V_iload_1 55 dX9_tellAll_55 ?_
  refine V_callV 56 (ci := 9) [.int _] _ (c_X9_tell M.2.1 Γ S3 F3 h3.2.1 h3.2.2.1) dX9_tellAll_56 cb_X9_tell ml_RX9_56 im_yX9_tell se_yX9_tell (F3.m 0 (Nat.le_of_ble_eq_true rfl)) (F3.k 0 9 rfl) (Nat.le_of_ble_eq_true rfl) ⟨(Nat.le_of_ble_eq_true rfl), (Nat.le_of_ble_eq_true rfl)⟩ rfl rfl (Nat.le_of_ble_eq_true rfl) ⟨(Nat.le_of_ble_eq_true rfl), (Nat.le_of_ble_eq_true rfl)⟩ (RV.go (fun S4 hq => ?_))
  subst hq
  refine V_iinc_1 59 (1) dX9_tellAll_59 (by decide) rfl (Nat.le_of_ble_eq_true rfl) ?_
  refine V_goto 62 36 dX9_tellAll_62 (by decide) ?_
  refine V_iload_1 36 dX9_tellAll_36 ?_
  refine V_aload_0 37 dX9_tellAll_37 ?_
  refine V_getR 38 (c := 9) 1 (F3.r 0 1 2 rfl) dX9_tellAll_38 fl_RX9_22 (F3.m 0 (Nat.le_of_ble_eq_true rfl)) (F3.k 0 9 rfl) (Nat.le_of_ble_eq_true rfl) (Nat.le_of_ble_eq_true rfl) rfl ?_
  refine V_getI 41 (c := 8) 5 dX9_tellAll_41 fl_RX9_51 (F3.m 2 (Nat.le_of_ble_eq_true rfl)) (F3.k 2 8 rfl) (Nat.le_of_ble_eq_true rfl) (Nat.le_of_ble_eq_true rfl) rfl ?_
  rw [h3.2.1]
  refine V_icmp_ge 44 65 dX9_tellAll_44 (by decide) (fun _ => ?_) (fun q => absurd (by decide) q)
  refine V_aload_0 65 dX9_tellAll_65 ?_
  refine V_getI 66 (c := 9) 3 dX9_tellAll_66 fl_RX9_44 (F3.m 0 (Nat.le_of_ble_eq_true rfl)) (F3.k 0 9 rfl) (Nat.le_of_ble_eq_true rfl) (Nat.le_of_ble_eq_true rfl) rfl ?_
  refine V_iret 69 .int dX9_tellAll_69 rfl rfl (Nat.le_of_ble_eq_true rfl) (Nat.le_of_ble_eq_true rfl) (RI.mk ⟨h3.2.2.2, h3.1⟩)
set_option maxRecDepth 100000 in
set_option maxHeartbeats 8000000 in
theorem f_read (l : Launch) (Γ : GC) (S : PS) {h : Nat} (F : isL lySockTable Γ.2.2.2.2.1 S h) (D : FRESH h S) : CT l Γ yX11_read cX11_read 3 (some .int) (3) (0) (0) [.ref h] S (RI (fun r S' => r = 0)) := by
  refine CT.of RX11 "read" [some (.ref h), none, none] (by decide +kernel) rfl rfl (Nat.le_of_ble_eq_true rfl) rfl (fun M hM => ?_)
  subst hM
  obtain ⟨⟨d1, d2, d3, ⟨⟨k0, k1, k8, k9, k10, k11, k13⟩, kn, kp⟩, ⟨w1, w2, w3, w4⟩, dh, ⟨o1, o2, o3⟩, ⟨l1, l2, l3⟩, ds⟩, P1, P2⟩ := D
  refine V_aload_0 0 dX11_read_0 ?_
  refine V_getR 1 (c := 11) 2 (F.r 0 2 3 rfl) dX11_read_1 fl_RX11_27 (F.m 0 (Nat.le_of_ble_eq_true rfl)) (F.k 0 11 rfl) (Nat.le_of_ble_eq_true rfl) (Nat.le_of_ble_eq_true rfl) rfl ?_
  refine V_callV 4 (ci := 8) [] _ (c_split M.2.1 Γ S (t := h + 3) (F.sub 3 lyTape rfl (by decide)) (congrFun d3 1)) dX11_read_4 cb_X8_split ml_RX11_97 im_yX8_split se_yX8_split (F.m 3 (Nat.le_of_ble_eq_true rfl)) (F.k 3 8 rfl) (Nat.le_of_ble_eq_true rfl) ⟨(Nat.le_of_ble_eq_true rfl), (Nat.le_of_ble_eq_true rfl)⟩ rfl rfl (Nat.le_of_ble_eq_true rfl) ⟨(Nat.le_of_ble_eq_true rfl), (Nat.le_of_ble_eq_true rfl)⟩ (RV.go (fun S1 h1 => ?_))
  have F1 := F.ss h1.1
  refine V_aload_0 7 dX11_read_7 ?_
  refine V_getR 8 (c := 11) 2 (F1.r 0 2 3 rfl) dX11_read_8 fl_RX11_27 (F1.m 0 (Nat.le_of_ble_eq_true rfl)) (F1.k 0 11 rfl) (Nat.le_of_ble_eq_true rfl) (Nat.le_of_ble_eq_true rfl) rfl ?_
  refine V_iconst 11 (0) dX11_read_11 (by decide) ?_
  refine V_putI 12 (c := 8) 1 dX11_read_12 fl_RX11_88 (F1.m 3 (Nat.le_of_ble_eq_true rfl)) (F1.k 3 8 rfl) (Nat.le_of_ble_eq_true rfl) (Nat.le_of_ble_eq_true rfl) rfl (Or.inl rfl) ?_
  refine V_abs (fun T => SSm S T ∧ sI T (h + 3) 5 = 1 ∧ sA T (h + 5) 0 = 0) ⟨h1.1.tr ⟨rfl, rfl, rfl, rfl, rfl⟩, by rw [sI_uI, up2_k _ _ (by decide)]; exact h1.2.1, h1.2.2⟩ (fun S2 h2 => ?_)
  have F2 := F.ss h2.1
  refine V_aload_0 15 dX11_read_15 ?_
  refine V_getR 16 (c := 11) 1 (F2.r 0 1 2 rfl) dX11_read_16 fl_RX11_20 (F2.m 0 (Nat.le_of_ble_eq_true rfl)) (F2.k 0 11 rfl) (Nat.le_of_ble_eq_true rfl) (Nat.le_of_ble_eq_true rfl) rfl ?_
  refine V_callV 19 (ci := 0) [] _ (c_check M.2.1 Γ S2 (g := h + 2) (F2.sub 2 lyGrammar rfl (by decide)) h2.2.1 h2.2.2) dX11_read_19 cb_X0_check ml_RX11_100 im_yX0_check se_yX0_check (F2.m 2 (Nat.le_of_ble_eq_true rfl)) (F2.k 2 0 rfl) (Nat.le_of_ble_eq_true rfl) ⟨(Nat.le_of_ble_eq_true rfl), (Nat.le_of_ble_eq_true rfl)⟩ rfl rfl (Nat.le_of_ble_eq_true rfl) ⟨(Nat.le_of_ble_eq_true rfl), (Nat.le_of_ble_eq_true rfl)⟩ (RI.go (fun r S3 hq => ?_))
  obtain ⟨rfl, s3, t3⟩ := hq
  have s3 := h2.1.tr s3
  have F3 := F.ss s3
  refine V_istore_1 22 dX11_read_22 rfl (Nat.le_of_ble_eq_true rfl) ?_
  refine V_aload_0 23 dX11_read_23 ?_
  refine V_getR 24 (c := 11) 1 (F3.r 0 1 2 rfl) dX11_read_24 fl_RX11_20 (F3.m 0 (Nat.le_of_ble_eq_true rfl)) (F3.k 0 11 rfl) (Nat.le_of_ble_eq_true rfl) (Nat.le_of_ble_eq_true rfl) rfl ?_
  refine V_getI 27 (c := 0) 2 dX11_read_27 fl_RX11_104 (F3.m 2 (Nat.le_of_ble_eq_true rfl)) (F3.k 2 0 rfl) (Nat.le_of_ble_eq_true rfl) (Nat.le_of_ble_eq_true rfl) rfl ?_
  refine V_istore_2 30 dX11_read_30 rfl (Nat.le_of_ble_eq_true rfl) ?_
  refine V_iload_1 31 dX11_read_31 ?_
  refine V_if_ne 32 51 dX11_read_32 (by decide) (fun q => absurd (rfl) q) (fun _ => ?_)
  refine V_aload_0 35 dX11_read_35 ?_
  refine V_getR 36 (c := 11) 0 (F3.r 0 0 1 rfl) dX11_read_36 fl_RX11_10 (F3.m 0 (Nat.le_of_ble_eq_true rfl)) (F3.k 0 11 rfl) (Nat.le_of_ble_eq_true rfl) (Nat.le_of_ble_eq_true rfl) rfl ?_
  refine V_callV 39 (ci := 9) [] _ (c_tellAll M.2.1 Γ S3 (b := h + 1) (F3.sub 1 lyTeller rfl (by decide)) t3.1 t3.2) dX11_read_39 cb_X9_tellAll ml_RX11_107 im_yX9_tellAll se_yX9_tellAll (F3.m 1 (Nat.le_of_ble_eq_true rfl)) (F3.k 1 9 rfl) (Nat.le_of_ble_eq_true rfl) ⟨(Nat.le_of_ble_eq_true rfl), (Nat.le_of_ble_eq_true rfl)⟩ rfl rfl (Nat.le_of_ble_eq_true rfl) ⟨(Nat.le_of_ble_eq_true rfl), (Nat.le_of_ble_eq_true rfl)⟩ (RI.go (fun r S4 hq => ?_))
  obtain ⟨rfl, s4⟩ := hq
  have s4 := s3.tr s4
  have F4 := F.ss s4
  refine V_istore_1 42 dX11_read_42 rfl (Nat.le_of_ble_eq_true rfl) ?_
  refine V_aload_0 43 dX11_read_43 ?_
  refine V_getR 44 (c := 11) 0 (F4.r 0 0 1 rfl) dX11_read_44 fl_RX11_10 (F4.m 0 (Nat.le_of_ble_eq_true rfl)) (F4.k 0 11 rfl) (Nat.le_of_ble_eq_true rfl) (Nat.le_of_ble_eq_true rfl) rfl ?_
  refine V_getI 47 (c := 9) 4 dX11_read_47 fl_RX11_110 (F4.m 1 (Nat.le_of_ble_eq_true rfl)) (F4.k 1 9 rfl) (Nat.le_of_ble_eq_true rfl) (Nat.le_of_ble_eq_true rfl) rfl ?_
  refine V_istore_2 50 dX11_read_50 rfl (Nat.le_of_ble_eq_true rfl) ?_
  refine V_iload_1 51 dX11_read_51 ?_
  refine V_if_eq 52 69 dX11_read_52 (by decide) (fun _ => ?_) (fun q => absurd (rfl) q)
  refine V_aload_0 69 dX11_read_69 ?_
  refine V_iconst 70 (-1) dX11_read_70 (by decide) ?_
  refine V_putI 71 (c := 11) 4 dX11_read_71 fl_RX11_35 (F4.m 0 (Nat.le_of_ble_eq_true rfl)) (F4.k 0 11 rfl) (Nat.le_of_ble_eq_true rfl) (Nat.le_of_ble_eq_true rfl) rfl (Or.inl rfl) ?_
  refine V_abs (SSm S) (s4.tr ⟨rfl, rfl, rfl, rfl, rfl⟩) (fun S5 s5 => ?_)
  have F5 := F.ss s5
  refine V_aload_0 74 dX11_read_74 ?_
  refine V_getR 75 (c := 11) 3 (F5.r 0 3 27 rfl) dX11_read_75 fl_RX11_31 (F5.m 0 (Nat.le_of_ble_eq_true rfl)) (F5.k 0 11 rfl) (Nat.le_of_ble_eq_true rfl) (Nat.le_of_ble_eq_true rfl) rfl ?_
  refine V_aload_0 78 dX11_read_78 ?_
  refine V_getR 79 (c := 11) 0 (F5.r 0 0 1 rfl) dX11_read_79 fl_RX11_10 (F5.m 0 (Nat.le_of_ble_eq_true rfl)) (F5.k 0 11 rfl) (Nat.le_of_ble_eq_true rfl) (Nat.le_of_ble_eq_true rfl) rfl ?_
  refine V_getR 82 (c := 9) 2 (F5.r 1 2 13 rfl) dX11_read_82 fl_RX11_117 (F5.m 1 (Nat.le_of_ble_eq_true rfl)) (F5.k 1 9 rfl) (Nat.le_of_ble_eq_true rfl) (Nat.le_of_ble_eq_true rfl) rfl ?_
  refine V_callV 85 (ci := 10) [.ref _] _ (c_X10_become M.2.1 Γ S5 (a := h + 27) (b := h + 13) (F5.sub 27 lyText rfl (by decide)) (F5.sub 13 lyText rfl (by decide))) dX11_read_85 cb_X10_become ml_RX11_120 im_yX10_become se_yX10_become (F5.m 27 (Nat.le_of_ble_eq_true rfl)) (F5.k 27 10 rfl) (Nat.le_of_ble_eq_true rfl) ⟨(Nat.le_of_ble_eq_true rfl), (Nat.le_of_ble_eq_true rfl)⟩ rfl rfl (Nat.le_of_ble_eq_true rfl) ⟨(Nat.le_of_ble_eq_true rfl), (Nat.le_of_ble_eq_true rfl)⟩ (RV.go (fun S6 s6 => ?_))
  have F6 := F5.ss s6
  refine V_aload_0 88 dX11_read_88 ?_
  refine V_callV 89 (ci := 11) [] _ (c_beginAnew M.2.1 Γ S6 F6) dX11_read_89 cb_X11_beginAnew ml_RX11_124 im_yX11_beginAnew se_yX11_beginAnew (F6.m 0 (Nat.le_of_ble_eq_true rfl)) (F6.k 0 11 rfl) (Nat.le_of_ble_eq_true rfl) ⟨(Nat.le_of_ble_eq_true rfl), (Nat.le_of_ble_eq_true rfl)⟩ rfl rfl (Nat.le_of_ble_eq_true rfl) ⟨(Nat.le_of_ble_eq_true rfl), (Nat.le_of_ble_eq_true rfl)⟩ (RV.go (fun S7 s7 => ?_))
  refine V_iconst 92 (0) dX11_read_92 (by decide) ?_
  refine V_iret 93 .int dX11_read_93 rfl rfl (Nat.le_of_ble_eq_true rfl) (Nat.le_of_ble_eq_true rfl) (RI.mk rfl)

