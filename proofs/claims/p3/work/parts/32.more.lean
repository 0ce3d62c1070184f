/-! more from any ints -/
theorem kss {S S2 : PS} {a c : Nat} (h : SSm S S2) (hk : sK S a = c) : sK S2 a = c := by rw [h.2.1]; exact hk
theorem lss {S S2 : PS} {a n : Nat} (h : SSm S S2) (hl : sL S a = n) : sL S2 a = n := by rw [h.2.2.2.1]; exact hl
section MABS
variable {M : MC} {Γ : GC} {μ : MI} {cc : ByteArray} {Q : State → Prop} {k sl : Nat} {S : PS} {lv : List (Option Value)} {st : List Value}
theorem V_mabs (pc : Nat) {i : Nat} {x : Int32} (d : decode cc pc = .ok (.invokestatic i, 3)) (hl : Cond.methodLink μ.2.1 i yJ9_abs_0f7a4 ∈ lwG) (hf : 1 ≤ μ.2.2.2.2.frames) (hk : k ≤ μ.2.2.2.2.cells) (hs2 : sl ≤ μ.2.2.2.2.slots) (hlo : (st.map fun v => v.category).sum + 13 ≤ μ.2.2.2.2.locals) (h : V M Γ μ cc Q k sl S (pc + 3) lv (.int (if 0 ≤ x then x else 0 - x) :: st)) : V M Γ μ cc Q k sl S pc lv (.int x :: st) := fun C H locs ls hr hs hl2 =>
  va_mabs C.1.1 C.1.2.1 (C.1.2.2.1.trans hl2.1.symm) C.1.2.2.2.1 (C.1.2.2.2.2 _ hl) (C.1.2.2.2.2 _ sm_yJ9_abs_0f7a4) (C.1.2.2.2.2 _ in_RJ9) (C.1.2.2.2.2 _ co_yJ9_abs_0f7a4) (by rw [C.2.2.2.2.2.2.2]; exact hf) (by rw [C.2.2.2.2.2.2.2]; exact hlo) (by rw [C.2.2.2.2.2.2.2]; exact hk) (by rw [C.2.2.2.2.2.2.2]; exact hs2) d (h C H locs ls hr hs hl2)
end MABS
set_option maxRecDepth 100000 in
set_option maxHeartbeats 8000000 in
theorem s_lyingOf (l : Launch) (Γ : GC) (S : PS) {o : Nat} (F : isL lyOrders Γ.2.2.2.2.1 S o) (x y z w : Int32) : CT l Γ yX5_lyingOf cX5_lyingOf 6 (some .int) (1) (0) (0) [.ref o, .int x, .int y, .int z, .int w] S (RI (fun r S' => FZ [] [] S S')) := by
  refine CT.of RX5 "lyingOf" [some (.ref o), some (.int x), some (.int y), some (.int z), some (.int w), none] (by decide +kernel) rfl rfl (Nat.le_of_ble_eq_true rfl) rfl (fun M hM => ?_)
  subst hM
  have J3 : ∀ (S1 : PS) (x4 : Int32) (x5 : Int32), FZ [] [] S S1 → V M Γ (6, RX5, "lyingOf", (some .int), RM (1) (0) (0)) cX5_lyingOf (RQ M Γ (RI (fun r S' => FZ [] [] S S')) (0) (0)) 0 0 S1 41 [some (.ref o), some (.int x), some (.int y), some (.int z), some (.int w), some (.int x4)] [.int x5] := by
    intro S1 x4 x5 h2
    refine V_iret 41 .int dX5_lyingOf_41 rfl rfl (Nat.le_of_ble_eq_true rfl) (Nat.le_of_ble_eq_true rfl) (RI.mk h2)
  refine V_aload_0 0 dX5_lyingOf_0 ?_
  refine V_getR 1 (c := 5) 1 (F.r 0 1 2 rfl) dX5_lyingOf_1 fl_RX5_15 (F.m 0 (Nat.le_of_ble_eq_true rfl)) (F.k 0 5 rfl) (Nat.le_of_ble_eq_true rfl) (Nat.le_of_ble_eq_true rfl) rfl ?_
  refine V_iload_1 4 dX5_lyingOf_4 ?_
  refine V_callSN 5 [.ref _, .int _] _ (c_at M.2.1 Γ S (a := (o + 2)) (F.m 2 (Nat.le_of_ble_eq_true rfl)) (F.k 2 14 rfl) (by rw [(F.l 2 8 rfl)]; decide) _) dX5_lyingOf_5 cb_X11_at ne_RX5_77 sm_yX11_at ⟨(Nat.le_of_ble_eq_true rfl), (Nat.le_of_ble_eq_true rfl)⟩ rfl rfl (Nat.le_of_ble_eq_true rfl) ⟨(Nat.le_of_ble_eq_true rfl), (Nat.le_of_ble_eq_true rfl)⟩ (RI.go (fun r8 S6 q7 => ?_))
  rw [q7.2]
  refine V_iload_3 8 dX5_lyingOf_8 ?_
  refine V_iadd 9 dX5_lyingOf_9 ?_
  refine V_istore_5 10 dX5_lyingOf_10 rfl (Nat.le_of_ble_eq_true rfl) ?_
  refine V_iload_1 12 dX5_lyingOf_12 ?_
  refine V_iload_2 13 dX5_lyingOf_13 ?_
  refine V_icmp_ne 14 24 dX5_lyingOf_14 (by decide) (fun c9 => ?_) (fun c9 => ?_)
  ·
    refine V_iload_5 24 dX5_lyingOf_24 ?_
    refine V_aload_0 26 dX5_lyingOf_26 ?_
    refine V_getR 27 (c := 5) 1 (F.r 0 1 2 rfl) dX5_lyingOf_27 fl_RX5_15 (F.m 0 (Nat.le_of_ble_eq_true rfl)) (F.k 0 5 rfl) (Nat.le_of_ble_eq_true rfl) (Nat.le_of_ble_eq_true rfl) rfl ?_
    refine V_iload_2 30 dX5_lyingOf_30 ?_
    refine V_callSN 31 [.ref _, .int _] _ (c_at M.2.1 Γ S (a := (o + 2)) (F.m 2 (Nat.le_of_ble_eq_true rfl)) (F.k 2 14 rfl) (by rw [(F.l 2 8 rfl)]; decide) _) dX5_lyingOf_31 cb_X11_at ne_RX5_77 sm_yX11_at ⟨(Nat.le_of_ble_eq_true rfl), (Nat.le_of_ble_eq_true rfl)⟩ rfl rfl (Nat.le_of_ble_eq_true rfl) ⟨(Nat.le_of_ble_eq_true rfl), (Nat.le_of_ble_eq_true rfl)⟩ (RI.go (fun r12 S10 q11 => ?_))
    rw [q11.2]
    refine V_isub 34 dX5_lyingOf_34 ?_
    refine V_iload_4 35 dX5_lyingOf_35 ?_
    refine V_isub 37 dX5_lyingOf_37 ?_
    refine V_mabs 38 dX5_lyingOf_38 ml_RX5_89 (Nat.le_of_ble_eq_true rfl) (Nat.le_of_ble_eq_true rfl) (Nat.le_of_ble_eq_true rfl) (Nat.le_of_ble_eq_true rfl) ?_
    refine V_lvw (by repeat (first | exact trivial | refine ⟨rfl, ?_⟩)) (J3 _ _ _ FZ.rf)
  ·
    refine V_iload_5 17 dX5_lyingOf_17 ?_
    refine V_iconst 19 (1) dX5_lyingOf_19 (by decide) ?_
    refine V_iand 20 dX5_lyingOf_20 ?_
    refine V_goto 21 41 dX5_lyingOf_21 (by decide) ?_
    refine V_lvw (by repeat (first | exact trivial | refine ⟨rfl, ?_⟩)) (J3 _ _ _ FZ.rf)
set_option maxRecDepth 100000 in
set_option maxHeartbeats 8000000 in
theorem s_lyingNow (l : Launch) (Γ : GC) (S : PS) {o : Nat} (F : isL lyOrders Γ.2.2.2.2.1 S o) : CT l Γ yX5_lyingNow cX5_lyingNow 4 (some .int) (2) (0) (0) [.ref o] S (RI (fun r S' => FZ [] [] S S')) := by
  refine CT.of RX5 "lyingNow" [some (.ref o), none, none, none] (by decide +kernel) rfl rfl (Nat.le_of_ble_eq_true rfl) rfl (fun M hM => ?_)
  subst hM
  refine V_iconst 0 (0) dX5_lyingNow_0 (by decide) ?_
  refine V_istore_1 1 dX5_lyingNow_1 rfl (Nat.le_of_ble_eq_true rfl) ?_
  refine V_iconst 2 (0) dX5_lyingNow_2 (by decide) ?_
  refine V_istore_2 3 dX5_lyingNow_3 rfl (Nat.le_of_ble_eq_true rfl) ?_
  refine V_lvw (by repeat (first | exact trivial | refine ⟨rfl, ?_⟩)) (V_while (α := Nat × PS × Int32) (fun z1 => 8 - z1.1) (fun z1 => z1.1 ≤ 8 ∧ FZ [] [] S z1.2.1) (fun z1 => z1.2.1) (fun z1 => [some (.ref o), some (.int z1.2.2), some (.int (nI z1.1)), none]) (0, _, _) ⟨Nat.zero_le _, FZ.rf⟩ (fun z1 hx8 ih6 => ?b9))
  obtain ⟨i2, S3, w7⟩ := z1
  obtain ⟨hi4, h5⟩ := hx8
  dsimp only at hi4 h5 ih6 ⊢
  have J13 : ∀ (S11 : PS) (x14 : Int32) (x15 : Int32) (x16 : Int32) (x17 : Int32), FZ [] [] S S11 → i2 < 8 → V M Γ (4, RX5, "lyingNow", (some .int), RM (2) (0) (0)) cX5_lyingNow (RQ M Γ (RI (fun r S' => FZ [] [] S S')) (0) (0)) 0 0 S11 53 [some (.ref o), some (.int x14), some (.int (nI i2)), some (.int x15)] [.int x17, .int x16] := by
    intro S11 x14 x15 x16 x17 h12 lt18
    refine V_iadd 53 dX5_lyingNow_53 ?_
    refine V_istore_1 54 dX5_lyingNow_54 rfl (Nat.le_of_ble_eq_true rfl) ?_
    refine V_iinc_2 55 (1) dX5_lyingNow_55 (by decide) rfl (Nat.le_of_ble_eq_true rfl) ?_
    refine V_goto 58 4 dX5_lyingNow_58 (by decide) ?_
    rw [← nI_succ]
    refine V_lvw (by repeat (first | exact trivial | refine ⟨rfl, ?_⟩)) (ih6 (i2 + 1, _, _) ⟨by dsimp only; omega, h12⟩ (by dsimp only; omega))
  refine V_iload_2 4 dX5_lyingNow_4 ?_
  refine V_bipush 5 (8) dX5_lyingNow_5 (by decide) ?_
  refine V_icmp_ge 7 61 dX5_lyingNow_7 (by decide) (fun c19 => ?_) (fun c19 => ?_)
  ·
    refine V_iload_1 61 dX5_lyingNow_61 ?_
    refine V_iret 62 .int dX5_lyingNow_62 rfl rfl (Nat.le_of_ble_eq_true rfl) (Nat.le_of_ble_eq_true rfl) (RI.mk h5)
  ·
    have lt20 := nI_lt8 (by decide) hi4 c19
    refine V_aload_0 10 dX5_lyingNow_10 ?_
    refine V_getR 11 (c := 5) 2 ((F.ss h5.1).r 0 2 3 rfl) dX5_lyingNow_11 fl_RX5_18 ((F.ss h5.1).m 0 (Nat.le_of_ble_eq_true rfl)) ((F.ss h5.1).k 0 5 rfl) (Nat.le_of_ble_eq_true rfl) (Nat.le_of_ble_eq_true rfl) rfl ?_
    refine V_iload_2 14 dX5_lyingNow_14 ?_
    refine V_iaload2 15 dX5_lyingNow_15 ((F.ss h5.1).m 3 (Nat.le_of_ble_eq_true rfl)) ((F.ss h5.1).k 3 14 rfl) ((F.ss h5.1).l 3 8 rfl) ?_ ?_
    · exact vp_in_nI (by omega) (by decide)
    refine V_istore_3 16 dX5_lyingNow_16 rfl (Nat.le_of_ble_eq_true rfl) ?_
    refine V_iload_1 17 dX5_lyingNow_17 ?_
    refine V_iload_2 18 dX5_lyingNow_18 ?_
    refine V_iload_3 19 dX5_lyingNow_19 ?_
    refine V_icmp_gt 20 52 dX5_lyingNow_20 (by decide) (fun c21 => ?_) (fun c21 => ?_)
    ·
      refine V_iconst 52 (0) dX5_lyingNow_52 (by decide) ?_
      refine V_lvw (by repeat (first | exact trivial | refine ⟨rfl, ?_⟩)) (J13 _ _ _ _ _ h5 (by first | omega | assumption))
    ·
      refine V_aload_0 23 dX5_lyingNow_23 ?_
      refine V_iload_2 24 dX5_lyingNow_24 ?_
      refine V_iload_3 25 dX5_lyingNow_25 ?_
      refine V_aload_0 26 dX5_lyingNow_26 ?_
      refine V_getR 27 (c := 5) 4 ((F.ss h5.1).r 0 4 4 rfl) dX5_lyingNow_27 fl_RX5_24 ((F.ss h5.1).m 0 (Nat.le_of_ble_eq_true rfl)) ((F.ss h5.1).k 0 5 rfl) (Nat.le_of_ble_eq_true rfl) (Nat.le_of_ble_eq_true rfl) rfl ?_
      refine V_getR 30 (c := 1) 2 ((F.ss h5.1).r 4 2 7 rfl) dX5_lyingNow_30 fl_RX5_116 ((F.ss h5.1).m 4 (Nat.le_of_ble_eq_true rfl)) ((F.ss h5.1).k 4 1 rfl) (Nat.le_of_ble_eq_true rfl) (Nat.le_of_ble_eq_true rfl) rfl ?_
      refine V_iload_2 33 dX5_lyingNow_33 ?_
      refine V_iaload2 34 dX5_lyingNow_34 ((F.ss h5.1).m 7 (Nat.le_of_ble_eq_true rfl)) ((F.ss h5.1).k 7 14 rfl) ((F.ss h5.1).l 7 8 rfl) ?_ ?_
      · exact vp_in_nI (by omega) (by decide)
      refine V_aload_0 35 dX5_lyingNow_35 ?_
      refine V_getR 36 (c := 5) 4 ((F.ss h5.1).r 0 4 4 rfl) dX5_lyingNow_36 fl_RX5_24 ((F.ss h5.1).m 0 (Nat.le_of_ble_eq_true rfl)) ((F.ss h5.1).k 0 5 rfl) (Nat.le_of_ble_eq_true rfl) (Nat.le_of_ble_eq_true rfl) rfl ?_
      refine V_getR 39 (c := 1) 2 ((F.ss h5.1).r 4 2 7 rfl) dX5_lyingNow_39 fl_RX5_116 ((F.ss h5.1).m 4 (Nat.le_of_ble_eq_true rfl)) ((F.ss h5.1).k 4 1 rfl) (Nat.le_of_ble_eq_true rfl) (Nat.le_of_ble_eq_true rfl) rfl ?_
      refine V_iload_3 42 dX5_lyingNow_42 ?_
      refine V_callSN 43 [.ref _, .int _] _ (c_at M.2.1 Γ S3 (a := (o + 7)) ((F.ss h5.1).m 7 (Nat.le_of_ble_eq_true rfl)) ((F.ss h5.1).k 7 14 rfl) (by rw [((F.ss h5.1).l 7 8 rfl)]; decide) _) dX5_lyingNow_43 cb_X11_at ne_RX5_77 sm_yX11_at ⟨(Nat.le_of_ble_eq_true rfl), (Nat.le_of_ble_eq_true rfl)⟩ rfl rfl (Nat.le_of_ble_eq_true rfl) ⟨(Nat.le_of_ble_eq_true rfl), (Nat.le_of_ble_eq_true rfl)⟩ (RI.go (fun r25 S23 q24 => ?_))
      rw [q24.2]
      refine V_callV 46 (ci := 5) [.int _, .int _, .int _, .int _] _ (s_lyingOf M.2.1 Γ S3 (F.ss h5.1) _ _ _ _) dX5_lyingNow_46 cb_X5_lyingOf ml_RX5_85 im_yX5_lyingOf se_yX5_lyingOf ((F.ss h5.1).m 0 (Nat.le_of_ble_eq_true rfl)) ((F.ss h5.1).k 0 5 rfl) (Nat.le_of_ble_eq_true rfl) ⟨(Nat.le_of_ble_eq_true rfl), (Nat.le_of_ble_eq_true rfl)⟩ rfl rfl (Nat.le_of_ble_eq_true rfl) ⟨(Nat.le_of_ble_eq_true rfl), (Nat.le_of_ble_eq_true rfl)⟩ (RI.go (fun r28 S26 q27 => ?_))
      have h29 : FZ [] [] S S26 := h5.tr (q27.sub (by simp) (by simp))
      refine V_goto 49 53 dX5_lyingNow_49 (by decide) ?_
      refine V_lvw (by repeat (first | exact trivial | refine ⟨rfl, ?_⟩)) (J13 _ _ _ _ _ h29 (by first | omega | assumption))
set_option maxRecDepth 100000 in
set_option maxHeartbeats 8000000 in
theorem s_value (l : Launch) (Γ : GC) (S : PS) {t a : Nat} (F : isL lyLaw Γ.2.2.2.2.1 S t) (ha : a ∈ PL Γ.2.2.2.2.1 S) (hk : sK S a = 14) (hl : sL S a = 5) : CT l Γ yX2_value cX2_value 8 (some .int) (1) (0) (0) [.ref t, .ref a] S (RI (fun r S' => FZ [t + 3] [] S S')) := by
  refine CT.of RX2 "value" [some (.ref t), some (.ref a), none, none, none, none, none, none] (by decide +kernel) rfl rfl (Nat.le_of_ble_eq_true rfl) rfl (fun M hM => ?_)
  subst hM
  have J3 : ∀ (S1 : PS) (x4 : Int32) (x5 : Int32) (x6 : Int32), FZ [t + 3] [] S S1 → V M Γ (8, RX2, "value", (some .int), RM (1) (0) (0)) cX2_value (RQ M Γ (RI (fun r S' => FZ [t + 3] [] S S')) (0) (0)) 0 0 S1 205 [some (.ref t), some (.ref a), some (.int x4), some (.int x5), some (.int x6), none, none, none] [] := by
    intro S1 x4 x5 x6 h2
    refine V_iconst 205 (0) dX2_value_205 (by decide) ?_
    refine V_iret 206 .int dX2_value_206 rfl rfl (Nat.le_of_ble_eq_true rfl) (Nat.le_of_ble_eq_true rfl) (RI.mk h2)
  refine V_iconst 0 (-1) dX2_value_0 (by decide) ?_
  refine V_istore_2 1 dX2_value_1 rfl (Nat.le_of_ble_eq_true rfl) ?_
  refine V_iconst 2 (0) dX2_value_2 (by decide) ?_
  refine V_istore_3 3 dX2_value_3 rfl (Nat.le_of_ble_eq_true rfl) ?_
  refine V_iconst 4 (0) dX2_value_4 (by decide) ?_
  refine V_istore_4 5 dX2_value_5 rfl (Nat.le_of_ble_eq_true rfl) ?_
  refine V_lvw (by repeat (first | exact trivial | refine ⟨rfl, ?_⟩)) (V_while (α := Nat × PS × Int32 × Int32) (fun z7 => 402 - z7.1) (fun z7 => z7.1 ≤ 402 ∧ FZ [t + 3] [] S z7.2.1) (fun z7 => z7.2.1) (fun z7 => [some (.ref t), some (.ref a), some (.int z7.2.2.1), some (.int z7.2.2.2), some (.int (nI z7.1)), none, none, none]) (0, _, _, _) ⟨Nat.zero_le _, FZ.rf⟩ (fun z7 hx15 ih12 => ?b16))
  obtain ⟨i8, S9, w13, w14⟩ := z7
  obtain ⟨hi10, h11⟩ := hx15
  dsimp only at hi10 h11 ih12 ⊢
  have J20 : ∀ (S18 : PS) (x21 : Int32) (x22 : Int32), FZ [t + 3] [] S S18 → i8 < 402 → V M Γ (8, RX2, "value", (some .int), RM (1) (0) (0)) cX2_value (RQ M Γ (RI (fun r S' => FZ [t + 3] [] S S')) (0) (0)) 0 0 S18 199 [some (.ref t), some (.ref a), some (.int x21), some (.int x22), some (.int (nI i8)), none, none, none] [] := by
    intro S18 x21 x22 h19 lt23
    refine V_iinc_4 199 (1) dX2_value_199 (by decide) rfl (Nat.le_of_ble_eq_true rfl) ?_
    refine V_goto 202 7 dX2_value_202 (by decide) ?_
    rw [← nI_succ]
    refine V_lvw (by repeat (first | exact trivial | refine ⟨rfl, ?_⟩)) (ih12 (i8 + 1, _, _, _) ⟨by dsimp only; omega, h19⟩ (by dsimp only; omega))
  have J26 : ∀ (S24 : PS) (x27 : Int32) (x28 : Int32) (x29 : Int32) (x30 : Int32) (x31 : Int32), FZ [t + 3] [] S S24 → i8 < 402 → V M Γ (8, RX2, "value", (some .int), RM (1) (0) (0)) cX2_value (RQ M Γ (RI (fun r S' => FZ [t + 3] [] S S')) (0) (0)) 0 0 S24 179 [some (.ref t), some (.ref a), some (.int x27), some (.int x28), some (.int (nI i8)), some (.int x29), some (.int x30), some (.int x31)] [] := by
    intro S24 x27 x28 x29 x30 x31 h25 lt32
    refine V_iinc_2 179 (-1) dX2_value_179 (by decide) rfl (Nat.le_of_ble_eq_true rfl) ?_
    refine V_aload_0 182 dX2_value_182 ?_
    refine V_getR 183 (c := 2) 3 ((F.ss h25.1).r 0 3 3 rfl) dX2_value_183 fl_RX2_18 ((F.ss h25.1).m 0 (Nat.le_of_ble_eq_true rfl)) ((F.ss h25.1).k 0 2 rfl) (Nat.le_of_ble_eq_true rfl) (Nat.le_of_ble_eq_true rfl) rfl ?_
    refine V_iload_2 186 dX2_value_186 ?_
    refine V_iload_5 187 dX2_value_187 ?_
    refine V_iload_7 189 dX2_value_189 ?_
    refine V_iload_6 191 dX2_value_191 ?_
    refine V_callS 193 [.int _, .int _, .int _] _ (s_joined M.2.1 Γ S24 _ _ _) dX2_value_193 cb_X2_joined ml_RX2_37 sm_yX2_joined ⟨(Nat.le_of_ble_eq_true rfl), (Nat.le_of_ble_eq_true rfl)⟩ rfl rfl (Nat.le_of_ble_eq_true rfl) ⟨(Nat.le_of_ble_eq_true rfl), (Nat.le_of_ble_eq_true rfl)⟩ (RI.go (fun r35 S33 q34 => ?_))
    have h36 : FZ [t + 3] [] S S33 := h25.tr (q34.sub (by simp) (by simp))
    refine V_callSN 196 [.ref _, .int _, .int _] _ (c_put M.2.1 Γ S33 (a := (t + 3)) ((F.ss h36.1).m 3 (Nat.le_of_ble_eq_true rfl)) ((F.ss h36.1).k 3 14 rfl) (by rw [((F.ss h36.1).l 3 24 rfl)]; decide) _ _) dX2_value_196 cb_X11_put ne_RX2_29 sm_yX11_put ⟨(Nat.le_of_ble_eq_true rfl), (Nat.le_of_ble_eq_true rfl)⟩ rfl rfl (Nat.le_of_ble_eq_true rfl) ⟨(Nat.le_of_ble_eq_true rfl), (Nat.le_of_ble_eq_true rfl)⟩ (RV.go (fun S37 q38 => ?_))
    have h40 : FZ [t + 3] [] S S37 := h36.tr ((fr_put q38).sub (by simp) (by simp))
    refine V_lvw (by repeat (first | exact trivial | refine ⟨rfl, ?_⟩)) (J20 _ _ _ h40 (by first | omega | assumption))
  have J44 : ∀ (S42 : PS) (x45 : Int32) (x46 : Int32) (x47 : Int32) (x48 : Int32) (x49 : Int32) (x50 : Int32), FZ [t + 3] [] S S42 → i8 < 402 → V M Γ (8, RX2, "value", (some .int), RM (1) (0) (0)) cX2_value (RQ M Γ (RI (fun r S' => FZ [t + 3] [] S S')) (0) (0)) 0 0 S42 161 [some (.ref t), some (.ref a), some (.int x45), some (.int x46), some (.int (nI i8)), some (.int x47), some (.int x48), some (.int x49)] [.int x50] := by
    intro S42 x45 x46 x47 x48 x49 x50 h43 lt51
    refine V_istore_3 161 dX2_value_161 rfl (Nat.le_of_ble_eq_true rfl) ?_
    refine V_goto 162 199 dX2_value_162 (by decide) ?_
    refine V_lvw (by repeat (first | exact trivial | refine ⟨rfl, ?_⟩)) (J20 _ _ _ h43 (by first | omega | assumption))
  have J55 : ∀ (S53 : PS) (x56 : Int32) (x57 : Int32) (x58 : Int32) (x59 : Int32) (x60 : Int32), FZ [t + 3] [] S S53 → i8 < 402 → V M Γ (8, RX2, "value", (some .int), RM (1) (0) (0)) cX2_value (RQ M Γ (RI (fun r S' => FZ [t + 3] [] S S')) (0) (0)) 0 0 S53 87 [some (.ref t), some (.ref a), some (.int x56), some (.int x57), some (.int (nI i8)), some (.int x58), some (.int x59), some (.int x60)] [] := by
    intro S53 x56 x57 x58 x59 x60 h54 lt61
    refine V_iinc_2 87 (1) dX2_value_87 (by decide) rfl (Nat.le_of_ble_eq_true rfl) ?_
    refine V_aload_0 90 dX2_value_90 ?_
    refine V_getR 91 (c := 2) 3 ((F.ss h54.1).r 0 3 3 rfl) dX2_value_91 fl_RX2_18 ((F.ss h54.1).m 0 (Nat.le_of_ble_eq_true rfl)) ((F.ss h54.1).k 0 2 rfl) (Nat.le_of_ble_eq_true rfl) (Nat.le_of_ble_eq_true rfl) rfl ?_
    refine V_iload_2 94 dX2_value_94 ?_
    refine V_iload_5 95 dX2_value_95 ?_
    refine V_iconst 97 (2) dX2_value_97 (by decide) ?_
    refine V_icmp_ne 98 113 dX2_value_98 (by decide) (fun c62 => ?_) (fun c62 => ?_)
    ·
      refine V_aload_1 113 dX2_value_113 ?_
      refine V_aload_0 114 dX2_value_114 ?_
      refine V_getR 115 (c := 2) 1 ((F.ss h54.1).r 0 1 2 rfl) dX2_value_115 fl_RX2_15 ((F.ss h54.1).m 0 (Nat.le_of_ble_eq_true rfl)) ((F.ss h54.1).k 0 2 rfl) (Nat.le_of_ble_eq_true rfl) (Nat.le_of_ble_eq_true rfl) rfl ?_
      refine V_iload_4 118 dX2_value_118 ?_
      refine V_callSN 120 [.ref _, .int _] _ (c_at M.2.1 Γ S53 (a := (t + 2)) ((F.ss h54.1).m 2 (Nat.le_of_ble_eq_true rfl)) ((F.ss h54.1).k 2 14 rfl) (by rw [((F.ss h54.1).l 2 402 rfl)]; decide) _) dX2_value_120 cb_X11_at ne_RX2_33 sm_yX11_at ⟨(Nat.le_of_ble_eq_true rfl), (Nat.le_of_ble_eq_true rfl)⟩ rfl rfl (Nat.le_of_ble_eq_true rfl) ⟨(Nat.le_of_ble_eq_true rfl), (Nat.le_of_ble_eq_true rfl)⟩ (RI.go (fun r65 S63 q64 => ?_))
      rw [q64.2]
      refine V_callSN 123 [.ref _, .int _] _ (c_at M.2.1 Γ S53 (a := _) (PL_ss h54.1 ha) (kss h54.1 hk) (by rw [(lss h54.1 hl)]; decide) _) dX2_value_123 cb_X11_at ne_RX2_33 sm_yX11_at ⟨(Nat.le_of_ble_eq_true rfl), (Nat.le_of_ble_eq_true rfl)⟩ rfl rfl (Nat.le_of_ble_eq_true rfl) ⟨(Nat.le_of_ble_eq_true rfl), (Nat.le_of_ble_eq_true rfl)⟩ (RI.go (fun r68 S66 q67 => ?_))
      rw [q67.2]
      refine V_callSN 126 [.ref _, .int _, .int _] _ (c_put M.2.1 Γ S53 (a := (t + 3)) ((F.ss h54.1).m 3 (Nat.le_of_ble_eq_true rfl)) ((F.ss h54.1).k 3 14 rfl) (by rw [((F.ss h54.1).l 3 24 rfl)]; decide) _ _) dX2_value_126 cb_X11_put ne_RX2_29 sm_yX11_put ⟨(Nat.le_of_ble_eq_true rfl), (Nat.le_of_ble_eq_true rfl)⟩ rfl rfl (Nat.le_of_ble_eq_true rfl) ⟨(Nat.le_of_ble_eq_true rfl), (Nat.le_of_ble_eq_true rfl)⟩ (RV.go (fun S69 q70 => ?_))
      have h72 : FZ [t + 3] [] S S69 := h54.tr ((fr_put q70).sub (by simp) (by simp))
      refine V_goto 129 199 dX2_value_129 (by decide) ?_
      refine V_lvw (by repeat (first | exact trivial | refine ⟨rfl, ?_⟩)) (J20 _ _ _ h72 (by first | omega | assumption))
    ·
      refine V_aload_0 101 dX2_value_101 ?_
      refine V_getR 102 (c := 2) 1 ((F.ss h54.1).r 0 1 2 rfl) dX2_value_102 fl_RX2_15 ((F.ss h54.1).m 0 (Nat.le_of_ble_eq_true rfl)) ((F.ss h54.1).k 0 2 rfl) (Nat.le_of_ble_eq_true rfl) (Nat.le_of_ble_eq_true rfl) rfl ?_
      refine V_iload_4 105 dX2_value_105 ?_
      refine V_callSN 107 [.ref _, .int _] _ (c_at M.2.1 Γ S53 (a := (t + 2)) ((F.ss h54.1).m 2 (Nat.le_of_ble_eq_true rfl)) ((F.ss h54.1).k 2 14 rfl) (by rw [((F.ss h54.1).l 2 402 rfl)]; decide) _) dX2_value_107 cb_X11_at ne_RX2_33 sm_yX11_at ⟨(Nat.le_of_ble_eq_true rfl), (Nat.le_of_ble_eq_true rfl)⟩ rfl rfl (Nat.le_of_ble_eq_true rfl) ⟨(Nat.le_of_ble_eq_true rfl), (Nat.le_of_ble_eq_true rfl)⟩ (RI.go (fun r76 S74 q75 => ?_))
      rw [q75.2]
      refine V_goto 110 126 dX2_value_110 (by decide) ?_
      refine V_callSN 126 [.ref _, .int _, .int _] _ (c_put M.2.1 Γ S53 (a := (t + 3)) ((F.ss h54.1).m 3 (Nat.le_of_ble_eq_true rfl)) ((F.ss h54.1).k 3 14 rfl) (by rw [((F.ss h54.1).l 3 24 rfl)]; decide) _ _) dX2_value_126 cb_X11_put ne_RX2_29 sm_yX11_put ⟨(Nat.le_of_ble_eq_true rfl), (Nat.le_of_ble_eq_true rfl)⟩ rfl rfl (Nat.le_of_ble_eq_true rfl) ⟨(Nat.le_of_ble_eq_true rfl), (Nat.le_of_ble_eq_true rfl)⟩ (RV.go (fun S77 q78 => ?_))
      have h80 : FZ [t + 3] [] S S77 := h54.tr ((fr_put q78).sub (by simp) (by simp))
      refine V_goto 129 199 dX2_value_129 (by decide) ?_
      refine V_lvw (by repeat (first | exact trivial | refine ⟨rfl, ?_⟩)) (J20 _ _ _ h80 (by first | omega | assumption))
  refine V_iload_4 7 dX2_value_7 ?_
  refine V_aload_0 9 dX2_value_9 ?_
  refine V_getI 10 (c := 2) 2 dX2_value_10 fl_RX2_21 ((F.ss h11.1).m 0 (Nat.le_of_ble_eq_true rfl)) ((F.ss h11.1).k 0 2 rfl) (Nat.le_of_ble_eq_true rfl) (Nat.le_of_ble_eq_true rfl) rfl ?_
  refine V_icmp_ge 13 205 dX2_value_13 (by decide) (fun c82 => ?_) (fun c82 => ?_)
  ·
    refine V_lvw (by repeat (first | exact trivial | refine ⟨rfl, ?_⟩)) (J3 _ _ _ _ h11)
  ·
    refine V_iload_4 16 dX2_value_16 ?_
    refine V_aload_0 18 dX2_value_18 ?_
    refine V_getR 19 (c := 2) 0 ((F.ss h11.1).r 0 0 1 rfl) dX2_value_19 fl_RX2_9 ((F.ss h11.1).m 0 (Nat.le_of_ble_eq_true rfl)) ((F.ss h11.1).k 0 2 rfl) (Nat.le_of_ble_eq_true rfl) (Nat.le_of_ble_eq_true rfl) rfl ?_
    refine V_alen2 22 dX2_value_22 ((F.ss h11.1).m 1 (Nat.le_of_ble_eq_true rfl)) ((F.ss h11.1).k 1 14 rfl) (Nat.le_of_ble_eq_true rfl) (Nat.le_of_ble_eq_true rfl) ((F.ss h11.1).l 1 402 rfl) ?_
    refine V_icmp_ge 23 205 dX2_value_23 (by decide) (fun c84 => ?_) (fun c84 => ?_)
    ·
      refine V_lvw (by repeat (first | exact trivial | refine ⟨rfl, ?_⟩)) (J3 _ _ _ _ h11)
    ·
      have lt86 := nI_lt8 (by decide) hi10 c84
      refine V_iload_4 26 dX2_value_26 ?_
      refine V_iload_3 28 dX2_value_28 ?_
      refine V_icmp_ge 29 35 dX2_value_29 (by decide) (fun c87 => ?_) (fun c87 => ?_)
      ·
        refine V_aload_0 35 dX2_value_35 ?_
        refine V_getR 36 (c := 2) 0 ((F.ss h11.1).r 0 0 1 rfl) dX2_value_36 fl_RX2_9 ((F.ss h11.1).m 0 (Nat.le_of_ble_eq_true rfl)) ((F.ss h11.1).k 0 2 rfl) (Nat.le_of_ble_eq_true rfl) (Nat.le_of_ble_eq_true rfl) rfl ?_
        refine V_iload_4 39 dX2_value_39 ?_
        refine V_iaload2 41 dX2_value_41 ((F.ss h11.1).m 1 (Nat.le_of_ble_eq_true rfl)) ((F.ss h11.1).k 1 14 rfl) ((F.ss h11.1).l 1 402 rfl) ?_ ?_
        · exact vp_in_nI (by omega) (by decide)
        refine V_istore_5 42 dX2_value_42 rfl (Nat.le_of_ble_eq_true rfl) ?_
        refine V_aload_0 44 dX2_value_44 ?_
        refine V_getR 45 (c := 2) 3 ((F.ss h11.1).r 0 3 3 rfl) dX2_value_45 fl_RX2_18 ((F.ss h11.1).m 0 (Nat.le_of_ble_eq_true rfl)) ((F.ss h11.1).k 0 2 rfl) (Nat.le_of_ble_eq_true rfl) (Nat.le_of_ble_eq_true rfl) rfl ?_
        refine V_iload_2 48 dX2_value_48 ?_
        refine V_callSN 49 [.ref _, .int _] _ (c_at M.2.1 Γ S9 (a := (t + 3)) ((F.ss h11.1).m 3 (Nat.le_of_ble_eq_true rfl)) ((F.ss h11.1).k 3 14 rfl) (by rw [((F.ss h11.1).l 3 24 rfl)]; decide) _) dX2_value_49 cb_X11_at ne_RX2_33 sm_yX11_at ⟨(Nat.le_of_ble_eq_true rfl), (Nat.le_of_ble_eq_true rfl)⟩ rfl rfl (Nat.le_of_ble_eq_true rfl) ⟨(Nat.le_of_ble_eq_true rfl), (Nat.le_of_ble_eq_true rfl)⟩ (RI.go (fun r90 S88 q89 => ?_))
        rw [q89.2]
        refine V_istore_6 52 dX2_value_52 rfl (Nat.le_of_ble_eq_true rfl) ?_
        refine V_aload_0 54 dX2_value_54 ?_
        refine V_getR 55 (c := 2) 3 ((F.ss h11.1).r 0 3 3 rfl) dX2_value_55 fl_RX2_18 ((F.ss h11.1).m 0 (Nat.le_of_ble_eq_true rfl)) ((F.ss h11.1).k 0 2 rfl) (Nat.le_of_ble_eq_true rfl) (Nat.le_of_ble_eq_true rfl) rfl ?_
        refine V_iload_2 58 dX2_value_58 ?_
        refine V_iconst 59 (1) dX2_value_59 (by decide) ?_
        refine V_isub 60 dX2_value_60 ?_
        refine V_callSN 61 [.ref _, .int _] _ (c_at M.2.1 Γ S9 (a := (t + 3)) ((F.ss h11.1).m 3 (Nat.le_of_ble_eq_true rfl)) ((F.ss h11.1).k 3 14 rfl) (by rw [((F.ss h11.1).l 3 24 rfl)]; decide) _) dX2_value_61 cb_X11_at ne_RX2_33 sm_yX11_at ⟨(Nat.le_of_ble_eq_true rfl), (Nat.le_of_ble_eq_true rfl)⟩ rfl rfl (Nat.le_of_ble_eq_true rfl) ⟨(Nat.le_of_ble_eq_true rfl), (Nat.le_of_ble_eq_true rfl)⟩ (RI.go (fun r93 S91 q92 => ?_))
        rw [q92.2]
        refine V_istore_7 64 dX2_value_64 rfl (Nat.le_of_ble_eq_true rfl) ?_
        refine V_iload_5 66 dX2_value_66 ?_
        refine V_iconst 68 (5) dX2_value_68 (by decide) ?_
        refine V_icmp_ne 69 75 dX2_value_69 (by decide) (fun c94 => ?_) (fun c94 => ?_)
        ·
          refine V_iload_5 75 dX2_value_75 ?_
          refine V_iconst 77 (2) dX2_value_77 (by decide) ?_
          refine V_icmp_eq 78 87 dX2_value_78 (by decide) (fun c95 => ?_) (fun c95 => ?_)
          ·
            refine V_lvw (by repeat (first | exact trivial | refine ⟨rfl, ?_⟩)) (J55 _ _ _ _ _ _ h11 (by first | omega | assumption))
          ·
            refine V_iload_5 81 dX2_value_81 ?_
            refine V_iconst 83 (1) dX2_value_83 (by decide) ?_
            refine V_icmp_ne 84 132 dX2_value_84 (by decide) (fun c97 => ?_) (fun c97 => ?_)
            ·
              refine V_iload_5 132 dX2_value_132 ?_
              refine V_iconst 134 (4) dX2_value_134 (by decide) ?_
              refine V_icmp_ne 135 165 dX2_value_135 (by decide) (fun c98 => ?_) (fun c98 => ?_)
              ·
                refine V_iload_5 165 dX2_value_165 ?_
                refine V_bipush 167 (47) dX2_value_167 (by decide) ?_
                refine V_icmp_ne 169 179 dX2_value_169 (by decide) (fun c99 => ?_) (fun c99 => ?_)
                ·
                  refine V_lvw (by repeat (first | exact trivial | refine ⟨rfl, ?_⟩)) (J26 _ _ _ _ _ _ h11 (by first | omega | assumption))
                ·
                  refine V_iload_6 172 dX2_value_172 ?_
                  refine V_if_ne 174 179 dX2_value_174 (by decide) (fun c101 => ?_) (fun c101 => ?_)
                  ·
                    refine V_lvw (by repeat (first | exact trivial | refine ⟨rfl, ?_⟩)) (J26 _ _ _ _ _ _ h11 (by first | omega | assumption))
                  ·
                    refine V_iconst 177 (0) dX2_value_177 (by decide) ?_
                    refine V_iret 178 .int dX2_value_178 rfl rfl (Nat.le_of_ble_eq_true rfl) (Nat.le_of_ble_eq_true rfl) (RI.mk h11)
              ·
                refine V_iinc_2 138 (-2) dX2_value_138 (by decide) rfl (Nat.le_of_ble_eq_true rfl) ?_
                refine V_iload_7 141 dX2_value_141 ?_
                refine V_iload_6 143 dX2_value_143 ?_
                refine V_icmp_ge 145 152 dX2_value_145 (by decide) (fun c103 => ?_) (fun c103 => ?_)
                ·
                  refine V_aload_0 152 dX2_value_152 ?_
                  refine V_getR 153 (c := 2) 1 ((F.ss h11.1).r 0 1 2 rfl) dX2_value_153 fl_RX2_15 ((F.ss h11.1).m 0 (Nat.le_of_ble_eq_true rfl)) ((F.ss h11.1).k 0 2 rfl) (Nat.le_of_ble_eq_true rfl) (Nat.le_of_ble_eq_true rfl) rfl ?_
                  refine V_iload_4 156 dX2_value_156 ?_
                  refine V_callSN 158 [.ref _, .int _] _ (c_at M.2.1 Γ S9 (a := (t + 2)) ((F.ss h11.1).m 2 (Nat.le_of_ble_eq_true rfl)) ((F.ss h11.1).k 2 14 rfl) (by rw [((F.ss h11.1).l 2 402 rfl)]; decide) _) dX2_value_158 cb_X11_at ne_RX2_33 sm_yX11_at ⟨(Nat.le_of_ble_eq_true rfl), (Nat.le_of_ble_eq_true rfl)⟩ rfl rfl (Nat.le_of_ble_eq_true rfl) ⟨(Nat.le_of_ble_eq_true rfl), (Nat.le_of_ble_eq_true rfl)⟩ (RI.go (fun r106 S104 q105 => ?_))
                  rw [q105.2]
                  refine V_lvw (by repeat (first | exact trivial | refine ⟨rfl, ?_⟩)) (J44 _ _ _ _ _ _ _ h11 (by first | omega | assumption))
                ·
                  refine V_iload_3 148 dX2_value_148 ?_
                  refine V_goto 149 161 dX2_value_149 (by decide) ?_
                  refine V_lvw (by repeat (first | exact trivial | refine ⟨rfl, ?_⟩)) (J44 _ _ _ _ _ _ _ h11 (by first | omega | assumption))
            ·
              refine V_lvw (by repeat (first | exact trivial | refine ⟨rfl, ?_⟩)) (J55 _ _ _ _ _ _ h11 (by first | omega | assumption))
        ·
          refine V_iload_6 72 dX2_value_72 ?_
          refine V_iret 74 .int dX2_value_74 rfl rfl (Nat.le_of_ble_eq_true rfl) (Nat.le_of_ble_eq_true rfl) (RI.mk h11)
      ·
        refine V_goto 32 199 dX2_value_32 (by decide) ?_
        refine V_lvw (by repeat (first | exact trivial | refine ⟨rfl, ?_⟩)) (J20 _ _ _ h11 (by first | omega | assumption))
set_option maxRecDepth 100000 in
set_option maxHeartbeats 8000000 in
theorem s_fits (l : Launch) (Γ : GC) (S : PS) {o : Nat} (F : isL lySeen Γ.2.2.2.2.1 S o) (x y z : Int32) : CT l Γ yX6_fits cX6_fits 5 (some .boolean) (1) (0) (0) [.ref o, .int x, .int y, .int z] S (RI (fun r S' => (r = 0 ∨ r = 1) ∧ FZ [] [] S S')) := by
  refine CT.of RX6 "fits" [some (.ref o), some (.int x), some (.int y), some (.int z), none] (by decide +kernel) rfl rfl (Nat.le_of_ble_eq_true rfl) rfl (fun M hM => ?_)
  subst hM
  have J3 : ∀ (S1 : PS) (x4 : Int32), FZ [] [] S S1 → V M Γ (5, RX6, "fits", (some .boolean), RM (1) (0) (0)) cX6_fits (RQ M Γ (RI (fun r S' => (r = 0 ∨ r = 1) ∧ FZ [] [] S S')) (0) (0)) 0 0 S1 50 [some (.ref o), some (.int x), some (.int y), some (.int z), some (.int x4)] [] := by
    intro S1 x4 h2
    refine V_iconst 50 (1) dX6_fits_50 (by decide) ?_
    refine V_iret 51 .boolean dX6_fits_51 rfl (nrwB (Or.inr rfl)) (Nat.le_of_ble_eq_true rfl) (Nat.le_of_ble_eq_true rfl) (RI.mk ⟨by decide, h2⟩)
  refine V_iconst 0 (0) dX6_fits_0 (by decide) ?_
  refine V_istore_4 1 dX6_fits_1 rfl (Nat.le_of_ble_eq_true rfl) ?_
  refine V_lvw (by repeat (first | exact trivial | refine ⟨rfl, ?_⟩)) (V_while (α := Nat × PS) (fun z5 => 20 - z5.1) (fun z5 => z5.1 ≤ 20 ∧ FZ [] [] S z5.2) (fun z5 => z5.2) (fun z5 => [some (.ref o), some (.int x), some (.int y), some (.int z), some (.int (nI z5.1))]) (0, _) ⟨Nat.zero_le _, FZ.rf⟩ (fun z5 hx11 ih10 => ?b12))
  obtain ⟨i6, S7⟩ := z5
  obtain ⟨hi8, h9⟩ := hx11
  dsimp only at hi8 h9 ih10 ⊢
  have J16 : ∀ (S14 : PS) , FZ [] [] S S14 → i6 < 20 → V M Γ (5, RX6, "fits", (some .boolean), RM (1) (0) (0)) cX6_fits (RQ M Γ (RI (fun r S' => (r = 0 ∨ r = 1) ∧ FZ [] [] S S')) (0) (0)) 0 0 S14 44 [some (.ref o), some (.int x), some (.int y), some (.int z), some (.int (nI i6))] [] := by
    intro S14  h15 lt17
    refine V_iinc_4 44 (1) dX6_fits_44 (by decide) rfl (Nat.le_of_ble_eq_true rfl) ?_
    refine V_goto 47 3 dX6_fits_47 (by decide) ?_
    rw [← nI_succ]
    refine V_lvw (by repeat (first | exact trivial | refine ⟨rfl, ?_⟩)) (ih10 (i6 + 1, _) ⟨by dsimp only; omega, h15⟩ (by dsimp only; omega))
  refine V_iload_4 3 dX6_fits_3 ?_
  refine V_iload_1 5 dX6_fits_5 ?_
  refine V_icmp_ge 6 50 dX6_fits_6 (by decide) (fun c18 => ?_) (fun c18 => ?_)
  ·
    refine V_lvw (by repeat (first | exact trivial | refine ⟨rfl, ?_⟩)) (J3 _ _ h9)
  ·
    refine V_iload_4 9 dX6_fits_9 ?_
    refine V_bipush 11 (20) dX6_fits_11 (by decide) ?_
    refine V_icmp_ge 13 50 dX6_fits_13 (by decide) (fun c20 => ?_) (fun c20 => ?_)
    ·
      refine V_lvw (by repeat (first | exact trivial | refine ⟨rfl, ?_⟩)) (J3 _ _ h9)
    ·
      have lt22 := nI_lt8 (by decide) hi8 c20
      refine V_aload_0 16 dX6_fits_16 ?_
      refine V_getR 17 (c := 6) 0 ((F.ss h9.1).r 0 0 1 rfl) dX6_fits_17 fl_RX6_11 ((F.ss h9.1).m 0 (Nat.le_of_ble_eq_true rfl)) ((F.ss h9.1).k 0 6 rfl) (Nat.le_of_ble_eq_true rfl) (Nat.le_of_ble_eq_true rfl) rfl ?_
      refine V_iload_4 20 dX6_fits_20 ?_
      refine V_iaload2 22 dX6_fits_22 ((F.ss h9.1).m 1 (Nat.le_of_ble_eq_true rfl)) ((F.ss h9.1).k 1 14 rfl) ((F.ss h9.1).l 1 20 rfl) ?_ ?_
      · exact vp_in_nI (by omega) (by decide)
      refine V_iload_2 23 dX6_fits_23 ?_
      refine V_icmp_ne 24 44 dX6_fits_24 (by decide) (fun c23 => ?_) (fun c23 => ?_)
      ·
        refine V_lvw (by repeat (first | exact trivial | refine ⟨rfl, ?_⟩)) (J16 _ h9 (by first | omega | assumption))
      ·
        refine V_aload_0 27 dX6_fits_27 ?_
        refine V_getR 28 (c := 6) 1 ((F.ss h9.1).r 0 1 2 rfl) dX6_fits_28 fl_RX6_15 ((F.ss h9.1).m 0 (Nat.le_of_ble_eq_true rfl)) ((F.ss h9.1).k 0 6 rfl) (Nat.le_of_ble_eq_true rfl) (Nat.le_of_ble_eq_true rfl) rfl ?_
        refine V_iload_4 31 dX6_fits_31 ?_
        refine V_iaload2 33 dX6_fits_33 ((F.ss h9.1).m 2 (Nat.le_of_ble_eq_true rfl)) ((F.ss h9.1).k 2 14 rfl) ((F.ss h9.1).l 2 20 rfl) ?_ ?_
        · exact vp_in_nI (by omega) (by decide)
        refine V_iconst 34 (0) dX6_fits_34 (by decide) ?_
        refine V_iload_3 35 dX6_fits_35 ?_
        refine V_mmax 36 dX6_fits_36 ml_RX6_57 (Nat.le_of_ble_eq_true rfl) (Nat.le_of_ble_eq_true rfl) (Nat.le_of_ble_eq_true rfl) (Nat.le_of_ble_eq_true rfl) ?_
        refine V_icmp_eq 39 44 dX6_fits_39 (by decide) (fun c25 => ?_) (fun c25 => ?_)
        ·
          refine V_lvw (by repeat (first | exact trivial | refine ⟨rfl, ?_⟩)) (J16 _ h9 (by first | omega | assumption))
        ·
          refine V_iconst 42 (0) dX6_fits_42 (by decide) ?_
          refine V_iret 43 .boolean dX6_fits_43 rfl (nrwB (Or.inl rfl)) (Nat.le_of_ble_eq_true rfl) (Nat.le_of_ble_eq_true rfl) (RI.mk ⟨by decide, h9⟩)
set_option maxRecDepth 100000 in
set_option maxHeartbeats 8000000 in
theorem s_pairsLeft (l : Launch) (Γ : GC) (S : PS) {o t : Nat} (F : isL lyLosses Γ.2.2.2.2.1 S o) (Ft : isL lyText Γ.2.2.2.2.1 S t) : CT l Γ yX3_pairsLeft cX3_pairsLeft 5 (some .int) (1) (0) (0) [.ref o, .ref t] S (RI (fun r S' => FZ [] [] S S')) := by
  refine CT.of RX3 "pairsLeft" [some (.ref o), some (.ref t), none, none, none] (by decide +kernel) rfl rfl (Nat.le_of_ble_eq_true rfl) rfl (fun M hM => ?_)
  subst hM
  refine V_iconst 0 (0) dX3_pairsLeft_0 (by decide) ?_
  refine V_istore_2 1 dX3_pairsLeft_1 rfl (Nat.le_of_ble_eq_true rfl) ?_
  refine V_iconst 2 (0) dX3_pairsLeft_2 (by decide) ?_
  refine V_istore_3 3 dX3_pairsLeft_3 rfl (Nat.le_of_ble_eq_true rfl) ?_
  refine V_lvw (by repeat (first | exact trivial | refine ⟨rfl, ?_⟩)) (V_while (α := Nat × PS × Int32) (fun z1 => 8 - z1.1) (fun z1 => z1.1 ≤ 8 ∧ FZ [] [] S z1.2.1) (fun z1 => z1.2.1) (fun z1 => [some (.ref o), some (.ref t), some (.int z1.2.2), some (.int (nI z1.1)), none]) (0, _, _) ⟨Nat.zero_le _, FZ.rf⟩ (fun z1 hx8 ih6 => ?b9))
  obtain ⟨i2, S3, w7⟩ := z1
  obtain ⟨hi4, h5⟩ := hx8
  dsimp only at hi4 h5 ih6 ⊢
  have J13 : ∀ (S11 : PS) (x14 : Int32) (x15 : Int32), FZ [] [] S S11 → i2 < 8 → V M Γ (5, RX3, "pairsLeft", (some .int), RM (1) (0) (0)) cX3_pairsLeft (RQ M Γ (RI (fun r S' => FZ [] [] S S')) (0) (0)) 0 0 S11 67 [some (.ref o), some (.ref t), some (.int x14), some (.int (nI i2)), some (.int x15)] [] := by
    intro S11 x14 x15 h12 lt16
    refine V_iinc_3 67 (1) dX3_pairsLeft_67 (by decide) rfl (Nat.le_of_ble_eq_true rfl) ?_
    refine V_goto 70 4 dX3_pairsLeft_70 (by decide) ?_
    rw [← nI_succ]
    refine V_lvw (by repeat (first | exact trivial | refine ⟨rfl, ?_⟩)) (ih6 (i2 + 1, _, _) ⟨by dsimp only; omega, h12⟩ (by dsimp only; omega))
  refine V_iload_3 4 dX3_pairsLeft_4 ?_
  refine V_bipush 5 (8) dX3_pairsLeft_5 (by decide) ?_
  refine V_icmp_ge 7 73 dX3_pairsLeft_7 (by decide) (fun c17 => ?_) (fun c17 => ?_)
  ·
    refine V_iload_2 73 dX3_pairsLeft_73 ?_
    refine V_iret 74 .int dX3_pairsLeft_74 rfl rfl (Nat.le_of_ble_eq_true rfl) (Nat.le_of_ble_eq_true rfl) (RI.mk h5)
  ·
    have lt18 := nI_lt8 (by decide) hi4 c17
    refine V_aload_1 10 dX3_pairsLeft_10 ?_
    refine V_getR 11 (c := 10) 3 ((Ft.ss h5.1).r 0 3 2 rfl) dX3_pairsLeft_11 fl_RX3_39 ((Ft.ss h5.1).m 0 (Nat.le_of_ble_eq_true rfl)) ((Ft.ss h5.1).k 0 10 rfl) (Nat.le_of_ble_eq_true rfl) (Nat.le_of_ble_eq_true rfl) rfl ?_
    refine V_iload_3 14 dX3_pairsLeft_14 ?_
    refine V_callSN 15 [.ref _, .int _] _ (c_at M.2.1 Γ S3 (a := (t + 2)) ((Ft.ss h5.1).m 2 (Nat.le_of_ble_eq_true rfl)) ((Ft.ss h5.1).k 2 14 rfl) (by rw [((Ft.ss h5.1).l 2 8 rfl)]; decide) _) dX3_pairsLeft_15 cb_X11_at ne_RX3_44 sm_yX11_at ⟨(Nat.le_of_ble_eq_true rfl), (Nat.le_of_ble_eq_true rfl)⟩ rfl rfl (Nat.le_of_ble_eq_true rfl) ⟨(Nat.le_of_ble_eq_true rfl), (Nat.le_of_ble_eq_true rfl)⟩ (RI.go (fun r21 S19 q20 => ?_))
    rw [q20.2]
    refine V_istore_4 18 dX3_pairsLeft_18 rfl (Nat.le_of_ble_eq_true rfl) ?_
    refine V_iload_3 20 dX3_pairsLeft_20 ?_
    refine V_iload_4 21 dX3_pairsLeft_21 ?_
    refine V_icmp_ne 23 40 dX3_pairsLeft_23 (by decide) (fun c22 => ?_) (fun c22 => ?_)
    ·
      refine V_iload_3 40 dX3_pairsLeft_40 ?_
      refine V_iload_4 41 dX3_pairsLeft_41 ?_
      refine V_icmp_ge 43 67 dX3_pairsLeft_43 (by decide) (fun c23 => ?_) (fun c23 => ?_)
      ·
        refine V_lvw (by repeat (first | exact trivial | refine ⟨rfl, ?_⟩)) (J13 _ _ _ h5 (by first | omega | assumption))
      ·
        refine V_iload_2 46 dX3_pairsLeft_46 ?_
        refine V_aload_0 47 dX3_pairsLeft_47 ?_
        refine V_getR 48 (c := 3) 2 ((F.ss h5.1).r 0 2 3 rfl) dX3_pairsLeft_48 fl_RX3_18 ((F.ss h5.1).m 0 (Nat.le_of_ble_eq_true rfl)) ((F.ss h5.1).k 0 3 rfl) (Nat.le_of_ble_eq_true rfl) (Nat.le_of_ble_eq_true rfl) rfl ?_
        refine V_iload_3 51 dX3_pairsLeft_51 ?_
        refine V_iaload2 52 dX3_pairsLeft_52 ((F.ss h5.1).m 3 (Nat.le_of_ble_eq_true rfl)) ((F.ss h5.1).k 3 14 rfl) ((F.ss h5.1).l 3 8 rfl) ?_ ?_
        · exact vp_in_nI (by omega) (by decide)
        refine V_aload_0 53 dX3_pairsLeft_53 ?_
        refine V_getR 54 (c := 3) 2 ((F.ss h5.1).r 0 2 3 rfl) dX3_pairsLeft_54 fl_RX3_18 ((F.ss h5.1).m 0 (Nat.le_of_ble_eq_true rfl)) ((F.ss h5.1).k 0 3 rfl) (Nat.le_of_ble_eq_true rfl) (Nat.le_of_ble_eq_true rfl) rfl ?_
        refine V_iload_4 57 dX3_pairsLeft_57 ?_
        refine V_callSN 59 [.ref _, .int _] _ (c_at M.2.1 Γ S3 (a := (o + 3)) ((F.ss h5.1).m 3 (Nat.le_of_ble_eq_true rfl)) ((F.ss h5.1).k 3 14 rfl) (by rw [((F.ss h5.1).l 3 8 rfl)]; decide) _) dX3_pairsLeft_59 cb_X11_at ne_RX3_44 sm_yX11_at ⟨(Nat.le_of_ble_eq_true rfl), (Nat.le_of_ble_eq_true rfl)⟩ rfl rfl (Nat.le_of_ble_eq_true rfl) ⟨(Nat.le_of_ble_eq_true rfl), (Nat.le_of_ble_eq_true rfl)⟩ (RI.go (fun r27 S25 q26 => ?_))
        rw [q26.2]
        refine V_mmin 62 dX3_pairsLeft_62 ml_RX3_135 (Nat.le_of_ble_eq_true rfl) (Nat.le_of_ble_eq_true rfl) (Nat.le_of_ble_eq_true rfl) (Nat.le_of_ble_eq_true rfl) ?_
        refine V_iadd 65 dX3_pairsLeft_65 ?_
        refine V_istore_2 66 dX3_pairsLeft_66 rfl (Nat.le_of_ble_eq_true rfl) ?_
        refine V_lvw (by repeat (first | exact trivial | refine ⟨rfl, ?_⟩)) (J13 _ _ _ h5 (by first | omega | assumption))
    ·
      refine V_iload_2 26 dX3_pairsLeft_26 ?_
      refine V_aload_0 27 dX3_pairsLeft_27 ?_
      refine V_getR 28 (c := 3) 2 ((F.ss h5.1).r 0 2 3 rfl) dX3_pairsLeft_28 fl_RX3_18 ((F.ss h5.1).m 0 (Nat.le_of_ble_eq_true rfl)) ((F.ss h5.1).k 0 3 rfl) (Nat.le_of_ble_eq_true rfl) (Nat.le_of_ble_eq_true rfl) rfl ?_
      refine V_iload_3 31 dX3_pairsLeft_31 ?_
      refine V_iaload2 32 dX3_pairsLeft_32 ((F.ss h5.1).m 3 (Nat.le_of_ble_eq_true rfl)) ((F.ss h5.1).k 3 14 rfl) ((F.ss h5.1).l 3 8 rfl) ?_ ?_
      · exact vp_in_nI (by omega) (by decide)
      refine V_iconst 33 (2) dX3_pairsLeft_33 (by decide) ?_
      refine V_idiv 34 dX3_pairsLeft_34 (by decide) ?_
      refine V_iadd 35 dX3_pairsLeft_35 ?_
      refine V_istore_2 36 dX3_pairsLeft_36 rfl (Nat.le_of_ble_eq_true rfl) ?_
      refine V_goto 37 67 dX3_pairsLeft_37 (by decide) ?_
      refine V_lvw (by repeat (first | exact trivial | refine ⟨rfl, ?_⟩)) (J13 _ _ _ h5 (by first | omega | assumption))
set_option maxRecDepth 100000 in
set_option maxHeartbeats 8000000 in
theorem s_unlikeKinds (l : Launch) (Γ : GC) (S : PS) {t : Nat} (F : isL lyText Γ.2.2.2.2.1 S t) (x y : Int32) : CT l Γ yX4_unlikeKinds cX4_unlikeKinds 3 (some .int) (2) (0) (0) [.ref t, .int x, .int y] S (RI (fun r S' => FZ [] [] S S')) := by
  refine CT.of RX4 "unlikeKinds" [some (.ref t), some (.int x), some (.int y)] (by decide +kernel) rfl rfl (Nat.le_of_ble_eq_true rfl) rfl (fun M hM => ?_)
  subst hM
  refine V_aload_0 0 dX4_unlikeKinds_0 ?_
  refine V_aload_0 1 dX4_unlikeKinds_1 ?_
  refine V_getR 2 (c := 10) 4 (F.r 0 4 3 rfl) dX4_unlikeKinds_2 fl_RX4_84 (F.m 0 (Nat.le_of_ble_eq_true rfl)) (F.k 0 10 rfl) (Nat.le_of_ble_eq_true rfl) (Nat.le_of_ble_eq_true rfl) rfl ?_
  refine V_iload_1 5 dX4_unlikeKinds_5 ?_
  refine V_callSN 6 [.ref _, .int _] _ (c_at M.2.1 Γ S (a := (t + 3)) (F.m 3 (Nat.le_of_ble_eq_true rfl)) (F.k 3 14 rfl) (by rw [(F.l 3 8 rfl)]; decide) _) dX4_unlikeKinds_6 cb_X11_at ne_RX4_37 sm_yX11_at ⟨(Nat.le_of_ble_eq_true rfl), (Nat.le_of_ble_eq_true rfl)⟩ rfl rfl (Nat.le_of_ble_eq_true rfl) ⟨(Nat.le_of_ble_eq_true rfl), (Nat.le_of_ble_eq_true rfl)⟩ (RI.go (fun r3 S1 q2 => ?_))
  rw [q2.2]
  refine V_aload_0 9 dX4_unlikeKinds_9 ?_
  refine V_getR 10 (c := 10) 4 (F.r 0 4 3 rfl) dX4_unlikeKinds_10 fl_RX4_84 (F.m 0 (Nat.le_of_ble_eq_true rfl)) (F.k 0 10 rfl) (Nat.le_of_ble_eq_true rfl) (Nat.le_of_ble_eq_true rfl) rfl ?_
  refine V_iload_2 13 dX4_unlikeKinds_13 ?_
  refine V_callSN 14 [.ref _, .int _] _ (c_at M.2.1 Γ S (a := (t + 3)) (F.m 3 (Nat.le_of_ble_eq_true rfl)) (F.k 3 14 rfl) (by rw [(F.l 3 8 rfl)]; decide) _) dX4_unlikeKinds_14 cb_X11_at ne_RX4_37 sm_yX11_at ⟨(Nat.le_of_ble_eq_true rfl), (Nat.le_of_ble_eq_true rfl)⟩ rfl rfl (Nat.le_of_ble_eq_true rfl) ⟨(Nat.le_of_ble_eq_true rfl), (Nat.le_of_ble_eq_true rfl)⟩ (RI.go (fun r6 S4 q5 => ?_))
  rw [q5.2]
  refine V_callV 17 (ci := 10) [.int _, .int _] _ (s_X10_unlikeness M.2.1 Γ S F _ _) dX4_unlikeKinds_17 cb_X10_unlikeness ml_RX4_87 im_yX10_unlikeness se_yX10_unlikeness (F.m 0 (Nat.le_of_ble_eq_true rfl)) (F.k 0 10 rfl) (Nat.le_of_ble_eq_true rfl) ⟨(Nat.le_of_ble_eq_true rfl), (Nat.le_of_ble_eq_true rfl)⟩ rfl rfl (Nat.le_of_ble_eq_true rfl) ⟨(Nat.le_of_ble_eq_true rfl), (Nat.le_of_ble_eq_true rfl)⟩ (RI.go (fun r9 S7 q8 => ?_))
  have h10 : FZ [] [] S S7 := (FZ.rf (X := []) (Y := []) (S := S)).tr (q8.sub (by simp) (by simp))
  refine V_iret 20 .int dX4_unlikeKinds_20 rfl rfl (Nat.le_of_ble_eq_true rfl) (Nat.le_of_ble_eq_true rfl) (RI.mk h10)

