/-! Odds from any ints: sideOf, canPair -/
set_option maxRecDepth 100000 in
set_option maxHeartbeats 8000000 in
theorem s_compare (l : Launch) (Γ : GC) (S : PS) (x y : Int32) : CT l Γ yJ6_compare_7cf53 cJ6_compare_7cf53 2 (some .int) (0) (0) (0) [.int x, .int y] S (RI (fun r S' => FZ [] [] S S')) := by
  refine CT.of RJ6 "compare" [some (.int x), some (.int y)] (by decide +kernel) rfl rfl (Nat.le_of_ble_eq_true rfl) rfl (fun M hM => ?_)
  subst hM
  have J3 : ∀ (S1 : PS) (x4 : Int32), FZ [] [] S S1 → V M Γ (2, RJ6, "compare", (some .int), RM (0) (0) (0)) cJ6_compare_7cf53 (RQ M Γ (RI (fun r S' => FZ [] [] S S')) (0) (0)) 0 0 S1 19 [some (.int x), some (.int y)] [.int x4] := by
    intro S1 x4 h2
    refine V_iret 19 .int dJ6_compare_7cf53_19 rfl rfl (Nat.le_of_ble_eq_true rfl) (Nat.le_of_ble_eq_true rfl) (RI.mk h2)
  refine V_iload_0 0 dJ6_compare_7cf53_0 ?_
  refine V_iload_1 1 dJ6_compare_7cf53_1 ?_
  refine V_icmp_ge 2 9 dJ6_compare_7cf53_2 (by decide) (fun c5 => ?_) (fun c5 => ?_)
  ·
    refine V_iload_0 9 dJ6_compare_7cf53_9 ?_
    refine V_iload_1 10 dJ6_compare_7cf53_10 ?_
    refine V_icmp_ne 11 18 dJ6_compare_7cf53_11 (by decide) (fun c6 => ?_) (fun c6 => ?_)
    ·
      refine V_iconst 18 (1) dJ6_compare_7cf53_18 (by decide) ?_
      refine V_lvw (by repeat (first | exact trivial | refine ⟨rfl, ?_⟩)) (J3 _ _ FZ.rf)
    ·
      refine V_iconst 14 (0) dJ6_compare_7cf53_14 (by decide) ?_
      refine V_goto 15 19 dJ6_compare_7cf53_15 (by decide) ?_
      refine V_lvw (by repeat (first | exact trivial | refine ⟨rfl, ?_⟩)) (J3 _ _ FZ.rf)
  ·
    refine V_iconst 5 (-1) dJ6_compare_7cf53_5 (by decide) ?_
    refine V_goto 6 19 dJ6_compare_7cf53_6 (by decide) ?_
    refine V_lvw (by repeat (first | exact trivial | refine ⟨rfl, ?_⟩)) (J3 _ _ FZ.rf)
set_option maxRecDepth 100000 in
set_option maxHeartbeats 8000000 in
theorem s_sideOf (l : Launch) (Γ : GC) (S : PS) {t : Nat} (F : isL lyText Γ.2.2.2.2.1 S t) (x : Int32) : CT l Γ yX4_sideOf cX4_sideOf 2 (some .int) (1) (0) (0) [.ref t, .int x] S (RI (fun r S' => FZ [] [] S S')) := by
  refine CT.of RX4 "sideOf" [some (.ref t), some (.int x)] (by decide +kernel) rfl rfl (Nat.le_of_ble_eq_true rfl) rfl (fun M hM => ?_)
  subst hM
  refine V_iload_1 0 dX4_sideOf_0 ?_
  refine V_aload_0 1 dX4_sideOf_1 ?_
  refine V_getR 2 (c := 10) 3 (F.r 0 3 2 rfl) dX4_sideOf_2 fl_RX4_76 (F.m 0 (Nat.le_of_ble_eq_true rfl)) (F.k 0 10 rfl) (Nat.le_of_ble_eq_true rfl) (Nat.le_of_ble_eq_true rfl) rfl ?_
  refine V_iload_1 5 dX4_sideOf_5 ?_
  refine V_callSN 6 [.ref _, .int _] _ (c_at M.2.1 Γ S (a := (t + 2)) (F.m 2 (Nat.le_of_ble_eq_true rfl)) (F.k 2 14 rfl) (by rw [(F.l 2 8 rfl)]; decide) _) dX4_sideOf_6 cb_X11_at ne_RX4_37 sm_yX11_at ⟨(Nat.le_of_ble_eq_true rfl), (Nat.le_of_ble_eq_true rfl)⟩ rfl rfl (Nat.le_of_ble_eq_true rfl) ⟨(Nat.le_of_ble_eq_true rfl), (Nat.le_of_ble_eq_true rfl)⟩ (RI.go (fun r3 S1 q2 => ?_))
  rw [q2.2]
  refine V_callS 9 [.int _, .int _] _ (s_compare M.2.1 Γ S _ _) dX4_sideOf_9 cb_J6_compare_7cf53 ml_RX4_79 sm_yJ6_compare_7cf53 ⟨(Nat.le_of_ble_eq_true rfl), (Nat.le_of_ble_eq_true rfl)⟩ rfl rfl (Nat.le_of_ble_eq_true rfl) ⟨(Nat.le_of_ble_eq_true rfl), (Nat.le_of_ble_eq_true rfl)⟩ (RI.go (fun r6 S4 q5 => ?_))
  have h7 : FZ [] [] S S4 := (FZ.rf (X := []) (Y := []) (S := S)).tr (q5.sub (by simp) (by simp))
  refine V_iret 12 .int dX4_sideOf_12 rfl rfl (Nat.le_of_ble_eq_true rfl) (Nat.le_of_ble_eq_true rfl) (RI.mk h7)
set_option maxRecDepth 100000 in
set_option maxHeartbeats 8000000 in
theorem s_canPair (l : Launch) (Γ : GC) (S : PS) {t : Nat} (F : isL lyText Γ.2.2.2.2.1 S t) (x y : Int32) : CT l Γ yX4_canPair cX4_canPair 3 (some .boolean) (3) (0) (0) [.ref t, .int x, .int y] S (RI (fun r S' => (r = 0 ∨ r = 1) ∧ FZ [] [] S S')) := by
  refine CT.of RX4 "canPair" [some (.ref t), some (.int x), some (.int y)] (by decide +kernel) rfl rfl (Nat.le_of_ble_eq_true rfl) rfl (fun M hM => ?_)
  subst hM
  have J3 : ∀ (S1 : PS) , FZ [] [] S S1 → V M Γ (3, RX4, "canPair", (some .boolean), RM (3) (0) (0)) cX4_canPair (RQ M Γ (RI (fun r S' => (r = 0 ∨ r = 1) ∧ FZ [] [] S S')) (0) (0)) 0 0 S1 31 [some (.ref t), some (.int x), some (.int y)] [] := by
    intro S1  h2
    refine V_iconst 31 (0) dX4_canPair_31 (by decide) ?_
    refine V_iret 32 .boolean dX4_canPair_32 rfl (nrwB (Or.inl rfl)) (Nat.le_of_ble_eq_true rfl) (Nat.le_of_ble_eq_true rfl) (RI.mk ⟨(Or.inl rfl), h2⟩)
  refine V_aload_0 0 dX4_canPair_0 ?_
  refine V_iload_1 1 dX4_canPair_1 ?_
  refine V_callS 2 [.ref _, .int _] _ (s_sideOf M.2.1 Γ S F _) dX4_canPair_2 cb_X4_sideOf ml_RX4_67 sm_yX4_sideOf ⟨(Nat.le_of_ble_eq_true rfl), (Nat.le_of_ble_eq_true rfl)⟩ rfl rfl (Nat.le_of_ble_eq_true rfl) ⟨(Nat.le_of_ble_eq_true rfl), (Nat.le_of_ble_eq_true rfl)⟩ (RI.go (fun r6 S4 q5 => ?_))
  have h7 : FZ [] [] S S4 := (FZ.rf (X := []) (Y := []) (S := S)).tr (q5.sub (by simp) (by simp))
  refine V_aload_0 5 dX4_canPair_5 ?_
  refine V_iload_2 6 dX4_canPair_6 ?_
  refine V_callS 7 [.ref _, .int _] _ (s_sideOf M.2.1 Γ S4 (F.ss h7.1) _) dX4_canPair_7 cb_X4_sideOf ml_RX4_67 sm_yX4_sideOf ⟨(Nat.le_of_ble_eq_true rfl), (Nat.le_of_ble_eq_true rfl)⟩ rfl rfl (Nat.le_of_ble_eq_true rfl) ⟨(Nat.le_of_ble_eq_true rfl), (Nat.le_of_ble_eq_true rfl)⟩ (RI.go (fun r10 S8 q9 => ?_))
  have h11 : FZ [] [] S S8 := h7.tr (q9.sub (by simp) (by simp))
  refine V_iadd 10 dX4_canPair_10 ?_
  refine V_if_ne 11 31 dX4_canPair_11 (by decide) (fun c12 => ?_) (fun c12 => ?_)
  ·
    refine V_lvw (by repeat (first | exact trivial | refine ⟨rfl, ?_⟩)) (J3 _ h11)
  ·
    refine V_aload_0 14 dX4_canPair_14 ?_
    refine V_iload_1 15 dX4_canPair_15 ?_
    refine V_iload_2 16 dX4_canPair_16 ?_
    refine V_callS 17 [.ref _, .int _, .int _] _ (s_unlikeKinds M.2.1 Γ S8 (F.ss h11.1) _ _) dX4_canPair_17 cb_X4_unlikeKinds ml_RX4_57 sm_yX4_unlikeKinds ⟨(Nat.le_of_ble_eq_true rfl), (Nat.le_of_ble_eq_true rfl)⟩ rfl rfl (Nat.le_of_ble_eq_true rfl) ⟨(Nat.le_of_ble_eq_true rfl), (Nat.le_of_ble_eq_true rfl)⟩ (RI.go (fun r16 S14 q15 => ?_))
    have h17 : FZ [] [] S S14 := h11.tr (q15.sub (by simp) (by simp))
    refine V_aload_0 20 dX4_canPair_20 ?_
    refine V_getI 21 (c := 10) 8 dX4_canPair_21 fl_RX4_71 ((F.ss h17.1).m 0 (Nat.le_of_ble_eq_true rfl)) ((F.ss h17.1).k 0 10 rfl) (Nat.le_of_ble_eq_true rfl) (Nat.le_of_ble_eq_true rfl) rfl ?_
    refine V_icmp_gt 24 31 dX4_canPair_24 (by decide) (fun c18 => ?_) (fun c18 => ?_)
    ·
      refine V_lvw (by repeat (first | exact trivial | refine ⟨rfl, ?_⟩)) (J3 _ h17)
    ·
      refine V_iconst 27 (1) dX4_canPair_27 (by decide) ?_
      refine V_goto 28 32 dX4_canPair_28 (by decide) ?_
      refine V_iret 32 .boolean dX4_canPair_32 rfl (nrwB (Or.inr rfl)) (Nat.le_of_ble_eq_true rfl) (Nat.le_of_ble_eq_true rfl) (RI.mk ⟨(Or.inr rfl), h17⟩)

