/-! the model on a fresh state: read -/
set_option maxRecDepth 100000 in
set_option maxHeartbeats 8000000 in
theorem c_byteAt (l : Launch) (Γ : GC) (S : PS) {m : Nat} (F : isL lyModel Γ.2.2.2.2.1 S m) (D : FM m S) : CT l Γ yX12_byteAt cX12_byteAt 2 (some .int) (0) (0) (0) [.ref m, .int 0] S (RI (fun r S' => r = 0 ∧ S' = S)) := by
  refine CT.of RX12 "byteAt" [some (.ref m), some (.int 0)] (by decide +kernel) rfl rfl (Nat.le_of_ble_eq_true rfl) rfl (fun M hM => ?_)
  subst hM
  refine V_iload_1 0 dX12_byteAt_0 ?_
  refine V_aload_0 1 dX12_byteAt_1 ?_
  refine V_getI 2 (c := 12) 4 dX12_byteAt_2 fl_RX12_203 (F.m 0 (Nat.le_of_ble_eq_true rfl)) (F.k 0 12 rfl) (Nat.le_of_ble_eq_true rfl) (Nat.le_of_ble_eq_true rfl) rfl ?_
  rw [D.i 4 (by decide)]
  refine V_icmp_ge 5 21 dX12_byteAt_5 (by decide) (fun _ => ?_) (fun q => absurd (by decide) q)
  refine V_iconst 21 (0) dX12_byteAt_21 (by decide) ?_
  refine V_iret 22 .int dX12_byteAt_22 rfl rfl (Nat.le_of_ble_eq_true rfl) (Nat.le_of_ble_eq_true rfl) (RI.mk ⟨rfl, rfl⟩)
set_option maxRecDepth 100000 in
set_option maxHeartbeats 8000000 in
theorem c_token (l : Launch) (Γ : GC) (S : PS) {m : Nat} (F : isL lyModel Γ.2.2.2.2.1 S m) (D : FM m S) : CT l Γ yX12_token cX12_token 6 none (0) (0) (0) [.ref m, .int 0, .int 0, .int 0, .long 0] S (RV (fun S' => S' = uI (uJ S (m + 6) 0 0) m 10 1)) := by
  refine CT.of RX12 "token" [some (.ref m), some (.int 0), some (.int 0), some (.int 0), some (.long 0), none] (by decide +kernel) rfl rfl (Nat.le_of_ble_eq_true rfl) rfl (fun M hM => ?_)
  subst hM
  refine V_aload_0 0 dX12_token_0 ?_
  refine V_getR 1 (c := 12) 5 (F.r 0 5 3 rfl) dX12_token_1 fl_RX12_20 (F.m 0 (Nat.le_of_ble_eq_true rfl)) (F.k 0 12 rfl) (Nat.le_of_ble_eq_true rfl) (Nat.le_of_ble_eq_true rfl) rfl ?_
  refine V_aload_0 4 dX12_token_4 ?_
  refine V_getI 5 (c := 12) 10 dX12_token_5 fl_RX12_212 (F.m 0 (Nat.le_of_ble_eq_true rfl)) (F.k 0 12 rfl) (Nat.le_of_ble_eq_true rfl) (Nat.le_of_ble_eq_true rfl) rfl ?_
  rw [D.i 10 (by decide)]
  refine V_iload_1 8 dX12_token_8 ?_
  refine V_iastore2 9 dX12_token_9 (F.m 3 (Nat.le_of_ble_eq_true rfl)) (F.k 3 14 rfl) (F.l 3 403 rfl) ?_ ?_
  · exact (by unfold vp_in; decide)
  refine V.to (uA_id ((D.z 3 (by decide) _).trans (by decide))) ?_
  refine V_aload_0 10 dX12_token_10 ?_
  refine V_getR 11 (c := 12) 6 (F.r 0 6 4 rfl) dX12_token_11 fl_RX12_24 (F.m 0 (Nat.le_of_ble_eq_true rfl)) (F.k 0 12 rfl) (Nat.le_of_ble_eq_true rfl) (Nat.le_of_ble_eq_true rfl) rfl ?_
  refine V_aload_0 14 dX12_token_14 ?_
  refine V_getI 15 (c := 12) 10 dX12_token_15 fl_RX12_212 (F.m 0 (Nat.le_of_ble_eq_true rfl)) (F.k 0 12 rfl) (Nat.le_of_ble_eq_true rfl) (Nat.le_of_ble_eq_true rfl) rfl ?_
  rw [D.i 10 (by decide)]
  refine V_iload_2 18 dX12_token_18 ?_
  refine V_iastore2 19 dX12_token_19 (F.m 4 (Nat.le_of_ble_eq_true rfl)) (F.k 4 14 rfl) (F.l 4 403 rfl) ?_ ?_
  · exact (by unfold vp_in; decide)
  refine V.to (uA_id ((D.z 4 (by decide) _).trans (by decide))) ?_
  refine V_aload_0 20 dX12_token_20 ?_
  refine V_getR 21 (c := 12) 7 (F.r 0 7 5 rfl) dX12_token_21 fl_RX12_27 (F.m 0 (Nat.le_of_ble_eq_true rfl)) (F.k 0 12 rfl) (Nat.le_of_ble_eq_true rfl) (Nat.le_of_ble_eq_true rfl) rfl ?_
  refine V_aload_0 24 dX12_token_24 ?_
  refine V_getI 25 (c := 12) 10 dX12_token_25 fl_RX12_212 (F.m 0 (Nat.le_of_ble_eq_true rfl)) (F.k 0 12 rfl) (Nat.le_of_ble_eq_true rfl) (Nat.le_of_ble_eq_true rfl) rfl ?_
  rw [D.i 10 (by decide)]
  refine V_iload_3 28 dX12_token_28 ?_
  refine V_iastore2 29 dX12_token_29 (F.m 5 (Nat.le_of_ble_eq_true rfl)) (F.k 5 14 rfl) (F.l 5 403 rfl) ?_ ?_
  · exact (by unfold vp_in; decide)
  refine V.to (uA_id ((D.z 5 (by decide) _).trans (by decide))) ?_
  refine V_aload_0 30 dX12_token_30 ?_
  refine V_getR 31 (c := 12) 8 (F.r 0 8 6 rfl) dX12_token_31 fl_RX12_30 (F.m 0 (Nat.le_of_ble_eq_true rfl)) (F.k 0 12 rfl) (Nat.le_of_ble_eq_true rfl) (Nat.le_of_ble_eq_true rfl) rfl ?_
  refine V_aload_0 34 dX12_token_34 ?_
  refine V_getI 35 (c := 12) 10 dX12_token_35 fl_RX12_212 (F.m 0 (Nat.le_of_ble_eq_true rfl)) (F.k 0 12 rfl) (Nat.le_of_ble_eq_true rfl) (Nat.le_of_ble_eq_true rfl) rfl ?_
  rw [D.i 10 (by decide)]
  refine V_lload_4 38 dX12_token_38 ?_
  refine V_lastore2 40 dX12_token_40 (F.m 6 (Nat.le_of_ble_eq_true rfl)) (F.k 6 15 rfl) (F.l 6 403 rfl) ?_ ?_
  · exact (by unfold vp_in; decide)
  rw [cl0]
  have D2 : FM m (uJ S (m + 6) 0 0) := D.uJ
  refine V_aload_0 41 dX12_token_41 ?_
  refine V_dup 42 dX12_token_42 rfl ?_
  refine V_getI 43 (c := 12) 10 dX12_token_43 fl_RX12_212 (F.m 0 (Nat.le_of_ble_eq_true rfl)) (F.k 0 12 rfl) (Nat.le_of_ble_eq_true rfl) (Nat.le_of_ble_eq_true rfl) rfl ?_
  rw [D2.i 10 (by decide)]
  refine V_iconst 46 (1) dX12_token_46 (by decide) ?_
  refine V_iadd 47 dX12_token_47 ?_
  rw [show (0 : Int32) + 1 = 1 from by decide]
  refine V_putI 48 (c := 12) 10 dX12_token_48 fl_RX12_212 (F.m 0 (Nat.le_of_ble_eq_true rfl)) (F.k 0 12 rfl) (Nat.le_of_ble_eq_true rfl) (Nat.le_of_ble_eq_true rfl) rfl (Or.inl rfl) ?_
  refine V_vret 51 dX12_token_51 rfl (Nat.le_of_ble_eq_true rfl) (Nat.le_of_ble_eq_true rfl) (RV.mk rfl)
set_option maxRecDepth 100000 in
set_option maxHeartbeats 8000000 in
theorem c_cut (l : Launch) (Γ : GC) (S : PS) {m : Nat} (F : isL lyModel Γ.2.2.2.2.1 S m) (D : FM m S) : CT l Γ yX12_cut cX12_cut 8 none (1) (0) (0) [.ref m] S (RV (fun S' => S' = uI (uJ S (m + 6) 0 0) m 10 1)) := by
  refine CT.of RX12 "cut" [some (.ref m), none, none, none, none, none, none, none] (by decide +kernel) rfl rfl (Nat.le_of_ble_eq_true rfl) rfl (fun M hM => ?_)
  subst hM
  refine V_aload_0 0 dX12_cut_0 ?_
  refine V_iconst 1 (0) dX12_cut_1 (by decide) ?_
  refine V_putI 2 (c := 12) 10 dX12_cut_2 fl_RX12_212 (F.m 0 (Nat.le_of_ble_eq_true rfl)) (F.k 0 12 rfl) (Nat.le_of_ble_eq_true rfl) (Nat.le_of_ble_eq_true rfl) rfl (Or.inl rfl) ?_
  refine V.to (uI_id ((D.i 10 (by decide)).trans (by decide))) ?_
  refine V_iconst 5 (0) dX12_cut_5 (by decide) ?_
  refine V_istore_1 6 dX12_cut_6 rfl (Nat.le_of_ble_eq_true rfl) ?_
  refine V_aload_0 7 dX12_cut_7 ?_
  refine V_getI 8 (c := 12) 10 dX12_cut_8 fl_RX12_212 (F.m 0 (Nat.le_of_ble_eq_true rfl)) (F.k 0 12 rfl) (Nat.le_of_ble_eq_true rfl) (Nat.le_of_ble_eq_true rfl) rfl ?_
  rw [D.i 10 (by decide)]
  refine V_sipush 11 (400) dX12_cut_11 (by decide) ?_
  refine V_icmp_gt 14 294 dX12_cut_14 (by decide) (fun q => absurd q (by decide)) (fun _ => ?_)
  refine V_aload_0 17 dX12_cut_17 ?_
  refine V_iload_1 18 dX12_cut_18 ?_
  refine V_callV 19 (ci := 12) [.int _] _ (c_byteAt M.2.1 Γ _ F D) dX12_cut_19 cb_X12_byteAt ml_RX12_215 im_yX12_byteAt se_yX12_byteAt (F.m 0 (Nat.le_of_ble_eq_true rfl)) (F.k 0 12 rfl) (Nat.le_of_ble_eq_true rfl) ⟨(Nat.le_of_ble_eq_true rfl), (Nat.le_of_ble_eq_true rfl)⟩ rfl rfl (Nat.le_of_ble_eq_true rfl) ⟨(Nat.le_of_ble_eq_true rfl), (Nat.le_of_ble_eq_true rfl)⟩ (RI.go (fun r S1 hq => ?_))
  obtain ⟨rfl, rfl⟩ := hq
  refine V_istore_2 22 dX12_cut_22 rfl (Nat.le_of_ble_eq_true rfl) ?_
  refine V_iload_1 23 dX12_cut_23 ?_
  refine V_aload_0 24 dX12_cut_24 ?_
  refine V_getI 25 (c := 12) 4 dX12_cut_25 fl_RX12_203 (F.m 0 (Nat.le_of_ble_eq_true rfl)) (F.k 0 12 rfl) (Nat.le_of_ble_eq_true rfl) (Nat.le_of_ble_eq_true rfl) rfl ?_
  rw [D.i 4 (by decide)]
  refine V_icmp_lt 28 43 dX12_cut_28 (by decide) (fun q => absurd q (by decide)) (fun _ => ?_)
  refine V_aload_0 31 dX12_cut_31 ?_
  refine V_iconst 32 (0) dX12_cut_32 (by decide) ?_
  refine V_aload_0 33 dX12_cut_33 ?_
  refine V_getI 34 (c := 12) 4 dX12_cut_34 fl_RX12_203 (F.m 0 (Nat.le_of_ble_eq_true rfl)) (F.k 0 12 rfl) (Nat.le_of_ble_eq_true rfl) (Nat.le_of_ble_eq_true rfl) rfl ?_
  rw [D.i 4 (by decide)]
  refine V_iconst 37 (0) dX12_cut_37 (by decide) ?_
  refine V_lconst 38 0 dX12_cut_38 (by decide) ?_
  refine V_callV 39 (ci := 12) [.int _, .int _, .int _, .long _] _ (c_token M.2.1 Γ _ F D) dX12_cut_39 cb_X12_token ml_RX12_219 im_yX12_token se_yX12_token (F.m 0 (Nat.le_of_ble_eq_true rfl)) (F.k 0 12 rfl) (Nat.le_of_ble_eq_true rfl) ⟨(Nat.le_of_ble_eq_true rfl), (Nat.le_of_ble_eq_true rfl)⟩ rfl rfl (Nat.le_of_ble_eq_true rfl) ⟨(Nat.le_of_ble_eq_true rfl), (Nat.le_of_ble_eq_true rfl)⟩ (RV.go (fun S2 hq => ?_))
  refine V_vret 42 dX12_cut_42 rfl (Nat.le_of_ble_eq_true rfl) (Nat.le_of_ble_eq_true rfl) (RV.mk hq)
/-- the model while it reads: all ints but those of X are 0, the rows of ZRL are 0 -/
def FK (m : Nat) (X : List Nat) (S : PS) : Prop := (∀ i, i ∉ X → sI S m i = 0) ∧ (∀ r, r ∈ ZRL → sA S (m + r) = fun _ => 0)
theorem FK.i {m : Nat} {X : List Nat} {S : PS} (h : FK m X S) (i : Nat) (hi : i ∉ X) : sI S m i = 0 := h.1 i hi
theorem FK.z {m : Nat} {X : List Nat} {S : PS} (h : FK m X S) (r : Nat) (hr : r ∈ ZRL) (j : Nat) : sA S (m + r) j = 0 := congrFun (h.2 r hr) j
theorem FK.put {m : Nat} {X : List Nat} {S : PS} (h : FK m X S) (i : Nat) (v : Int32) : FK m (i :: X) (uI S m i v) := ⟨fun j hj => by
  rw [sI_uI, up2_k _ _ (fun q => hj (by rw [q]; exact List.mem_cons_self))]; exact h.1 j (fun q => hj (List.mem_cons_of_mem _ q)), h.2⟩
theorem FK.put2 {m : Nat} {X : List Nat} {S : PS} (h : FK m X S) (i : Nat) (v : Int32) (hi : i ∈ X) : FK m X (uI S m i v) := ⟨fun j hj => by
  rw [sI_uI, up2_k _ _ (fun q => hj (by rw [q]; exact hi))]; exact h.1 j hj, h.2⟩
set_option maxRecDepth 100000 in
set_option maxHeartbeats 8000000 in
theorem c_is (l : Launch) (Γ : GC) (S : PS) {m : Nat} {X : List Nat} (F : isL lyModel Γ.2.2.2.2.1 S m) (D : FK m X S) (h11 : 11 ∉ X) (h13 : 13 ∉ X) : CT l Γ yX12_is cX12_is 2 (some .boolean) (0) (0) (0) [.ref m, .int 0] S (RI (fun r S' => r = 1 ∧ S' = S)) := by
  refine CT.of RX12 "is" [some (.ref m), some (.int 0)] (by decide +kernel) rfl rfl (Nat.le_of_ble_eq_true rfl) rfl (fun M hM => ?_)
  subst hM
  have e11 := D.i 11 h11
  have e13 := D.i 13 h13
  refine V_aload_0 0 dX12_is_0 ?_
  refine V_getI 1 (c := 12) 13 dX12_is_1 fl_RX12_234 (F.m 0 (Nat.le_of_ble_eq_true rfl)) (F.k 0 12 rfl) (Nat.le_of_ble_eq_true rfl) (Nat.le_of_ble_eq_true rfl) rfl ?_
  rw [e13]
  refine V_if_ne 4 24 dX12_is_4 (by decide) (fun q => absurd (by decide) q) (fun _ => ?_)
  refine V_aload_0 7 dX12_is_7 ?_
  refine V_getR 8 (c := 12) 5 (F.r 0 5 3 rfl) dX12_is_8 fl_RX12_20 (F.m 0 (Nat.le_of_ble_eq_true rfl)) (F.k 0 12 rfl) (Nat.le_of_ble_eq_true rfl) (Nat.le_of_ble_eq_true rfl) rfl ?_
  refine V_aload_0 11 dX12_is_11 ?_
  refine V_getI 12 (c := 12) 11 dX12_is_12 fl_RX12_237 (F.m 0 (Nat.le_of_ble_eq_true rfl)) (F.k 0 12 rfl) (Nat.le_of_ble_eq_true rfl) (Nat.le_of_ble_eq_true rfl) rfl ?_
  rw [e11]
  refine V_iaload2 15 dX12_is_15 (F.m 3 (Nat.le_of_ble_eq_true rfl)) (F.k 3 14 rfl) (F.l 3 403 rfl) ?_ ?_
  · exact (by unfold vp_in; decide)
  rw [D.z 3 (by decide)]
  refine V_iload_1 16 dX12_is_16 ?_
  refine V_icmp_ne 17 24 dX12_is_17 (by decide) (fun q => absurd (by decide) q) (fun _ => ?_)
  refine V_iconst 20 (1) dX12_is_20 (by decide) ?_
  refine V_goto 21 25 dX12_is_21 (by decide) ?_
  refine V_iret 25 .boolean dX12_is_25 rfl (by rfl) (Nat.le_of_ble_eq_true rfl) (Nat.le_of_ble_eq_true rfl) (RI.mk ⟨rfl, rfl⟩)
theorem PLL_ZR : ∀ r, r ∈ ZRL → r ≠ 8 ∧ r ≠ 11 ∧ r ≠ 15 ∧ r ≠ 16 ∧ r ≠ 18 ∧ r ≠ 19 ∧ r ≠ 20 ∧ r ≠ 21 ∧ r ≠ 24 ∧ r ≠ 25 ∧ r ≠ 26 ∧ r ≠ 17 := by decide
set_option maxRecDepth 100000 in
set_option maxHeartbeats 8000000 in
theorem g_read (l : Launch) (Γ : GC) (S : PS) {m : Nat} (F : isL lyModel Γ.2.2.2.2.1 S m) (D : FRM m S) : CT l Γ yX12_read cX12_read 2 (some .int) (2) (0) (0) [.ref m] S (RI (fun r S' => r = 0)) := by
  refine CT.of RX12 "read" [some (.ref m), none] (by decide +kernel) rfl rfl (Nat.le_of_ble_eq_true rfl) rfl (fun M hM => ?_)
  subst hM
  refine V_aload_0 0 dX12_read_0 ?_
  refine V_aload_0 1 dX12_read_1 ?_
  refine V_getI 2 (c := 12) 2 dX12_read_2 fl_RX12_197 (F.m 0 (Nat.le_of_ble_eq_true rfl)) (F.k 0 12 rfl) (Nat.le_of_ble_eq_true rfl) (Nat.le_of_ble_eq_true rfl) rfl ?_
  rw [D.1.i 2 (by decide)]
  refine V_putI 5 (c := 12) 4 dX12_read_5 fl_RX12_203 (F.m 0 (Nat.le_of_ble_eq_true rfl)) (F.k 0 12 rfl) (Nat.le_of_ble_eq_true rfl) (Nat.le_of_ble_eq_true rfl) rfl (Or.inl rfl) ?_
  refine V.to (uI_id ((D.1.i 4 (by decide)).trans (by decide))) ?_
  refine V_iconst 8 (0) dX12_read_8 (by decide) ?_
  refine V_istore_1 9 dX12_read_9 rfl (Nat.le_of_ble_eq_true rfl) ?_
  refine V_iload_1 10 dX12_read_10 ?_
  refine V_aload_0 11 dX12_read_11 ?_
  refine V_getI 12 (c := 12) 4 dX12_read_12 fl_RX12_203 (F.m 0 (Nat.le_of_ble_eq_true rfl)) (F.k 0 12 rfl) (Nat.le_of_ble_eq_true rfl) (Nat.le_of_ble_eq_true rfl) rfl ?_
  rw [D.1.i 4 (by decide)]
  refine V_icmp_ge 15 36 dX12_read_15 (by decide) (fun _ => ?_) (fun q => absurd (by decide) q)
  refine V_aload_0 36 dX12_read_36 ?_
  refine V_iconst 37 (0) dX12_read_37 (by decide) ?_
  refine V_putI 38 (c := 12) 2 dX12_read_38 fl_RX12_197 (F.m 0 (Nat.le_of_ble_eq_true rfl)) (F.k 0 12 rfl) (Nat.le_of_ble_eq_true rfl) (Nat.le_of_ble_eq_true rfl) rfl (Or.inl rfl) ?_
  refine V.to (uI_id ((D.1.i 2 (by decide)).trans (by decide))) ?_
  refine V_aload_0 41 dX12_read_41 ?_
  refine V_callV 42 (ci := 12) [] _ (c_cut M.2.1 Γ _ F D.1) dX12_read_42 cb_X12_cut ml_RX12_258 im_yX12_cut se_yX12_cut (F.m 0 (Nat.le_of_ble_eq_true rfl)) (F.k 0 12 rfl) (Nat.le_of_ble_eq_true rfl) ⟨(Nat.le_of_ble_eq_true rfl), (Nat.le_of_ble_eq_true rfl)⟩ rfl rfl (Nat.le_of_ble_eq_true rfl) ⟨(Nat.le_of_ble_eq_true rfl), (Nat.le_of_ble_eq_true rfl)⟩ (RV.go (fun S1 hq => ?_))
  have K1 : FK m [10, 17, 55, 56] S1 := by
    rw [hq]
    refine ⟨fun i hi => ?_, fun r hr => ?_⟩
    · simp only [List.mem_cons, List.not_mem_nil, or_false, not_or] at hi
      rw [sI_uI, up2_k _ _ hi.1]; exact D.1.i i ⟨hi.2.1, hi.2.2.1, hi.2.2.2⟩
    · exact D.1.2.2.1 r hr
  have s1 : SSm S S1 := by rw [hq]; exact ⟨rfl, rfl, rfl, rfl, rfl⟩
  clear hq
  have F1 := F.ss s1
  refine V_aload_0 45 dX12_read_45 ?_
  refine V_iconst 46 (0) dX12_read_46 (by decide) ?_
  refine V_putI 47 (c := 12) 11 dX12_read_47 fl_RX12_237 (F1.m 0 (Nat.le_of_ble_eq_true rfl)) (F1.k 0 12 rfl) (Nat.le_of_ble_eq_true rfl) (Nat.le_of_ble_eq_true rfl) rfl (Or.inl rfl) ?_
  refine V.to (uI_id ((K1.i 11 (by decide)).trans (by decide))) ?_
  refine V_aload_0 50 dX12_read_50 ?_
  refine V_iconst 51 (0) dX12_read_51 (by decide) ?_
  refine V_putI 52 (c := 12) 12 dX12_read_52 fl_RX12_261 (F1.m 0 (Nat.le_of_ble_eq_true rfl)) (F1.k 0 12 rfl) (Nat.le_of_ble_eq_true rfl) (Nat.le_of_ble_eq_true rfl) rfl (Or.inl rfl) ?_
  refine V.to (uI_id ((K1.i 12 (by decide)).trans (by decide))) ?_
  refine V_aload_0 55 dX12_read_55 ?_
  refine V_iconst 56 (0) dX12_read_56 (by decide) ?_
  refine V_putI 57 (c := 12) 13 dX12_read_57 fl_RX12_234 (F1.m 0 (Nat.le_of_ble_eq_true rfl)) (F1.k 0 12 rfl) (Nat.le_of_ble_eq_true rfl) (Nat.le_of_ble_eq_true rfl) rfl (Or.inl rfl) ?_
  refine V.to (uI_id ((K1.i 13 (by decide)).trans (by decide))) ?_
  refine V_aload_0 60 dX12_read_60 ?_
  refine V_iconst 61 (0) dX12_read_61 (by decide) ?_
  refine V_putI 62 (c := 12) 15 dX12_read_62 fl_RX12_243 (F1.m 0 (Nat.le_of_ble_eq_true rfl)) (F1.k 0 12 rfl) (Nat.le_of_ble_eq_true rfl) (Nat.le_of_ble_eq_true rfl) rfl (Or.inl rfl) ?_
  refine V.to (uI_id ((K1.i 15 (by decide)).trans (by decide))) ?_
  refine V_aload_0 65 dX12_read_65 ?_
  refine V_iconst 66 (1) dX12_read_66 (by decide) ?_
  refine V_aload_0 67 dX12_read_67 ?_
  refine V_getI 68 (c := 12) 18 dX12_read_68 fl_RX12_264 (F1.m 0 (Nat.le_of_ble_eq_true rfl)) (F1.k 0 12 rfl) (Nat.le_of_ble_eq_true rfl) (Nat.le_of_ble_eq_true rfl) rfl ?_
  rw [K1.i 18 (by decide)]
  refine V_isub 71 dX12_read_71 ?_
  refine V_putI 72 (c := 12) 19 dX12_read_72 fl_RX12_267 (F1.m 0 (Nat.le_of_ble_eq_true rfl)) (F1.k 0 12 rfl) (Nat.le_of_ble_eq_true rfl) (Nat.le_of_ble_eq_true rfl) rfl (Or.inl rfl) ?_
  refine V_abs (fun T => SSm S T ∧ FK m [19, 10, 17, 55, 56] T ∧ sI T m 19 = 1) ⟨s1.tr ⟨rfl, rfl, rfl, rfl, rfl⟩, K1.put 19 _, by rw [sI_uI, up2_s]; decide⟩ (fun S2 h2 => ?_)
  have F2 := F.ss h2.1
  refine V_aload_0 75 dX12_read_75 ?_
  refine V_aload_0 76 dX12_read_76 ?_
  refine V_getI 77 (c := 12) 19 dX12_read_77 fl_RX12_267 (F2.m 0 (Nat.le_of_ble_eq_true rfl)) (F2.k 0 12 rfl) (Nat.le_of_ble_eq_true rfl) (Nat.le_of_ble_eq_true rfl) rfl ?_
  rw [h2.2.2]
  refine V_callV 80 (ci := 12) [.int _] _ (c_plain M.2.1 Γ S2 (m := m) F2 1 (by decide)) dX12_read_80 cb_X12_plain ml_RX12_189 im_yX12_plain se_yX12_plain (F2.m 0 (Nat.le_of_ble_eq_true rfl)) (F2.k 0 12 rfl) (Nat.le_of_ble_eq_true rfl) ⟨(Nat.le_of_ble_eq_true rfl), (Nat.le_of_ble_eq_true rfl)⟩ rfl rfl (Nat.le_of_ble_eq_true rfl) ⟨(Nat.le_of_ble_eq_true rfl), (Nat.le_of_ble_eq_true rfl)⟩ (RV.go (fun S3 hp => ?_))
  have K3 : FK m [19, 10, 17, 55, 56] S3 := ⟨fun i hi => by rw [hp.1.2.1]; exact h2.2.1.1 i hi, fun r hr => by
    have hn := PLL_ZR r hr
    rw [hp.1.2.2.2 (m + r) (by simp [PLL]; omega)]; exact h2.2.1.2 r hr⟩
  have e3 : sI S3 m 19 = 1 := by rw [hp.1.2.1]; exact h2.2.2
  have k3 : sA S3 (m + 11) 1 = 0 := hp.2.1 11 (by decide)
  have s3 : SSm S S3 := h2.1.tr hp.1.1
  clear hp h2 K1
  have F3 := F.ss s3
  refine V_aload_0 83 dX12_read_83 ?_
  refine V_sipush 84 (130) dX12_read_84 (by decide) ?_
  refine V_aload_0 87 dX12_read_87 ?_
  refine V_getI 88 (c := 12) 19 dX12_read_88 fl_RX12_267 (F3.m 0 (Nat.le_of_ble_eq_true rfl)) (F3.k 0 12 rfl) (Nat.le_of_ble_eq_true rfl) (Nat.le_of_ble_eq_true rfl) rfl ?_
  rw [e3]
  refine V_imul 91 dX12_read_91 ?_
  refine V_putI 92 (c := 12) 39 dX12_read_92 fl_RX12_270 (F3.m 0 (Nat.le_of_ble_eq_true rfl)) (F3.k 0 12 rfl) (Nat.le_of_ble_eq_true rfl) (Nat.le_of_ble_eq_true rfl) rfl (Or.inl rfl) ?_
  refine V_abs (fun T => SSm S T ∧ FK m [39, 19, 10, 17, 55, 56] T ∧ sI T m 19 = 1 ∧ sA T (m + 11) 1 = 0) ⟨s3.tr ⟨rfl, rfl, rfl, rfl, rfl⟩, K3.put 39 _, by rw [sI_uI, up2_k _ _ (by decide)]; exact e3, k3⟩ (fun S4 h4 => ?_)
  have F4 := F.ss h4.1
  refine V_aload_0 95 dX12_read_95 ?_
  refine V_sipush 96 (420) dX12_read_96 (by decide) ?_
  refine V_aload_0 99 dX12_read_99 ?_
  refine V_getI 100 (c := 12) 19 dX12_read_100 fl_RX12_267 (F4.m 0 (Nat.le_of_ble_eq_true rfl)) (F4.k 0 12 rfl) (Nat.le_of_ble_eq_true rfl) (Nat.le_of_ble_eq_true rfl) rfl ?_
  rw [h4.2.2.1]
  refine V_imul 103 dX12_read_103 ?_
  refine V_putI 104 (c := 12) 45 dX12_read_104 fl_RX12_273 (F4.m 0 (Nat.le_of_ble_eq_true rfl)) (F4.k 0 12 rfl) (Nat.le_of_ble_eq_true rfl) (Nat.le_of_ble_eq_true rfl) rfl (Or.inl rfl) ?_
  refine V_abs (fun T => SSm S T ∧ FK m [45, 39, 19, 10, 17, 55, 56] T ∧ sI T m 19 = 1 ∧ sA T (m + 11) 1 = 0) ⟨h4.1.tr ⟨rfl, rfl, rfl, rfl, rfl⟩, h4.2.1.put 45 _, by rw [sI_uI, up2_k _ _ (by decide)]; exact h4.2.2.1, h4.2.2.2⟩ (fun S5 h5 => ?_)
  have F5 := F.ss h5.1
  refine V_aload_0 107 dX12_read_107 ?_
  refine V_getI 108 (c := 12) 13 dX12_read_108 fl_RX12_234 (F5.m 0 (Nat.le_of_ble_eq_true rfl)) (F5.k 0 12 rfl) (Nat.le_of_ble_eq_true rfl) (Nat.le_of_ble_eq_true rfl) rfl ?_
  rw [h5.2.1.i 13 (by decide)]
  refine V_if_ne 111 129 dX12_read_111 (by decide) (fun q => absurd (by decide) q) (fun _ => ?_)
  refine V_aload_0 114 dX12_read_114 ?_
  refine V_iconst 115 (0) dX12_read_115 (by decide) ?_
  refine V_callV 116 (ci := 12) [.int _] _ (c_is M.2.1 Γ _ F5 h5.2.1 (by decide) (by decide)) dX12_read_116 cb_X12_is ml_RX12_252 im_yX12_is se_yX12_is (F5.m 0 (Nat.le_of_ble_eq_true rfl)) (F5.k 0 12 rfl) (Nat.le_of_ble_eq_true rfl) ⟨(Nat.le_of_ble_eq_true rfl), (Nat.le_of_ble_eq_true rfl)⟩ rfl rfl (Nat.le_of_ble_eq_true rfl) ⟨(Nat.le_of_ble_eq_true rfl), (Nat.le_of_ble_eq_true rfl)⟩ (RI.go (fun r6 S6 h6 => ?_))
  obtain ⟨rfl, rfl⟩ := h6
  refine V_if_ne 119 129 dX12_read_119 (by decide) (fun _ => ?_) (fun q => absurd q (by decide))
  refine V_aload_0 129 dX12_read_129 ?_
  refine V_aload_0 130 dX12_read_130 ?_
  refine V_getI 131 (c := 12) 13 dX12_read_131 fl_RX12_234 (F5.m 0 (Nat.le_of_ble_eq_true rfl)) (F5.k 0 12 rfl) (Nat.le_of_ble_eq_true rfl) (Nat.le_of_ble_eq_true rfl) rfl ?_
  rw [h5.2.1.i 13 (by decide)]
  refine V_if_le 134 144 dX12_read_134 (by decide) (fun _ => ?_) (fun q => absurd (by decide) q)
  refine V_aload_0 144 dX12_read_144 ?_
  refine V_getI 145 (c := 12) 15 dX12_read_145 fl_RX12_243 (F5.m 0 (Nat.le_of_ble_eq_true rfl)) (F5.k 0 12 rfl) (Nat.le_of_ble_eq_true rfl) (Nat.le_of_ble_eq_true rfl) rfl ?_
  rw [h5.2.1.i 15 (by decide)]
  refine V_if_le 148 158 dX12_read_148 (by decide) (fun _ => ?_) (fun q => absurd (by decide) q)
  refine V_iconst 158 (-1) dX12_read_158 (by decide) ?_
  refine V_putI 159 (c := 12) 17 dX12_read_159 fl_RX12_37 (F5.m 0 (Nat.le_of_ble_eq_true rfl)) (F5.k 0 12 rfl) (Nat.le_of_ble_eq_true rfl) (Nat.le_of_ble_eq_true rfl) rfl (Or.inl rfl) ?_
  refine V_abs (fun T => SSm S T ∧ FK m [45, 39, 19, 10, 17, 55, 56] T ∧ sI T m 19 = 1 ∧ sA T (m + 11) 1 = 0) ⟨h5.1.tr ⟨rfl, rfl, rfl, rfl, rfl⟩, h5.2.1.put2 17 _ (by decide), by rw [sI_uI, up2_k _ _ (by decide)]; exact h5.2.2.1, h5.2.2.2⟩ (fun S7 h7 => ?_)
  have F7 := F.ss h7.1
  refine V_aload_0 162 dX12_read_162 ?_
  refine V_getI 163 (c := 12) 13 dX12_read_163 fl_RX12_234 (F7.m 0 (Nat.le_of_ble_eq_true rfl)) (F7.k 0 12 rfl) (Nat.le_of_ble_eq_true rfl) (Nat.le_of_ble_eq_true rfl) rfl ?_
  rw [h7.2.1.i 13 (by decide)]
  refine V_if_le 166 174 dX12_read_166 (by decide) (fun _ => ?_) (fun q => absurd (by decide) q)
  refine V_aload_0 174 dX12_read_174 ?_
  refine V_getI 175 (c := 12) 15 dX12_read_175 fl_RX12_243 (F7.m 0 (Nat.le_of_ble_eq_true rfl)) (F7.k 0 12 rfl) (Nat.le_of_ble_eq_true rfl) (Nat.le_of_ble_eq_true rfl) rfl ?_
  rw [h7.2.1.i 15 (by decide)]
  refine V_if_le 178 186 dX12_read_178 (by decide) (fun _ => ?_) (fun q => absurd (by decide) q)
  refine V_aload_0 186 dX12_read_186 ?_
  refine V_aload_0 187 dX12_read_187 ?_
  refine V_getI 188 (c := 12) 19 dX12_read_188 fl_RX12_267 (F7.m 0 (Nat.le_of_ble_eq_true rfl)) (F7.k 0 12 rfl) (Nat.le_of_ble_eq_true rfl) (Nat.le_of_ble_eq_true rfl) rfl ?_
  rw [h7.2.2.1]
  refine V_putI 191 (c := 12) 18 dX12_read_191 fl_RX12_264 (F7.m 0 (Nat.le_of_ble_eq_true rfl)) (F7.k 0 12 rfl) (Nat.le_of_ble_eq_true rfl) (Nat.le_of_ble_eq_true rfl) rfl (Or.inl rfl) ?_
  refine V_abs (fun T => SSm S T ∧ FK m [18, 45, 39, 19, 10, 17, 55, 56] T ∧ sI T m 18 = 1 ∧ sA T (m + 11) 1 = 0) ⟨h7.1.tr ⟨rfl, rfl, rfl, rfl, rfl⟩, h7.2.1.put 18 _, by rw [sI_uI, up2_s], h7.2.2.2⟩ (fun S8 h8 => ?_)
  have F8 := F.ss h8.1
  refine V_iconst 194 (0) dX12_read_194 (by decide) ?_
  refine V_istore_1 195 dX12_read_195 rfl (Nat.le_of_ble_eq_true rfl) ?_
  refine V_while (α := Nat) (fun i => 30 - i) (fun i => i ≤ 30) (fun _ => S8) (fun i => [some (.ref m), some (.int (nI i))]) 0 (Nat.zero_le _) (fun i hi ih => ?_)
  refine V_iload_1 196 dX12_read_196 ?_
  refine V_bipush 197 (30) dX12_read_197 (by decide) ?_
  refine V_icmp_ge 199 215 dX12_read_199 (by decide) (fun c => ?_) (fun c => ?_)
  ·
    clear ih
    refine V_iconst 215 (0) dX12_read_215 (by decide) ?_
    refine V_istore_1 216 dX12_read_216 rfl (Nat.le_of_ble_eq_true rfl) ?_
    refine V_iload_1 217 dX12_read_217 ?_
    refine V_aload_0 218 dX12_read_218 ?_
    refine V_getR 219 (c := 12) 23 (F8.r 0 23 11 rfl) dX12_read_219 fl_RX12_49 (F8.m 0 (Nat.le_of_ble_eq_true rfl)) (F8.k 0 12 rfl) (Nat.le_of_ble_eq_true rfl) (Nat.le_of_ble_eq_true rfl) rfl ?_
    refine V_aload_0 222 dX12_read_222 ?_
    refine V_getI 223 (c := 12) 18 dX12_read_223 fl_RX12_264 (F8.m 0 (Nat.le_of_ble_eq_true rfl)) (F8.k 0 12 rfl) (Nat.le_of_ble_eq_true rfl) (Nat.le_of_ble_eq_true rfl) rfl ?_
    rw [h8.2.2.1]
    refine V_iaload2 226 dX12_read_226 (F8.m 11 (Nat.le_of_ble_eq_true rfl)) (F8.k 11 14 rfl) (F8.l 11 2 rfl) ?_ ?_
    · exact (by unfold vp_in; decide)
    rw [show (1 : Int32).toNatClampNeg = 1 from by decide, h8.2.2.2]
    refine V_icmp_ge 227 256 dX12_read_227 (by decide) (fun _ => ?_) (fun q => absurd (by decide) q)
    refine V_aload_0 256 dX12_read_256 ?_
    refine V_iconst 257 (0) dX12_read_257 (by decide) ?_
    refine V_putI 258 (c := 12) 57 dX12_read_258 fl_RX12_279 (F8.m 0 (Nat.le_of_ble_eq_true rfl)) (F8.k 0 12 rfl) (Nat.le_of_ble_eq_true rfl) (Nat.le_of_ble_eq_true rfl) rfl (Or.inl rfl) ?_
    refine V.to (uI_id ((h8.2.1.i 57 (by decide)).trans (by decide))) ?_
    refine V_aload_0 261 dX12_read_261 ?_
    refine V_iconst 262 (0) dX12_read_262 (by decide) ?_
    refine V_putI 263 (c := 12) 70 dX12_read_263 fl_RX12_282 (F8.m 0 (Nat.le_of_ble_eq_true rfl)) (F8.k 0 12 rfl) (Nat.le_of_ble_eq_true rfl) (Nat.le_of_ble_eq_true rfl) rfl (Or.inl rfl) ?_
    refine V.to (uI_id ((h8.2.1.i 70 (by decide)).trans (by decide))) ?_
    refine V_iconst 266 (0) dX12_read_266 (by decide) ?_
    refine V_istore_1 267 dX12_read_267 rfl (Nat.le_of_ble_eq_true rfl) ?_
    refine V_while (α := Nat × PS) (fun x => 3 - x.1) (fun x => x.1 ≤ 3 ∧ SSm S x.2) (fun x => x.2) (fun x => [some (.ref m), some (.int (nI x.1))]) (0, S8) ⟨Nat.zero_le _, h8.1⟩ (fun x hx ih => ?_)
    obtain ⟨i, S9⟩ := x
    obtain ⟨hi, hR⟩ := hx
    dsimp only at hi hR ih ⊢
    have F9 := F.ss hR
    refine V_iload_1 268 dX12_read_268 ?_
    refine V_iconst 269 (3) dX12_read_269 (by decide) ?_
    refine V_icmp_ge 270 286 dX12_read_270 (by decide) (fun c2 => ?_) (fun c2 => ?_)
    ·
      refine V_iconst 286 (0) dX12_read_286 (by decide) ?_
      refine V_iret 287 .int dX12_read_287 rfl rfl (Nat.le_of_ble_eq_true rfl) (Nat.le_of_ble_eq_true rfl) (RI.mk rfl)
    ·
      have hi2 := nI_lt8 (by decide) hi c2
      refine V_aload_0 273 dX12_read_273 ?_
      refine V_getR 274 (c := 12) 75 (F9.r 0 75 55 rfl) dX12_read_274 fl_RX12_183 (F9.m 0 (Nat.le_of_ble_eq_true rfl)) (F9.k 0 12 rfl) (Nat.le_of_ble_eq_true rfl) (Nat.le_of_ble_eq_true rfl) rfl ?_
      refine V_iload_1 277 dX12_read_277 ?_
      refine V_iconst 278 (0) dX12_read_278 (by decide) ?_
      refine V_zastore2 279 dX12_read_279 (F9.m 55 (Nat.le_of_ble_eq_true rfl)) (F9.k 55 16 rfl) (F9.l 55 3 rfl) ?_ (Or.inl rfl) ?_
      · exact vp_in_nI hi2 (by decide)
      refine V_iinc_1 280 (1) dX12_read_280 (by decide) rfl (Nat.le_of_ble_eq_true rfl) ?_
      refine V_goto 283 268 dX12_read_283 (by decide) ?_
      rw [← nI_succ]
      exact ih (i + 1, _) ⟨by dsimp only; omega, hR.tr ⟨rfl, rfl, rfl, rfl, rfl⟩⟩ (by dsimp only; omega)
  ·
    have hi2 := nI_lt8 (by decide) hi c
    refine V_aload_0 202 dX12_read_202 ?_
    refine V_getR 203 (c := 12) 53 (F8.r 0 53 37 rfl) dX12_read_203 fl_RX12_128 (F8.m 0 (Nat.le_of_ble_eq_true rfl)) (F8.k 0 12 rfl) (Nat.le_of_ble_eq_true rfl) (Nat.le_of_ble_eq_true rfl) rfl ?_
    refine V_iload_1 206 dX12_read_206 ?_
    refine V_iconst 207 (0) dX12_read_207 (by decide) ?_
    refine V_iastore2 208 dX12_read_208 (F8.m 37 (Nat.le_of_ble_eq_true rfl)) (F8.k 37 14 rfl) (F8.l 37 30 rfl) ?_ ?_
    · exact vp_in_nI hi2 (by decide)
    refine V.to (uA_id ((h8.2.1.z 37 (by decide) _).trans (by decide))) ?_
    refine V_iinc_1 209 (1) dX12_read_209 (by decide) rfl (Nat.le_of_ble_eq_true rfl) ?_
    refine V_goto 212 196 dX12_read_212 (by decide) ?_
    rw [← nI_succ]
    exact ih (i + 1) (by omega) (by omega)

