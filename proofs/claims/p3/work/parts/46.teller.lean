/-! Teller: a fault stays; a draft without a fault has 0 .. 9 of each kind -/
def FM (t : Nat) (S S2 : PS) : Prop := sI S2 t 3 = 0 → sI S t 3 = 0
def RB (a : Nat) (x : Int32) (S S2 : PS) : Prop := ∀ i, sA S2 a i = sA S a i ∨ sA S2 a i = x
def TN (t : Nat) (S : PS) : Prop := sI S t 3 = 0 → ∀ i, i < 8 → 0 ≤ sA S (t + 13) i ∧ sA S (t + 13) i ≤ 9
def OK9 (t : Nat) (m : Int32) (S : PS) : Prop := sI S t 3 = 0 → 0 ≤ m ∧ m ≤ 9
section TNS
variable {a t : Nat} {x m m2 : Int32} {S S1 S2 : PS} {X : List Nat} {Y : List (Nat × Nat)}
theorem RB.rf : RB a x S S := fun _ => Or.inl rfl
theorem RB.fz (h : RB a x S S1) (e : FZ X Y S1 S2) (ha : a ∉ X) : RB a x S S2 := fun i => by
  rw [e.2.1 a ha]; exact h i
theorem RB.put {k : Int32} (h : RB a x S S1) (e : S2 = aPut S1 a k x) : RB a x S S2 := fun i => by
  rw [e]; unfold aPut
  split
  · exact h i
  · rw [sA_uA]
    unfold up2
    split
    · exact Or.inr rfl
    · exact h i
theorem FM.rf : FM t S S := fun q => q
theorem FM.of (e : FZ X Y S S1) (hy : (t, 3) ∉ Y) : FM t S S1 := fun q => (e.2.2 t 3 hy).symm.trans q
theorem FM.of2 {R : Prop} (h : sI S1 t 3 = 0 → sI S t 3 = 0 ∧ R) : FM t S S1 := fun q => (h q).1
theorem TN.uI {b k : Nat} {v : Int32} (h : TN t S) (n : (b, k) ≠ (t, 3)) : TN t (uI S b k v) := fun q i hi => by
  rw [sI_uI] at q; unfold up2 at q
  rw [if_neg (fun e => n (by rw [e.1, e.2]))] at q
  exact h q i hi
theorem FM.tr (h : FM t S S1) (g : FM t S1 S2) : FM t S S2 := fun q => h (g q)
theorem FM.bad (h : ¬ sI S1 t 3 = 0) : FM t S S1 := fun q => absurd q h
theorem TN.fz (h : TN t S) (e : FZ X Y S S1) (hx : t + 13 ∉ X) (g : FM t S S1) : TN t S1 := fun q i hi => by
  rw [e.2.1 _ hx]; exact h (g q) i hi
theorem OK9.fm (h : OK9 t m S) (g : FM t S S1) : OK9 t m S1 := fun q => h (g q)
theorem TN.bad (h : ¬ sI S1 t 3 = 0) : TN t S1 := fun q => absurd q h
theorem OK9.bad (h : ¬ sI S1 t 3 = 0) : OK9 t m S1 := fun q => absurd q h
theorem TN.add (h : TN t S) (o : OK9 t m S) (e : FZ X Y S S1) (hy : (t, 3) ∉ Y) (g : RB (t + 13) m S S1) : TN t S1 := fun q i hi => by
  have q2 := FM.of e hy q
  rcases g i with r | r
  · rw [r]; exact h q2 i hi
  · rw [r]; exact o q2
end TNS
set_option maxRecDepth 100000 in
set_option maxHeartbeats 8000000 in
theorem s_addKindB (l : Launch) (Γ : GC) (S : PS) {t : Nat} (F : isL lyText Γ.2.2.2.2.1 S t) (x y : Int32) : CT l Γ yX10_addKind cX10_addKind 3 none (1) (0) (0) [.ref t, .int x, .int y] S (RV (fun S' => FZ [t + 1, t + 2, t + 3] [(t, 0)] S S' ∧ RB (t + 1) x S S')) := by
  refine CT.of RX10 "addKind" [some (.ref t), some (.int x), some (.int y)] (by decide +kernel) rfl rfl (Nat.le_of_ble_eq_true rfl) rfl (fun M hM => ?_)
  subst hM
  refine V_aload_0 0 dX10_addKind_0 ?_
  refine V_getR 1 (c := 10) 2 (F.r 0 2 1 rfl) dX10_addKind_1 fl_RX10_9 (F.m 0 (Nat.le_of_ble_eq_true rfl)) (F.k 0 10 rfl) (Nat.le_of_ble_eq_true rfl) (Nat.le_of_ble_eq_true rfl) rfl ?_
  refine V_aload_0 4 dX10_addKind_4 ?_
  refine V_getI 5 (c := 10) 0 dX10_addKind_5 fl_RX10_50 (F.m 0 (Nat.le_of_ble_eq_true rfl)) (F.k 0 10 rfl) (Nat.le_of_ble_eq_true rfl) (Nat.le_of_ble_eq_true rfl) rfl ?_
  refine V_iload_1 8 dX10_addKind_8 ?_
  refine V_callSN 9 [.ref _, .int _, .int _] _ (c_put M.2.1 Γ S (a := (t + 1)) (F.m 1 (Nat.le_of_ble_eq_true rfl)) (F.k 1 14 rfl) (by rw [(F.l 1 8 rfl)]; decide) _ _) dX10_addKind_9 cb_X11_put ne_RX10_57 sm_yX11_put ⟨(Nat.le_of_ble_eq_true rfl), (Nat.le_of_ble_eq_true rfl)⟩ rfl rfl (Nat.le_of_ble_eq_true rfl) ⟨(Nat.le_of_ble_eq_true rfl), (Nat.le_of_ble_eq_true rfl)⟩ (RV.go (fun S1 q2 => ?_))
  have h4 : FZ [t + 1, t + 2, t + 3] [(t, 0)] S S1 := (FZ.rf (X := [t + 1, t + 2, t + 3]) (Y := [(t, 0)]) (S := S)).tr ((fr_put q2).sub (by simp) (by simp))
  have p5 : (RB (t + 1) x S S1) := by exact RB.put RB.rf q2
  refine V_aload_0 12 dX10_addKind_12 ?_
  refine V_getR 13 (c := 10) 3 ((F.ss h4.1).r 0 3 2 rfl) dX10_addKind_13 fl_RX10_15 ((F.ss h4.1).m 0 (Nat.le_of_ble_eq_true rfl)) ((F.ss h4.1).k 0 10 rfl) (Nat.le_of_ble_eq_true rfl) (Nat.le_of_ble_eq_true rfl) rfl ?_
  refine V_aload_0 16 dX10_addKind_16 ?_
  refine V_getI 17 (c := 10) 0 dX10_addKind_17 fl_RX10_50 ((F.ss h4.1).m 0 (Nat.le_of_ble_eq_true rfl)) ((F.ss h4.1).k 0 10 rfl) (Nat.le_of_ble_eq_true rfl) (Nat.le_of_ble_eq_true rfl) rfl ?_
  refine V_iload_2 20 dX10_addKind_20 ?_
  refine V_callSN 21 [.ref _, .int _, .int _] _ (c_put M.2.1 Γ S1 (a := (t + 2)) ((F.ss h4.1).m 2 (Nat.le_of_ble_eq_true rfl)) ((F.ss h4.1).k 2 14 rfl) (by rw [((F.ss h4.1).l 2 8 rfl)]; decide) _ _) dX10_addKind_21 cb_X11_put ne_RX10_57 sm_yX11_put ⟨(Nat.le_of_ble_eq_true rfl), (Nat.le_of_ble_eq_true rfl)⟩ rfl rfl (Nat.le_of_ble_eq_true rfl) ⟨(Nat.le_of_ble_eq_true rfl), (Nat.le_of_ble_eq_true rfl)⟩ (RV.go (fun S6 q7 => ?_))
  have h9 : FZ [t + 1, t + 2, t + 3] [(t, 0)] S S6 := h4.tr ((fr_put q7).sub (by simp) (by simp))
  have p10 : (RB (t + 1) x S S6) := by exact RB.fz p5 (fr_put q7) (by simp)
  refine V_aload_0 24 dX10_addKind_24 ?_
  refine V_getR 25 (c := 10) 4 ((F.ss h9.1).r 0 4 3 rfl) dX10_addKind_25 fl_RX10_18 ((F.ss h9.1).m 0 (Nat.le_of_ble_eq_true rfl)) ((F.ss h9.1).k 0 10 rfl) (Nat.le_of_ble_eq_true rfl) (Nat.le_of_ble_eq_true rfl) rfl ?_
  refine V_aload_0 28 dX10_addKind_28 ?_
  refine V_getI 29 (c := 10) 0 dX10_addKind_29 fl_RX10_50 ((F.ss h9.1).m 0 (Nat.le_of_ble_eq_true rfl)) ((F.ss h9.1).k 0 10 rfl) (Nat.le_of_ble_eq_true rfl) (Nat.le_of_ble_eq_true rfl) rfl ?_
  refine V_aload_0 32 dX10_addKind_32 ?_
  refine V_getI 33 (c := 10) 1 dX10_addKind_33 fl_RX10_54 ((F.ss h9.1).m 0 (Nat.le_of_ble_eq_true rfl)) ((F.ss h9.1).k 0 10 rfl) (Nat.le_of_ble_eq_true rfl) (Nat.le_of_ble_eq_true rfl) rfl ?_
  refine V_callSN 36 [.ref _, .int _, .int _] _ (c_put M.2.1 Γ S6 (a := (t + 3)) ((F.ss h9.1).m 3 (Nat.le_of_ble_eq_true rfl)) ((F.ss h9.1).k 3 14 rfl) (by rw [((F.ss h9.1).l 3 8 rfl)]; decide) _ _) dX10_addKind_36 cb_X11_put ne_RX10_57 sm_yX11_put ⟨(Nat.le_of_ble_eq_true rfl), (Nat.le_of_ble_eq_true rfl)⟩ rfl rfl (Nat.le_of_ble_eq_true rfl) ⟨(Nat.le_of_ble_eq_true rfl), (Nat.le_of_ble_eq_true rfl)⟩ (RV.go (fun S11 q12 => ?_))
  have h14 : FZ [t + 1, t + 2, t + 3] [(t, 0)] S S11 := h9.tr ((fr_put q12).sub (by simp) (by simp))
  have p15 : (RB (t + 1) x S S11) := by exact RB.fz p10 (fr_put q12) (by simp)
  refine V_aload_0 39 dX10_addKind_39 ?_
  refine V_dup 40 dX10_addKind_40 rfl ?_
  refine V_getI 41 (c := 10) 0 dX10_addKind_41 fl_RX10_50 ((F.ss h14.1).m 0 (Nat.le_of_ble_eq_true rfl)) ((F.ss h14.1).k 0 10 rfl) (Nat.le_of_ble_eq_true rfl) (Nat.le_of_ble_eq_true rfl) rfl ?_
  refine V_iconst 44 (1) dX10_addKind_44 (by decide) ?_
  refine V_iadd 45 dX10_addKind_45 ?_
  refine V_putI 46 (c := 10) 0 dX10_addKind_46 fl_RX10_50 ((F.ss h14.1).m 0 (Nat.le_of_ble_eq_true rfl)) ((F.ss h14.1).k 0 10 rfl) (Nat.le_of_ble_eq_true rfl) (Nat.le_of_ble_eq_true rfl) rfl (Or.inl rfl) ?_
  refine V_abs (fun T9 => FZ [t + 1, t + 2, t + 3] [(t, 0)] S T9 ∧ (RB (t + 1) x S T9)) ⟨h14.uI (by simp), by exact p15⟩ (fun S16 hh19 => ?_)
  obtain ⟨h17, p18⟩ := hh19
  refine V_vret 49 dX10_addKind_49 rfl (Nat.le_of_ble_eq_true rfl) (Nat.le_of_ble_eq_true rfl) (RV.mk ⟨h17, p18⟩)
set_option maxRecDepth 100000 in
set_option maxHeartbeats 8000000 in
theorem s_tfail2 (l : Launch) (Γ : GC) (S : PS) {t : Nat} (F : isL lyTeller Γ.2.2.2.2.1 S t) (x y : Int32) (hx : ¬ x = 0) : CT l Γ yX9_fail cX9_fail 3 none (0) (0) (0) [.ref t, .int x, .int y] S (RV (fun S' => FZ [] [(t, 3), (t, 4)] S S' ∧ ¬ sI S' t 3 = 0)) := by
  refine CT.of RX9 "fail" [some (.ref t), some (.int x), some (.int y)] (by decide +kernel) rfl rfl (Nat.le_of_ble_eq_true rfl) rfl (fun M hM => ?_)
  subst hM
  refine V_aload_0 0 dX9_fail_0 ?_
  refine V_getI 1 (c := 9) 3 dX9_fail_1 fl_RX9_44 (F.m 0 (Nat.le_of_ble_eq_true rfl)) (F.k 0 9 rfl) (Nat.le_of_ble_eq_true rfl) (Nat.le_of_ble_eq_true rfl) rfl ?_
  refine V_if_ne 4 17 dX9_fail_4 (by decide) (fun c => ?_) (fun c => ?_)
  ·
    refine V_vret 17 dX9_fail_17 rfl (Nat.le_of_ble_eq_true rfl) (Nat.le_of_ble_eq_true rfl) (RV.mk ⟨FZ.rf, c⟩)
  ·
    refine V_aload_0 7 dX9_fail_7 ?_
    refine V_iload_1 8 dX9_fail_8 ?_
    refine V_putI 9 (c := 9) 3 dX9_fail_9 fl_RX9_44 (F.m 0 (Nat.le_of_ble_eq_true rfl)) (F.k 0 9 rfl) (Nat.le_of_ble_eq_true rfl) (Nat.le_of_ble_eq_true rfl) rfl (Or.inl rfl) ?_
    refine V_aload_0 12 dX9_fail_12 ?_
    refine V_iload_2 13 dX9_fail_13 ?_
    refine V_putI 14 (c := 9) 4 dX9_fail_14 fl_RX9_48 (F.m 0 (Nat.le_of_ble_eq_true rfl)) (F.k 0 9 rfl) (Nat.le_of_ble_eq_true rfl) (Nat.le_of_ble_eq_true rfl) rfl (Or.inl rfl) ?_
    refine V_vret 17 dX9_fail_17 rfl (Nat.le_of_ble_eq_true rfl) (Nat.le_of_ble_eq_true rfl) (RV.mk ⟨(FZ.rf.uI (by simp)).uI (by simp), by rw [sI_uI, sI_uI]; simpa [up2] using hx⟩)
set_option maxRecDepth 100000 in
set_option maxHeartbeats 8000000 in
theorem s_newName2 (l : Launch) (Γ : GC) (S : PS) {t : Nat} (F : isL lyTeller Γ.2.2.2.2.1 S t) (x : Int32) : CT l Γ yX9_newName cX9_newName 2 none (2) (0) (0) [.ref t, .int x] S (RV (fun S' => FZ [] [(t, 3), (t, 4)] S S' ∧ FM t S S')) := by
  refine CT.of RX9 "newName" [some (.ref t), some (.int x)] (by decide +kernel) rfl rfl (Nat.le_of_ble_eq_true rfl) rfl (fun M hM => ?_)
  subst hM
  have J3 : ∀ (S1 : PS) , FZ [] [(t, 3), (t, 4)] S S1 → (FM t S S1) → V M Γ (2, RX9, "newName", none, RM (2) (0) (0)) cX9_newName (RQ M Γ (RV (fun S' => FZ [] [(t, 3), (t, 4)] S S' ∧ FM t S S')) (0) (0)) 0 0 S1 25 [some (.ref t), some (.int x)] [] := by
    intro S1  h2 p4
    refine V_vret 25 dX9_newName_25 rfl (Nat.le_of_ble_eq_true rfl) (Nat.le_of_ble_eq_true rfl) (RV.mk ⟨h2, p4⟩)
  refine V_aload_0 0 dX9_newName_0 ?_
  refine V_getR 1 (c := 9) 2 (F.r 0 2 12 rfl) dX9_newName_1 fl_RX9_26 (F.m 0 (Nat.le_of_ble_eq_true rfl)) (F.k 0 9 rfl) (Nat.le_of_ble_eq_true rfl) (Nat.le_of_ble_eq_true rfl) rfl ?_
  refine V_aload_0 4 dX9_newName_4 ?_
  refine V_getR 5 (c := 9) 1 (F.r 0 1 2 rfl) dX9_newName_5 fl_RX9_22 (F.m 0 (Nat.le_of_ble_eq_true rfl)) (F.k 0 9 rfl) (Nat.le_of_ble_eq_true rfl) (Nat.le_of_ble_eq_true rfl) rfl ?_
  refine V_iload_1 8 dX9_newName_8 ?_
  refine V_callV 9 (ci := 8) [.int _] _ (s_valueAt M.2.1 Γ S (F.sub 2 lyTape rfl (by decide)) _) dX9_newName_9 cb_X8_valueAt ml_RX9_115 im_yX8_valueAt se_yX8_valueAt (F.m 2 (Nat.le_of_ble_eq_true rfl)) (F.k 2 8 rfl) (Nat.le_of_ble_eq_true rfl) ⟨(Nat.le_of_ble_eq_true rfl), (Nat.le_of_ble_eq_true rfl)⟩ rfl rfl (Nat.le_of_ble_eq_true rfl) ⟨(Nat.le_of_ble_eq_true rfl), (Nat.le_of_ble_eq_true rfl)⟩ (RLg.go (fun r7 S5 q6 => ?_))
  have h8 : FZ [] [(t, 3), (t, 4)] S S5 := (FZ.rf (X := []) (Y := [(t, 3), (t, 4)]) (S := S)).tr (q6.sub (by simp) (by simp))
  have p9 : (FM t S S5) := by exact (FM.rf (t := t) (S := S)).tr (FM.of q6 (by simp))
  refine V_callV 12 (ci := 10) [.long _] _ (s_X10_find M.2.1 Γ S5 ((F.ss h8.1).sub 12 lyText rfl (by decide)) _) dX9_newName_12 cb_X10_find ml_RX9_150 im_yX10_find se_yX10_find ((F.ss h8.1).m 12 (Nat.le_of_ble_eq_true rfl)) ((F.ss h8.1).k 12 10 rfl) (Nat.le_of_ble_eq_true rfl) ⟨(Nat.le_of_ble_eq_true rfl), (Nat.le_of_ble_eq_true rfl)⟩ rfl rfl (Nat.le_of_ble_eq_true rfl) ⟨(Nat.le_of_ble_eq_true rfl), (Nat.le_of_ble_eq_true rfl)⟩ (RI.go (fun r12 S10 q11 => ?_))
  have h13 : FZ [] [(t, 3), (t, 4)] S S10 := h8.tr (q11.sub (by simp) (by simp))
  have p14 : (FM t S S10) := by exact p9.tr (FM.of q11 (by simp))
  refine V_iconst 15 (-1) dX9_newName_15 (by decide) ?_
  refine V_icmp_eq 16 25 dX9_newName_16 (by decide) (fun c15 => ?_) (fun c15 => ?_)
  ·
    refine V_lvw (by repeat (first | exact trivial | refine ⟨rfl, ?_⟩)) (J3 _ h13 p14)
  ·
    refine V_aload_0 19 dX9_newName_19 ?_
    refine V_iconst 20 (3) dX9_newName_20 (by decide) ?_
    refine V_iload_1 21 dX9_newName_21 ?_
    refine V_callV 22 (ci := 9) [.int _, .int _] _ (s_tfail2 M.2.1 Γ S10 (F.ss h13.1) _ _ (by decide)) dX9_newName_22 cb_X9_fail ml_RX9_105 im_yX9_fail se_yX9_fail ((F.ss h13.1).m 0 (Nat.le_of_ble_eq_true rfl)) ((F.ss h13.1).k 0 9 rfl) (Nat.le_of_ble_eq_true rfl) ⟨(Nat.le_of_ble_eq_true rfl), (Nat.le_of_ble_eq_true rfl)⟩ rfl rfl (Nat.le_of_ble_eq_true rfl) ⟨(Nat.le_of_ble_eq_true rfl), (Nat.le_of_ble_eq_true rfl)⟩ (RV.go (fun S17 q18 => ?_))
    have h20 : FZ [] [(t, 3), (t, 4)] S S17 := h13.tr (q18.1.sub (by simp) (by simp))
    have p21 : (FM t S S17) := by exact FM.bad q18.2
    refine V_lvw (by repeat (first | exact trivial | refine ⟨rfl, ?_⟩)) (J3 _ h20 p21)
set_option maxRecDepth 100000 in
set_option maxHeartbeats 8000000 in
theorem s_oldName2 (l : Launch) (Γ : GC) (S : PS) {t : Nat} (F : isL lyTeller Γ.2.2.2.2.1 S t) (x : Int32) : CT l Γ yX9_oldName cX9_oldName 3 (some .int) (2) (0) (0) [.ref t, .int x] S (RI (fun r S' => FZ [] [(t, 3), (t, 4)] S S' ∧ FM t S S')) := by
  refine CT.of RX9 "oldName" [some (.ref t), some (.int x), none] (by decide +kernel) rfl rfl (Nat.le_of_ble_eq_true rfl) rfl (fun M hM => ?_)
  subst hM
  have J3 : ∀ (S1 : PS) (x4 : Int32), FZ [] [(t, 3), (t, 4)] S S1 → (FM t S S1) → V M Γ (3, RX9, "oldName", (some .int), RM (2) (0) (0)) cX9_oldName (RQ M Γ (RI (fun r S' => FZ [] [(t, 3), (t, 4)] S S' ∧ FM t S S')) (0) (0)) 0 0 S1 27 [some (.ref t), some (.int x), some (.int x4)] [] := by
    intro S1 x4 h2 p5
    refine V_iload_2 27 dX9_oldName_27 ?_
    refine V_iret 28 .int dX9_oldName_28 rfl rfl (Nat.le_of_ble_eq_true rfl) (Nat.le_of_ble_eq_true rfl) (RI.mk ⟨h2, p5⟩)
  refine V_aload_0 0 dX9_oldName_0 ?_
  refine V_getR 1 (c := 9) 2 (F.r 0 2 12 rfl) dX9_oldName_1 fl_RX9_26 (F.m 0 (Nat.le_of_ble_eq_true rfl)) (F.k 0 9 rfl) (Nat.le_of_ble_eq_true rfl) (Nat.le_of_ble_eq_true rfl) rfl ?_
  refine V_aload_0 4 dX9_oldName_4 ?_
  refine V_getR 5 (c := 9) 1 (F.r 0 1 2 rfl) dX9_oldName_5 fl_RX9_22 (F.m 0 (Nat.le_of_ble_eq_true rfl)) (F.k 0 9 rfl) (Nat.le_of_ble_eq_true rfl) (Nat.le_of_ble_eq_true rfl) rfl ?_
  refine V_iload_1 8 dX9_oldName_8 ?_
  refine V_callV 9 (ci := 8) [.int _] _ (s_valueAt M.2.1 Γ S (F.sub 2 lyTape rfl (by decide)) _) dX9_oldName_9 cb_X8_valueAt ml_RX9_115 im_yX8_valueAt se_yX8_valueAt (F.m 2 (Nat.le_of_ble_eq_true rfl)) (F.k 2 8 rfl) (Nat.le_of_ble_eq_true rfl) ⟨(Nat.le_of_ble_eq_true rfl), (Nat.le_of_ble_eq_true rfl)⟩ rfl rfl (Nat.le_of_ble_eq_true rfl) ⟨(Nat.le_of_ble_eq_true rfl), (Nat.le_of_ble_eq_true rfl)⟩ (RLg.go (fun r8 S6 q7 => ?_))
  have h9 : FZ [] [(t, 3), (t, 4)] S S6 := (FZ.rf (X := []) (Y := [(t, 3), (t, 4)]) (S := S)).tr (q7.sub (by simp) (by simp))
  have p10 : (FM t S S6) := by exact (FM.rf (t := t) (S := S)).tr (FM.of q7 (by simp))
  refine V_callV 12 (ci := 10) [.long _] _ (s_X10_find M.2.1 Γ S6 ((F.ss h9.1).sub 12 lyText rfl (by decide)) _) dX9_oldName_12 cb_X10_find ml_RX9_150 im_yX10_find se_yX10_find ((F.ss h9.1).m 12 (Nat.le_of_ble_eq_true rfl)) ((F.ss h9.1).k 12 10 rfl) (Nat.le_of_ble_eq_true rfl) ⟨(Nat.le_of_ble_eq_true rfl), (Nat.le_of_ble_eq_true rfl)⟩ rfl rfl (Nat.le_of_ble_eq_true rfl) ⟨(Nat.le_of_ble_eq_true rfl), (Nat.le_of_ble_eq_true rfl)⟩ (RI.go (fun r13 S11 q12 => ?_))
  have h14 : FZ [] [(t, 3), (t, 4)] S S11 := h9.tr (q12.sub (by simp) (by simp))
  have p15 : (FM t S S11) := by exact p10.tr (FM.of q12 (by simp))
  refine V_istore_2 15 dX9_oldName_15 rfl (Nat.le_of_ble_eq_true rfl) ?_
  refine V_iload_2 16 dX9_oldName_16 ?_
  refine V_iconst 17 (-1) dX9_oldName_17 (by decide) ?_
  refine V_icmp_ne 18 27 dX9_oldName_18 (by decide) (fun c16 => ?_) (fun c16 => ?_)
  ·
    refine V_lvw (by repeat (first | exact trivial | refine ⟨rfl, ?_⟩)) (J3 _ _ h14 p15)
  ·
    refine V_aload_0 21 dX9_oldName_21 ?_
    refine V_iconst 22 (4) dX9_oldName_22 (by decide) ?_
    refine V_iload_1 23 dX9_oldName_23 ?_
    refine V_callV 24 (ci := 9) [.int _, .int _] _ (s_tfail2 M.2.1 Γ S11 (F.ss h14.1) _ _ (by decide)) dX9_oldName_24 cb_X9_fail ml_RX9_105 im_yX9_fail se_yX9_fail ((F.ss h14.1).m 0 (Nat.le_of_ble_eq_true rfl)) ((F.ss h14.1).k 0 9 rfl) (Nat.le_of_ble_eq_true rfl) ⟨(Nat.le_of_ble_eq_true rfl), (Nat.le_of_ble_eq_true rfl)⟩ rfl rfl (Nat.le_of_ble_eq_true rfl) ⟨(Nat.le_of_ble_eq_true rfl), (Nat.le_of_ble_eq_true rfl)⟩ (RV.go (fun S18 q19 => ?_))
    have h21 : FZ [] [(t, 3), (t, 4)] S S18 := h14.tr (q19.1.sub (by simp) (by simp))
    have p22 : (FM t S S18) := by exact FM.bad q19.2
    refine V_lvw (by repeat (first | exact trivial | refine ⟨rfl, ?_⟩)) (J3 _ _ h21 p22)
set_option maxRecDepth 100000 in
set_option maxHeartbeats 8000000 in
theorem s_number (l : Launch) (Γ : GC) (S : PS) {t : Nat} (F : isL lyTeller Γ.2.2.2.2.1 S t) (x y z : Int32) : CT l Γ yX9_number cX9_number 5 (some .int) (2) (0) (0) [.ref t, .int x, .int y, .int z] S (RI (fun r S' => FZ [] [(t, 3), (t, 4)] S S' ∧ (sI S' t 3 = 0 → sI S t 3 = 0 ∧ y ≤ r ∧ r ≤ z))) := by
  refine CT.of RX9 "number" [some (.ref t), some (.int x), some (.int y), some (.int z), none] (by decide +kernel) rfl rfl (Nat.le_of_ble_eq_true rfl) rfl (fun M hM => ?_)
  subst hM
  refine V_aload_0 0 dX9_number_0 ?_
  refine V_getR 1 (c := 9) 1 (F.r 0 1 2 rfl) dX9_number_1 fl_RX9_22 (F.m 0 (Nat.le_of_ble_eq_true rfl)) (F.k 0 9 rfl) (Nat.le_of_ble_eq_true rfl) (Nat.le_of_ble_eq_true rfl) rfl ?_
  refine V_iload_1 4 dX9_number_4 ?_
  refine V_callV 5 (ci := 8) [.int _] _ (s_intAt M.2.1 Γ S (F.sub 2 lyTape rfl (by decide)) _) dX9_number_5 cb_X8_intAt ml_RX9_89 im_yX8_intAt se_yX8_intAt (F.m 2 (Nat.le_of_ble_eq_true rfl)) (F.k 2 8 rfl) (Nat.le_of_ble_eq_true rfl) ⟨(Nat.le_of_ble_eq_true rfl), (Nat.le_of_ble_eq_true rfl)⟩ rfl rfl (Nat.le_of_ble_eq_true rfl) ⟨(Nat.le_of_ble_eq_true rfl), (Nat.le_of_ble_eq_true rfl)⟩ (RI.go (fun r1 S1 h1 => ?_))
  refine V_istore_4 8 dX9_number_8 rfl (Nat.le_of_ble_eq_true rfl) ?_
  have F1 := F.ss h1.1
  have g1 := h1.sub (X2 := []) (Y2 := [(t, 3), (t, 4)]) (by simp) (by simp)
  refine V_iload_4 10 dX9_number_10 ?_
  refine V_iload_2 12 dX9_number_12 ?_
  refine V_icmp_lt 13 22 dX9_number_13 (by decide) (fun c => ?_) (fun c => ?_)
  ·
    refine V_aload_0 22 dX9_number_22 ?_
    refine V_iconst 23 (5) dX9_number_23 (by decide) ?_
    refine V_iload_1 24 dX9_number_24 ?_
    refine V_callV 25 (ci := 9) [.int _, .int _] _ (s_tfail2 M.2.1 Γ S1 F1 _ _ (by decide)) dX9_number_25 cb_X9_fail ml_RX9_105 im_yX9_fail se_yX9_fail (F1.m 0 (Nat.le_of_ble_eq_true rfl)) (F1.k 0 9 rfl) (Nat.le_of_ble_eq_true rfl) ⟨(Nat.le_of_ble_eq_true rfl), (Nat.le_of_ble_eq_true rfl)⟩ rfl rfl (Nat.le_of_ble_eq_true rfl) ⟨(Nat.le_of_ble_eq_true rfl), (Nat.le_of_ble_eq_true rfl)⟩ (RV.go (fun S2 h2 => ?_))
    refine V_iload_4 28 dX9_number_28 ?_
    refine V_iret 30 .int dX9_number_30 rfl rfl (Nat.le_of_ble_eq_true rfl) (Nat.le_of_ble_eq_true rfl) (RI.mk ⟨g1.tr h2.1, fun q => absurd q h2.2⟩)
  ·
    refine V_iload_4 16 dX9_number_16 ?_
    refine V_iload_3 18 dX9_number_18 ?_
    refine V_icmp_le 19 28 dX9_number_19 (by decide) (fun c2 => ?_) (fun c2 => ?_)
    ·
      refine V_iload_4 28 dX9_number_28 ?_
      refine V_iret 30 .int dX9_number_30 rfl rfl (Nat.le_of_ble_eq_true rfl) (Nat.le_of_ble_eq_true rfl) (RI.mk ⟨g1, fun q => ⟨(h1.2.2 t 3 (by simp)).symm.trans q, Int32.not_lt.mp c, c2⟩⟩)
    ·
      refine V_aload_0 22 dX9_number_22 ?_
      refine V_iconst 23 (5) dX9_number_23 (by decide) ?_
      refine V_iload_1 24 dX9_number_24 ?_
      refine V_callV 25 (ci := 9) [.int _, .int _] _ (s_tfail2 M.2.1 Γ S1 F1 _ _ (by decide)) dX9_number_25 cb_X9_fail ml_RX9_105 im_yX9_fail se_yX9_fail (F1.m 0 (Nat.le_of_ble_eq_true rfl)) (F1.k 0 9 rfl) (Nat.le_of_ble_eq_true rfl) ⟨(Nat.le_of_ble_eq_true rfl), (Nat.le_of_ble_eq_true rfl)⟩ rfl rfl (Nat.le_of_ble_eq_true rfl) ⟨(Nat.le_of_ble_eq_true rfl), (Nat.le_of_ble_eq_true rfl)⟩ (RV.go (fun S2 h2 => ?_))
      refine V_iload_4 28 dX9_number_28 ?_
      refine V_iret 30 .int dX9_number_30 rfl rfl (Nat.le_of_ble_eq_true rfl) (Nat.le_of_ble_eq_true rfl) (RI.mk ⟨g1.tr h2.1, fun q => absurd q h2.2⟩)
set_option maxRecDepth 100000 in
set_option maxHeartbeats 8000000 in
theorem s_tellSock (l : Launch) (Γ : GC) (S : PS) {t : Nat} (F : isL lyTeller Γ.2.2.2.2.1 S t) (x : Int32) (h : TN t S) : CT l Γ yX9_tellSock cX9_tellSock 3 none (3) (0) (0) [.ref t, .int x] S (RV (fun S' => FZ [t + 13, t + 14, t + 15, t + 17] [(t, 3), (t, 4), (t + 12, 0), (t + 12, 1), (t + 12, 13)] S S' ∧ TN t S')) := by
  refine CT.of RX9 "tellSock" [some (.ref t), some (.int x), none] (by decide +kernel) rfl rfl (Nat.le_of_ble_eq_true rfl) rfl (fun M hM => ?_)
  subst hM
  refine V_aload_0 0 dX9_tellSock_0 ?_
  refine V_iload_1 1 dX9_tellSock_1 ?_
  refine V_iconst 2 (1) dX9_tellSock_2 (by decide) ?_
  refine V_iadd 3 dX9_tellSock_3 ?_
  refine V_callV 4 (ci := 9) [.int _] _ (s_newName2 M.2.1 Γ S F _) dX9_tellSock_4 cb_X9_newName ml_RX9_95 im_yX9_newName se_yX9_newName (F.m 0 (Nat.le_of_ble_eq_true rfl)) (F.k 0 9 rfl) (Nat.le_of_ble_eq_true rfl) ⟨(Nat.le_of_ble_eq_true rfl), (Nat.le_of_ble_eq_true rfl)⟩ rfl rfl (Nat.le_of_ble_eq_true rfl) ⟨(Nat.le_of_ble_eq_true rfl), (Nat.le_of_ble_eq_true rfl)⟩ (RV.go (fun S1 h1 => ?_))
  have F1 := F.ss h1.1.1
  refine V_aload_0 7 dX9_tellSock_7 ?_
  refine V_iload_1 8 dX9_tellSock_8 ?_
  refine V_iconst 9 (2) dX9_tellSock_9 (by decide) ?_
  refine V_iadd 10 dX9_tellSock_10 ?_
  refine V_iconst 11 (0) dX9_tellSock_11 (by decide) ?_
  refine V_bipush 12 (9) dX9_tellSock_12 (by decide) ?_
  refine V_callV 14 (ci := 9) [.int _, .int _, .int _] _ (s_number M.2.1 Γ S1 F1 _ _ _) dX9_tellSock_14 cb_X9_number ml_RX9_73 im_yX9_number se_yX9_number (F1.m 0 (Nat.le_of_ble_eq_true rfl)) (F1.k 0 9 rfl) (Nat.le_of_ble_eq_true rfl) ⟨(Nat.le_of_ble_eq_true rfl), (Nat.le_of_ble_eq_true rfl)⟩ rfl rfl (Nat.le_of_ble_eq_true rfl) ⟨(Nat.le_of_ble_eq_true rfl), (Nat.le_of_ble_eq_true rfl)⟩ (RI.go (fun r2 S2 h2 => ?_))
  refine V_istore_2 17 dX9_tellSock_17 rfl (Nat.le_of_ble_eq_true rfl) ?_
  refine V_abs (fun T => FZ [t + 13, t + 14, t + 15, t + 17] [(t, 3), (t, 4), (t + 12, 0), (t + 12, 1), (t + 12, 13)] S T ∧ TN t T ∧ OK9 t r2 T) ⟨(h1.1.tr h2.1).sub (by simp) (by simp), (h.fz h1.1 (by simp) h1.2).fz h2.1 (by simp) (fun q => (h2.2 q).1), fun q => (h2.2 q).2⟩ (fun S3 h3 => ?_)
  obtain ⟨h3, t3, o3⟩ := h3
  have F3 := F.ss h3.1
  have J3 : ∀ (S1 : PS) , FZ [t + 13, t + 14, t + 15, t + 17] [(t, 3), (t, 4), (t + 12, 0), (t + 12, 1), (t + 12, 13)] S3 S1 → ((fun T => TN t T ∧ OK9 t r2 T) S1) → V M Γ (3, RX9, "tellSock", none, RM (3) (0) (0)) cX9_tellSock (RQ M Γ (RV (fun S' => FZ [t + 13, t + 14, t + 15, t + 17] [(t, 3), (t, 4), (t + 12, 0), (t + 12, 1), (t + 12, 13)] S S' ∧ TN t S')) (0) (0)) 0 0 S1 43 [some (.ref t), some (.int x), some (.int r2)] [] := by
    intro S1  h2 p4
    refine V_aload_0 43 dX9_tellSock_43 ?_
    refine V_getR 44 (c := 9) 2 ((F3.ss h2.1).r 0 2 12 rfl) dX9_tellSock_44 fl_RX9_26 ((F3.ss h2.1).m 0 (Nat.le_of_ble_eq_true rfl)) ((F3.ss h2.1).k 0 9 rfl) (Nat.le_of_ble_eq_true rfl) (Nat.le_of_ble_eq_true rfl) rfl ?_
    refine V_iload_2 47 dX9_tellSock_47 ?_
    refine V_aload_0 48 dX9_tellSock_48 ?_
    refine V_getR 49 (c := 9) 2 ((F3.ss h2.1).r 0 2 12 rfl) dX9_tellSock_49 fl_RX9_26 ((F3.ss h2.1).m 0 (Nat.le_of_ble_eq_true rfl)) ((F3.ss h2.1).k 0 9 rfl) (Nat.le_of_ble_eq_true rfl) (Nat.le_of_ble_eq_true rfl) rfl ?_
    refine V_getI 52 (c := 10) 0 dX9_tellSock_52 fl_RX9_109 ((F3.ss h2.1).m 12 (Nat.le_of_ble_eq_true rfl)) ((F3.ss h2.1).k 12 10 rfl) (Nat.le_of_ble_eq_true rfl) (Nat.le_of_ble_eq_true rfl) rfl ?_
    refine V_callV 55 (ci := 10) [.int _, .int _] _ (s_addKindB M.2.1 Γ S1 ((F3.ss h2.1).sub 12 lyText rfl (by decide)) _ _) dX9_tellSock_55 cb_X10_addKind ml_RX9_112 im_yX10_addKind se_yX10_addKind ((F3.ss h2.1).m 12 (Nat.le_of_ble_eq_true rfl)) ((F3.ss h2.1).k 12 10 rfl) (Nat.le_of_ble_eq_true rfl) ⟨(Nat.le_of_ble_eq_true rfl), (Nat.le_of_ble_eq_true rfl)⟩ rfl rfl (Nat.le_of_ble_eq_true rfl) ⟨(Nat.le_of_ble_eq_true rfl), (Nat.le_of_ble_eq_true rfl)⟩ (RV.go (fun S5 q6 => ?_))
    have h8 : FZ [t + 13, t + 14, t + 15, t + 17] [(t, 3), (t, 4), (t + 12, 0), (t + 12, 1), (t + 12, 13)] S3 S5 := h2.tr (q6.1.sub (by simp) (by simp))
    have p9 : ((fun T => TN t T ∧ OK9 t r2 T) S5) := by exact ⟨p4.1.add p4.2 q6.1 (by simp) q6.2, p4.2.fm (FM.of q6.1 (by simp))⟩
    refine V_aload_0 58 dX9_tellSock_58 ?_
    refine V_getR 59 (c := 9) 2 ((F3.ss h8.1).r 0 2 12 rfl) dX9_tellSock_59 fl_RX9_26 ((F3.ss h8.1).m 0 (Nat.le_of_ble_eq_true rfl)) ((F3.ss h8.1).k 0 9 rfl) (Nat.le_of_ble_eq_true rfl) (Nat.le_of_ble_eq_true rfl) rfl ?_
    refine V_aload_0 62 dX9_tellSock_62 ?_
    refine V_getR 63 (c := 9) 1 ((F3.ss h8.1).r 0 1 2 rfl) dX9_tellSock_63 fl_RX9_22 ((F3.ss h8.1).m 0 (Nat.le_of_ble_eq_true rfl)) ((F3.ss h8.1).k 0 9 rfl) (Nat.le_of_ble_eq_true rfl) (Nat.le_of_ble_eq_true rfl) rfl ?_
    refine V_iload_1 66 dX9_tellSock_66 ?_
    refine V_iconst 67 (1) dX9_tellSock_67 (by decide) ?_
    refine V_iadd 68 dX9_tellSock_68 ?_
    refine V_callV 69 (ci := 8) [.int _] _ (s_valueAt M.2.1 Γ S5 ((F3.ss h8.1).sub 2 lyTape rfl (by decide)) _) dX9_tellSock_69 cb_X8_valueAt ml_RX9_115 im_yX8_valueAt se_yX8_valueAt ((F3.ss h8.1).m 2 (Nat.le_of_ble_eq_true rfl)) ((F3.ss h8.1).k 2 8 rfl) (Nat.le_of_ble_eq_true rfl) ⟨(Nat.le_of_ble_eq_true rfl), (Nat.le_of_ble_eq_true rfl)⟩ rfl rfl (Nat.le_of_ble_eq_true rfl) ⟨(Nat.le_of_ble_eq_true rfl), (Nat.le_of_ble_eq_true rfl)⟩ (RLg.go (fun r12 S10 q11 => ?_))
    have h13 : FZ [t + 13, t + 14, t + 15, t + 17] [(t, 3), (t, 4), (t + 12, 0), (t + 12, 1), (t + 12, 13)] S3 S10 := h8.tr (q11.sub (by simp) (by simp))
    have p14 : ((fun T => TN t T ∧ OK9 t r2 T) S10) := by exact ⟨p9.1.fz q11 (by simp) (FM.of q11 (by simp)), p9.2.fm (FM.of q11 (by simp))⟩
    refine V_aload_0 72 dX9_tellSock_72 ?_
    refine V_getR 73 (c := 9) 2 ((F3.ss h13.1).r 0 2 12 rfl) dX9_tellSock_73 fl_RX9_26 ((F3.ss h13.1).m 0 (Nat.le_of_ble_eq_true rfl)) ((F3.ss h13.1).k 0 9 rfl) (Nat.le_of_ble_eq_true rfl) (Nat.le_of_ble_eq_true rfl) rfl ?_
    refine V_getI 76 (c := 10) 0 dX9_tellSock_76 fl_RX9_109 ((F3.ss h13.1).m 12 (Nat.le_of_ble_eq_true rfl)) ((F3.ss h13.1).k 12 10 rfl) (Nat.le_of_ble_eq_true rfl) (Nat.le_of_ble_eq_true rfl) rfl ?_
    refine V_iconst 79 (1) dX9_tellSock_79 (by decide) ?_
    refine V_isub 80 dX9_tellSock_80 ?_
    refine V_callV 81 (ci := 10) [.long _, .int _] _ (s_X10_addName M.2.1 Γ S10 ((F3.ss h13.1).sub 12 lyText rfl (by decide)) _ _) dX9_tellSock_81 cb_X10_addName ml_RX9_119 im_yX10_addName se_yX10_addName ((F3.ss h13.1).m 12 (Nat.le_of_ble_eq_true rfl)) ((F3.ss h13.1).k 12 10 rfl) (Nat.le_of_ble_eq_true rfl) ⟨(Nat.le_of_ble_eq_true rfl), (Nat.le_of_ble_eq_true rfl)⟩ rfl rfl (Nat.le_of_ble_eq_true rfl) ⟨(Nat.le_of_ble_eq_true rfl), (Nat.le_of_ble_eq_true rfl)⟩ (RV.go (fun S15 q16 => ?_))
    have h18 : FZ [t + 13, t + 14, t + 15, t + 17] [(t, 3), (t, 4), (t + 12, 0), (t + 12, 1), (t + 12, 13)] S3 S15 := h13.tr (q16.sub (by simp) (by simp))
    have p19 : ((fun T => TN t T ∧ OK9 t r2 T) S15) := by exact ⟨p14.1.fz q16 (by simp) (FM.of q16 (by simp)), p14.2.fm (FM.of q16 (by simp))⟩
    refine V_vret 84 dX9_tellSock_84 rfl (Nat.le_of_ble_eq_true rfl) (Nat.le_of_ble_eq_true rfl) (RV.mk ⟨h3.tr h18, p19.1⟩)
  refine V_aload_0 18 dX9_tellSock_18 ?_
  refine V_getR 19 (c := 9) 2 (F3.r 0 2 12 rfl) dX9_tellSock_19 fl_RX9_26 (F3.m 0 (Nat.le_of_ble_eq_true rfl)) (F3.k 0 9 rfl) (Nat.le_of_ble_eq_true rfl) (Nat.le_of_ble_eq_true rfl) rfl ?_
  refine V_getR 22 (c := 10) 2 (F3.r 12 2 13 rfl) dX9_tellSock_22 fl_RX9_98 (F3.m 12 (Nat.le_of_ble_eq_true rfl)) (F3.k 12 10 rfl) (Nat.le_of_ble_eq_true rfl) (Nat.le_of_ble_eq_true rfl) rfl ?_
  refine V_callSN 25 [.ref _] _ (c_total M.2.1 Γ S3 (a := (t + 13)) (F3.m 13 (Nat.le_of_ble_eq_true rfl)) (F3.k 13 14 rfl) (by rw [(F3.l 13 8 rfl)]; decide)) dX9_tellSock_25 cb_X11_total ne_RX9_101 sm_yX11_total ⟨(Nat.le_of_ble_eq_true rfl), (Nat.le_of_ble_eq_true rfl)⟩ rfl rfl (Nat.le_of_ble_eq_true rfl) ⟨(Nat.le_of_ble_eq_true rfl), (Nat.le_of_ble_eq_true rfl)⟩ (RI.go (fun r22 S20 q21 => ?_))
  rw [q21.2]
  refine V_iload_2 28 dX9_tellSock_28 ?_
  refine V_iadd 29 dX9_tellSock_29 ?_
  refine V_bipush 30 (18) dX9_tellSock_30 (by decide) ?_
  refine V_icmp_le 32 43 dX9_tellSock_32 (by decide) (fun c23 => ?_) (fun c23 => ?_)
  ·
    refine V_lvw (by repeat (first | exact trivial | refine ⟨rfl, ?_⟩)) (J3 _ FZ.rf ⟨t3, o3⟩)
  ·
    refine V_aload_0 35 dX9_tellSock_35 ?_
    refine V_iconst 36 (5) dX9_tellSock_36 (by decide) ?_
    refine V_iload_1 37 dX9_tellSock_37 ?_
    refine V_iconst 38 (2) dX9_tellSock_38 (by decide) ?_
    refine V_iadd 39 dX9_tellSock_39 ?_
    refine V_callV 40 (ci := 9) [.int _, .int _] _ (s_tfail2 M.2.1 Γ S3 F3 _ _ (by decide)) dX9_tellSock_40 cb_X9_fail ml_RX9_105 im_yX9_fail se_yX9_fail (F3.m 0 (Nat.le_of_ble_eq_true rfl)) (F3.k 0 9 rfl) (Nat.le_of_ble_eq_true rfl) ⟨(Nat.le_of_ble_eq_true rfl), (Nat.le_of_ble_eq_true rfl)⟩ rfl rfl (Nat.le_of_ble_eq_true rfl) ⟨(Nat.le_of_ble_eq_true rfl), (Nat.le_of_ble_eq_true rfl)⟩ (RV.go (fun S25 q26 => ?_))
    have h28 : FZ [t + 13, t + 14, t + 15, t + 17] [(t, 3), (t, 4), (t + 12, 0), (t + 12, 1), (t + 12, 13)] S3 S25 := (FZ.rf (X := [t + 13, t + 14, t + 15, t + 17]) (Y := [(t, 3), (t, 4), (t + 12, 0), (t + 12, 1), (t + 12, 13)]) (S := S3)).tr (q26.1.sub (by simp) (by simp))
    have p29 : ((fun T => TN t T ∧ OK9 t r2 T) S25) := by exact ⟨TN.bad q26.2, OK9.bad q26.2⟩
    refine V_lvw (by repeat (first | exact trivial | refine ⟨rfl, ?_⟩)) (J3 _ h28 p29)
set_option maxRecDepth 100000 in
set_option maxHeartbeats 8000000 in
theorem s_tellGlove (l : Launch) (Γ : GC) (S : PS) {t : Nat} (F : isL lyTeller Γ.2.2.2.2.1 S t) (x : Int32) (h : TN t S) : CT l Γ yX9_tellGlove cX9_tellGlove 4 none (3) (0) (0) [.ref t, .int x] S (RV (fun S' => FZ [t + 13, t + 14, t + 15, t + 17] [(t, 3), (t, 4), (t + 12, 0), (t + 12, 1), (t + 12, 13)] S S' ∧ TN t S')) := by
  refine CT.of RX9 "tellGlove" [some (.ref t), some (.int x), none, none] (by decide +kernel) rfl rfl (Nat.le_of_ble_eq_true rfl) rfl (fun M hM => ?_)
  subst hM
  refine V_aload_0 0 dX9_tellGlove_0 ?_
  refine V_iload_1 1 dX9_tellGlove_1 ?_
  refine V_iconst 2 (1) dX9_tellGlove_2 (by decide) ?_
  refine V_iadd 3 dX9_tellGlove_3 ?_
  refine V_callV 4 (ci := 9) [.int _] _ (s_newName2 M.2.1 Γ S F _) dX9_tellGlove_4 cb_X9_newName ml_RX9_95 im_yX9_newName se_yX9_newName (F.m 0 (Nat.le_of_ble_eq_true rfl)) (F.k 0 9 rfl) (Nat.le_of_ble_eq_true rfl) ⟨(Nat.le_of_ble_eq_true rfl), (Nat.le_of_ble_eq_true rfl)⟩ rfl rfl (Nat.le_of_ble_eq_true rfl) ⟨(Nat.le_of_ble_eq_true rfl), (Nat.le_of_ble_eq_true rfl)⟩ (RV.go (fun S1 h1 => ?_))
  have F1 := F.ss h1.1.1
  refine V_aload_0 7 dX9_tellGlove_7 ?_
  refine V_iload_1 8 dX9_tellGlove_8 ?_
  refine V_iconst 9 (2) dX9_tellGlove_9 (by decide) ?_
  refine V_iadd 10 dX9_tellGlove_10 ?_
  refine V_iconst 11 (0) dX9_tellGlove_11 (by decide) ?_
  refine V_bipush 12 (9) dX9_tellGlove_12 (by decide) ?_
  refine V_callV 14 (ci := 9) [.int _, .int _, .int _] _ (s_number M.2.1 Γ S1 F1 _ _ _) dX9_tellGlove_14 cb_X9_number ml_RX9_73 im_yX9_number se_yX9_number (F1.m 0 (Nat.le_of_ble_eq_true rfl)) (F1.k 0 9 rfl) (Nat.le_of_ble_eq_true rfl) ⟨(Nat.le_of_ble_eq_true rfl), (Nat.le_of_ble_eq_true rfl)⟩ rfl rfl (Nat.le_of_ble_eq_true rfl) ⟨(Nat.le_of_ble_eq_true rfl), (Nat.le_of_ble_eq_true rfl)⟩ (RI.go (fun r2 S2 h2 => ?_))
  refine V_istore_2 17 dX9_tellGlove_17 rfl (Nat.le_of_ble_eq_true rfl) ?_
  have F2 := F1.ss h2.1.1
  refine V_aload_0 18 dX9_tellGlove_18 ?_
  refine V_iload_1 19 dX9_tellGlove_19 ?_
  refine V_iconst 20 (3) dX9_tellGlove_20 (by decide) ?_
  refine V_iadd 21 dX9_tellGlove_21 ?_
  refine V_iconst 22 (0) dX9_tellGlove_22 (by decide) ?_
  refine V_bipush 23 (9) dX9_tellGlove_23 (by decide) ?_
  refine V_callV 25 (ci := 9) [.int _, .int _, .int _] _ (s_number M.2.1 Γ S2 F2 _ _ _) dX9_tellGlove_25 cb_X9_number ml_RX9_73 im_yX9_number se_yX9_number (F2.m 0 (Nat.le_of_ble_eq_true rfl)) (F2.k 0 9 rfl) (Nat.le_of_ble_eq_true rfl) ⟨(Nat.le_of_ble_eq_true rfl), (Nat.le_of_ble_eq_true rfl)⟩ rfl rfl (Nat.le_of_ble_eq_true rfl) ⟨(Nat.le_of_ble_eq_true rfl), (Nat.le_of_ble_eq_true rfl)⟩ (RI.go (fun r4 S4 h4 => ?_))
  refine V_istore_3 28 dX9_tellGlove_28 rfl (Nat.le_of_ble_eq_true rfl) ?_
  refine V_abs (fun T => FZ [t + 13, t + 14, t + 15, t + 17] [(t, 3), (t, 4), (t + 12, 0), (t + 12, 1), (t + 12, 13)] S T ∧ TN t T ∧ OK9 t r2 T ∧ OK9 t r4 T) ⟨((h1.1.tr h2.1).tr h4.1).sub (by simp) (by simp), ((h.fz h1.1 (by simp) h1.2).fz h2.1 (by simp) (fun q => (h2.2 q).1)).fz h4.1 (by simp) (fun q => (h4.2 q).1), fun q => (h2.2 (h4.2 q).1).2, fun q => (h4.2 q).2⟩ (fun S3 h3 => ?_)
  obtain ⟨h3, t3, o3⟩ := h3
  have F3 := F.ss h3.1
  have J3 : ∀ (S1 : PS) , FZ [t + 13, t + 14, t + 15, t + 17] [(t, 3), (t, 4), (t + 12, 0), (t + 12, 1), (t + 12, 13)] S3 S1 → ((fun T => TN t T ∧ OK9 t r2 T ∧ OK9 t r4 T) S1) → V M Γ (4, RX9, "tellGlove", none, RM (3) (0) (0)) cX9_tellGlove (RQ M Γ (RV (fun S' => FZ [t + 13, t + 14, t + 15, t + 17] [(t, 3), (t, 4), (t + 12, 0), (t + 12, 1), (t + 12, 13)] S S' ∧ TN t S')) (0) (0)) 0 0 S1 56 [some (.ref t), some (.int x), some (.int r2), some (.int r4)] [] := by
    intro S1  h2 p4
    refine V_aload_0 56 dX9_tellGlove_56 ?_
    refine V_getR 57 (c := 9) 2 ((F3.ss h2.1).r 0 2 12 rfl) dX9_tellGlove_57 fl_RX9_26 ((F3.ss h2.1).m 0 (Nat.le_of_ble_eq_true rfl)) ((F3.ss h2.1).k 0 9 rfl) (Nat.le_of_ble_eq_true rfl) (Nat.le_of_ble_eq_true rfl) rfl ?_
    refine V_iload_2 60 dX9_tellGlove_60 ?_
    refine V_aload_0 61 dX9_tellGlove_61 ?_
    refine V_getR 62 (c := 9) 2 ((F3.ss h2.1).r 0 2 12 rfl) dX9_tellGlove_62 fl_RX9_26 ((F3.ss h2.1).m 0 (Nat.le_of_ble_eq_true rfl)) ((F3.ss h2.1).k 0 9 rfl) (Nat.le_of_ble_eq_true rfl) (Nat.le_of_ble_eq_true rfl) rfl ?_
    refine V_getI 65 (c := 10) 0 dX9_tellGlove_65 fl_RX9_109 ((F3.ss h2.1).m 12 (Nat.le_of_ble_eq_true rfl)) ((F3.ss h2.1).k 12 10 rfl) (Nat.le_of_ble_eq_true rfl) (Nat.le_of_ble_eq_true rfl) rfl ?_
    refine V_iconst 68 (1) dX9_tellGlove_68 (by decide) ?_
    refine V_iadd 69 dX9_tellGlove_69 ?_
    refine V_callV 70 (ci := 10) [.int _, .int _] _ (s_addKindB M.2.1 Γ S1 ((F3.ss h2.1).sub 12 lyText rfl (by decide)) _ _) dX9_tellGlove_70 cb_X10_addKind ml_RX9_112 im_yX10_addKind se_yX10_addKind ((F3.ss h2.1).m 12 (Nat.le_of_ble_eq_true rfl)) ((F3.ss h2.1).k 12 10 rfl) (Nat.le_of_ble_eq_true rfl) ⟨(Nat.le_of_ble_eq_true rfl), (Nat.le_of_ble_eq_true rfl)⟩ rfl rfl (Nat.le_of_ble_eq_true rfl) ⟨(Nat.le_of_ble_eq_true rfl), (Nat.le_of_ble_eq_true rfl)⟩ (RV.go (fun S5 q6 => ?_))
    have h8 : FZ [t + 13, t + 14, t + 15, t + 17] [(t, 3), (t, 4), (t + 12, 0), (t + 12, 1), (t + 12, 13)] S3 S5 := h2.tr (q6.1.sub (by simp) (by simp))
    have p9 : ((fun T => TN t T ∧ OK9 t r2 T ∧ OK9 t r4 T) S5) := by exact ⟨p4.1.add p4.2.1 q6.1 (by simp) q6.2, p4.2.1.fm (FM.of q6.1 (by simp)), p4.2.2.fm (FM.of q6.1 (by simp))⟩
    refine V_aload_0 73 dX9_tellGlove_73 ?_
    refine V_getR 74 (c := 9) 2 ((F3.ss h8.1).r 0 2 12 rfl) dX9_tellGlove_74 fl_RX9_26 ((F3.ss h8.1).m 0 (Nat.le_of_ble_eq_true rfl)) ((F3.ss h8.1).k 0 9 rfl) (Nat.le_of_ble_eq_true rfl) (Nat.le_of_ble_eq_true rfl) rfl ?_
    refine V_iload_3 77 dX9_tellGlove_77 ?_
    refine V_aload_0 78 dX9_tellGlove_78 ?_
    refine V_getR 79 (c := 9) 2 ((F3.ss h8.1).r 0 2 12 rfl) dX9_tellGlove_79 fl_RX9_26 ((F3.ss h8.1).m 0 (Nat.le_of_ble_eq_true rfl)) ((F3.ss h8.1).k 0 9 rfl) (Nat.le_of_ble_eq_true rfl) (Nat.le_of_ble_eq_true rfl) rfl ?_
    refine V_getI 82 (c := 10) 0 dX9_tellGlove_82 fl_RX9_109 ((F3.ss h8.1).m 12 (Nat.le_of_ble_eq_true rfl)) ((F3.ss h8.1).k 12 10 rfl) (Nat.le_of_ble_eq_true rfl) (Nat.le_of_ble_eq_true rfl) rfl ?_
    refine V_iconst 85 (1) dX9_tellGlove_85 (by decide) ?_
    refine V_isub 86 dX9_tellGlove_86 ?_
    refine V_callV 87 (ci := 10) [.int _, .int _] _ (s_addKindB M.2.1 Γ S5 ((F3.ss h8.1).sub 12 lyText rfl (by decide)) _ _) dX9_tellGlove_87 cb_X10_addKind ml_RX9_112 im_yX10_addKind se_yX10_addKind ((F3.ss h8.1).m 12 (Nat.le_of_ble_eq_true rfl)) ((F3.ss h8.1).k 12 10 rfl) (Nat.le_of_ble_eq_true rfl) ⟨(Nat.le_of_ble_eq_true rfl), (Nat.le_of_ble_eq_true rfl)⟩ rfl rfl (Nat.le_of_ble_eq_true rfl) ⟨(Nat.le_of_ble_eq_true rfl), (Nat.le_of_ble_eq_true rfl)⟩ (RV.go (fun S10 q11 => ?_))
    have h13 : FZ [t + 13, t + 14, t + 15, t + 17] [(t, 3), (t, 4), (t + 12, 0), (t + 12, 1), (t + 12, 13)] S3 S10 := h8.tr (q11.1.sub (by simp) (by simp))
    have p14 : ((fun T => TN t T ∧ OK9 t r2 T ∧ OK9 t r4 T) S10) := by exact ⟨p9.1.add p9.2.2 q11.1 (by simp) q11.2, p9.2.1.fm (FM.of q11.1 (by simp)), p9.2.2.fm (FM.of q11.1 (by simp))⟩
    refine V_aload_0 90 dX9_tellGlove_90 ?_
    refine V_getR 91 (c := 9) 2 ((F3.ss h13.1).r 0 2 12 rfl) dX9_tellGlove_91 fl_RX9_26 ((F3.ss h13.1).m 0 (Nat.le_of_ble_eq_true rfl)) ((F3.ss h13.1).k 0 9 rfl) (Nat.le_of_ble_eq_true rfl) (Nat.le_of_ble_eq_true rfl) rfl ?_
    refine V_aload_0 94 dX9_tellGlove_94 ?_
    refine V_getR 95 (c := 9) 1 ((F3.ss h13.1).r 0 1 2 rfl) dX9_tellGlove_95 fl_RX9_22 ((F3.ss h13.1).m 0 (Nat.le_of_ble_eq_true rfl)) ((F3.ss h13.1).k 0 9 rfl) (Nat.le_of_ble_eq_true rfl) (Nat.le_of_ble_eq_true rfl) rfl ?_
    refine V_iload_1 98 dX9_tellGlove_98 ?_
    refine V_iconst 99 (1) dX9_tellGlove_99 (by decide) ?_
    refine V_iadd 100 dX9_tellGlove_100 ?_
    refine V_callV 101 (ci := 8) [.int _] _ (s_valueAt M.2.1 Γ S10 ((F3.ss h13.1).sub 2 lyTape rfl (by decide)) _) dX9_tellGlove_101 cb_X8_valueAt ml_RX9_115 im_yX8_valueAt se_yX8_valueAt ((F3.ss h13.1).m 2 (Nat.le_of_ble_eq_true rfl)) ((F3.ss h13.1).k 2 8 rfl) (Nat.le_of_ble_eq_true rfl) ⟨(Nat.le_of_ble_eq_true rfl), (Nat.le_of_ble_eq_true rfl)⟩ rfl rfl (Nat.le_of_ble_eq_true rfl) ⟨(Nat.le_of_ble_eq_true rfl), (Nat.le_of_ble_eq_true rfl)⟩ (RLg.go (fun r17 S15 q16 => ?_))
    have h18 : FZ [t + 13, t + 14, t + 15, t + 17] [(t, 3), (t, 4), (t + 12, 0), (t + 12, 1), (t + 12, 13)] S3 S15 := h13.tr (q16.sub (by simp) (by simp))
    have p19 : ((fun T => TN t T ∧ OK9 t r2 T ∧ OK9 t r4 T) S15) := by exact ⟨p14.1.fz q16 (by simp) (FM.of q16 (by simp)), p14.2.1.fm (FM.of q16 (by simp)), p14.2.2.fm (FM.of q16 (by simp))⟩
    refine V_aload_0 104 dX9_tellGlove_104 ?_
    refine V_getR 105 (c := 9) 2 ((F3.ss h18.1).r 0 2 12 rfl) dX9_tellGlove_105 fl_RX9_26 ((F3.ss h18.1).m 0 (Nat.le_of_ble_eq_true rfl)) ((F3.ss h18.1).k 0 9 rfl) (Nat.le_of_ble_eq_true rfl) (Nat.le_of_ble_eq_true rfl) rfl ?_
    refine V_getI 108 (c := 10) 0 dX9_tellGlove_108 fl_RX9_109 ((F3.ss h18.1).m 12 (Nat.le_of_ble_eq_true rfl)) ((F3.ss h18.1).k 12 10 rfl) (Nat.le_of_ble_eq_true rfl) (Nat.le_of_ble_eq_true rfl) rfl ?_
    refine V_iconst 111 (2) dX9_tellGlove_111 (by decide) ?_
    refine V_isub 112 dX9_tellGlove_112 ?_
    refine V_callV 113 (ci := 10) [.long _, .int _] _ (s_X10_addName M.2.1 Γ S15 ((F3.ss h18.1).sub 12 lyText rfl (by decide)) _ _) dX9_tellGlove_113 cb_X10_addName ml_RX9_119 im_yX10_addName se_yX10_addName ((F3.ss h18.1).m 12 (Nat.le_of_ble_eq_true rfl)) ((F3.ss h18.1).k 12 10 rfl) (Nat.le_of_ble_eq_true rfl) ⟨(Nat.le_of_ble_eq_true rfl), (Nat.le_of_ble_eq_true rfl)⟩ rfl rfl (Nat.le_of_ble_eq_true rfl) ⟨(Nat.le_of_ble_eq_true rfl), (Nat.le_of_ble_eq_true rfl)⟩ (RV.go (fun S20 q21 => ?_))
    have h23 : FZ [t + 13, t + 14, t + 15, t + 17] [(t, 3), (t, 4), (t + 12, 0), (t + 12, 1), (t + 12, 13)] S3 S20 := h18.tr (q21.sub (by simp) (by simp))
    have p24 : ((fun T => TN t T ∧ OK9 t r2 T ∧ OK9 t r4 T) S20) := by exact ⟨p19.1.fz q21 (by simp) (FM.of q21 (by simp)), p19.2.1.fm (FM.of q21 (by simp)), p19.2.2.fm (FM.of q21 (by simp))⟩
    refine V_vret 116 dX9_tellGlove_116 rfl (Nat.le_of_ble_eq_true rfl) (Nat.le_of_ble_eq_true rfl) (RV.mk ⟨h3.tr h23, p24.1⟩)
  refine V_aload_0 29 dX9_tellGlove_29 ?_
  refine V_getR 30 (c := 9) 2 (F3.r 0 2 12 rfl) dX9_tellGlove_30 fl_RX9_26 (F3.m 0 (Nat.le_of_ble_eq_true rfl)) (F3.k 0 9 rfl) (Nat.le_of_ble_eq_true rfl) (Nat.le_of_ble_eq_true rfl) rfl ?_
  refine V_getR 33 (c := 10) 2 (F3.r 12 2 13 rfl) dX9_tellGlove_33 fl_RX9_98 (F3.m 12 (Nat.le_of_ble_eq_true rfl)) (F3.k 12 10 rfl) (Nat.le_of_ble_eq_true rfl) (Nat.le_of_ble_eq_true rfl) rfl ?_
  refine V_callSN 36 [.ref _] _ (c_total M.2.1 Γ S3 (a := (t + 13)) (F3.m 13 (Nat.le_of_ble_eq_true rfl)) (F3.k 13 14 rfl) (by rw [(F3.l 13 8 rfl)]; decide)) dX9_tellGlove_36 cb_X11_total ne_RX9_101 sm_yX11_total ⟨(Nat.le_of_ble_eq_true rfl), (Nat.le_of_ble_eq_true rfl)⟩ rfl rfl (Nat.le_of_ble_eq_true rfl) ⟨(Nat.le_of_ble_eq_true rfl), (Nat.le_of_ble_eq_true rfl)⟩ (RI.go (fun r27 S25 q26 => ?_))
  rw [q26.2]
  refine V_iload_2 39 dX9_tellGlove_39 ?_
  refine V_iadd 40 dX9_tellGlove_40 ?_
  refine V_iload_3 41 dX9_tellGlove_41 ?_
  refine V_iadd 42 dX9_tellGlove_42 ?_
  refine V_bipush 43 (18) dX9_tellGlove_43 (by decide) ?_
  refine V_icmp_le 45 56 dX9_tellGlove_45 (by decide) (fun c28 => ?_) (fun c28 => ?_)
  ·
    refine V_lvw (by repeat (first | exact trivial | refine ⟨rfl, ?_⟩)) (J3 _ FZ.rf ⟨t3, o3⟩)
  ·
    refine V_aload_0 48 dX9_tellGlove_48 ?_
    refine V_iconst 49 (5) dX9_tellGlove_49 (by decide) ?_
    refine V_iload_1 50 dX9_tellGlove_50 ?_
    refine V_iconst 51 (3) dX9_tellGlove_51 (by decide) ?_
    refine V_iadd 52 dX9_tellGlove_52 ?_
    refine V_callV 53 (ci := 9) [.int _, .int _] _ (s_tfail2 M.2.1 Γ S3 F3 _ _ (by decide)) dX9_tellGlove_53 cb_X9_fail ml_RX9_105 im_yX9_fail se_yX9_fail (F3.m 0 (Nat.le_of_ble_eq_true rfl)) (F3.k 0 9 rfl) (Nat.le_of_ble_eq_true rfl) ⟨(Nat.le_of_ble_eq_true rfl), (Nat.le_of_ble_eq_true rfl)⟩ rfl rfl (Nat.le_of_ble_eq_true rfl) ⟨(Nat.le_of_ble_eq_true rfl), (Nat.le_of_ble_eq_true rfl)⟩ (RV.go (fun S30 q31 => ?_))
    have h33 : FZ [t + 13, t + 14, t + 15, t + 17] [(t, 3), (t, 4), (t + 12, 0), (t + 12, 1), (t + 12, 13)] S3 S30 := (FZ.rf (X := [t + 13, t + 14, t + 15, t + 17]) (Y := [(t, 3), (t, 4), (t + 12, 0), (t + 12, 1), (t + 12, 13)]) (S := S3)).tr (q31.1.sub (by simp) (by simp))
    have p34 : ((fun T => TN t T ∧ OK9 t r2 T ∧ OK9 t r4 T) S30) := by exact ⟨TN.bad q31.2, OK9.bad q31.2, OK9.bad q31.2⟩
    refine V_lvw (by repeat (first | exact trivial | refine ⟨rfl, ?_⟩)) (J3 _ h33 p34)
set_option maxRecDepth 100000 in
set_option maxHeartbeats 8000000 in
theorem s_tellLike (l : Launch) (Γ : GC) (S : PS) {t : Nat} (F : isL lyTeller Γ.2.2.2.2.1 S t) (x : Int32) : CT l Γ yX9_tellLike cX9_tellLike 5 none (3) (0) (0) [.ref t, .int x] S (RV (fun S' => FZ [t + 18] [(t, 3), (t, 4)] S S' ∧ FM t S S')) := by
  refine CT.of RX9 "tellLike" [some (.ref t), some (.int x), none, none, none] (by decide +kernel) rfl rfl (Nat.le_of_ble_eq_true rfl) rfl (fun M hM => ?_)
  subst hM
  have J3 : ∀ (S1 : PS) (x4 : Int32) (x5 : Int32) (x6 : Int32), FZ [t + 18] [(t, 3), (t, 4)] S S1 → (FM t S S1) → V M Γ (5, RX9, "tellLike", none, RM (3) (0) (0)) cX9_tellLike (RQ M Γ (RV (fun S' => FZ [t + 18] [(t, 3), (t, 4)] S S' ∧ FM t S S')) (0) (0)) 0 0 S1 46 [some (.ref t), some (.int x), some (.int x4), some (.int x5), some (.int x6)] [] := by
    intro S1 x4 x5 x6 h2 p7
    refine V_vret 46 dX9_tellLike_46 rfl (Nat.le_of_ble_eq_true rfl) (Nat.le_of_ble_eq_true rfl) (RV.mk ⟨h2, p7⟩)
  refine V_aload_0 0 dX9_tellLike_0 ?_
  refine V_iload_1 1 dX9_tellLike_1 ?_
  refine V_iconst 2 (1) dX9_tellLike_2 (by decide) ?_
  refine V_iadd 3 dX9_tellLike_3 ?_
  refine V_callV 4 (ci := 9) [.int _] _ (s_oldName2 M.2.1 Γ S F _) dX9_tellLike_4 cb_X9_oldName ml_RX9_123 im_yX9_oldName se_yX9_oldName (F.m 0 (Nat.le_of_ble_eq_true rfl)) (F.k 0 9 rfl) (Nat.le_of_ble_eq_true rfl) ⟨(Nat.le_of_ble_eq_true rfl), (Nat.le_of_ble_eq_true rfl)⟩ rfl rfl (Nat.le_of_ble_eq_true rfl) ⟨(Nat.le_of_ble_eq_true rfl), (Nat.le_of_ble_eq_true rfl)⟩ (RI.go (fun r10 S8 q9 => ?_))
  have h11 : FZ [t + 18] [(t, 3), (t, 4)] S S8 := (FZ.rf (X := [t + 18]) (Y := [(t, 3), (t, 4)]) (S := S)).tr (q9.1.sub (by simp) (by simp))
  have p12 : (FM t S S8) := by exact (FM.rf (t := t) (S := S)).tr q9.2
  refine V_istore_2 7 dX9_tellLike_7 rfl (Nat.le_of_ble_eq_true rfl) ?_
  refine V_aload_0 8 dX9_tellLike_8 ?_
  refine V_iload_1 9 dX9_tellLike_9 ?_
  refine V_iconst 10 (2) dX9_tellLike_10 (by decide) ?_
  refine V_iadd 11 dX9_tellLike_11 ?_
  refine V_callV 12 (ci := 9) [.int _] _ (s_oldName2 M.2.1 Γ S8 (F.ss h11.1) _) dX9_tellLike_12 cb_X9_oldName ml_RX9_123 im_yX9_oldName se_yX9_oldName ((F.ss h11.1).m 0 (Nat.le_of_ble_eq_true rfl)) ((F.ss h11.1).k 0 9 rfl) (Nat.le_of_ble_eq_true rfl) ⟨(Nat.le_of_ble_eq_true rfl), (Nat.le_of_ble_eq_true rfl)⟩ rfl rfl (Nat.le_of_ble_eq_true rfl) ⟨(Nat.le_of_ble_eq_true rfl), (Nat.le_of_ble_eq_true rfl)⟩ (RI.go (fun r15 S13 q14 => ?_))
  have h16 : FZ [t + 18] [(t, 3), (t, 4)] S S13 := h11.tr (q14.1.sub (by simp) (by simp))
  have p17 : (FM t S S13) := by exact p12.tr q14.2
  refine V_istore_3 15 dX9_tellLike_15 rfl (Nat.le_of_ble_eq_true rfl) ?_
  refine V_aload_0 16 dX9_tellLike_16 ?_
  refine V_iload_1 17 dX9_tellLike_17 ?_
  refine V_iconst 18 (3) dX9_tellLike_18 (by decide) ?_
  refine V_iadd 19 dX9_tellLike_19 ?_
  refine V_iconst 20 (0) dX9_tellLike_20 (by decide) ?_
  refine V_bipush 21 (99) dX9_tellLike_21 (by decide) ?_
  refine V_callV 23 (ci := 9) [.int _, .int _, .int _] _ (s_number M.2.1 Γ S13 (F.ss h16.1) _ _ _) dX9_tellLike_23 cb_X9_number ml_RX9_73 im_yX9_number se_yX9_number ((F.ss h16.1).m 0 (Nat.le_of_ble_eq_true rfl)) ((F.ss h16.1).k 0 9 rfl) (Nat.le_of_ble_eq_true rfl) ⟨(Nat.le_of_ble_eq_true rfl), (Nat.le_of_ble_eq_true rfl)⟩ rfl rfl (Nat.le_of_ble_eq_true rfl) ⟨(Nat.le_of_ble_eq_true rfl), (Nat.le_of_ble_eq_true rfl)⟩ (RI.go (fun r20 S18 q19 => ?_))
  have h21 : FZ [t + 18] [(t, 3), (t, 4)] S S18 := h16.tr (q19.1.sub (by simp) (by simp))
  have p22 : (FM t S S18) := by exact p17.tr (FM.of2 q19.2)
  refine V_istore_4 26 dX9_tellLike_26 rfl (Nat.le_of_ble_eq_true rfl) ?_
  refine V_aload_0 28 dX9_tellLike_28 ?_
  refine V_getI 29 (c := 9) 3 dX9_tellLike_29 fl_RX9_44 ((F.ss h21.1).m 0 (Nat.le_of_ble_eq_true rfl)) ((F.ss h21.1).k 0 9 rfl) (Nat.le_of_ble_eq_true rfl) (Nat.le_of_ble_eq_true rfl) rfl ?_
  refine V_if_ne 32 46 dX9_tellLike_32 (by decide) (fun c23 => ?_) (fun c23 => ?_)
  ·
    refine V_lvw (by repeat (first | exact trivial | refine ⟨rfl, ?_⟩)) (J3 _ _ _ _ h21 p22)
  ·
    refine V_aload_0 35 dX9_tellLike_35 ?_
    refine V_getR 36 (c := 9) 2 ((F.ss h21.1).r 0 2 12 rfl) dX9_tellLike_36 fl_RX9_26 ((F.ss h21.1).m 0 (Nat.le_of_ble_eq_true rfl)) ((F.ss h21.1).k 0 9 rfl) (Nat.le_of_ble_eq_true rfl) (Nat.le_of_ble_eq_true rfl) rfl ?_
    refine V_iload_2 39 dX9_tellLike_39 ?_
    refine V_iload_3 40 dX9_tellLike_40 ?_
    refine V_iload_4 41 dX9_tellLike_41 ?_
    refine V_callV 43 (ci := 10) [.int _, .int _, .int _] _ (s_X10_tellUnlike M.2.1 Γ S18 ((F.ss h21.1).sub 12 lyText rfl (by decide)) _ _ _) dX9_tellLike_43 cb_X10_tellUnlike ml_RX9_126 im_yX10_tellUnlike se_yX10_tellUnlike ((F.ss h21.1).m 12 (Nat.le_of_ble_eq_true rfl)) ((F.ss h21.1).k 12 10 rfl) (Nat.le_of_ble_eq_true rfl) ⟨(Nat.le_of_ble_eq_true rfl), (Nat.le_of_ble_eq_true rfl)⟩ rfl rfl (Nat.le_of_ble_eq_true rfl) ⟨(Nat.le_of_ble_eq_true rfl), (Nat.le_of_ble_eq_true rfl)⟩ (RV.go (fun S25 q26 => ?_))
    have h28 : FZ [t + 18] [(t, 3), (t, 4)] S S25 := h21.tr (q26.sub (by simp) (by simp))
    have p29 : (FM t S S25) := by exact p22.tr (FM.of q26 (by simp))
    refine V_lvw (by repeat (first | exact trivial | refine ⟨rfl, ?_⟩)) (J3 _ _ _ _ h28 p29)
set_option maxRecDepth 100000 in
set_option maxHeartbeats 8000000 in
theorem s_thang (l : Launch) (Γ : GC) (S : PS) {t : Nat} (F : isL lyTeller Γ.2.2.2.2.1 S t) (x y : Int32) : CT l Γ yX9_hang cX9_hang 6 none (3) (0) (0) [.ref t, .int x, .int y] S (RV (fun S' => FZ [t + 19, t + 20] [(t, 3), (t, 4), (t + 12, 0), (t + 12, 1), (t + 12, 13)] S S' ∧ FM t S S')) := by
  refine CT.of RX9 "hang" [some (.ref t), some (.int x), some (.int y), none, none, none] (by decide +kernel) rfl rfl (Nat.le_of_ble_eq_true rfl) rfl (fun M hM => ?_)
  subst hM
  have J3 : ∀ (S1 : PS) (x4 : Int32) (x5 : Int32) (x6 : Int32), FZ [t + 19, t + 20] [(t, 3), (t, 4), (t + 12, 0), (t + 12, 1), (t + 12, 13)] S S1 → (FM t S S1) → V M Γ (6, RX9, "hang", none, RM (3) (0) (0)) cX9_hang (RQ M Γ (RV (fun S' => FZ [t + 19, t + 20] [(t, 3), (t, 4), (t + 12, 0), (t + 12, 1), (t + 12, 13)] S S' ∧ FM t S S')) (0) (0)) 0 0 S1 77 [some (.ref t), some (.int x), some (.int y), some (.int x4), some (.int x5), some (.int x6)] [] := by
    intro S1 x4 x5 x6 h2 p7
    refine V_vret 77 dX9_hang_77 rfl (Nat.le_of_ble_eq_true rfl) (Nat.le_of_ble_eq_true rfl) (RV.mk ⟨h2, p7⟩)
  have J10 : ∀ (S8 : PS) (x11 : Int32) (x12 : Int32) (x13 : Int32), FZ [t + 19, t + 20] [(t, 3), (t, 4), (t + 12, 0), (t + 12, 1), (t + 12, 13)] S S8 → (FM t S S8) → V M Γ (6, RX9, "hang", none, RM (3) (0) (0)) cX9_hang (RQ M Γ (RV (fun S' => FZ [t + 19, t + 20] [(t, 3), (t, 4), (t + 12, 0), (t + 12, 1), (t + 12, 13)] S S' ∧ FM t S S')) (0) (0)) 0 0 S8 71 [some (.ref t), some (.int x), some (.int y), some (.int x11), some (.int x12), some (.int x13)] [] := by
    intro S8 x11 x12 x13 h9 p14
    refine V_aload_0 71 dX9_hang_71 ?_
    refine V_iconst 72 (5) dX9_hang_72 (by decide) ?_
    refine V_iload_1 73 dX9_hang_73 ?_
    refine V_callV 74 (ci := 9) [.int _, .int _] _ (s_tfail2 M.2.1 Γ S8 (F.ss h9.1) _ _ (by decide)) dX9_hang_74 cb_X9_fail ml_RX9_105 im_yX9_fail se_yX9_fail ((F.ss h9.1).m 0 (Nat.le_of_ble_eq_true rfl)) ((F.ss h9.1).k 0 9 rfl) (Nat.le_of_ble_eq_true rfl) ⟨(Nat.le_of_ble_eq_true rfl), (Nat.le_of_ble_eq_true rfl)⟩ rfl rfl (Nat.le_of_ble_eq_true rfl) ⟨(Nat.le_of_ble_eq_true rfl), (Nat.le_of_ble_eq_true rfl)⟩ (RV.go (fun S15 q16 => ?_))
    have h18 : FZ [t + 19, t + 20] [(t, 3), (t, 4), (t + 12, 0), (t + 12, 1), (t + 12, 13)] S S15 := h9.tr (q16.1.sub (by simp) (by simp))
    have p19 : (FM t S S15) := by exact FM.bad q16.2
    refine V_lvw (by repeat (first | exact trivial | refine ⟨rfl, ?_⟩)) (J3 _ _ _ _ h18 p19)
  have J23 : ∀ (S21 : PS) (x24 : Int32) (x25 : Int32) (x26 : Int32), FZ [t + 19, t + 20] [(t, 3), (t, 4), (t + 12, 0), (t + 12, 1), (t + 12, 13)] S S21 → (FM t S S21) → V M Γ (6, RX9, "hang", none, RM (3) (0) (0)) cX9_hang (RQ M Γ (RV (fun S' => FZ [t + 19, t + 20] [(t, 3), (t, 4), (t + 12, 0), (t + 12, 1), (t + 12, 13)] S S' ∧ FM t S S')) (0) (0)) 0 0 S21 50 [some (.ref t), some (.int x), some (.int y), some (.int x24), some (.int x25), some (.int x26)] [] := by
    intro S21 x24 x25 x26 h22 p27
    refine V_aload_0 50 dX9_hang_50 ?_
    refine V_getR 51 (c := 9) 2 ((F.ss h22.1).r 0 2 12 rfl) dX9_hang_51 fl_RX9_26 ((F.ss h22.1).m 0 (Nat.le_of_ble_eq_true rfl)) ((F.ss h22.1).k 0 9 rfl) (Nat.le_of_ble_eq_true rfl) (Nat.le_of_ble_eq_true rfl) rfl ?_
    refine V_iload_2 54 dX9_hang_54 ?_
    refine V_if_eq 55 63 dX9_hang_55 (by decide) (fun c28 => ?_) (fun c28 => ?_)
    ·
      refine V_iload_4 63 dX9_hang_63 ?_
      refine V_callV 65 (ci := 10) [.int _] _ (s_X10_hang M.2.1 Γ S21 ((F.ss h22.1).sub 12 lyText rfl (by decide)) _) dX9_hang_65 cb_X10_hang ml_RX9_147 im_yX10_hang se_yX10_hang ((F.ss h22.1).m 12 (Nat.le_of_ble_eq_true rfl)) ((F.ss h22.1).k 12 10 rfl) (Nat.le_of_ble_eq_true rfl) ⟨(Nat.le_of_ble_eq_true rfl), (Nat.le_of_ble_eq_true rfl)⟩ rfl rfl (Nat.le_of_ble_eq_true rfl) ⟨(Nat.le_of_ble_eq_true rfl), (Nat.le_of_ble_eq_true rfl)⟩ (RI.go (fun r31 S29 q30 => ?_))
      have h32 : FZ [t + 19, t + 20] [(t, 3), (t, 4), (t + 12, 0), (t + 12, 1), (t + 12, 13)] S S29 := h22.tr (q30.2.sub (by simp) (by simp))
      have p33 : (FM t S S29) := by exact p27.tr (FM.of q30.2 (by simp))
      refine V_if_ne 68 77 dX9_hang_68 (by decide) (fun c34 => ?_) (fun c34 => ?_)
      ·
        refine V_lvw (by repeat (first | exact trivial | refine ⟨rfl, ?_⟩)) (J3 _ _ _ _ h32 p33)
      ·
        refine V_lvw (by repeat (first | exact trivial | refine ⟨rfl, ?_⟩)) (J10 _ _ _ _ h32 p33)
    ·
      refine V_iload_5 58 dX9_hang_58 ?_
      refine V_goto 60 65 dX9_hang_60 (by decide) ?_
      refine V_callV 65 (ci := 10) [.int _] _ (s_X10_hang M.2.1 Γ S21 ((F.ss h22.1).sub 12 lyText rfl (by decide)) _) dX9_hang_65 cb_X10_hang ml_RX9_147 im_yX10_hang se_yX10_hang ((F.ss h22.1).m 12 (Nat.le_of_ble_eq_true rfl)) ((F.ss h22.1).k 12 10 rfl) (Nat.le_of_ble_eq_true rfl) ⟨(Nat.le_of_ble_eq_true rfl), (Nat.le_of_ble_eq_true rfl)⟩ rfl rfl (Nat.le_of_ble_eq_true rfl) ⟨(Nat.le_of_ble_eq_true rfl), (Nat.le_of_ble_eq_true rfl)⟩ (RI.go (fun r39 S37 q38 => ?_))
      have h40 : FZ [t + 19, t + 20] [(t, 3), (t, 4), (t + 12, 0), (t + 12, 1), (t + 12, 13)] S S37 := h22.tr (q38.2.sub (by simp) (by simp))
      have p41 : (FM t S S37) := by exact p27.tr (FM.of q38.2 (by simp))
      refine V_if_ne 68 77 dX9_hang_68 (by decide) (fun c42 => ?_) (fun c42 => ?_)
      ·
        refine V_lvw (by repeat (first | exact trivial | refine ⟨rfl, ?_⟩)) (J3 _ _ _ _ h40 p41)
      ·
        refine V_lvw (by repeat (first | exact trivial | refine ⟨rfl, ?_⟩)) (J10 _ _ _ _ h40 p41)
  refine V_aload_0 0 dX9_hang_0 ?_
  refine V_iload_1 1 dX9_hang_1 ?_
  refine V_callV 2 (ci := 9) [.int _] _ (s_oldName2 M.2.1 Γ S F _) dX9_hang_2 cb_X9_oldName ml_RX9_123 im_yX9_oldName se_yX9_oldName (F.m 0 (Nat.le_of_ble_eq_true rfl)) (F.k 0 9 rfl) (Nat.le_of_ble_eq_true rfl) ⟨(Nat.le_of_ble_eq_true rfl), (Nat.le_of_ble_eq_true rfl)⟩ rfl rfl (Nat.le_of_ble_eq_true rfl) ⟨(Nat.le_of_ble_eq_true rfl), (Nat.le_of_ble_eq_true rfl)⟩ (RI.go (fun r47 S45 q46 => ?_))
  have h48 : FZ [t + 19, t + 20] [(t, 3), (t, 4), (t + 12, 0), (t + 12, 1), (t + 12, 13)] S S45 := (FZ.rf (X := [t + 19, t + 20]) (Y := [(t, 3), (t, 4), (t + 12, 0), (t + 12, 1), (t + 12, 13)]) (S := S)).tr (q46.1.sub (by simp) (by simp))
  have p49 : (FM t S S45) := by exact (FM.rf (t := t) (S := S)).tr q46.2
  refine V_istore_3 5 dX9_hang_5 rfl (Nat.le_of_ble_eq_true rfl) ?_
  refine V_iload_3 6 dX9_hang_6 ?_
  refine V_iconst 7 (-1) dX9_hang_7 (by decide) ?_
  refine V_icmp_ne 8 12 dX9_hang_8 (by decide) (fun c50 => ?_) (fun c50 => ?_)
  ·
    refine V_aload_0 12 dX9_hang_12 ?_
    refine V_getR 13 (c := 9) 2 ((F.ss h48.1).r 0 2 12 rfl) dX9_hang_13 fl_RX9_26 ((F.ss h48.1).m 0 (Nat.le_of_ble_eq_true rfl)) ((F.ss h48.1).k 0 9 rfl) (Nat.le_of_ble_eq_true rfl) (Nat.le_of_ble_eq_true rfl) rfl ?_
    refine V_getR 16 (c := 10) 6 ((F.ss h48.1).r 12 6 17 rfl) dX9_hang_16 fl_RX9_137 ((F.ss h48.1).m 12 (Nat.le_of_ble_eq_true rfl)) ((F.ss h48.1).k 12 10 rfl) (Nat.le_of_ble_eq_true rfl) (Nat.le_of_ble_eq_true rfl) rfl ?_
    refine V_iload_3 19 dX9_hang_19 ?_
    refine V_callSN 20 [.ref _, .int _] _ (c_at M.2.1 Γ S45 (a := (t + 17)) ((F.ss h48.1).m 17 (Nat.le_of_ble_eq_true rfl)) ((F.ss h48.1).k 17 14 rfl) (by rw [((F.ss h48.1).l 17 8 rfl)]; decide) _) dX9_hang_20 cb_X11_at ne_RX9_140 sm_yX11_at ⟨(Nat.le_of_ble_eq_true rfl), (Nat.le_of_ble_eq_true rfl)⟩ rfl rfl (Nat.le_of_ble_eq_true rfl) ⟨(Nat.le_of_ble_eq_true rfl), (Nat.le_of_ble_eq_true rfl)⟩ (RI.go (fun r53 S51 q52 => ?_))
    rw [q52.2]
    refine V_istore_4 23 dX9_hang_23 rfl (Nat.le_of_ble_eq_true rfl) ?_
    refine V_aload_0 25 dX9_hang_25 ?_
    refine V_getR 26 (c := 9) 2 ((F.ss h48.1).r 0 2 12 rfl) dX9_hang_26 fl_RX9_26 ((F.ss h48.1).m 0 (Nat.le_of_ble_eq_true rfl)) ((F.ss h48.1).k 0 9 rfl) (Nat.le_of_ble_eq_true rfl) (Nat.le_of_ble_eq_true rfl) rfl ?_
    refine V_getR 29 (c := 10) 3 ((F.ss h48.1).r 12 3 14 rfl) dX9_hang_29 fl_RX9_144 ((F.ss h48.1).m 12 (Nat.le_of_ble_eq_true rfl)) ((F.ss h48.1).k 12 10 rfl) (Nat.le_of_ble_eq_true rfl) (Nat.le_of_ble_eq_true rfl) rfl ?_
    refine V_iload_4 32 dX9_hang_32 ?_
    refine V_callSN 34 [.ref _, .int _] _ (c_at M.2.1 Γ S45 (a := (t + 14)) ((F.ss h48.1).m 14 (Nat.le_of_ble_eq_true rfl)) ((F.ss h48.1).k 14 14 rfl) (by rw [((F.ss h48.1).l 14 8 rfl)]; decide) _) dX9_hang_34 cb_X11_at ne_RX9_140 sm_yX11_at ⟨(Nat.le_of_ble_eq_true rfl), (Nat.le_of_ble_eq_true rfl)⟩ rfl rfl (Nat.le_of_ble_eq_true rfl) ⟨(Nat.le_of_ble_eq_true rfl), (Nat.le_of_ble_eq_true rfl)⟩ (RI.go (fun r56 S54 q55 => ?_))
    rw [q55.2]
    refine V_istore_5 37 dX9_hang_37 rfl (Nat.le_of_ble_eq_true rfl) ?_
    refine V_iload_2 39 dX9_hang_39 ?_
    refine V_if_eq 40 50 dX9_hang_40 (by decide) (fun c57 => ?_) (fun c57 => ?_)
    ·
      refine V_lvw (by repeat (first | exact trivial | refine ⟨rfl, ?_⟩)) (J23 _ _ _ _ h48 p49)
    ·
      refine V_iload_5 43 dX9_hang_43 ?_
      refine V_iload_4 45 dX9_hang_45 ?_
      refine V_icmp_eq 47 71 dX9_hang_47 (by decide) (fun c59 => ?_) (fun c59 => ?_)
      ·
        refine V_lvw (by repeat (first | exact trivial | refine ⟨rfl, ?_⟩)) (J10 _ _ _ _ h48 p49)
      ·
        refine V_lvw (by repeat (first | exact trivial | refine ⟨rfl, ?_⟩)) (J23 _ _ _ _ h48 p49)
  ·
    refine V_vret 11 dX9_hang_11 rfl (Nat.le_of_ble_eq_true rfl) (Nat.le_of_ble_eq_true rfl) (RV.mk ⟨h48, p49⟩)

