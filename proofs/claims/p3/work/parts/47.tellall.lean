/-! Teller: all of it -/
set_option maxRecDepth 100000 in
set_option maxHeartbeats 8000000 in
theorem s_tellLine (l : Launch) (Γ : GC) (S : PS) {t : Nat} (F : isL lyTeller Γ.2.2.2.2.1 S t) (x : Int32) : CT l Γ yX9_tellLine cX9_tellLine 3 none (4) (0) (0) [.ref t, .int x] S (RV (fun S' => FZ [t + 19, t + 20] [(t, 3), (t, 4), (t + 12, 0), (t + 12, 1), (t + 12, 13)] S S' ∧ FM t S S')) := by
  refine CT.of RX9 "tellLine" [some (.ref t), some (.int x), none] (by decide +kernel) rfl rfl (Nat.le_of_ble_eq_true rfl) rfl (fun M hM => ?_)
  subst hM
  have J3 : ∀ (S1 : PS) (x4 : Int32), FZ [t + 19, t + 20] [(t, 3), (t, 4), (t + 12, 0), (t + 12, 1), (t + 12, 13)] S S1 → (FM t S S1) → V M Γ (3, RX9, "tellLine", none, RM (4) (0) (0)) cX9_tellLine (RQ M Γ (RV (fun S' => FZ [t + 19, t + 20] [(t, 3), (t, 4), (t + 12, 0), (t + 12, 1), (t + 12, 13)] S S' ∧ FM t S S')) (0) (0)) 0 0 S1 84 [some (.ref t), some (.int x), some (.int x4)] [] := by
    intro S1 x4 h2 p5
    refine V_vret 84 dX9_tellLine_84 rfl (Nat.le_of_ble_eq_true rfl) (Nat.le_of_ble_eq_true rfl) (RV.mk ⟨h2, p5⟩)
  refine V_aload_0 0 dX9_tellLine_0 ?_
  refine V_getR 1 (c := 9) 2 (F.r 0 2 12 rfl) dX9_tellLine_1 fl_RX9_26 (F.m 0 (Nat.le_of_ble_eq_true rfl)) (F.k 0 9 rfl) (Nat.le_of_ble_eq_true rfl) (Nat.le_of_ble_eq_true rfl) rfl ?_
  refine V_callV 4 (ci := 10) [] _ (s_takeLine M.2.1 Γ S (F.sub 12 lyText rfl (by decide))) dX9_tellLine_4 cb_X10_takeLineAway ml_RX9_130 im_yX10_takeLineAway se_yX10_takeLineAway (F.m 12 (Nat.le_of_ble_eq_true rfl)) (F.k 12 10 rfl) (Nat.le_of_ble_eq_true rfl) ⟨(Nat.le_of_ble_eq_true rfl), (Nat.le_of_ble_eq_true rfl)⟩ rfl rfl (Nat.le_of_ble_eq_true rfl) ⟨(Nat.le_of_ble_eq_true rfl), (Nat.le_of_ble_eq_true rfl)⟩ (RV.go (fun S6 q7 => ?_))
  have h9 : FZ [t + 19, t + 20] [(t, 3), (t, 4), (t + 12, 0), (t + 12, 1), (t + 12, 13)] S S6 := (FZ.rf (X := [t + 19, t + 20]) (Y := [(t, 3), (t, 4), (t + 12, 0), (t + 12, 1), (t + 12, 13)]) (S := S)).tr (q7.sub (by simp) (by simp))
  have p10 : (FM t S S6) := by exact (FM.rf (t := t) (S := S)).tr (FM.of q7 (by simp))
  refine V_iload_1 7 dX9_tellLine_7 ?_
  refine V_istore_2 8 dX9_tellLine_8 rfl (Nat.le_of_ble_eq_true rfl) ?_
  refine V_lvw (by repeat (first | exact trivial | refine ⟨rfl, ?_⟩)) (V_while (α := Int32 × PS) (fun z11 => ((sI S (t + 2) 5).toInt - z11.1.toInt).toNat) (fun z11 => FZ [t + 19, t + 20] [(t, 3), (t, 4), (t + 12, 0), (t + 12, 1), (t + 12, 13)] S z11.2 ∧ (FM t S z11.2)) (fun z11 => z11.2) (fun z11 => [some (.ref t), some (.int x), some (.int z11.1)]) (_, _) ⟨h9, p10⟩ (fun z11 h15 ih16 => ?b18))
  obtain ⟨i12, S13⟩ := z11
  dsimp only at h15 ih16 ⊢
  obtain ⟨h21, p20⟩ := h15
  have J24 : ∀ (S22 : PS) , FZ [t + 19, t + 20] [(t, 3), (t, 4), (t + 12, 0), (t + 12, 1), (t + 12, 13)] S S22 → (FM t S S22) → ¬ sI S (t + 2) 5 ≤ i12 → V M Γ (3, RX9, "tellLine", none, RM (4) (0) (0)) cX9_tellLine (RQ M Γ (RV (fun S' => FZ [t + 19, t + 20] [(t, 3), (t, 4), (t + 12, 0), (t + 12, 1), (t + 12, 13)] S S' ∧ FM t S S')) (0) (0)) 0 0 S22 78 [some (.ref t), some (.int x), some (.int i12)] [] := by
    intro S22  h23 p25 lt26
    refine V_iinc_2 78 (1) dX9_tellLine_78 (by decide) rfl (Nat.le_of_ble_eq_true rfl) ?_
    refine V_goto 81 9 dX9_tellLine_81 (by decide) ?_
    refine V_lvw (by repeat (first | exact trivial | refine ⟨rfl, ?_⟩)) (ih16 (_, _) ⟨h23, p25⟩ (up32 (by first | assumption | (rw [← h21.2.2 (t + 2) 5 (by simp)]; assumption))))
  refine V_iload_2 9 dX9_tellLine_9 ?_
  refine V_aload_0 10 dX9_tellLine_10 ?_
  refine V_getR 11 (c := 9) 1 ((F.ss h21.1).r 0 1 2 rfl) dX9_tellLine_11 fl_RX9_22 ((F.ss h21.1).m 0 (Nat.le_of_ble_eq_true rfl)) ((F.ss h21.1).k 0 9 rfl) (Nat.le_of_ble_eq_true rfl) (Nat.le_of_ble_eq_true rfl) rfl ?_
  refine V_getI 14 (c := 8) 5 dX9_tellLine_14 fl_RX9_51 ((F.ss h21.1).m 2 (Nat.le_of_ble_eq_true rfl)) ((F.ss h21.1).k 2 8 rfl) (Nat.le_of_ble_eq_true rfl) (Nat.le_of_ble_eq_true rfl) rfl ?_
  refine V_icmp_ge 17 84 dX9_tellLine_17 (by decide) (fun c27 => ?_) (fun c27 => ?_)
  ·
    refine V_lvw (by repeat (first | exact trivial | refine ⟨rfl, ?_⟩)) (J3 _ _ h21 p20)
  ·
    refine V_aload_0 20 dX9_tellLine_20 ?_
    refine V_getI 21 (c := 9) 3 dX9_tellLine_21 fl_RX9_44 ((F.ss h21.1).m 0 (Nat.le_of_ble_eq_true rfl)) ((F.ss h21.1).k 0 9 rfl) (Nat.le_of_ble_eq_true rfl) (Nat.le_of_ble_eq_true rfl) rfl ?_
    refine V_if_ne 24 84 dX9_tellLine_24 (by decide) (fun c29 => ?_) (fun c29 => ?_)
    ·
      refine V_lvw (by repeat (first | exact trivial | refine ⟨rfl, ?_⟩)) (J3 _ _ h21 p20)
    ·
      refine V_aload_0 27 dX9_tellLine_27 ?_
      refine V_getR 28 (c := 9) 1 ((F.ss h21.1).r 0 1 2 rfl) dX9_tellLine_28 fl_RX9_22 ((F.ss h21.1).m 0 (Nat.le_of_ble_eq_true rfl)) ((F.ss h21.1).k 0 9 rfl) (Nat.le_of_ble_eq_true rfl) (Nat.le_of_ble_eq_true rfl) rfl ?_
      refine V_iload_2 31 dX9_tellLine_31 ?_
      refine V_callV 32 (ci := 8) [.int _] _ (s_typeAt M.2.1 Γ S13 ((F.ss h21.1).sub 2 lyTape rfl (by decide)) _) dX9_tellLine_32 cb_X8_typeAt ml_RX9_60 im_yX8_typeAt se_yX8_typeAt ((F.ss h21.1).m 2 (Nat.le_of_ble_eq_true rfl)) ((F.ss h21.1).k 2 8 rfl) (Nat.le_of_ble_eq_true rfl) ⟨(Nat.le_of_ble_eq_true rfl), (Nat.le_of_ble_eq_true rfl)⟩ rfl rfl (Nat.le_of_ble_eq_true rfl) ⟨(Nat.le_of_ble_eq_true rfl), (Nat.le_of_ble_eq_true rfl)⟩ (RI.go (fun r33 S31 q32 => ?_))
      have h34 : FZ [t + 19, t + 20] [(t, 3), (t, 4), (t + 12, 0), (t + 12, 1), (t + 12, 13)] S S31 := h21.tr (q32.sub (by simp) (by simp))
      have p35 : (FM t S S31) := by exact p20.tr (FM.of q32 (by simp))
      refine V_bipush 35 (59) dX9_tellLine_35 (by decide) ?_
      refine V_icmp_eq 37 84 dX9_tellLine_37 (by decide) (fun c36 => ?_) (fun c36 => ?_)
      ·
        refine V_lvw (by repeat (first | exact trivial | refine ⟨rfl, ?_⟩)) (J3 _ _ h34 p35)
      ·
        refine V_aload_0 40 dX9_tellLine_40 ?_
        refine V_getR 41 (c := 9) 1 ((F.ss h34.1).r 0 1 2 rfl) dX9_tellLine_41 fl_RX9_22 ((F.ss h34.1).m 0 (Nat.le_of_ble_eq_true rfl)) ((F.ss h34.1).k 0 9 rfl) (Nat.le_of_ble_eq_true rfl) (Nat.le_of_ble_eq_true rfl) rfl ?_
        refine V_iload_2 44 dX9_tellLine_44 ?_
        refine V_callV 45 (ci := 8) [.int _] _ (s_typeAt M.2.1 Γ S31 ((F.ss h34.1).sub 2 lyTape rfl (by decide)) _) dX9_tellLine_45 cb_X8_typeAt ml_RX9_60 im_yX8_typeAt se_yX8_typeAt ((F.ss h34.1).m 2 (Nat.le_of_ble_eq_true rfl)) ((F.ss h34.1).k 2 8 rfl) (Nat.le_of_ble_eq_true rfl) ⟨(Nat.le_of_ble_eq_true rfl), (Nat.le_of_ble_eq_true rfl)⟩ rfl rfl (Nat.le_of_ble_eq_true rfl) ⟨(Nat.le_of_ble_eq_true rfl), (Nat.le_of_ble_eq_true rfl)⟩ (RI.go (fun r40 S38 q39 => ?_))
        have h41 : FZ [t + 19, t + 20] [(t, 3), (t, 4), (t + 12, 0), (t + 12, 1), (t + 12, 13)] S S38 := h34.tr (q39.sub (by simp) (by simp))
        have p42 : (FM t S S38) := by exact p35.tr (FM.of q39 (by simp))
        refine V_iconst 48 (1) dX9_tellLine_48 (by decide) ?_
        refine V_icmp_ne 49 78 dX9_tellLine_49 (by decide) (fun c43 => ?_) (fun c43 => ?_)
        ·
          refine V_lvw (by repeat (first | exact trivial | refine ⟨rfl, ?_⟩)) (J24 _ h41 p42 (by first | omega | assumption | (rw [← h21.2.2 (t + 2) 5 (by simp)]; assumption)))
        ·
          refine V_aload_0 52 dX9_tellLine_52 ?_
          refine V_iload_2 53 dX9_tellLine_53 ?_
          refine V_aload_0 54 dX9_tellLine_54 ?_
          refine V_getR 55 (c := 9) 1 ((F.ss h41.1).r 0 1 2 rfl) dX9_tellLine_55 fl_RX9_22 ((F.ss h41.1).m 0 (Nat.le_of_ble_eq_true rfl)) ((F.ss h41.1).k 0 9 rfl) (Nat.le_of_ble_eq_true rfl) (Nat.le_of_ble_eq_true rfl) rfl ?_
          refine V_iload_2 58 dX9_tellLine_58 ?_
          refine V_iconst 59 (1) dX9_tellLine_59 (by decide) ?_
          refine V_isub 60 dX9_tellLine_60 ?_
          refine V_callV 61 (ci := 8) [.int _] _ (s_typeAt M.2.1 Γ S38 ((F.ss h41.1).sub 2 lyTape rfl (by decide)) _) dX9_tellLine_61 cb_X8_typeAt ml_RX9_60 im_yX8_typeAt se_yX8_typeAt ((F.ss h41.1).m 2 (Nat.le_of_ble_eq_true rfl)) ((F.ss h41.1).k 2 8 rfl) (Nat.le_of_ble_eq_true rfl) ⟨(Nat.le_of_ble_eq_true rfl), (Nat.le_of_ble_eq_true rfl)⟩ rfl rfl (Nat.le_of_ble_eq_true rfl) ⟨(Nat.le_of_ble_eq_true rfl), (Nat.le_of_ble_eq_true rfl)⟩ (RI.go (fun r47 S45 q46 => ?_))
          have h48 : FZ [t + 19, t + 20] [(t, 3), (t, 4), (t + 12, 0), (t + 12, 1), (t + 12, 13)] S S45 := h41.tr (q46.sub (by simp) (by simp))
          have p49 : (FM t S S45) := by exact p42.tr (FM.of q46 (by simp))
          refine V_sipush 64 (139) dX9_tellLine_64 (by decide) ?_
          refine V_icmp_ne 67 74 dX9_tellLine_67 (by decide) (fun c50 => ?_) (fun c50 => ?_)
          ·
            refine V_iconst 74 (0) dX9_tellLine_74 (by decide) ?_
            refine V_callV 75 (ci := 9) [.int _, .int _] _ (s_thang M.2.1 Γ S45 (F.ss h48.1) _ _) dX9_tellLine_75 cb_X9_hang ml_RX9_133 im_yX9_hang se_yX9_hang ((F.ss h48.1).m 0 (Nat.le_of_ble_eq_true rfl)) ((F.ss h48.1).k 0 9 rfl) (Nat.le_of_ble_eq_true rfl) ⟨(Nat.le_of_ble_eq_true rfl), (Nat.le_of_ble_eq_true rfl)⟩ rfl rfl (Nat.le_of_ble_eq_true rfl) ⟨(Nat.le_of_ble_eq_true rfl), (Nat.le_of_ble_eq_true rfl)⟩ (RV.go (fun S51 q52 => ?_))
            have h54 : FZ [t + 19, t + 20] [(t, 3), (t, 4), (t + 12, 0), (t + 12, 1), (t + 12, 13)] S S51 := h48.tr (q52.1.sub (by simp) (by simp))
            have p55 : (FM t S S51) := by exact p49.tr q52.2
            refine V_lvw (by repeat (first | exact trivial | refine ⟨rfl, ?_⟩)) (J24 _ h54 p55 (by first | omega | assumption | (rw [← h21.2.2 (t + 2) 5 (by simp)]; assumption)))
          ·
            refine V_iconst 70 (1) dX9_tellLine_70 (by decide) ?_
            refine V_goto 71 75 dX9_tellLine_71 (by decide) ?_
            refine V_callV 75 (ci := 9) [.int _, .int _] _ (s_thang M.2.1 Γ S45 (F.ss h48.1) _ _) dX9_tellLine_75 cb_X9_hang ml_RX9_133 im_yX9_hang se_yX9_hang ((F.ss h48.1).m 0 (Nat.le_of_ble_eq_true rfl)) ((F.ss h48.1).k 0 9 rfl) (Nat.le_of_ble_eq_true rfl) ⟨(Nat.le_of_ble_eq_true rfl), (Nat.le_of_ble_eq_true rfl)⟩ rfl rfl (Nat.le_of_ble_eq_true rfl) ⟨(Nat.le_of_ble_eq_true rfl), (Nat.le_of_ble_eq_true rfl)⟩ (RV.go (fun S57 q58 => ?_))
            have h60 : FZ [t + 19, t + 20] [(t, 3), (t, 4), (t + 12, 0), (t + 12, 1), (t + 12, 13)] S S57 := h48.tr (q58.1.sub (by simp) (by simp))
            have p61 : (FM t S S57) := by exact p49.tr q58.2
            refine V_lvw (by repeat (first | exact trivial | refine ⟨rfl, ?_⟩)) (J24 _ h60 p61 (by first | omega | assumption | (rw [← h21.2.2 (t + 2) 5 (by simp)]; assumption)))
set_option maxRecDepth 100000 in
set_option maxHeartbeats 8000000 in
theorem s_ttell (l : Launch) (Γ : GC) (S : PS) {t : Nat} (F : isL lyTeller Γ.2.2.2.2.1 S t) (x : Int32) (h : TN t S) : CT l Γ yX9_tell cX9_tell 2 none (5) (0) (0) [.ref t, .int x] S (RV (fun S' => FZ [t + 13, t + 14, t + 15, t + 17, t + 18, t + 19, t + 20] [(t, 3), (t, 4), (t + 12, 0), (t + 12, 1), (t + 12, 13), (t + 12, 8), (t + 12, 9), (t + 12, 10), (t + 12, 11)] S S' ∧ TN t S')) := by
  refine CT.of RX9 "tell" [some (.ref t), some (.int x)] (by decide +kernel) rfl rfl (Nat.le_of_ble_eq_true rfl) rfl (fun M hM => ?_)
  subst hM
  have J3 : ∀ (S1 : PS) , FZ [t + 13, t + 14, t + 15, t + 17, t + 18, t + 19, t + 20] [(t, 3), (t, 4), (t + 12, 0), (t + 12, 1), (t + 12, 13), (t + 12, 8), (t + 12, 9), (t + 12, 10), (t + 12, 11)] S S1 → (TN t S1) → V M Γ (2, RX9, "tell", none, RM (5) (0) (0)) cX9_tell (RQ M Γ (RV (fun S' => FZ [t + 13, t + 14, t + 15, t + 17, t + 18, t + 19, t + 20] [(t, 3), (t, 4), (t + 12, 0), (t + 12, 1), (t + 12, 13), (t + 12, 8), (t + 12, 9), (t + 12, 10), (t + 12, 11)] S S' ∧ TN t S')) (0) (0)) 0 0 S1 194 [some (.ref t), some (.int x)] [] := by
    intro S1  h2 p4
    refine V_vret 194 dX9_tell_194 rfl (Nat.le_of_ble_eq_true rfl) (Nat.le_of_ble_eq_true rfl) (RV.mk ⟨h2, p4⟩)
  refine V_aload_0 0 dX9_tell_0 ?_
  refine V_getR 1 (c := 9) 1 (F.r 0 1 2 rfl) dX9_tell_1 fl_RX9_22 (F.m 0 (Nat.le_of_ble_eq_true rfl)) (F.k 0 9 rfl) (Nat.le_of_ble_eq_true rfl) (Nat.le_of_ble_eq_true rfl) rfl ?_
  refine V_iload_1 4 dX9_tell_4 ?_
  refine V_callV 5 (ci := 8) [.int _] _ (s_typeAt M.2.1 Γ S (F.sub 2 lyTape rfl (by decide)) _) dX9_tell_5 cb_X8_typeAt ml_RX9_60 im_yX8_typeAt se_yX8_typeAt (F.m 2 (Nat.le_of_ble_eq_true rfl)) (F.k 2 8 rfl) (Nat.le_of_ble_eq_true rfl) ⟨(Nat.le_of_ble_eq_true rfl), (Nat.le_of_ble_eq_true rfl)⟩ rfl rfl (Nat.le_of_ble_eq_true rfl) ⟨(Nat.le_of_ble_eq_true rfl), (Nat.le_of_ble_eq_true rfl)⟩ (RI.go (fun r7 S5 q6 => ?_))
  have h8 : FZ [t + 13, t + 14, t + 15, t + 17, t + 18, t + 19, t + 20] [(t, 3), (t, 4), (t + 12, 0), (t + 12, 1), (t + 12, 13), (t + 12, 8), (t + 12, 9), (t + 12, 10), (t + 12, 11)] S S5 := (FZ.rf (X := [t + 13, t + 14, t + 15, t + 17, t + 18, t + 19, t + 20]) (Y := [(t, 3), (t, 4), (t + 12, 0), (t + 12, 1), (t + 12, 13), (t + 12, 8), (t + 12, 9), (t + 12, 10), (t + 12, 11)]) (S := S)).tr (q6.sub (by simp) (by simp))
  have p9 : (TN t S5) := by exact h.fz q6 (by simp) (FM.of q6 (by simp))
  refine V_tsw (128) (140) (fun q10 => ?_) (fun q10 => ?_)
  ·
    refine V_tableOut 8 194 dX9_tell_8 q10 (by decide) ?_
    refine V_lvw (by repeat (first | exact trivial | refine ⟨rfl, ?_⟩)) (J3 _ h8 p9)
  refine V_teq (128) (fun e12 => ?_) (fun e12 => ?_)
  ·
    refine V_tableIn 8 76 (off := 68) dX9_tell_8 (by omega) (by omega) (by rw [e12]; rfl) (by decide) ?_
    refine V_aload_0 76 dX9_tell_76 ?_
    refine V_iload_1 77 dX9_tell_77 ?_
    refine V_callV 78 (ci := 9) [.int _] _ (s_tellSock M.2.1 Γ S5 (F.ss h8.1) _ p9) dX9_tell_78 cb_X9_tellSock ml_RX9_64 im_yX9_tellSock se_yX9_tellSock ((F.ss h8.1).m 0 (Nat.le_of_ble_eq_true rfl)) ((F.ss h8.1).k 0 9 rfl) (Nat.le_of_ble_eq_true rfl) ⟨(Nat.le_of_ble_eq_true rfl), (Nat.le_of_ble_eq_true rfl)⟩ rfl rfl (Nat.le_of_ble_eq_true rfl) ⟨(Nat.le_of_ble_eq_true rfl), (Nat.le_of_ble_eq_true rfl)⟩ (RV.go (fun S13 q14 => ?_))
    have h16 : FZ [t + 13, t + 14, t + 15, t + 17, t + 18, t + 19, t + 20] [(t, 3), (t, 4), (t + 12, 0), (t + 12, 1), (t + 12, 13), (t + 12, 8), (t + 12, 9), (t + 12, 10), (t + 12, 11)] S S13 := h8.tr (q14.1.sub (by simp) (by simp))
    have p17 : (TN t S13) := by exact q14.2
    refine V_goto 81 194 dX9_tell_81 (by decide) ?_
    refine V_lvw (by repeat (first | exact trivial | refine ⟨rfl, ?_⟩)) (J3 _ h16 p17)
  refine V_teq (129) (fun e19 => ?_) (fun e19 => ?_)
  ·
    refine V_tableIn 8 84 (off := 76) dX9_tell_8 (by omega) (by omega) (by rw [e19]; rfl) (by decide) ?_
    refine V_aload_0 84 dX9_tell_84 ?_
    refine V_iload_1 85 dX9_tell_85 ?_
    refine V_callV 86 (ci := 9) [.int _] _ (s_tellGlove M.2.1 Γ S5 (F.ss h8.1) _ p9) dX9_tell_86 cb_X9_tellGlove ml_RX9_67 im_yX9_tellGlove se_yX9_tellGlove ((F.ss h8.1).m 0 (Nat.le_of_ble_eq_true rfl)) ((F.ss h8.1).k 0 9 rfl) (Nat.le_of_ble_eq_true rfl) ⟨(Nat.le_of_ble_eq_true rfl), (Nat.le_of_ble_eq_true rfl)⟩ rfl rfl (Nat.le_of_ble_eq_true rfl) ⟨(Nat.le_of_ble_eq_true rfl), (Nat.le_of_ble_eq_true rfl)⟩ (RV.go (fun S20 q21 => ?_))
    have h23 : FZ [t + 13, t + 14, t + 15, t + 17, t + 18, t + 19, t + 20] [(t, 3), (t, 4), (t + 12, 0), (t + 12, 1), (t + 12, 13), (t + 12, 8), (t + 12, 9), (t + 12, 10), (t + 12, 11)] S S20 := h8.tr (q21.1.sub (by simp) (by simp))
    have p24 : (TN t S20) := by exact q21.2
    refine V_goto 89 194 dX9_tell_89 (by decide) ?_
    refine V_lvw (by repeat (first | exact trivial | refine ⟨rfl, ?_⟩)) (J3 _ h23 p24)
  refine V_teq (130) (fun e26 => ?_) (fun e26 => ?_)
  ·
    refine V_tableIn 8 92 (off := 84) dX9_tell_8 (by omega) (by omega) (by rw [e26]; rfl) (by decide) ?_
    refine V_aload_0 92 dX9_tell_92 ?_
    refine V_iload_1 93 dX9_tell_93 ?_
    refine V_callV 94 (ci := 9) [.int _] _ (s_tellLike M.2.1 Γ S5 (F.ss h8.1) _) dX9_tell_94 cb_X9_tellLike ml_RX9_70 im_yX9_tellLike se_yX9_tellLike ((F.ss h8.1).m 0 (Nat.le_of_ble_eq_true rfl)) ((F.ss h8.1).k 0 9 rfl) (Nat.le_of_ble_eq_true rfl) ⟨(Nat.le_of_ble_eq_true rfl), (Nat.le_of_ble_eq_true rfl)⟩ rfl rfl (Nat.le_of_ble_eq_true rfl) ⟨(Nat.le_of_ble_eq_true rfl), (Nat.le_of_ble_eq_true rfl)⟩ (RV.go (fun S27 q28 => ?_))
    have h30 : FZ [t + 13, t + 14, t + 15, t + 17, t + 18, t + 19, t + 20] [(t, 3), (t, 4), (t + 12, 0), (t + 12, 1), (t + 12, 13), (t + 12, 8), (t + 12, 9), (t + 12, 10), (t + 12, 11)] S S27 := h8.tr (q28.1.sub (by simp) (by simp))
    have p31 : (TN t S27) := by exact p9.fz q28.1 (by simp) q28.2
    refine V_goto 97 194 dX9_tell_97 (by decide) ?_
    refine V_lvw (by repeat (first | exact trivial | refine ⟨rfl, ?_⟩)) (J3 _ h30 p31)
  refine V_teq (131) (fun e33 => ?_) (fun e33 => ?_)
  ·
    refine V_tableIn 8 100 (off := 92) dX9_tell_8 (by omega) (by omega) (by rw [e33]; rfl) (by decide) ?_
    refine V_aload_0 100 dX9_tell_100 ?_
    refine V_getR 101 (c := 9) 2 ((F.ss h8.1).r 0 2 12 rfl) dX9_tell_101 fl_RX9_26 ((F.ss h8.1).m 0 (Nat.le_of_ble_eq_true rfl)) ((F.ss h8.1).k 0 9 rfl) (Nat.le_of_ble_eq_true rfl) (Nat.le_of_ble_eq_true rfl) rfl ?_
    refine V_aload_0 104 dX9_tell_104 ?_
    refine V_iload_1 105 dX9_tell_105 ?_
    refine V_iconst 106 (1) dX9_tell_106 (by decide) ?_
    refine V_iadd 107 dX9_tell_107 ?_
    refine V_iconst 108 (0) dX9_tell_108 (by decide) ?_
    refine V_bipush 109 (99) dX9_tell_109 (by decide) ?_
    refine V_callV 111 (ci := 9) [.int _, .int _, .int _] _ (s_number M.2.1 Γ S5 (F.ss h8.1) _ _ _) dX9_tell_111 cb_X9_number ml_RX9_73 im_yX9_number se_yX9_number ((F.ss h8.1).m 0 (Nat.le_of_ble_eq_true rfl)) ((F.ss h8.1).k 0 9 rfl) (Nat.le_of_ble_eq_true rfl) ⟨(Nat.le_of_ble_eq_true rfl), (Nat.le_of_ble_eq_true rfl)⟩ rfl rfl (Nat.le_of_ble_eq_true rfl) ⟨(Nat.le_of_ble_eq_true rfl), (Nat.le_of_ble_eq_true rfl)⟩ (RI.go (fun r36 S34 q35 => ?_))
    have h37 : FZ [t + 13, t + 14, t + 15, t + 17, t + 18, t + 19, t + 20] [(t, 3), (t, 4), (t + 12, 0), (t + 12, 1), (t + 12, 13), (t + 12, 8), (t + 12, 9), (t + 12, 10), (t + 12, 11)] S S34 := h8.tr (q35.1.sub (by simp) (by simp))
    have p38 : (TN t S34) := by exact p9.fz q35.1 (by simp) (FM.of2 q35.2)
    refine V_putI 114 (c := 10) 8 dX9_tell_114 fl_RX9_77 ((F.ss h37.1).m 12 (Nat.le_of_ble_eq_true rfl)) ((F.ss h37.1).k 12 10 rfl) (Nat.le_of_ble_eq_true rfl) (Nat.le_of_ble_eq_true rfl) rfl (Or.inl rfl) ?_
    refine V_abs (fun T9 => FZ [t + 13, t + 14, t + 15, t + 17, t + 18, t + 19, t + 20] [(t, 3), (t, 4), (t + 12, 0), (t + 12, 1), (t + 12, 13), (t + 12, 8), (t + 12, 9), (t + 12, 10), (t + 12, 11)] S T9 ∧ (TN t T9)) ⟨h37.uI (by simp), by exact TN.uI p38 (by simp)⟩ (fun S39 hh42 => ?_)
    obtain ⟨h40, p41⟩ := hh42
    refine V_goto 117 194 dX9_tell_117 (by decide) ?_
    refine V_lvw (by repeat (first | exact trivial | refine ⟨rfl, ?_⟩)) (J3 _ h40 p41)
  refine V_teq (132) (fun e44 => ?_) (fun e44 => ?_)
  ·
    refine V_tableIn 8 120 (off := 112) dX9_tell_8 (by omega) (by omega) (by rw [e44]; rfl) (by decide) ?_
    refine V_aload_0 120 dX9_tell_120 ?_
    refine V_getR 121 (c := 9) 2 ((F.ss h8.1).r 0 2 12 rfl) dX9_tell_121 fl_RX9_26 ((F.ss h8.1).m 0 (Nat.le_of_ble_eq_true rfl)) ((F.ss h8.1).k 0 9 rfl) (Nat.le_of_ble_eq_true rfl) (Nat.le_of_ble_eq_true rfl) rfl ?_
    refine V_aload_0 124 dX9_tell_124 ?_
    refine V_iload_1 125 dX9_tell_125 ?_
    refine V_iconst 126 (1) dX9_tell_126 (by decide) ?_
    refine V_iadd 127 dX9_tell_127 ?_
    refine V_iconst 128 (1) dX9_tell_128 (by decide) ?_
    refine V_bipush 129 (18) dX9_tell_129 (by decide) ?_
    refine V_callV 131 (ci := 9) [.int _, .int _, .int _] _ (s_number M.2.1 Γ S5 (F.ss h8.1) _ _ _) dX9_tell_131 cb_X9_number ml_RX9_73 im_yX9_number se_yX9_number ((F.ss h8.1).m 0 (Nat.le_of_ble_eq_true rfl)) ((F.ss h8.1).k 0 9 rfl) (Nat.le_of_ble_eq_true rfl) ⟨(Nat.le_of_ble_eq_true rfl), (Nat.le_of_ble_eq_true rfl)⟩ rfl rfl (Nat.le_of_ble_eq_true rfl) ⟨(Nat.le_of_ble_eq_true rfl), (Nat.le_of_ble_eq_true rfl)⟩ (RI.go (fun r47 S45 q46 => ?_))
    have h48 : FZ [t + 13, t + 14, t + 15, t + 17, t + 18, t + 19, t + 20] [(t, 3), (t, 4), (t + 12, 0), (t + 12, 1), (t + 12, 13), (t + 12, 8), (t + 12, 9), (t + 12, 10), (t + 12, 11)] S S45 := h8.tr (q46.1.sub (by simp) (by simp))
    have p49 : (TN t S45) := by exact p9.fz q46.1 (by simp) (FM.of2 q46.2)
    refine V_putI 134 (c := 10) 9 dX9_tell_134 fl_RX9_80 ((F.ss h48.1).m 12 (Nat.le_of_ble_eq_true rfl)) ((F.ss h48.1).k 12 10 rfl) (Nat.le_of_ble_eq_true rfl) (Nat.le_of_ble_eq_true rfl) rfl (Or.inl rfl) ?_
    refine V_abs (fun T9 => FZ [t + 13, t + 14, t + 15, t + 17, t + 18, t + 19, t + 20] [(t, 3), (t, 4), (t + 12, 0), (t + 12, 1), (t + 12, 13), (t + 12, 8), (t + 12, 9), (t + 12, 10), (t + 12, 11)] S T9 ∧ (TN t T9)) ⟨h48.uI (by simp), by exact TN.uI p49 (by simp)⟩ (fun S50 hh53 => ?_)
    obtain ⟨h51, p52⟩ := hh53
    refine V_goto 137 194 dX9_tell_137 (by decide) ?_
    refine V_lvw (by repeat (first | exact trivial | refine ⟨rfl, ?_⟩)) (J3 _ h51 p52)
  refine V_teq (133) (fun e55 => ?_) (fun e55 => ?_)
  ·
    refine V_tableIn 8 140 (off := 132) dX9_tell_8 (by omega) (by omega) (by rw [e55]; rfl) (by decide) ?_
    refine V_aload_0 140 dX9_tell_140 ?_
    refine V_getR 141 (c := 9) 2 ((F.ss h8.1).r 0 2 12 rfl) dX9_tell_141 fl_RX9_26 ((F.ss h8.1).m 0 (Nat.le_of_ble_eq_true rfl)) ((F.ss h8.1).k 0 9 rfl) (Nat.le_of_ble_eq_true rfl) (Nat.le_of_ble_eq_true rfl) rfl ?_
    refine V_aload_0 144 dX9_tell_144 ?_
    refine V_getR 145 (c := 9) 1 ((F.ss h8.1).r 0 1 2 rfl) dX9_tell_145 fl_RX9_22 ((F.ss h8.1).m 0 (Nat.le_of_ble_eq_true rfl)) ((F.ss h8.1).k 0 9 rfl) (Nat.le_of_ble_eq_true rfl) (Nat.le_of_ble_eq_true rfl) rfl ?_
    refine V_iload_1 148 dX9_tell_148 ?_
    refine V_iconst 149 (1) dX9_tell_149 (by decide) ?_
    refine V_iadd 150 dX9_tell_150 ?_
    refine V_callV 151 (ci := 8) [.int _] _ (s_typeAt M.2.1 Γ S5 ((F.ss h8.1).sub 2 lyTape rfl (by decide)) _) dX9_tell_151 cb_X8_typeAt ml_RX9_60 im_yX8_typeAt se_yX8_typeAt ((F.ss h8.1).m 2 (Nat.le_of_ble_eq_true rfl)) ((F.ss h8.1).k 2 8 rfl) (Nat.le_of_ble_eq_true rfl) ⟨(Nat.le_of_ble_eq_true rfl), (Nat.le_of_ble_eq_true rfl)⟩ rfl rfl (Nat.le_of_ble_eq_true rfl) ⟨(Nat.le_of_ble_eq_true rfl), (Nat.le_of_ble_eq_true rfl)⟩ (RI.go (fun r58 S56 q57 => ?_))
    have h59 : FZ [t + 13, t + 14, t + 15, t + 17, t + 18, t + 19, t + 20] [(t, 3), (t, 4), (t + 12, 0), (t + 12, 1), (t + 12, 13), (t + 12, 8), (t + 12, 9), (t + 12, 10), (t + 12, 11)] S S56 := h8.tr (q57.sub (by simp) (by simp))
    have p60 : (TN t S56) := by exact p9.fz q57 (by simp) (FM.of q57 (by simp))
    refine V_sipush 154 (134) dX9_tell_154 (by decide) ?_
    refine V_isub 157 dX9_tell_157 ?_
    refine V_putI 158 (c := 10) 10 dX9_tell_158 fl_RX9_83 ((F.ss h59.1).m 12 (Nat.le_of_ble_eq_true rfl)) ((F.ss h59.1).k 12 10 rfl) (Nat.le_of_ble_eq_true rfl) (Nat.le_of_ble_eq_true rfl) rfl (Or.inl rfl) ?_
    refine V_abs (fun T9 => FZ [t + 13, t + 14, t + 15, t + 17, t + 18, t + 19, t + 20] [(t, 3), (t, 4), (t + 12, 0), (t + 12, 1), (t + 12, 13), (t + 12, 8), (t + 12, 9), (t + 12, 10), (t + 12, 11)] S T9 ∧ (TN t T9)) ⟨h59.uI (by simp), by exact TN.uI p60 (by simp)⟩ (fun S61 hh64 => ?_)
    obtain ⟨h62, p63⟩ := hh64
    refine V_goto 161 194 dX9_tell_161 (by decide) ?_
    refine V_lvw (by repeat (first | exact trivial | refine ⟨rfl, ?_⟩)) (J3 _ h62 p63)
  refine V_teq (134) (fun e66 => ?_) (fun e66 => ?_)
  ·
    refine V_tableIn 8 194 (off := 186) dX9_tell_8 (by omega) (by omega) (by rw [e66]; rfl) (by decide) ?_
    refine V_lvw (by repeat (first | exact trivial | refine ⟨rfl, ?_⟩)) (J3 _ h8 p9)
  refine V_teq (135) (fun e68 => ?_) (fun e68 => ?_)
  ·
    refine V_tableIn 8 194 (off := 186) dX9_tell_8 (by omega) (by omega) (by rw [e68]; rfl) (by decide) ?_
    refine V_lvw (by repeat (first | exact trivial | refine ⟨rfl, ?_⟩)) (J3 _ h8 p9)
  refine V_teq (136) (fun e70 => ?_) (fun e70 => ?_)
  ·
    refine V_tableIn 8 194 (off := 186) dX9_tell_8 (by omega) (by omega) (by rw [e70]; rfl) (by decide) ?_
    refine V_lvw (by repeat (first | exact trivial | refine ⟨rfl, ?_⟩)) (J3 _ h8 p9)
  refine V_teq (137) (fun e72 => ?_) (fun e72 => ?_)
  ·
    refine V_tableIn 8 194 (off := 186) dX9_tell_8 (by omega) (by omega) (by rw [e72]; rfl) (by decide) ?_
    refine V_lvw (by repeat (first | exact trivial | refine ⟨rfl, ?_⟩)) (J3 _ h8 p9)
  refine V_teq (138) (fun e74 => ?_) (fun e74 => ?_)
  ·
    refine V_tableIn 8 164 (off := 156) dX9_tell_8 (by omega) (by omega) (by rw [e74]; rfl) (by decide) ?_
    refine V_aload_0 164 dX9_tell_164 ?_
    refine V_iload_1 165 dX9_tell_165 ?_
    refine V_iconst 166 (1) dX9_tell_166 (by decide) ?_
    refine V_iadd 167 dX9_tell_167 ?_
    refine V_callV 168 (ci := 9) [.int _] _ (s_tellLine M.2.1 Γ S5 (F.ss h8.1) _) dX9_tell_168 cb_X9_tellLine ml_RX9_86 im_yX9_tellLine se_yX9_tellLine ((F.ss h8.1).m 0 (Nat.le_of_ble_eq_true rfl)) ((F.ss h8.1).k 0 9 rfl) (Nat.le_of_ble_eq_true rfl) ⟨(Nat.le_of_ble_eq_true rfl), (Nat.le_of_ble_eq_true rfl)⟩ rfl rfl (Nat.le_of_ble_eq_true rfl) ⟨(Nat.le_of_ble_eq_true rfl), (Nat.le_of_ble_eq_true rfl)⟩ (RV.go (fun S75 q76 => ?_))
    have h78 : FZ [t + 13, t + 14, t + 15, t + 17, t + 18, t + 19, t + 20] [(t, 3), (t, 4), (t + 12, 0), (t + 12, 1), (t + 12, 13), (t + 12, 8), (t + 12, 9), (t + 12, 10), (t + 12, 11)] S S75 := h8.tr (q76.1.sub (by simp) (by simp))
    have p79 : (TN t S75) := by exact p9.fz q76.1 (by simp) q76.2
    refine V_goto 171 194 dX9_tell_171 (by decide) ?_
    refine V_lvw (by repeat (first | exact trivial | refine ⟨rfl, ?_⟩)) (J3 _ h78 p79)
  refine V_teq (139) (fun e81 => ?_) (fun e81 => ?_)
  ·
    refine V_tableIn 8 194 (off := 186) dX9_tell_8 (by omega) (by omega) (by rw [e81]; rfl) (by decide) ?_
    refine V_lvw (by repeat (first | exact trivial | refine ⟨rfl, ?_⟩)) (J3 _ h8 p9)
  refine V_teq (140) (fun e83 => ?_) (fun e83 => ?_)
  ·
    refine V_tableIn 8 174 (off := 166) dX9_tell_8 (by omega) (by omega) (by rw [e83]; rfl) (by decide) ?_
    refine V_aload_0 174 dX9_tell_174 ?_
    refine V_getR 175 (c := 9) 2 ((F.ss h8.1).r 0 2 12 rfl) dX9_tell_175 fl_RX9_26 ((F.ss h8.1).m 0 (Nat.le_of_ble_eq_true rfl)) ((F.ss h8.1).k 0 9 rfl) (Nat.le_of_ble_eq_true rfl) (Nat.le_of_ble_eq_true rfl) rfl ?_
    refine V_aload_0 178 dX9_tell_178 ?_
    refine V_getR 179 (c := 9) 1 ((F.ss h8.1).r 0 1 2 rfl) dX9_tell_179 fl_RX9_22 ((F.ss h8.1).m 0 (Nat.le_of_ble_eq_true rfl)) ((F.ss h8.1).k 0 9 rfl) (Nat.le_of_ble_eq_true rfl) (Nat.le_of_ble_eq_true rfl) rfl ?_
    refine V_iload_1 182 dX9_tell_182 ?_
    refine V_iconst 183 (1) dX9_tell_183 (by decide) ?_
    refine V_iadd 184 dX9_tell_184 ?_
    refine V_callV 185 (ci := 8) [.int _] _ (s_intAt M.2.1 Γ S5 ((F.ss h8.1).sub 2 lyTape rfl (by decide)) _) dX9_tell_185 cb_X8_intAt ml_RX9_89 im_yX8_intAt se_yX8_intAt ((F.ss h8.1).m 2 (Nat.le_of_ble_eq_true rfl)) ((F.ss h8.1).k 2 8 rfl) (Nat.le_of_ble_eq_true rfl) ⟨(Nat.le_of_ble_eq_true rfl), (Nat.le_of_ble_eq_true rfl)⟩ rfl rfl (Nat.le_of_ble_eq_true rfl) ⟨(Nat.le_of_ble_eq_true rfl), (Nat.le_of_ble_eq_true rfl)⟩ (RI.go (fun r86 S84 q85 => ?_))
    have h87 : FZ [t + 13, t + 14, t + 15, t + 17, t + 18, t + 19, t + 20] [(t, 3), (t, 4), (t + 12, 0), (t + 12, 1), (t + 12, 13), (t + 12, 8), (t + 12, 9), (t + 12, 10), (t + 12, 11)] S S84 := h8.tr (q85.sub (by simp) (by simp))
    have p88 : (TN t S84) := by exact p9.fz q85 (by simp) (FM.of q85 (by simp))
    refine V_putI 188 (c := 10) 11 dX9_tell_188 fl_RX9_92 ((F.ss h87.1).m 12 (Nat.le_of_ble_eq_true rfl)) ((F.ss h87.1).k 12 10 rfl) (Nat.le_of_ble_eq_true rfl) (Nat.le_of_ble_eq_true rfl) rfl (Or.inl rfl) ?_
    refine V_abs (fun T9 => FZ [t + 13, t + 14, t + 15, t + 17, t + 18, t + 19, t + 20] [(t, 3), (t, 4), (t + 12, 0), (t + 12, 1), (t + 12, 13), (t + 12, 8), (t + 12, 9), (t + 12, 10), (t + 12, 11)] S T9 ∧ (TN t T9)) ⟨h87.uI (by simp), by exact TN.uI p88 (by simp)⟩ (fun S89 hh92 => ?_)
    obtain ⟨h90, p91⟩ := hh92
    refine V_goto 191 194 dX9_tell_191 (by decide) ?_
    refine V_lvw (by repeat (first | exact trivial | refine ⟨rfl, ?_⟩)) (J3 _ h90 p91)
  exact absurd (by omega) q10
set_option maxRecDepth 100000 in
set_option maxHeartbeats 8000000 in
theorem s_clear (l : Launch) (Γ : GC) (S : PS) {t : Nat} (F : isL lyText Γ.2.2.2.2.1 S t) : CT l Γ yX10_clear cX10_clear 3 none (1) (0) (0) [.ref t] S (RV (fun S' => FZ [t + 1, t + 2, t + 3, t + 6, t + 8] [(t, 0), (t, 1), (t, 8), (t, 9), (t, 10), (t, 11), (t, 13), (t + 10, 2)] S S' ∧ ∀ j, j < 8 → sA S' (t + 1) j = 0)) := by
  refine CT.of RX10 "clear" [some (.ref t), none, none] (by decide +kernel) rfl rfl (Nat.le_of_ble_eq_true rfl) rfl (fun M hM => ?_)
  subst hM
  refine V_aload_0 0 dX10_clear_0 ?_
  refine V_iconst 1 (0) dX10_clear_1 (by decide) ?_
  refine V_putI 2 (c := 10) 0 dX10_clear_2 fl_RX10_50 (F.m 0 (Nat.le_of_ble_eq_true rfl)) (F.k 0 10 rfl) (Nat.le_of_ble_eq_true rfl) (Nat.le_of_ble_eq_true rfl) rfl (Or.inl rfl) ?_
  refine V_aload_0 5 dX10_clear_5 ?_
  refine V_iconst 6 (0) dX10_clear_6 (by decide) ?_
  refine V_putI 7 (c := 10) 1 dX10_clear_7 fl_RX10_54 (F.m 0 (Nat.le_of_ble_eq_true rfl)) (F.k 0 10 rfl) (Nat.le_of_ble_eq_true rfl) (Nat.le_of_ble_eq_true rfl) rfl (Or.inl rfl) ?_
  refine V_iconst 10 (0) dX10_clear_10 (by decide) ?_
  refine V_istore_1 11 dX10_clear_11 rfl (Nat.le_of_ble_eq_true rfl) ?_
  refine V_while (α := Nat × PS × Option Value) (fun x => 8 - x.1) (fun x => x.1 ≤ 8 ∧ inv10 t (uI (uI S t 0 0) t 1 0) x.1 x.2.1) (fun x => x.2.1) (fun x => [some (.ref t), some (.int (nI x.1)), x.2.2]) (0, uI (uI S t 0 0) t 1 0, none) ⟨Nat.zero_le _, RO.rf, fun j hj => absurd hj (Nat.not_lt_zero _), fun j hj => absurd hj (Nat.not_lt_zero _)⟩ (fun x hx ih => ?_)
  obtain ⟨i, S2, c2⟩ := x
  obtain ⟨hi, hR⟩ := hx
  dsimp only at hi hR ih ⊢
  have F2 : isL lyText Γ.2.2.2.2.1 S2 t := F.ss hR.1.1
  refine V_iload_1 12 dX10_clear_12 ?_
  refine V_bipush 13 (8) dX10_clear_13 (by decide) ?_
  refine V_icmp_ge 15 83 dX10_clear_15 (by decide) (fun c => ?_) (fun c => ?_)
  ·
    have hi2 := nI_ge8 (by decide) hi c
    subst hi2
    refine V_aload_0 83 dX10_clear_83 ?_
    refine V_iconst 84 (0) dX10_clear_84 (by decide) ?_
    refine V_putI 85 (c := 10) 8 dX10_clear_85 fl_RX10_61 (F2.m 0 (Nat.le_of_ble_eq_true rfl)) (F2.k 0 10 rfl) (Nat.le_of_ble_eq_true rfl) (Nat.le_of_ble_eq_true rfl) rfl (Or.inl rfl) ?_
    refine V_aload_0 88 dX10_clear_88 ?_
    refine V_bipush 89 (18) dX10_clear_89 (by decide) ?_
    refine V_putI 91 (c := 10) 9 dX10_clear_91 fl_RX10_64 (F2.m 0 (Nat.le_of_ble_eq_true rfl)) (F2.k 0 10 rfl) (Nat.le_of_ble_eq_true rfl) (Nat.le_of_ble_eq_true rfl) rfl (Or.inl rfl) ?_
    refine V_aload_0 94 dX10_clear_94 ?_
    refine V_iconst 95 (1) dX10_clear_95 (by decide) ?_
    refine V_putI 96 (c := 10) 10 dX10_clear_96 fl_RX10_67 (F2.m 0 (Nat.le_of_ble_eq_true rfl)) (F2.k 0 10 rfl) (Nat.le_of_ble_eq_true rfl) (Nat.le_of_ble_eq_true rfl) rfl (Or.inl rfl) ?_
    refine V_aload_0 99 dX10_clear_99 ?_
    refine V_iconst 100 (0) dX10_clear_100 (by decide) ?_
    refine V_putI 101 (c := 10) 11 dX10_clear_101 fl_RX10_70 (F2.m 0 (Nat.le_of_ble_eq_true rfl)) (F2.k 0 10 rfl) (Nat.le_of_ble_eq_true rfl) (Nat.le_of_ble_eq_true rfl) rfl (Or.inl rfl) ?_
    refine V_aload_0 104 dX10_clear_104 ?_
    refine V_callV 105 (ci := 10) [] _ (c_X10_takeLineAway M.2.1 Γ _ (t := t) F2) dX10_clear_105 cb_X10_takeLineAway ml_RX10_73 im_yX10_takeLineAway se_yX10_takeLineAway (F2.m 0 (Nat.le_of_ble_eq_true rfl)) (F2.k 0 10 rfl) (Nat.le_of_ble_eq_true rfl) ⟨(Nat.le_of_ble_eq_true rfl), (Nat.le_of_ble_eq_true rfl)⟩ rfl rfl (Nat.le_of_ble_eq_true rfl) ⟨(Nat.le_of_ble_eq_true rfl), (Nat.le_of_ble_eq_true rfl)⟩ (RV.go (fun S3 hq => ?_))
    have F3 : isL lyText Γ.2.2.2.2.1 S3 t := F2.ss hq.1
    refine V_aload_0 108 dX10_clear_108 ?_
    refine V_getR 109 (c := 10) 16 (F3.r 0 16 10 rfl) dX10_clear_109 fl_RX10_43 (F3.m 0 (Nat.le_of_ble_eq_true rfl)) (F3.k 0 10 rfl) (Nat.le_of_ble_eq_true rfl) (Nat.le_of_ble_eq_true rfl) rfl ?_
    refine V_callV 112 (ci := 2) [] _ (c_X2_clear M.2.1 Γ _ (t := t + 10) (F3.sub 10 lyLaw rfl (by decide))) dX10_clear_112 cb_X2_clear ml_RX10_76 im_yX2_clear se_yX2_clear (F3.m 10 (Nat.le_of_ble_eq_true rfl)) (F3.k 10 2 rfl) (Nat.le_of_ble_eq_true rfl) ⟨(Nat.le_of_ble_eq_true rfl), (Nat.le_of_ble_eq_true rfl)⟩ rfl rfl (Nat.le_of_ble_eq_true rfl) ⟨(Nat.le_of_ble_eq_true rfl), (Nat.le_of_ble_eq_true rfl)⟩ (RV.go (fun S4 hq4 => ?_))
    subst hq4
    refine V_vret 115 dX10_clear_115 rfl (Nat.le_of_ble_eq_true rfl) (Nat.le_of_ble_eq_true rfl) ?_
    have e1 : sI S3 = up2 (up2 (up2 (up2 (up2 (up2 (up2 (sI S) t 0 0) t 1 0) t 8 0) t 9 18) t 10 1) t 11 0) t 13 0 := by rw [hq.2.1]; simp only [sI_uI]; rw [hR.1.2.1]; rfl
    refine RV.mk ⟨⟨hR.1.1.tr hq.1, fun a ha => ?_, fun a j hj => ?_⟩, fun j hj => ?_⟩
    · show sA S3 a = _
      rw [hq.2.2.2 a (by simp at ha ⊢; omega)]
      show sA S2 a = _
      rw [hR.1.2.2.2 a (by simp at ha ⊢; omega)]; rfl
    · show sI (uI S3 (t + 10) 2 0) a j = _
      simp only [List.mem_cons, Prod.mk.injEq, List.not_mem_nil, or_false, not_or] at hj
      obtain ⟨q1, q2, q3, q4, q5, q6, q7, q8⟩ := hj
      rw [sI_uI, e1]; unfold up2
      rw [if_neg q8, if_neg q7, if_neg q6, if_neg q5, if_neg q4, if_neg q3, if_neg q2, if_neg q1]
    · show sA S3 (t + 1) j = 0
      rw [hq.2.2.2 (t + 1) (by simp)]
      exact hR.2.1 j hj
  ·
    have hi2 := nI_lt8 (by decide) hi c
    refine V_aload_0 18 dX10_clear_18 ?_
    refine V_getR 19 (c := 10) 2 (F2.r 0 2 1 rfl) dX10_clear_19 fl_RX10_9 (F2.m 0 (Nat.le_of_ble_eq_true rfl)) (F2.k 0 10 rfl) (Nat.le_of_ble_eq_true rfl) (Nat.le_of_ble_eq_true rfl) rfl ?_
    refine V_iload_1 22 dX10_clear_22 ?_
    refine V_iconst 23 (0) dX10_clear_23 (by decide) ?_
    refine V_iastore2 24 dX10_clear_24 (F2.m 1 (Nat.le_of_ble_eq_true rfl)) (F2.k 1 14 rfl) (F2.l 1 8 rfl) ?_ ?_
    · exact vp_in_nI hi2 (by decide)
    refine V_aload_0 25 dX10_clear_25 ?_
    refine V_getR 26 (c := 10) 3 (F2.r 0 3 2 rfl) dX10_clear_26 fl_RX10_15 (F2.m 0 (Nat.le_of_ble_eq_true rfl)) (F2.k 0 10 rfl) (Nat.le_of_ble_eq_true rfl) (Nat.le_of_ble_eq_true rfl) rfl ?_
    refine V_iload_1 29 dX10_clear_29 ?_
    refine V_iload_1 30 dX10_clear_30 ?_
    refine V_iastore2 31 dX10_clear_31 (F2.m 2 (Nat.le_of_ble_eq_true rfl)) (F2.k 2 14 rfl) (F2.l 2 8 rfl) ?_ ?_
    · exact vp_in_nI hi2 (by decide)
    refine V_aload_0 32 dX10_clear_32 ?_
    refine V_getR 33 (c := 10) 4 (F2.r 0 4 3 rfl) dX10_clear_33 fl_RX10_18 (F2.m 0 (Nat.le_of_ble_eq_true rfl)) (F2.k 0 10 rfl) (Nat.le_of_ble_eq_true rfl) (Nat.le_of_ble_eq_true rfl) rfl ?_
    refine V_iload_1 36 dX10_clear_36 ?_
    refine V_iconst 37 (0) dX10_clear_37 (by decide) ?_
    refine V_iastore2 38 dX10_clear_38 (F2.m 3 (Nat.le_of_ble_eq_true rfl)) (F2.k 3 14 rfl) (F2.l 3 8 rfl) ?_ ?_
    · exact vp_in_nI hi2 (by decide)
    rw [nI_clamp (by omega)]
    refine V_iconst 39 (0) dX10_clear_39 (by decide) ?_
    refine V_istore_2 40 dX10_clear_40 rfl (Nat.le_of_ble_eq_true rfl) ?_
    refine V_while (α := Nat × PS) (fun x => 8 - x.1) (fun x => x.1 ≤ 8 ∧ RO [t + 6] (uA (uA (uA S2 (t + 1) i 0) (t + 2) i (nI i)) (t + 3) i 0) x.2) (fun x => x.2) (fun x => [some (.ref t), some (.int (nI i)), some (.int (nI x.1))]) (0, _) ⟨Nat.zero_le _, RO.rf⟩ (fun x hx ih2 => ?_)
    obtain ⟨j, S3⟩ := x
    obtain ⟨hj, hR3⟩ := hx
    dsimp only at hj hR3 ih2 ⊢
    have F3 : isL lyText Γ.2.2.2.2.1 S3 t := F2.ss hR3.1
    refine V_iload_2 41 dX10_clear_41 ?_
    refine V_bipush 42 (8) dX10_clear_42 (by decide) ?_
    refine V_icmp_ge 44 77 dX10_clear_44 (by decide) (fun cj => ?_) (fun cj => ?_)
    ·
      refine V_iinc_1 77 (1) dX10_clear_77 (by decide) rfl (Nat.le_of_ble_eq_true rfl) ?_
      refine V_goto 80 12 dX10_clear_80 (by decide) ?_
      rw [← nI_succ]
      exact ih (i + 1, S3, some (.int (nI j))) ⟨by dsimp only; omega, inv10_step hR hi2 hR3⟩ (by dsimp only; omega)
    ·
      have hj2 := nI_lt8 (by decide) hj cj
      refine V_aload_0 47 dX10_clear_47 ?_
      refine V_getR 48 (c := 10) 7 (F3.r 0 7 6 rfl) dX10_clear_48 fl_RX10_28 (F3.m 0 (Nat.le_of_ble_eq_true rfl)) (F3.k 0 10 rfl) (Nat.le_of_ble_eq_true rfl) (Nat.le_of_ble_eq_true rfl) rfl ?_
      refine V_iload_1 51 dX10_clear_51 ?_
      refine V_bipush 52 (8) dX10_clear_52 (by decide) ?_
      refine V_imul 54 dX10_clear_54 ?_
      refine V_iload_2 55 dX10_clear_55 ?_
      refine V_iadd 56 dX10_clear_56 ?_
      refine V_iload_1 57 dX10_clear_57 ?_
      refine V_iload_2 58 dX10_clear_58 ?_
      refine V_icmp_ne 59 66 dX10_clear_59 (by decide) (fun ce => ?_) (fun ce => ?_)
      ·
        refine V_bipush 66 (100) dX10_clear_66 (by decide) ?_
        refine V_callSN 68 [.ref _, .int _, .int _] _ (c_put M.2.1 Γ _ (a := t + 6) (F3.m 6 (by decide)) (F3.k 6 14 rfl) (by rw [F3.l 6 64 rfl]; decide) _ _) dX10_clear_68 cb_X11_put ne_RX10_57 sm_yX11_put ⟨(Nat.le_of_ble_eq_true rfl), (Nat.le_of_ble_eq_true rfl)⟩ rfl rfl (Nat.le_of_ble_eq_true rfl) ⟨(Nat.le_of_ble_eq_true rfl), (Nat.le_of_ble_eq_true rfl)⟩ (RV.go (fun S4 hq => ?_))
        subst hq
        refine V_iinc_2 71 (1) dX10_clear_71 (by decide) rfl (Nat.le_of_ble_eq_true rfl) ?_
        refine V_goto 74 41 dX10_clear_74 (by decide) ?_
        rw [← nI_succ]
        exact ih2 (j + 1, _) ⟨by dsimp only; omega, hR3.aPt (by simp)⟩ (by dsimp only; omega)
      ·
        refine V_iconst 62 (0) dX10_clear_62 (by decide) ?_
        refine V_goto 63 68 dX10_clear_63 (by decide) ?_
        refine V_callSN 68 [.ref _, .int _, .int _] _ (c_put M.2.1 Γ _ (a := t + 6) (F3.m 6 (by decide)) (F3.k 6 14 rfl) (by rw [F3.l 6 64 rfl]; decide) _ _) dX10_clear_68 cb_X11_put ne_RX10_57 sm_yX11_put ⟨(Nat.le_of_ble_eq_true rfl), (Nat.le_of_ble_eq_true rfl)⟩ rfl rfl (Nat.le_of_ble_eq_true rfl) ⟨(Nat.le_of_ble_eq_true rfl), (Nat.le_of_ble_eq_true rfl)⟩ (RV.go (fun S4 hq => ?_))
        subst hq
        refine V_iinc_2 71 (1) dX10_clear_71 (by decide) rfl (Nat.le_of_ble_eq_true rfl) ?_
        refine V_goto 74 41 dX10_clear_74 (by decide) ?_
        rw [← nI_succ]
        exact ih2 (j + 1, _) ⟨by dsimp only; omega, hR3.aPt (by simp)⟩ (by dsimp only; omega)
set_option maxRecDepth 100000 in
set_option maxHeartbeats 8000000 in
theorem s_tellAll (l : Launch) (Γ : GC) (S : PS) {t : Nat} (F : isL lyTeller Γ.2.2.2.2.1 S t) : CT l Γ yX9_tellAll cX9_tellAll 2 (some .int) (6) (0) (0) [.ref t] S (RI (fun r S' => FZ [t + 13, t + 14, t + 15, t + 17, t + 18, t + 19, t + 20, t + 23, t + 24] [(t, 3), (t, 4), (t + 12, 0), (t + 12, 1), (t + 12, 13), (t + 12, 8), (t + 12, 9), (t + 12, 10), (t + 12, 11), (t + 22, 2)] S S' ∧ (r = 0 → ∀ i, i < 8 → 0 ≤ sA S' (t + 13) i ∧ sA S' (t + 13) i ≤ 9))) := by
  refine CT.of RX9 "tellAll" [some (.ref t), none] (by decide +kernel) rfl rfl (Nat.le_of_ble_eq_true rfl) rfl (fun M hM => ?_)
  subst hM
  refine V_aload_0 0 dX9_tellAll_0 ?_
  refine V_getR 1 (c := 9) 2 (F.r 0 2 12 rfl) dX9_tellAll_1 fl_RX9_26 (F.m 0 (Nat.le_of_ble_eq_true rfl)) (F.k 0 9 rfl) (Nat.le_of_ble_eq_true rfl) (Nat.le_of_ble_eq_true rfl) rfl ?_
  refine V_callV 4 (ci := 10) [] _ (s_clear M.2.1 Γ S (F.sub 12 lyText rfl (by decide))) dX9_tellAll_4 cb_X10_clear ml_RX9_30 im_yX10_clear se_yX10_clear (F.m 12 (Nat.le_of_ble_eq_true rfl)) (F.k 12 10 rfl) (Nat.le_of_ble_eq_true rfl) ⟨(Nat.le_of_ble_eq_true rfl), (Nat.le_of_ble_eq_true rfl)⟩ rfl rfl (Nat.le_of_ble_eq_true rfl) ⟨(Nat.le_of_ble_eq_true rfl), (Nat.le_of_ble_eq_true rfl)⟩ (RV.go (fun S1 h1 => ?_))
  have F1 := F.ss h1.1.1
  refine V_aload_0 7 dX9_tellAll_7 ?_
  refine V_getR 8 (c := 9) 2 (F1.r 0 2 12 rfl) dX9_tellAll_8 fl_RX9_26 (F1.m 0 (Nat.le_of_ble_eq_true rfl)) (F1.k 0 9 rfl) (Nat.le_of_ble_eq_true rfl) (Nat.le_of_ble_eq_true rfl) rfl ?_
  refine V_getR 11 (c := 10) 16 (F1.r 12 16 22 rfl) dX9_tellAll_11 fl_RX9_33 (F1.m 12 (Nat.le_of_ble_eq_true rfl)) (F1.k 12 10 rfl) (Nat.le_of_ble_eq_true rfl) (Nat.le_of_ble_eq_true rfl) rfl ?_
  refine V_aload_0 14 dX9_tellAll_14 ?_
  refine V_getR 15 (c := 9) 0 (F1.r 0 0 1 rfl) dX9_tellAll_15 fl_RX9_12 (F1.m 0 (Nat.le_of_ble_eq_true rfl)) (F1.k 0 9 rfl) (Nat.le_of_ble_eq_true rfl) (Nat.le_of_ble_eq_true rfl) rfl ?_
  refine V_getR 18 (c := 0) 1 (F1.r 1 1 8 rfl) dX9_tellAll_18 fl_RX9_37 (F1.m 1 (Nat.le_of_ble_eq_true rfl)) (F1.k 1 0 rfl) (Nat.le_of_ble_eq_true rfl) (Nat.le_of_ble_eq_true rfl) rfl ?_
  refine V_callV 21 (ci := 2) [.ref _] _ (s_lawbecome M.2.1 Γ S1 (F1.sub 22 lyLaw rfl (by decide)) (F1.sub 8 lyLaw rfl (by decide))) dX9_tellAll_21 cb_X2_become ml_RX9_38 im_yX2_become se_yX2_become (F1.m 22 (Nat.le_of_ble_eq_true rfl)) (F1.k 22 2 rfl) (Nat.le_of_ble_eq_true rfl) ⟨(Nat.le_of_ble_eq_true rfl), (Nat.le_of_ble_eq_true rfl)⟩ rfl rfl (Nat.le_of_ble_eq_true rfl) ⟨(Nat.le_of_ble_eq_true rfl), (Nat.le_of_ble_eq_true rfl)⟩ (RV.go (fun S2 h2 => ?_))
  have z2 : ∀ i, i < 8 → sA S2 (t + 13) i = 0 := fun i hi => by
    rw [h2.2.1 _ (by simp)]; exact h1.2 i hi
  refine V_abs (fun T => FZ [t + 13, t + 14, t + 15, t + 17, t + 18, t + 19, t + 20, t + 23, t + 24] [(t, 3), (t, 4), (t + 12, 0), (t + 12, 1), (t + 12, 13), (t + 12, 8), (t + 12, 9), (t + 12, 10), (t + 12, 11), (t + 22, 2)] S T ∧ ∀ i, i < 8 → sA T (t + 13) i = 0) ⟨(h1.1.sub (by simp) (by simp)).tr (h2.sub (by simp) (by simp)), z2⟩ (fun S3 h3 => ?_)
  obtain ⟨h3, z3⟩ := h3
  have F3 := F.ss h3.1
  have J3 : ∀ (S1 : PS) (x4 : Int32), FZ [t + 13, t + 14, t + 15, t + 17, t + 18, t + 19, t + 20, t + 23, t + 24] [(t, 3), (t, 4), (t + 12, 0), (t + 12, 1), (t + 12, 13), (t + 12, 8), (t + 12, 9), (t + 12, 10), (t + 12, 11), (t + 22, 2)] S3 S1 → (TN t S1) → V M Γ (2, RX9, "tellAll", (some .int), RM (6) (0) (0)) cX9_tellAll (RQ M Γ (RI (fun r S' => FZ [t + 13, t + 14, t + 15, t + 17, t + 18, t + 19, t + 20, t + 23, t + 24] [(t, 3), (t, 4), (t + 12, 0), (t + 12, 1), (t + 12, 13), (t + 12, 8), (t + 12, 9), (t + 12, 10), (t + 12, 11), (t + 22, 2)] S S' ∧ (r = 0 → ∀ i, i < 8 → 0 ≤ sA S' (t + 13) i ∧ sA S' (t + 13) i ≤ 9))) (0) (0)) 0 0 S1 65 [some (.ref t), some (.int x4)] [] := by
    intro S1 x4 h2 p5
    refine V_aload_0 65 dX9_tellAll_65 ?_
    refine V_getI 66 (c := 9) 3 dX9_tellAll_66 fl_RX9_44 ((F3.ss h2.1).m 0 (Nat.le_of_ble_eq_true rfl)) ((F3.ss h2.1).k 0 9 rfl) (Nat.le_of_ble_eq_true rfl) (Nat.le_of_ble_eq_true rfl) rfl ?_
    refine V_iret 69 .int dX9_tellAll_69 rfl rfl (Nat.le_of_ble_eq_true rfl) (Nat.le_of_ble_eq_true rfl) (RI.mk ⟨h3.tr h2, p5⟩)
  refine V_aload_0 24 dX9_tellAll_24 ?_
  refine V_iconst 25 (0) dX9_tellAll_25 (by decide) ?_
  refine V_putI 26 (c := 9) 3 dX9_tellAll_26 fl_RX9_44 (F3.m 0 (Nat.le_of_ble_eq_true rfl)) (F3.k 0 9 rfl) (Nat.le_of_ble_eq_true rfl) (Nat.le_of_ble_eq_true rfl) rfl (Or.inl rfl) ?_
  refine V_abs (fun T9 => FZ [t + 13, t + 14, t + 15, t + 17, t + 18, t + 19, t + 20, t + 23, t + 24] [(t, 3), (t, 4), (t + 12, 0), (t + 12, 1), (t + 12, 13), (t + 12, 8), (t + 12, 9), (t + 12, 10), (t + 12, 11), (t + 22, 2)] S3 T9 ∧ (TN t T9)) ⟨(FZ.rf (X := [t + 13, t + 14, t + 15, t + 17, t + 18, t + 19, t + 20, t + 23, t + 24]) (Y := [(t, 3), (t, 4), (t + 12, 0), (t + 12, 1), (t + 12, 13), (t + 12, 8), (t + 12, 9), (t + 12, 10), (t + 12, 11), (t + 22, 2)]) (S := S3)).uI (by simp), by exact (fun _ i hi => by show 0 ≤ sA S3 (t + 13) i ∧ sA S3 (t + 13) i ≤ 9; rw [z3 i hi]; decide)⟩ (fun S6 hh9 => ?_)
  obtain ⟨h7, p8⟩ := hh9
  refine V_aload_0 29 dX9_tellAll_29 ?_
  refine V_iconst 30 (-1) dX9_tellAll_30 (by decide) ?_
  refine V_putI 31 (c := 9) 4 dX9_tellAll_31 fl_RX9_48 ((F3.ss h7.1).m 0 (Nat.le_of_ble_eq_true rfl)) ((F3.ss h7.1).k 0 9 rfl) (Nat.le_of_ble_eq_true rfl) (Nat.le_of_ble_eq_true rfl) rfl (Or.inl rfl) ?_
  refine V_abs (fun T9 => FZ [t + 13, t + 14, t + 15, t + 17, t + 18, t + 19, t + 20, t + 23, t + 24] [(t, 3), (t, 4), (t + 12, 0), (t + 12, 1), (t + 12, 13), (t + 12, 8), (t + 12, 9), (t + 12, 10), (t + 12, 11), (t + 22, 2)] S3 T9 ∧ (TN t T9)) ⟨h7.uI (by simp), by exact TN.uI p8 (by simp)⟩ (fun S10 hh13 => ?_)
  obtain ⟨h11, p12⟩ := hh13
  refine V_iconst 34 (0) dX9_tellAll_34 (by decide) ?_
  refine V_istore_1 35 dX9_tellAll_35 rfl (Nat.le_of_ble_eq_true rfl) ?_
  refine V_lvw (by repeat (first | exact trivial | refine ⟨rfl, ?_⟩)) (V_while (α := Int32 × PS) (fun z14 => ((sI S3 (t + 2) 5).toInt - z14.1.toInt).toNat) (fun z14 => FZ [t + 13, t + 14, t + 15, t + 17, t + 18, t + 19, t + 20, t + 23, t + 24] [(t, 3), (t, 4), (t + 12, 0), (t + 12, 1), (t + 12, 13), (t + 12, 8), (t + 12, 9), (t + 12, 10), (t + 12, 11), (t + 22, 2)] S3 z14.2 ∧ (TN t z14.2)) (fun z14 => z14.2) (fun z14 => [some (.ref t), some (.int z14.1)]) (_, _) ⟨h11, p12⟩ (fun z14 h18 ih19 => ?b21))
  obtain ⟨i15, S16⟩ := z14
  dsimp only at h18 ih19 ⊢
  obtain ⟨h24, p23⟩ := h18
  refine V_iload_1 36 dX9_tellAll_36 ?_
  refine V_aload_0 37 dX9_tellAll_37 ?_
  refine V_getR 38 (c := 9) 1 ((F3.ss h24.1).r 0 1 2 rfl) dX9_tellAll_38 fl_RX9_22 ((F3.ss h24.1).m 0 (Nat.le_of_ble_eq_true rfl)) ((F3.ss h24.1).k 0 9 rfl) (Nat.le_of_ble_eq_true rfl) (Nat.le_of_ble_eq_true rfl) rfl ?_
  refine V_getI 41 (c := 8) 5 dX9_tellAll_41 fl_RX9_51 ((F3.ss h24.1).m 2 (Nat.le_of_ble_eq_true rfl)) ((F3.ss h24.1).k 2 8 rfl) (Nat.le_of_ble_eq_true rfl) (Nat.le_of_ble_eq_true rfl) rfl ?_
  refine V_icmp_ge 44 65 dX9_tellAll_44 (by decide) (fun c25 => ?_) (fun c25 => ?_)
  ·
    refine V_lvw (by repeat (first | exact trivial | refine ⟨rfl, ?_⟩)) (J3 _ _ h24 p23)
  ·
    refine V_aload_0 47 dX9_tellAll_47 ?_
    refine V_getI 48 (c := 9) 3 dX9_tellAll_48 fl_RX9_44 ((F3.ss h24.1).m 0 (Nat.le_of_ble_eq_true rfl)) ((F3.ss h24.1).k 0 9 rfl) (Nat.le_of_ble_eq_true rfl) (Nat.le_of_ble_eq_true rfl) rfl ?_
    refine V_if_ne 51 65 dX9_tellAll_51 (by decide) (fun c27 => ?_) (fun c27 => ?_)
    ·
      refine V_lvw (by repeat (first | exact trivial | refine ⟨rfl, ?_⟩)) (J3 _ _ h24 p23)
    ·
      refine V_aload_0 54 dX9_tellAll_54 ?_
      refine V_iload_1 55 dX9_tellAll_55 ?_
      refine V_callV 56 (ci := 9) [.int _] _ (s_ttell M.2.1 Γ S16 (F3.ss h24.1) _ p23) dX9_tellAll_56 cb_X9_tell ml_RX9_56 im_yX9_tell se_yX9_tell ((F3.ss h24.1).m 0 (Nat.le_of_ble_eq_true rfl)) ((F3.ss h24.1).k 0 9 rfl) (Nat.le_of_ble_eq_true rfl) ⟨(Nat.le_of_ble_eq_true rfl), (Nat.le_of_ble_eq_true rfl)⟩ rfl rfl (Nat.le_of_ble_eq_true rfl) ⟨(Nat.le_of_ble_eq_true rfl), (Nat.le_of_ble_eq_true rfl)⟩ (RV.go (fun S29 q30 => ?_))
      have h32 : FZ [t + 13, t + 14, t + 15, t + 17, t + 18, t + 19, t + 20, t + 23, t + 24] [(t, 3), (t, 4), (t + 12, 0), (t + 12, 1), (t + 12, 13), (t + 12, 8), (t + 12, 9), (t + 12, 10), (t + 12, 11), (t + 22, 2)] S3 S29 := h24.tr (q30.1.sub (by simp) (by simp))
      have p33 : (TN t S29) := by exact q30.2
      refine V_iinc_1 59 (1) dX9_tellAll_59 (by decide) rfl (Nat.le_of_ble_eq_true rfl) ?_
      refine V_goto 62 36 dX9_tellAll_62 (by decide) ?_
      refine V_lvw (by repeat (first | exact trivial | refine ⟨rfl, ?_⟩)) (ih19 (_, _) ⟨h32, p33⟩ (up32 (by first | assumption | (rw [← h24.2.2 (t + 2) 5 (by simp)]; assumption))))

