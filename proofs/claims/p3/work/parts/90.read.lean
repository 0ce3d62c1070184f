/-! The reference's read -/
/-- a text told anew -/
theorem TXT.new {m s K u b c t : Nat} {S : PS} (hs : s < 2) (el : sI S m 18 = nI s) (x : DRX m s K u S) (d : DLW m s b c t S) (ht : t ≤ 400) (z : sI S m 15 = 0) : ∃ g, TXT m g S ∧ gK g = K ∧ gl g = s ∧ ∀ k, k < K → sA S (m + 13) (8 * s + k) = nI (gN g k) := by
  obtain ⟨x1, x2, x3, x4, x5, x12, x14, x10, x13, x19, x22⟩ := x
  obtain ⟨d1, d2, d3, d4, d5, f, a, f1, f2, f3, f4, f5, f6⟩ := d
  obtain ⟨N, n1, n2, n3⟩ := x13 z
  obtain ⟨R, r1, r2, r3⟩ := x19 z
  obtain ⟨L, l1, l2, l3⟩ := x22
  have hP : ∃ P : Nat → Nat, ∀ k, k < K → P k < K ∧ sA S (m + 12) (8 * s + k) = nI (P k) := ⟨fun k => if q : k < K then (x12 k q).choose else 0, fun k q => by dsimp only; rw [dif_pos q]; exact (x12 k q).choose_spec⟩
  have hA : ∃ P : Nat → Nat, ∀ k, k < K → P k < 8 ∧ sA S (m + 14) (8 * s + k) = nI (P k) := ⟨fun k => if q : k < K then (x14 k q).choose else 0, fun k q => by dsimp only; rw [dif_pos q]; exact (x14 k q).choose_spec⟩
  have hL : ∃ P : Nat → Nat, ∀ k, k < L → P k < K ∧ sA S (m + 22) (18 * s + k) = nI (P k) := ⟨fun k => if q : k < L then (l3 k q).choose else 0, fun k q => by dsimp only; rw [dif_pos q]; exact (l3 k q).choose_spec⟩
  obtain ⟨P, hP⟩ := hP
  obtain ⟨At, hA⟩ := hA
  obtain ⟨LK, hL⟩ := hL
  refine ⟨(s, K, u, N, P, At, R, L, LK, f, a), ⟨⟨el, hs⟩, ⟨x2, x3⟩, ⟨x4, by show u ≤ 8; omega⟩, n1, fun k hk => ⟨(hP k hk).2, (hP k hk).1⟩, fun k hk => ⟨(hA k hk).2, (hA k hk).1⟩, n3, ⟨r1, r2, r3⟩, ⟨l2, l1⟩, fun i hi => ⟨(hL i hi).2, (hL i hi).1⟩, f1, f2, ⟨f3, by show a ≤ 260; omega, fun q => ⟨f4 q, by show a ≤ 130 * s + 130; omega⟩⟩, fun i h1 h2 => (f6 i h1 h2).law⟩, rfl, rfl, fun k hk => (n1 k hk).1⟩
set_option maxRecDepth 100000 in
set_option maxHeartbeats 8000000 in
theorem s_mread (l : Launch) (Γ : GC) (S : PS) {m tp : Nat} {g : MG} (I : MV Γ.2.2.2.2.1 m g tp S) : CT l Γ yX12_read cX12_read 2 (some .int) (7) (0) (0) [.ref m] S (RI (fun r S' => ∃ g', MV Γ.2.2.2.2.1 m g' 0 S')) := by
  refine CT.of RX12 "read" [some (.ref m), none] (by decide +kernel) rfl rfl (Nat.le_of_ble_eq_true rfl) rfl (fun M hM => ?_)
  subst hM
  have F := I.f
  have htp := I.tpl
  refine V_aload_0 0 dX12_read_0 ?_
  refine V_aload_0 1 dX12_read_1 ?_
  refine V_getI 2 (c := 12) 2 dX12_read_2 fl_RX12_197 (F.m 0 (Nat.le_of_ble_eq_true rfl)) (F.k 0 12 rfl) (Nat.le_of_ble_eq_true rfl) (Nat.le_of_ble_eq_true rfl) rfl ?_
  rw [I.tape]
  refine V_putI 5 (c := 12) 4 dX12_read_5 fl_RX12_203 (F.m 0 (Nat.le_of_ble_eq_true rfl)) (F.k 0 12 rfl) (Nat.le_of_ble_eq_true rfl) (Nat.le_of_ble_eq_true rfl) rfl (Or.inl rfl) ?_
  have I1 : MV Γ.2.2.2.2.1 m g tp (uI S m 4 (nI tp)) := I.z [] [(0, 4)] (X := []) (Y := [(m, 4)]) (FZ.rf.uI (by simp)) rfl rfl rfl rfl
  have z4 : sI (uI S m 4 (nI tp)) m 4 = nI tp := up2_s _ _ _ _
  generalize uI S m 4 (nI tp) = S1 at I1 z4 ⊢
  have F1 := I1.f
  refine V_iconst 8 (0) dX12_read_8 (by decide) ?_
  refine V_istore_1 9 dX12_read_9 rfl (Nat.le_of_ble_eq_true rfl) ?_
  refine V_while (α := Nat × PS) (fun x => tp - x.1) (fun x => x.1 ≤ tp ∧ FZ [m + 2] [] S1 x.2) (fun x => x.2) (fun x => [some (.ref m), some (.int (nI x.1))]) (0, S1) ⟨Nat.zero_le _, FZ.rf⟩ (fun x hx ih => ?_)
  obtain ⟨i, T⟩ := x
  obtain ⟨hi, e⟩ := hx
  dsimp only at hi e ih ⊢
  have FT9 := F1.ss e.1
  have z4T : sI T m 4 = nI tp := (e.2.2 m 4 (by simp)).trans z4
  refine V_iload_1 10 dX12_read_10 ?_
  refine V_aload_0 11 dX12_read_11 ?_
  refine V_getI 12 (c := 12) 4 dX12_read_12 fl_RX12_203 (FT9.m 0 (Nat.le_of_ble_eq_true rfl)) (FT9.k 0 12 rfl) (Nat.le_of_ble_eq_true rfl) (Nat.le_of_ble_eq_true rfl) rfl ?_
  rw [z4T]
  refine V_icmp_ge 15 36 dX12_read_15 (by decide) (fun c1 => ?_) (fun c1 => ?_)
  rotate_left
  · have c2 := mt (nI_leE (Eq.refl (nI tp)) (Eq.refl (nI i)) (by omega) (by omega)).mpr (fun q => c1 (by first | exact q | exact Int32.not_lt.mpr q))
    refine V_aload_0 18 dX12_read_18 ?_
    refine V_getR 19 (c := 12) 3 (FT9.r 0 3 2 rfl) dX12_read_19 fl_RX12_17 (FT9.m 0 (Nat.le_of_ble_eq_true rfl)) (FT9.k 0 12 rfl) (Nat.le_of_ble_eq_true rfl) (Nat.le_of_ble_eq_true rfl) rfl ?_
    refine V_iload_1 22 dX12_read_22 ?_
    refine V_aload_0 23 dX12_read_23 ?_
    refine V_getR 24 (c := 12) 1 (FT9.r 0 1 1 rfl) dX12_read_24 fl_RX12_13 (FT9.m 0 (Nat.le_of_ble_eq_true rfl)) (FT9.k 0 12 rfl) (Nat.le_of_ble_eq_true rfl) (Nat.le_of_ble_eq_true rfl) rfl ?_
    refine V_iload_1 27 dX12_read_27 ?_
    refine V_baload2 28 dX12_read_28 (FT9.m 1 (Nat.le_of_ble_eq_true rfl)) (FT9.k 1 13 rfl) (FT9.l 1 2000 rfl) ?_ ?_
    · exact vp_in_nI (by omega) (by decide)
    refine V_bastore2 29 dX12_read_29 (FT9.m 2 (Nat.le_of_ble_eq_true rfl)) (FT9.k 2 13 rfl) (FT9.l 2 2000 rfl) ?_ ?_
    · exact vp_in_nI (by omega) (by decide)
    refine V_iinc_1 30 (1) dX12_read_30 (by decide) rfl (Nat.le_of_ble_eq_true rfl) ?_
    refine V_goto 33 10 dX12_read_33 (by decide) ?_
    rw [nI_1]
    exact ih (i + 1, _) ⟨by dsimp only; omega, e.uA (by simp)⟩ (by dsimp only; omega)
  clear ih c1
  have I2 : MV Γ.2.2.2.2.1 m g tp T := I1.z [2] [] e rfl rfl rfl rfl
  clear e
  refine V_aload_0 36 dX12_read_36 ?_
  refine V_iconst 37 (0) dX12_read_37 (by decide) ?_
  refine V_putI 38 (c := 12) 2 dX12_read_38 fl_RX12_197 (FT9.m 0 (Nat.le_of_ble_eq_true rfl)) (FT9.k 0 12 rfl) (Nat.le_of_ble_eq_true rfl) (Nat.le_of_ble_eq_true rfl) rfl (Or.inl rfl) ?_
  have I3 : MV Γ.2.2.2.2.1 m g 0 (uI T m 2 0) := I2.onTape (X := []) (FZ.rf.uI (by simp)) [] rfl rfl (up2_s _ _ _ _) (by omega)
  have z43 : sI (uI T m 2 0) m 4 = nI tp := (up2_k _ _ (by decide)).trans z4T
  generalize uI T m 2 0 = S3 at I3 z43 ⊢
  have F3 := I3.f
  refine V_aload_0 41 dX12_read_41 ?_
  refine V_callV 42 (ci := 12) [] _ (s_mcut M.2.1 Γ S3 F3 z43 htp) dX12_read_42 cb_X12_cut ml_RX12_258 im_yX12_cut se_yX12_cut (F3.m 0 (Nat.le_of_ble_eq_true rfl)) (F3.k 0 12 rfl) (Nat.le_of_ble_eq_true rfl) ⟨(Nat.le_of_ble_eq_true rfl), (Nat.le_of_ble_eq_true rfl)⟩ rfl rfl (Nat.le_of_ble_eq_true rfl) ⟨(Nat.le_of_ble_eq_true rfl), (Nat.le_of_ble_eq_true rfl)⟩ (RV.go (fun S4 k4 => ?_))
  have I4 : MV Γ.2.2.2.2.1 m g 0 S4 := I3.z [3, 4, 5] [(0, 10)] k4 rfl rfl rfl rfl
  have F4 := I4.f
  refine V_aload_0 45 dX12_read_45 ?_
  refine V_iconst 46 (0) dX12_read_46 (by decide) ?_
  refine V_putI 47 (c := 12) 11 dX12_read_47 fl_RX12_237 (F4.m 0 (Nat.le_of_ble_eq_true rfl)) (F4.k 0 12 rfl) (Nat.le_of_ble_eq_true rfl) (Nat.le_of_ble_eq_true rfl) rfl (Or.inl rfl) ?_
  refine V_aload_0 50 dX12_read_50 ?_
  refine V_iconst 51 (0) dX12_read_51 (by decide) ?_
  refine V_putI 52 (c := 12) 12 dX12_read_52 fl_RX12_261 (F4.m 0 (Nat.le_of_ble_eq_true rfl)) (F4.k 0 12 rfl) (Nat.le_of_ble_eq_true rfl) (Nat.le_of_ble_eq_true rfl) rfl (Or.inl rfl) ?_
  refine V_aload_0 55 dX12_read_55 ?_
  refine V_iconst 56 (0) dX12_read_56 (by decide) ?_
  refine V_putI 57 (c := 12) 13 dX12_read_57 fl_RX12_234 (F4.m 0 (Nat.le_of_ble_eq_true rfl)) (F4.k 0 12 rfl) (Nat.le_of_ble_eq_true rfl) (Nat.le_of_ble_eq_true rfl) rfl (Or.inl rfl) ?_
  refine V_aload_0 60 dX12_read_60 ?_
  refine V_iconst 61 (0) dX12_read_61 (by decide) ?_
  refine V_putI 62 (c := 12) 15 dX12_read_62 fl_RX12_243 (F4.m 0 (Nat.le_of_ble_eq_true rfl)) (F4.k 0 12 rfl) (Nat.le_of_ble_eq_true rfl) (Nat.le_of_ble_eq_true rfl) rfl (Or.inl rfl) ?_
  refine V_aload_0 65 dX12_read_65 ?_
  refine V_iconst 66 (1) dX12_read_66 (by decide) ?_
  refine V_aload_0 67 dX12_read_67 ?_
  refine V_getI 68 (c := 12) 18 dX12_read_68 fl_RX12_264 (F4.m 0 (Nat.le_of_ble_eq_true rfl)) (F4.k 0 12 rfl) (Nat.le_of_ble_eq_true rfl) (Nat.le_of_ble_eq_true rfl) rfl ?_
  rw [show sI (uI (uI (uI (uI S4 m 11 0) m 12 0) m 13 0) m 15 0) m 18 = nI (gl g) from (up2_k _ _ (by decide)).trans ((up2_k _ _ (by decide)).trans ((up2_k _ _ (by decide)).trans ((up2_k _ _ (by decide)).trans I4.t.lv)))]
  have l2 := I4.t.l2
  obtain ⟨s, hs⟩ : ∃ s, s + gl g = 1 := ⟨1 - gl g, by omega⟩
  refine V_isub 71 dX12_read_71 ?_
  rw [show (1 : Int32) - nI (gl g) = nI s from (eqSub (show (1 : Int32) = nI 1 from rfl) rfl (by omega)).trans (by rw [show 1 - gl g = s by omega])]
  refine V_putI 72 (c := 12) 19 dX12_read_72 fl_RX12_267 (F4.m 0 (Nat.le_of_ble_eq_true rfl)) (F4.k 0 12 rfl) (Nat.le_of_ble_eq_true rfl) (Nat.le_of_ble_eq_true rfl) rfl (Or.inl rfl) ?_
  have I5 : MV Γ.2.2.2.2.1 m g 0 (uI (uI (uI (uI (uI S4 m 11 0) m 12 0) m 13 0) m 15 0) m 19 (nI s)) := I4.z [] [(0, 11), (0, 12), (0, 13), (0, 15), (0, 19)] (X := []) (Y := [(m, 11), (m, 12), (m, 13), (m, 15), (m, 19)]) (((((FZ.rf.uI (by simp)).uI (by simp)).uI (by simp)).uI (by simp)).uI (by simp)) rfl rfl rfl rfl
  have y19 : sI (uI (uI (uI (uI (uI S4 m 11 0) m 12 0) m 13 0) m 15 0) m 19 (nI s)) m 19 = nI s := up2_s _ _ _ _
  have y15 : sI (uI (uI (uI (uI (uI S4 m 11 0) m 12 0) m 13 0) m 15 0) m 19 (nI s)) m 15 = 0 := (up2_k _ _ (by decide)).trans (up2_s _ _ _ _)
  have y13 : sI (uI (uI (uI (uI (uI S4 m 11 0) m 12 0) m 13 0) m 15 0) m 19 (nI s)) m 13 = 0 := (up2_k _ _ (by decide)).trans ((up2_k _ _ (by decide)).trans (up2_s _ _ _ _))
  have y12 : sI (uI (uI (uI (uI (uI S4 m 11 0) m 12 0) m 13 0) m 15 0) m 19 (nI s)) m 12 = 0 := (up2_k _ _ (by decide)).trans ((up2_k _ _ (by decide)).trans ((up2_k _ _ (by decide)).trans (up2_s _ _ _ _)))
  have y11 : sI (uI (uI (uI (uI (uI S4 m 11 0) m 12 0) m 13 0) m 15 0) m 19 (nI s)) m 11 = nI 0 := (up2_k _ _ (by decide)).trans ((up2_k _ _ (by decide)).trans ((up2_k _ _ (by decide)).trans ((up2_k _ _ (by decide)).trans (up2_s _ _ _ _))))
  generalize uI (uI (uI (uI (uI S4 m 11 0) m 12 0) m 13 0) m 15 0) m 19 (nI s) = S5 at I5 y19 y15 y13 y12 y11 ⊢
  have F5 := I5.f
  refine V_aload_0 75 dX12_read_75 ?_
  refine V_aload_0 76 dX12_read_76 ?_
  refine V_getI 77 (c := 12) 19 dX12_read_77 fl_RX12_267 (F5.m 0 (Nat.le_of_ble_eq_true rfl)) (F5.k 0 12 rfl) (Nat.le_of_ble_eq_true rfl) (Nat.le_of_ble_eq_true rfl) rfl ?_
  rw [y19]
  refine V_callV 80 (ci := 12) [.int _] _ (s_mplain M.2.1 Γ S5 F5 (s := s) (by omega)) dX12_read_80 cb_X12_plain ml_RX12_189 im_yX12_plain se_yX12_plain (F5.m 0 (Nat.le_of_ble_eq_true rfl)) (F5.k 0 12 rfl) (Nat.le_of_ble_eq_true rfl) ⟨(Nat.le_of_ble_eq_true rfl), (Nat.le_of_ble_eq_true rfl)⟩ rfl rfl (Nat.le_of_ble_eq_true rfl) ⟨(Nat.le_of_ble_eq_true rfl), (Nat.le_of_ble_eq_true rfl)⟩ (RV.go (fun S6 k6 => ?_))
  obtain ⟨p1, p2, p8, p11, p15, p19, p21, p25, p26⟩ := k6
  have I6 : MV Γ.2.2.2.2.1 m g 0 S6 := I5.out [8, 11, 15, 16, 17, 18, 19, 20, 21, 24, 25, 26] [] p1 p2 hs rfl rfl rfl rfl
  have F6 := I6.f
  refine V_aload_0 83 dX12_read_83 ?_
  refine V_sipush 84 (130) dX12_read_84 (by decide) ?_
  refine V_aload_0 87 dX12_read_87 ?_
  refine V_getI 88 (c := 12) 19 dX12_read_88 fl_RX12_267 (F6.m 0 (Nat.le_of_ble_eq_true rfl)) (F6.k 0 12 rfl) (Nat.le_of_ble_eq_true rfl) (Nat.le_of_ble_eq_true rfl) rfl ?_
  rw [(p1.2.2 m 19 (by simp)).trans y19]
  refine V_imul 91 dX12_read_91 ?_
  rw [show (130 : Int32) * nI s = nI (130 * s) from nI_mul 130 s]
  refine V_putI 92 (c := 12) 39 dX12_read_92 fl_RX12_270 (F6.m 0 (Nat.le_of_ble_eq_true rfl)) (F6.k 0 12 rfl) (Nat.le_of_ble_eq_true rfl) (Nat.le_of_ble_eq_true rfl) rfl (Or.inl rfl) ?_
  refine V_aload_0 95 dX12_read_95 ?_
  refine V_sipush 96 (420) dX12_read_96 (by decide) ?_
  refine V_aload_0 99 dX12_read_99 ?_
  refine V_getI 100 (c := 12) 19 dX12_read_100 fl_RX12_267 (F6.m 0 (Nat.le_of_ble_eq_true rfl)) (F6.k 0 12 rfl) (Nat.le_of_ble_eq_true rfl) (Nat.le_of_ble_eq_true rfl) rfl ?_
  rw [show sI (uI S6 m 39 (nI (130 * s))) m 19 = nI s from (up2_k _ _ (by decide)).trans ((p1.2.2 m 19 (by simp)).trans y19)]
  refine V_imul 103 dX12_read_103 ?_
  rw [show (420 : Int32) * nI s = nI (420 * s) from nI_mul 420 s]
  refine V_putI 104 (c := 12) 45 dX12_read_104 fl_RX12_273 (F6.m 0 (Nat.le_of_ble_eq_true rfl)) (F6.k 0 12 rfl) (Nat.le_of_ble_eq_true rfl) (Nat.le_of_ble_eq_true rfl) rfl (Or.inl rfl) ?_
  have eU : FZ [] [(m, 39), (m, 45)] S6 (uI (uI S6 m 39 (nI (130 * s))) m 45 (nI (420 * s))) := (FZ.rf.uI (by simp)).uI (by simp)
  have u39 : sI (uI (uI S6 m 39 (nI (130 * s))) m 45 (nI (420 * s))) m 39 = nI (130 * s) := (up2_k _ _ (by decide)).trans (up2_s _ _ _ _)
  have u45 : sI (uI (uI S6 m 39 (nI (130 * s))) m 45 (nI (420 * s))) m 45 = nI (420 * s) := up2_s _ _ _ _
  generalize uI (uI S6 m 39 (nI (130 * s))) m 45 (nI (420 * s)) = S7 at eU u39 u45 ⊢
  have I7 : MV Γ.2.2.2.2.1 m g 0 S7 := I6.z [] [(0, 39), (0, 45)] eU rfl rfl rfl rfl
  have sy : ∀ j, (m, j) ∉ [(m, 39), (m, 45)] → sI S7 m j = sI S5 m j := fun j hj => (eU.2.2 m j hj).trans (p1.2.2 m j (by simp))
  have G7 : GD m (420 * s) 0 S7 := ⟨(sy 13 (by simp)).trans y13, (sy 12 (by simp)).trans y12, (sy 11 (by simp)).trans y11, by omega, u45⟩
  have sx : ∀ o i, sA S7 (m + o) i = sA S6 (m + o) i := fun o i => by rw [eU.2.1 (m + o) (by simp)]
  have X7 : DRX m s 0 0 S7 := ⟨(sy 19 (by simp)).trans y19, (sx 11 s).trans p11, by omega, (sx 8 s).trans p8, by omega, fun k q => absurd q (Nat.not_lt_zero _), fun k q => absurd q (Nat.not_lt_zero _), fun k q => absurd q (Nat.not_lt_zero _), fun _ => ⟨fun _ => 0, fun k q => absurd q (Nat.not_lt_zero _), (sx 15 s).trans p15, Nat.zero_le _⟩, fun _ => ⟨18, (sx 19 s).trans p19, by omega, by omega⟩, ⟨0, by omega, (sx 21 s).trans p21, fun i q => absurd q (Nat.not_lt_zero _)⟩⟩
  have L7 : DLW m s (130 * s) (420 * s) 0 S7 := ⟨u39, Nat.le_refl _, by omega, Nat.le_refl _, by omega, 0, 0, (sx 25 s).trans p25, (sx 26 s).trans p26, Nat.le_refl _, fun q => absurd q (Nat.lt_irrefl _), Nat.zero_le _, fun i h1 h2 => absurd h2 (Nat.not_lt_zero _)⟩
  have N7 : 0 ≤ sI S7 m 15 := by rw [(sy 15 (by simp)).trans y15]; decide
  refine V_while (α := Nat × PS) (fun z => z.1) (fun z => MV Γ.2.2.2.2.1 m g 0 z.2 ∧ 0 ≤ sI z.2 m 15 ∧ ((FLT m z.2 ∧ z.1 = 0) ∨ ∃ K u b c t, GD m c t z.2 ∧ DRX m s K u z.2 ∧ DLW m s b c t z.2 ∧ z.1 = 402 - t)) (fun z => z.2) (fun z => [some (.ref m), some (.int (nI i))]) (402, S7) ⟨I7, N7, Or.inr ⟨0, 0, 130 * s, 420 * s, 0, G7, X7, L7, rfl⟩⟩ (fun z hz ih => ?_)
  clear I1 I2 I3 I4 I5 I6 I7 F1 F3 F4 F5 F6 FT9 eU k4 p1 p2 sy sx
  obtain ⟨f, T⟩ := z
  obtain ⟨IT, nT, hz⟩ := hz
  dsimp only at IT nT hz ih ⊢
  have FT9 := IT.f
  have J129 : (FLT m T ∨ ∃ K u b c t, GD m c t T ∧ DRX m s K u T ∧ DLW m s b c t T) → V M Γ (2, RX12, "read", (some .int), RM (7) (0) (0)) cX12_read (RQ M Γ (RI (fun r S' => ∃ g', MV Γ.2.2.2.2.1 m g' 0 S')) (0) (0)) 0 0 T 129 [some (.ref m), some (.int (nI i))] [] := by
    intro hz
    have J159 : ∀ (v : Int32), V M Γ (2, RX12, "read", (some .int), RM (7) (0) (0)) cX12_read (RQ M Γ (RI (fun r S' => ∃ g', MV Γ.2.2.2.2.1 m g' 0 S')) (0) (0)) 0 0 T 159 [some (.ref m), some (.int (nI i))] [.int v, .ref m] := by
      intro v
      refine V_putI 159 (c := 12) 17 dX12_read_159 fl_RX12_37 (FT9.m 0 (Nat.le_of_ble_eq_true rfl)) (FT9.k 0 12 rfl) (Nat.le_of_ble_eq_true rfl) (Nat.le_of_ble_eq_true rfl) rfl (Or.inl rfl) ?_
      have eU : FZ [] [(m, 17)] T (uI T m 17 v) := FZ.rf.uI (by simp)
      generalize uI T m 17 v = U at eU ⊢
      have IU : MV Γ.2.2.2.2.1 m g 0 U := IT.z [] [(0, 17)] eU rfl rfl rfl rfl
      have FU9 := IU.f
      refine V_aload_0 162 dX12_read_162 ?_
      refine V_getI 163 (c := 12) 13 dX12_read_163 fl_RX12_234 (FU9.m 0 (Nat.le_of_ble_eq_true rfl)) (FU9.k 0 12 rfl) (Nat.le_of_ble_eq_true rfl) (Nat.le_of_ble_eq_true rfl) rfl ?_
      refine V_if_le 166 174 dX12_read_166 (by decide) (fun c1 => ?_) (fun c1 => ?_)
      rotate_left
      ·
        refine V_aload_0 169 dX12_read_169 ?_
        refine V_getI 170 (c := 12) 13 dX12_read_170 fl_RX12_234 (FU9.m 0 (Nat.le_of_ble_eq_true rfl)) (FU9.k 0 12 rfl) (Nat.le_of_ble_eq_true rfl) (Nat.le_of_ble_eq_true rfl) rfl ?_
        refine V_iret 173 .int dX12_read_173 rfl rfl (Nat.le_of_ble_eq_true rfl) (Nat.le_of_ble_eq_true rfl) (RI.mk ⟨g, IU⟩)
      ·
        refine V_aload_0 174 dX12_read_174 ?_
        refine V_getI 175 (c := 12) 15 dX12_read_175 fl_RX12_243 (FU9.m 0 (Nat.le_of_ble_eq_true rfl)) (FU9.k 0 12 rfl) (Nat.le_of_ble_eq_true rfl) (Nat.le_of_ble_eq_true rfl) rfl ?_
        refine V_if_le 178 186 dX12_read_178 (by decide) (fun c2 => ?_) (fun c2 => ?_)
        rotate_left
        ·
          refine V_aload_0 181 dX12_read_181 ?_
          refine V_getI 182 (c := 12) 15 dX12_read_182 fl_RX12_243 (FU9.m 0 (Nat.le_of_ble_eq_true rfl)) (FU9.k 0 12 rfl) (Nat.le_of_ble_eq_true rfl) (Nat.le_of_ble_eq_true rfl) rfl ?_
          refine V_iret 185 .int dX12_read_185 rfl rfl (Nat.le_of_ble_eq_true rfl) (Nat.le_of_ble_eq_true rfl) (RI.mk ⟨g, IU⟩)
        · have e13 : sI U m 13 = sI T m 13 := eU.2.2 m 13 (by simp)
          have e15 : sI U m 15 = sI T m 15 := eU.2.2 m 15 (by simp)
          rw [e13] at c1
          rw [e15] at c2
          obtain ⟨K, u, b, c, t, hg, hx, hl⟩ := hz.resolve_left (fun q => absurd c1 (Int32.not_le.mpr q.1))
          have z15 : sI T m 15 = 0 := Int32.le_antisymm c2 nT
          refine V_aload_0 186 dX12_read_186 ?_
          refine V_aload_0 187 dX12_read_187 ?_
          refine V_getI 188 (c := 12) 19 dX12_read_188 fl_RX12_267 (FU9.m 0 (Nat.le_of_ble_eq_true rfl)) (FU9.k 0 12 rfl) (Nat.le_of_ble_eq_true rfl) (Nat.le_of_ble_eq_true rfl) rfl ?_
          rw [(eU.2.2 m 19 (by simp)).trans hx.1]
          refine V_putI 191 (c := 12) 18 dX12_read_191 fl_RX12_264 (FU9.m 0 (Nat.le_of_ble_eq_true rfl)) (FU9.k 0 12 rfl) (Nat.le_of_ble_eq_true rfl) (Nat.le_of_ble_eq_true rfl) rfl (Or.inl rfl) ?_
          have eV : FZ [] [(m, 17), (m, 18)] T (uI U m 18 (nI s)) := (eU.sub (by simp) (by simp)).uI (by simp)
          have v18 : sI (uI U m 18 (nI s)) m 18 = nI s := up2_s _ _ _ _
          have FVU : FZ [] [(m, 17), (m, 18)] U (uI U m 18 (nI s)) := FZ.rf.uI (by simp)
          generalize uI U m 18 (nI s) = V9 at eV v18 FVU ⊢
          have hx9 : DRX m s K u V9 := hx.fz eV (WMN.fz eV (by simp)) (by simp [drX]) (by simp) (hx.2.2.2.2.2.2.2.2.2.1.fz eV (WMN.fz eV (by simp)) (by simp)) (hx.2.2.2.2.2.2.2.2.2.2.fz eV (by simp) (by simp))
          have hl9 : DLW m s b c t V9 := hl.fz eV (fun o a b => by simp) (by simp) (Nat.le_refl _)
          have z159 : sI V9 m 15 = 0 := (eV.2.2 m 15 (by simp)).trans z15
          obtain ⟨g2, t2, tK, tl, tN⟩ := TXT.new (by omega) v18 hx9 hl9 hg.2.2.2.1 z159
          have FV := FU9.ss FVU.1
          refine V_iconst 194 (0) dX12_read_194 (by decide) ?_
          refine V_istore_1 195 dX12_read_195 rfl (Nat.le_of_ble_eq_true rfl) ?_
          refine V_while (α := Nat × PS) (fun x => 30 - x.1) (fun x => x.1 ≤ 30 ∧ FZ [m + 37] [] V9 x.2 ∧ ∀ j, j < x.1 → sA x.2 (m + 37) j = nI 0) (fun x => x.2) (fun x => [some (.ref m), some (.int (nI x.1))]) (0, V9) ⟨Nat.zero_le _, FZ.rf, fun j q => absurd q (Nat.not_lt_zero _)⟩ (fun x hx2 ih2 => ?_)
          obtain ⟨k, T1⟩ := x
          obtain ⟨hk, e1, r1⟩ := hx2
          dsimp only at hk e1 r1 ih2 ⊢
          have FT1 := FV.ss e1.1
          refine V_iload_1 196 dX12_read_196 ?_
          refine V_bipush 197 (30) dX12_read_197 (by decide) ?_
          refine V_icmp_ge 199 215 dX12_read_199 (by decide) (fun d1 => ?_) (fun d1 => ?_)
          rotate_left
          · have d2 := nI_lt8 (by decide) hk d1
            refine V_aload_0 202 dX12_read_202 ?_
            refine V_getR 203 (c := 12) 53 (FT1.r 0 53 37 rfl) dX12_read_203 fl_RX12_128 (FT1.m 0 (Nat.le_of_ble_eq_true rfl)) (FT1.k 0 12 rfl) (Nat.le_of_ble_eq_true rfl) (Nat.le_of_ble_eq_true rfl) rfl ?_
            refine V_iload_1 206 dX12_read_206 ?_
            refine V_iconst 207 (0) dX12_read_207 (by decide) ?_
            refine V_iastore2 208 dX12_read_208 (FT1.m 37 (Nat.le_of_ble_eq_true rfl)) (FT1.k 37 14 rfl) (FT1.l 37 30 rfl) ?_ ?_
            · exact vp_in_nI (by omega) (by decide)
            refine V_iinc_1 209 (1) dX12_read_209 (by decide) rfl (Nat.le_of_ble_eq_true rfl) ?_
            refine V_goto 212 196 dX12_read_212 (by decide) ?_
            rw [nI_1, nI_clamp (by omega)]
            refine ih2 (k + 1, _) ⟨by dsimp only; omega, e1.uA (by simp), fun j hj => ?_⟩ (by dsimp only; omega)
            by_cases c8 : j = k
            · subst c8; exact up2_s _ _ _ _
            · exact (up2_k _ _ c8).trans (r1 j (by dsimp only at hj; omega))
          have d2 : k = 30 := by
            have := (nI_leE (show (30 : Int32) = nI 30 from rfl) (Eq.refl (nI k)) (by omega) (by omega)).mp (by first | exact d1 | exact Int32.not_lt.mp d1)
            omega
          subst d2
          clear ih2 d1
          refine V_iconst 215 (0) dX12_read_215 (by decide) ?_
          refine V_istore_1 216 dX12_read_216 rfl (Nat.le_of_ble_eq_true rfl) ?_
          refine V_while (α := Nat × PS) (fun x => K - x.1) (fun x => x.1 ≤ K ∧ FZ [m + 37] [] V9 x.2 ∧ (∀ j, j < x.1 → sA x.2 (m + 37) j = nI (gN g2 j)) ∧ ∀ j, x.1 ≤ j → j < 30 → sA x.2 (m + 37) j = nI 0) (fun x => x.2) (fun x => [some (.ref m), some (.int (nI x.1))]) (0, T1) ⟨Nat.zero_le _, e1, fun j q => absurd q (Nat.not_lt_zero _), fun j _ q => r1 j q⟩ (fun x hx2 ih2 => ?_)
          clear e1 r1 FT1
          obtain ⟨k, T2⟩ := x
          obtain ⟨hk, e2, r2, r3⟩ := hx2
          dsimp only at hk e2 r2 r3 ih2 ⊢
          have FT2 := FV.ss e2.1
          have e18 : sI T2 m 18 = nI s := (e2.2.2 m 18 (by simp)).trans v18
          have e11 : sA T2 (m + 11) s = nI K := by rw [e2.2.1 (m + 11) (by simp)]; exact hx9.2.1
          have hK := hx9.2.2.1
          refine V_iload_1 217 dX12_read_217 ?_
          refine V_aload_0 218 dX12_read_218 ?_
          refine V_getR 219 (c := 12) 23 (FT2.r 0 23 11 rfl) dX12_read_219 fl_RX12_49 (FT2.m 0 (Nat.le_of_ble_eq_true rfl)) (FT2.k 0 12 rfl) (Nat.le_of_ble_eq_true rfl) (Nat.le_of_ble_eq_true rfl) rfl ?_
          refine V_aload_0 222 dX12_read_222 ?_
          refine V_getI 223 (c := 12) 18 dX12_read_223 fl_RX12_264 (FT2.m 0 (Nat.le_of_ble_eq_true rfl)) (FT2.k 0 12 rfl) (Nat.le_of_ble_eq_true rfl) (Nat.le_of_ble_eq_true rfl) rfl ?_
          rw [e18]
          refine V_iaload2 226 dX12_read_226 (FT2.m 11 (Nat.le_of_ble_eq_true rfl)) (FT2.k 11 14 rfl) (FT2.l 11 2 rfl) ?_ ?_
          · exact vp_in_nI (by omega) (by decide)
          rw [nI_clamp (by omega), e11]
          refine V_icmp_ge 227 256 dX12_read_227 (by decide) (fun d1 => ?_) (fun d1 => ?_)
          rotate_left
          · have d2 := mt (nI_leE (Eq.refl (nI K)) (Eq.refl (nI k)) (by omega) (by omega)).mpr (fun q => d1 (by first | exact q | exact Int32.not_lt.mpr q))
            refine V_aload_0 230 dX12_read_230 ?_
            refine V_getR 231 (c := 12) 53 (FT2.r 0 53 37 rfl) dX12_read_231 fl_RX12_128 (FT2.m 0 (Nat.le_of_ble_eq_true rfl)) (FT2.k 0 12 rfl) (Nat.le_of_ble_eq_true rfl) (Nat.le_of_ble_eq_true rfl) rfl ?_
            refine V_iload_1 234 dX12_read_234 ?_
            refine V_aload_0 235 dX12_read_235 ?_
            refine V_getR 236 (c := 12) 25 (FT2.r 0 25 13 rfl) dX12_read_236 fl_RX12_55 (FT2.m 0 (Nat.le_of_ble_eq_true rfl)) (FT2.k 0 12 rfl) (Nat.le_of_ble_eq_true rfl) (Nat.le_of_ble_eq_true rfl) rfl ?_
            refine V_bipush 239 (8) dX12_read_239 (by decide) ?_
            refine V_aload_0 241 dX12_read_241 ?_
            refine V_getI 242 (c := 12) 18 dX12_read_242 fl_RX12_264 (FT2.m 0 (Nat.le_of_ble_eq_true rfl)) (FT2.k 0 12 rfl) (Nat.le_of_ble_eq_true rfl) (Nat.le_of_ble_eq_true rfl) rfl ?_
            rw [e18]
            refine V_imul 245 dX12_read_245 ?_
            rw [show (8 : Int32) * nI s = nI (8 * s) from nI_mul 8 s]
            refine V_iload_1 246 dX12_read_246 ?_
            refine V_iadd 247 dX12_read_247 ?_
            rw [nI_add]
            refine V_iaload2 248 dX12_read_248 (FT2.m 13 (Nat.le_of_ble_eq_true rfl)) (FT2.k 13 14 rfl) (FT2.l 13 16 rfl) ?_ ?_
            · exact vp_in_nI (by omega) (by decide)
            rw [nI_clamp (by omega), show sA T2 (m + 13) (8 * s + k) = nI (gN g2 k) from by rw [e2.2.1 (m + 13) (by simp)]; exact tN k (by omega)]
            refine V_iastore2 249 dX12_read_249 (FT2.m 37 (Nat.le_of_ble_eq_true rfl)) (FT2.k 37 14 rfl) (FT2.l 37 30 rfl) ?_ ?_
            · exact vp_in_nI (by omega) (by decide)
            refine V_iinc_1 250 (1) dX12_read_250 (by decide) rfl (Nat.le_of_ble_eq_true rfl) ?_
            refine V_goto 253 217 dX12_read_253 (by decide) ?_
            rw [nI_1, nI_clamp (by omega)]
            refine ih2 (k + 1, _) ⟨by dsimp only; omega, e2.uA (by simp), fun j hj => ?_, fun j h1 h2 => (up2_k _ _ (by dsimp only at h1; omega)).trans (r3 j (by dsimp only at h1; omega) h2)⟩ (by dsimp only; omega)
            by_cases c8 : j = k
            · subst c8; exact up2_s _ _ _ _
            · exact (up2_k _ _ c8).trans (r2 j (by dsimp only at hj; omega))
          have d2 : k = K := by
            have := (nI_leE (Eq.refl (nI K)) (Eq.refl (nI k)) (by omega) (by omega)).mp (by first | exact d1 | exact Int32.not_lt.mp d1)
            omega
          subst d2
          clear ih2 d1
          refine V_aload_0 256 dX12_read_256 ?_
          refine V_iconst 257 (0) dX12_read_257 (by decide) ?_
          refine V_putI 258 (c := 12) 57 dX12_read_258 fl_RX12_279 (FT2.m 0 (Nat.le_of_ble_eq_true rfl)) (FT2.k 0 12 rfl) (Nat.le_of_ble_eq_true rfl) (Nat.le_of_ble_eq_true rfl) rfl (Or.inl rfl) ?_
          refine V_aload_0 261 dX12_read_261 ?_
          refine V_iconst 262 (0) dX12_read_262 (by decide) ?_
          refine V_putI 263 (c := 12) 70 dX12_read_263 fl_RX12_282 (FT2.m 0 (Nat.le_of_ble_eq_true rfl)) (FT2.k 0 12 rfl) (Nat.le_of_ble_eq_true rfl) (Nat.le_of_ble_eq_true rfl) rfl (Or.inl rfl) ?_
          refine V_iconst 266 (0) dX12_read_266 (by decide) ?_
          refine V_istore_1 267 dX12_read_267 rfl (Nat.le_of_ble_eq_true rfl) ?_
          have eW : FZ [m + 37] [(m, 57), (m, 70)] V9 (uI (uI T2 m 57 0) m 70 0) := ((e2.sub (by simp) (by simp)).uI (by simp)).uI (by simp)
          have w57 : sI (uI (uI T2 m 57 0) m 70 0) m 57 = nI 0 := (up2_k _ _ (by decide)).trans (up2_s _ _ _ _)
          have w70 : sI (uI (uI T2 m 57 0) m 70 0) m 70 = nI 0 := up2_s _ _ _ _
          have w37 : ∀ j, sA (uI (uI T2 m 57 0) m 70 0) (m + 37) j = sA T2 (m + 37) j := fun _ => rfl
          generalize uI (uI T2 m 57 0) m 70 0 = W1 at eW w57 w70 w37 ⊢
          have FW := FV.ss eW.1
          refine V_while (α := Nat × PS) (fun x => 3 - x.1) (fun x => x.1 ≤ 3 ∧ FZ [m + 55] [] W1 x.2 ∧ ∀ j, j < x.1 → sA x.2 (m + 55) j = 0) (fun x => x.2) (fun x => [some (.ref m), some (.int (nI x.1))]) (0, W1) ⟨Nat.zero_le _, FZ.rf, fun j q => absurd q (Nat.not_lt_zero _)⟩ (fun x hx2 ih2 => ?_)
          obtain ⟨k, T3⟩ := x
          obtain ⟨hk3, e3, r5⟩ := hx2
          dsimp only at hk3 e3 r5 ih2 ⊢
          have FT3 := FW.ss e3.1
          refine V_iload_1 268 dX12_read_268 ?_
          refine V_iconst 269 (3) dX12_read_269 (by decide) ?_
          refine V_icmp_ge 270 286 dX12_read_270 (by decide) (fun d1 => ?_) (fun d1 => ?_)
          rotate_left
          · have d2 := nI_lt8 (by decide) hk3 d1
            refine V_aload_0 273 dX12_read_273 ?_
            refine V_getR 274 (c := 12) 75 (FT3.r 0 75 55 rfl) dX12_read_274 fl_RX12_183 (FT3.m 0 (Nat.le_of_ble_eq_true rfl)) (FT3.k 0 12 rfl) (Nat.le_of_ble_eq_true rfl) (Nat.le_of_ble_eq_true rfl) rfl ?_
            refine V_iload_1 277 dX12_read_277 ?_
            refine V_iconst 278 (0) dX12_read_278 (by decide) ?_
            refine V_zastore2 279 dX12_read_279 (FT3.m 55 (Nat.le_of_ble_eq_true rfl)) (FT3.k 55 16 rfl) (FT3.l 55 3 rfl) ?_ (Or.inl rfl) ?_
            · exact vp_in_nI (by omega) (by decide)
            refine V_iinc_1 280 (1) dX12_read_280 (by decide) rfl (Nat.le_of_ble_eq_true rfl) ?_
            refine V_goto 283 268 dX12_read_283 (by decide) ?_
            rw [nI_1, nI_clamp (by omega)]
            refine ih2 (k + 1, _) ⟨by dsimp only; omega, e3.uA (by simp), fun j hj => ?_⟩ (by dsimp only; omega)
            by_cases c8 : j = k
            · subst c8; exact up2_s _ _ _ _
            · exact (up2_k _ _ c8).trans (r5 j (by dsimp only at hj; omega))
          have d2 : k = 3 := by
            have := (nI_leE (show (3 : Int32) = nI 3 from rfl) (Eq.refl (nI k)) (by omega) (by omega)).mp (by first | exact d1 | exact Int32.not_lt.mp d1)
            omega
          subst d2
          clear ih2 d1
          refine V_iconst 286 (0) dX12_read_286 (by decide) ?_
          have eZ : FZ [m + 37, m + 55] [(m, 57), (m, 70)] V9 T3 := (eW.sub (by simp) (by simp)).tr (e3.sub (by simp) (by simp))
          refine V_iret 287 .int dX12_read_287 rfl rfl (Nat.le_of_ble_eq_true rfl) (Nat.le_of_ble_eq_true rfl) (RI.mk ⟨g2, FT3, t2.z [37, 55] [(0, 57), (0, 70)] eZ rfl rfl rfl rfl, ⟨fun k => if k < gK g2 then gN g2 k else 0, fun _ => 0, fun k hk8 => ⟨?_, ?_⟩, fun k hk8 => ?_⟩, ⟨0, by omega, (e3.2.2 m 57 (by simp)).trans w57, fun i q => absurd q (Nat.not_lt_zero _)⟩, ⟨0, by omega, (e3.2.2 m 70 (by simp)).trans w70, fun i q => absurd q (Nat.not_lt_zero _)⟩, fun q hq n => absurd (r5 q hq) n, ?_, by omega⟩)
          · rw [Nat.zero_add, e3.2.1 (m + 37) (by simp), w37]
            dsimp only
            by_cases c8 : k < gK g2
            · rw [if_pos c8]; exact r2 k (by omega)
            · rw [if_neg c8]; exact r3 k (by omega) (by omega)
          · rw [Nat.zero_add, e3.2.1 (m + 37) (by simp), w37]
            exact r3 (8 + k) (by omega) (by omega)
          · show (if k < gK g2 then gN g2 k else 0) + 0 ≤ lim g2 k
            exact Nat.le_refl _
          · exact (eZ.2.2 m 2 (by simp)).trans ((eV.2.2 m 2 (by simp)).trans IT.tape)
    refine V_aload_0 129 dX12_read_129 ?_
    refine V_aload_0 130 dX12_read_130 ?_
    refine V_getI 131 (c := 12) 13 dX12_read_131 fl_RX12_234 (FT9.m 0 (Nat.le_of_ble_eq_true rfl)) (FT9.k 0 12 rfl) (Nat.le_of_ble_eq_true rfl) (Nat.le_of_ble_eq_true rfl) rfl ?_
    refine V_if_le 134 144 dX12_read_134 (by decide) (fun c1 => ?_) (fun c1 => ?_)
    ·
      refine V_aload_0 144 dX12_read_144 ?_
      refine V_getI 145 (c := 12) 15 dX12_read_145 fl_RX12_243 (FT9.m 0 (Nat.le_of_ble_eq_true rfl)) (FT9.k 0 12 rfl) (Nat.le_of_ble_eq_true rfl) (Nat.le_of_ble_eq_true rfl) rfl ?_
      refine V_if_le 148 158 dX12_read_148 (by decide) (fun c2 => ?_) (fun c2 => ?_)
      ·
        refine V_iconst 158 (-1) dX12_read_158 (by decide) ?_
        exact J159 _
      ·
        refine V_aload_0 151 dX12_read_151 ?_
        refine V_getI 152 (c := 12) 16 dX12_read_152 fl_RX12_246 (FT9.m 0 (Nat.le_of_ble_eq_true rfl)) (FT9.k 0 12 rfl) (Nat.le_of_ble_eq_true rfl) (Nat.le_of_ble_eq_true rfl) rfl ?_
        refine V_goto 155 159 dX12_read_155 (by decide) ?_
        exact J159 _
    ·
      refine V_aload_0 137 dX12_read_137 ?_
      refine V_getI 138 (c := 12) 14 dX12_read_138 fl_RX12_240 (FT9.m 0 (Nat.le_of_ble_eq_true rfl)) (FT9.k 0 12 rfl) (Nat.le_of_ble_eq_true rfl) (Nat.le_of_ble_eq_true rfl) rfl ?_
      refine V_goto 141 159 dX12_read_141 (by decide) ?_
      exact J159 _
  have hz2 : FLT m T ∨ ∃ K u b c t, GD m c t T ∧ DRX m s K u T ∧ DLW m s b c t T := hz.imp (fun q => q.1) (fun ⟨K, u, b, c, t, q1, q2, q3, _⟩ => ⟨K, u, b, c, t, q1, q2, q3⟩)
  refine V_aload_0 107 dX12_read_107 ?_
  refine V_getI 108 (c := 12) 13 dX12_read_108 fl_RX12_234 (FT9.m 0 (Nat.le_of_ble_eq_true rfl)) (FT9.k 0 12 rfl) (Nat.le_of_ble_eq_true rfl) (Nat.le_of_ble_eq_true rfl) rfl ?_
  refine V_if_ne 111 129 dX12_read_111 (by decide) (fun c1 => ?_) (fun c1 => ?_)
  · exact J129 hz2
  · obtain ⟨K, u, b, c, t, hg, hx, hl, hf⟩ := hz.resolve_left (fun q => q.1.no c1)
    have h400 := hg.2.2.2.1
    refine V_aload_0 114 dX12_read_114 ?_
    refine V_iconst 115 (0) dX12_read_115 (by decide) ?_
    refine V_callV 116 (ci := 12) [.int _] _ (s_mis M.2.1 Γ T FT9 hg.2.2.1 hg.2.2.2.1 _) dX12_read_116 cb_X12_is ml_RX12_252 im_yX12_is se_yX12_is (FT9.m 0 (Nat.le_of_ble_eq_true rfl)) (FT9.k 0 12 rfl) (Nat.le_of_ble_eq_true rfl) ⟨(Nat.le_of_ble_eq_true rfl), (Nat.le_of_ble_eq_true rfl)⟩ rfl rfl (Nat.le_of_ble_eq_true rfl) ⟨(Nat.le_of_ble_eq_true rfl), (Nat.le_of_ble_eq_true rfl)⟩ (RI.go (fun r1 S8 q1 => ?_))
    rw [q1.2]
    refine V_if_ne 119 129 dX12_read_119 (by decide) (fun c2 => ?_) (fun c2 => ?_)
    · exact J129 hz2
    ·
      refine V_aload_0 122 dX12_read_122 ?_
      refine V_callV 123 (ci := 12) [] _ (s_mtell M.2.1 Γ T FT9 (s := s) (by omega) hg hx hl) dX12_read_123 cb_X12_tell ml_RX12_276 im_yX12_tell se_yX12_tell (FT9.m 0 (Nat.le_of_ble_eq_true rfl)) (FT9.k 0 12 rfl) (Nat.le_of_ble_eq_true rfl) ⟨(Nat.le_of_ble_eq_true rfl), (Nat.le_of_ble_eq_true rfl)⟩ rfl rfl (Nat.le_of_ble_eq_true rfl) ⟨(Nat.le_of_ble_eq_true rfl), (Nat.le_of_ble_eq_true rfl)⟩ (RV.go (fun S9 k9 => ?_))
      refine V_goto 126 107 dX12_read_126 (by decide) ?_
      have I9 : MV Γ.2.2.2.2.1 m g 0 S9 := IT.out [8, 10, 11, 12, 13, 14, 15, 16, 17, 18, 19, 20, 21, 22, 23, 24, 25, 26, 27, 28, 29, 30, 31, 32, 33, 34] [(0, 11), (0, 12), (0, 13), (0, 14), (0, 15), (0, 16), (0, 39), (0, 45), (0, 49)] k9.1 k9.2.1 hs rfl rfl rfl rfl
      rcases k9.2.2.2 with q | ⟨K2, u2, b2, c3, t2, q1, q2, q3, q4⟩
      · exact ih (0, S9) ⟨I9, k9.2.2.1.2 nT, Or.inl ⟨q, rfl⟩⟩ (by dsimp only; omega)
      · exact ih (402 - t2, S9) ⟨I9, k9.2.2.1.2 nT, Or.inr ⟨K2, u2, b2, c3, t2, q2, q3, q4, rfl⟩⟩ (by have := q2.2.2.2.1; dsimp only; omega)

