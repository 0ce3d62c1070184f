/-! Orders, from any ints, bags bounded -/
def OB (o B : Nat) (S : PS) : Prop := (∀ i, IB B (sA S (o + 1) i)) ∧ IB (B * 8) (sI S o 3)
section OBS
variable {o s B : Nat} {S S2 : PS} {X : List Nat} {Y : List (Nat × Nat)} {v : Int32}
theorem OB.fz (h : OB o B S) (e : FZ X Y S S2) (hx : o + 1 ∉ X) (hy : (o, 3) ∉ Y) : OB o B S2 := ⟨fun i => by rw [e.2.1 _ hx]; exact h.1 i, by rw [e.2.2 _ _ hy]; exact h.2⟩
theorem OB.fw (h : OB o B S) (e : FW X Y S S2) (hx : o + 1 ∉ X) (hy : (o, 3) ∉ Y) : OB o B S2 := ⟨fun i => by rw [e.2.1 _ hx]; exact h.1 i, by rw [e.2.2 _ _ hy]; exact h.2⟩
theorem OB.mono {C : Nat} (h : OB o B S) (hB : B ≤ C) : OB o C S := ⟨fun i => (h.1 i).mono hB, h.2.mono (by omega)⟩
theorem OB.cpy {a b n : Nat} (h : OB o B S) (e : S2 = cpA S a b n) (g : ∀ j, j < n → IB B (sA S a j)) : OB o B S2 := by
  rw [e]
  refine ⟨fun j => ?_, h.2⟩
  show IB B (if o + 1 = b ∧ j < n then sA S a j else sA S (o + 1) j)
  split
  · rename_i q; exact g j q.2
  · exact h.1 j
theorem OB.things (h : OB o B S) (e : v = aSum (sA S (o + 1)) (sL S (o + 1))) (hl : sL S (o + 1) = 8) (hB : B * 8 < 2147483648) : OB o B (uI S o 3 v) := by
  refine ⟨h.1, ?_⟩
  rw [sI_uI, up2_s, e, hl]
  exact IB.aSum h.1 8 (by decide) hB
theorem IB.sub {x y : Int32} {B C : Nat} (h : IB B x) (g : IB C y) (hB : B + C < 2147483648) : IB (B + C) (x - y) := by
  have e : (x - y).toInt = x.toInt - y.toInt := by
    rw [Int32.toInt_sub]
    exact Int.bmod_eq_of_le (by have := h.1; have := g.2; omega) (by have := h.2; have := g.1; omega)
  constructor <;> rw [e] <;> have h1 := h.1 <;> have h2 := h.2 <;> have g1 := g.1 <;> have g2 := g.2 <;> push_cast <;> omega
theorem lt19 {x : Int32} (h : x < nI 19) : ¬ nI 19 ≤ x := Int32.not_le.mpr h
end OBS
set_option maxRecDepth 100000 in
set_option maxHeartbeats 8000000 in
theorem s_forget (l : Launch) (Γ : GC) (S : PS) {o : Nat} (F : isL lyOrders Γ.2.2.2.2.1 S o) : CT l Γ yX5_forgetCounts cX5_forgetCounts 2 none (0) (0) (0) [.ref o] S (RV (fun S' => FZ [] [] S S')) := by
  refine CT.of RX5 "forgetCounts" [some (.ref o), none] (by decide +kernel) rfl rfl (Nat.le_of_ble_eq_true rfl) rfl (fun M hM => ?_)
  subst hM
  refine V_iconst 0 (0) dX5_forgetCounts_0 (by decide) ?_
  refine V_istore_1 1 dX5_forgetCounts_1 rfl (Nat.le_of_ble_eq_true rfl) ?_
  refine V_lvw (by repeat (first | exact trivial | refine ⟨rfl, ?_⟩)) (V_while (α := Nat × PS) (fun z1 => 19 - z1.1) (fun z1 => z1.1 ≤ 19 ∧ FZ [] [] S z1.2) (fun z1 => z1.2) (fun z1 => [some (.ref o), some (.int (nI z1.1))]) (0, _) ⟨Nat.zero_le _, FZ.rf⟩ (fun z1 hx7 ih6 => ?b8))
  obtain ⟨i2, S3⟩ := z1
  obtain ⟨hi4, h5⟩ := hx7
  dsimp only at hi4 h5 ih6 ⊢
  refine V_iload_1 2 dX5_forgetCounts_2 ?_
  refine V_aload_0 3 dX5_forgetCounts_3 ?_
  refine V_getR 4 (c := 5) 6 ((F.ss h5.1).r 0 6 9 rfl) dX5_forgetCounts_4 fl_RX5_32 ((F.ss h5.1).m 0 (Nat.le_of_ble_eq_true rfl)) ((F.ss h5.1).k 0 5 rfl) (Nat.le_of_ble_eq_true rfl) (Nat.le_of_ble_eq_true rfl) rfl ?_
  refine V_alen2 7 dX5_forgetCounts_7 ((F.ss h5.1).m 9 (Nat.le_of_ble_eq_true rfl)) ((F.ss h5.1).k 9 15 rfl) (Nat.le_of_ble_eq_true rfl) (Nat.le_of_ble_eq_true rfl) ((F.ss h5.1).l 9 19 rfl) ?_
  refine V_icmp_ge 8 26 dX5_forgetCounts_8 (by decide) (fun c10 => ?_) (fun c10 => ?_)
  ·
    refine V_vret 26 dX5_forgetCounts_26 rfl (Nat.le_of_ble_eq_true rfl) (Nat.le_of_ble_eq_true rfl) (RV.mk h5)
  ·
    have lt11 := nI_lt8 (by decide) hi4 c10
    refine V_aload_0 11 dX5_forgetCounts_11 ?_
    refine V_getR 12 (c := 5) 6 ((F.ss h5.1).r 0 6 9 rfl) dX5_forgetCounts_12 fl_RX5_32 ((F.ss h5.1).m 0 (Nat.le_of_ble_eq_true rfl)) ((F.ss h5.1).k 0 5 rfl) (Nat.le_of_ble_eq_true rfl) (Nat.le_of_ble_eq_true rfl) rfl ?_
    refine V_iload_1 15 dX5_forgetCounts_15 ?_
    refine V_ldc2_w 16 dX5_forgetCounts_16 kL_RX5_61 ?_
    refine V_lastore2 19 dX5_forgetCounts_19 ((F.ss h5.1).m 9 (Nat.le_of_ble_eq_true rfl)) ((F.ss h5.1).k 9 15 rfl) ((F.ss h5.1).l 9 19 rfl) ?_ ?_
    · exact vp_in_nI (by omega) (by decide)
    refine V_abs (FZ [] [] S) (h5.uJ) (fun S12 h13 => ?_)
    refine V_iinc_1 20 (1) dX5_forgetCounts_20 (by decide) rfl (Nat.le_of_ble_eq_true rfl) ?_
    refine V_goto 23 2 dX5_forgetCounts_23 (by decide) ?_
    rw [← nI_succ]
    refine V_lvw (by repeat (first | exact trivial | refine ⟨rfl, ?_⟩)) (ih6 (i2 + 1, _) ⟨by dsimp only; omega, h13⟩ (by dsimp only; omega))
set_option maxRecDepth 100000 in
set_option maxHeartbeats 8000000 in
theorem s_look (l : Launch) (Γ : GC) (S : PS) {o s t : Nat} (F : isL lyOrders Γ.2.2.2.2.1 S o) (Fs : isL lyState Γ.2.2.2.2.1 S s) (Ft : isL lyText Γ.2.2.2.2.1 S t) (hd : s + 4 ≤ o ∨ o + 10 ≤ s) (B : Nat) (hs : NB s B S) (h : OB o B S) (hB : B * 8 < 2147483647) : CT l Γ yX5_look cX5_look 4 none (1) (0) (0) [.ref o, .ref s, .ref t] S (RV (fun S' => FZ [o + 1, o + 2, o + 3] [(o, 3)] S S' ∧ OB o B S')) := by
  refine CT.of RX5 "look" [some (.ref o), some (.ref s), some (.ref t), none] (by decide +kernel) rfl rfl (Nat.le_of_ble_eq_true rfl) rfl (fun M hM => ?_)
  subst hM
  refine V_aload_0 0 dX5_look_0 ?_
  refine V_getR 1 (c := 5) 0 (F.r 0 0 1 rfl) dX5_look_1 fl_RX5_9 (F.m 0 (Nat.le_of_ble_eq_true rfl)) (F.k 0 5 rfl) (Nat.le_of_ble_eq_true rfl) (Nat.le_of_ble_eq_true rfl) rfl ?_
  refine V_aload_1 4 dX5_look_4 ?_
  refine V_getR 5 (c := 7) 0 (Fs.r 0 0 1 rfl) dX5_look_5 fl_RX5_38 (Fs.m 0 (Nat.le_of_ble_eq_true rfl)) (Fs.k 0 7 rfl) (Nat.le_of_ble_eq_true rfl) (Nat.le_of_ble_eq_true rfl) rfl ?_
  refine V_callSN 8 [.ref _, .ref _] _ (s_sameRow M.2.1 Γ S (F.m 1 (Nat.le_of_ble_eq_true rfl)) (F.k 1 14 rfl) (F.l 1 8 rfl) (Fs.m 1 (Nat.le_of_ble_eq_true rfl)) (Fs.k 1 14 rfl) (Fs.l 1 8 rfl)) dX5_look_8 cb_X11_sameRow ne_RX5_41 sm_yX11_sameRow ⟨(Nat.le_of_ble_eq_true rfl), (Nat.le_of_ble_eq_true rfl)⟩ rfl rfl (Nat.le_of_ble_eq_true rfl) ⟨(Nat.le_of_ble_eq_true rfl), (Nat.le_of_ble_eq_true rfl)⟩ (RI.go (fun r3 S1 q2 => ?_))
  have h4 : FZ [o + 1, o + 2, o + 3] [(o, 3)] S S1 := (FZ.rf (X := [o + 1, o + 2, o + 3]) (Y := [(o, 3)]) (S := S)).tr (q2.2.sub (by simp) (by simp))
  have p5 : ((fun T => NB s B T ∧ OB o B T) S1) := by exact ⟨(And.intro hs h).1.fz q2.2 (by simp) (by simp) (by simp), (And.intro hs h).2.fz q2.2 (by simp) (by simp)⟩
  refine V_if_eq 11 46 dX5_look_11 (by decide) (fun c6 => ?_) (fun c6 => ?_)
  ·
    refine V_iconst 46 (0) dX5_look_46 (by decide) ?_
    refine V_istore_3 47 dX5_look_47 rfl (Nat.le_of_ble_eq_true rfl) ?_
    refine V_iload_3 48 dX5_look_48 ?_
    refine V_if_eq 49 53 dX5_look_49 (by decide) (fun c7 => ?_) (fun c7 => ?_)
    ·
      refine V_aload_1 53 dX5_look_53 ?_
      refine V_getR 54 (c := 7) 0 ((Fs.ss h4.1).r 0 0 1 rfl) dX5_look_54 fl_RX5_38 ((Fs.ss h4.1).m 0 (Nat.le_of_ble_eq_true rfl)) ((Fs.ss h4.1).k 0 7 rfl) (Nat.le_of_ble_eq_true rfl) (Nat.le_of_ble_eq_true rfl) rfl ?_
      refine V_aload_0 57 dX5_look_57 ?_
      refine V_getR 58 (c := 5) 0 ((F.ss h4.1).r 0 0 1 rfl) dX5_look_58 fl_RX5_9 ((F.ss h4.1).m 0 (Nat.le_of_ble_eq_true rfl)) ((F.ss h4.1).k 0 5 rfl) (Nat.le_of_ble_eq_true rfl) (Nat.le_of_ble_eq_true rfl) rfl ?_
      refine V_callSN 61 [.ref _, .ref _] _ (c_copyRow M.2.1 Γ S1 (a := (s + 1)) (b := (o + 1)) ((Fs.ss h4.1).m 1 (Nat.le_of_ble_eq_true rfl)) ((Fs.ss h4.1).k 1 14 rfl) (by rw [((Fs.ss h4.1).l 1 8 rfl)]; decide) ((F.ss h4.1).m 1 (Nat.le_of_ble_eq_true rfl)) ((F.ss h4.1).k 1 14 rfl) ((((F.ss h4.1).l 1 8 rfl)).trans (((Fs.ss h4.1).l 1 8 rfl)).symm)) dX5_look_61 cb_X11_copyRow ne_RX5_49 sm_yX11_copyRow ⟨(Nat.le_of_ble_eq_true rfl), (Nat.le_of_ble_eq_true rfl)⟩ rfl rfl (Nat.le_of_ble_eq_true rfl) ⟨(Nat.le_of_ble_eq_true rfl), (Nat.le_of_ble_eq_true rfl)⟩ (RV.go (fun S8 q9 => ?_))
      have h11 : FZ [o + 1, o + 2, o + 3] [(o, 3)] S S8 := h4.tr ((fr_cpy q9).sub (by simp) (by simp))
      have p12 : ((fun T => NB s B T ∧ OB o B T) S8) := by exact ⟨p5.1.fz (fr_cpy q9) (by simp; omega) (by simp; omega) (by simp), p5.2.cpy q9 (cpB1 p5.1)⟩
      refine V_aload_1 64 dX5_look_64 ?_
      refine V_getR 65 (c := 7) 1 ((Fs.ss h11.1).r 0 1 2 rfl) dX5_look_65 fl_RX5_45 ((Fs.ss h11.1).m 0 (Nat.le_of_ble_eq_true rfl)) ((Fs.ss h11.1).k 0 7 rfl) (Nat.le_of_ble_eq_true rfl) (Nat.le_of_ble_eq_true rfl) rfl ?_
      refine V_aload_0 68 dX5_look_68 ?_
      refine V_getR 69 (c := 5) 1 ((F.ss h11.1).r 0 1 2 rfl) dX5_look_69 fl_RX5_15 ((F.ss h11.1).m 0 (Nat.le_of_ble_eq_true rfl)) ((F.ss h11.1).k 0 5 rfl) (Nat.le_of_ble_eq_true rfl) (Nat.le_of_ble_eq_true rfl) rfl ?_
      refine V_callSN 72 [.ref _, .ref _] _ (c_copyRow M.2.1 Γ S8 (a := (s + 2)) (b := (o + 2)) ((Fs.ss h11.1).m 2 (Nat.le_of_ble_eq_true rfl)) ((Fs.ss h11.1).k 2 14 rfl) (by rw [((Fs.ss h11.1).l 2 8 rfl)]; decide) ((F.ss h11.1).m 2 (Nat.le_of_ble_eq_true rfl)) ((F.ss h11.1).k 2 14 rfl) ((((F.ss h11.1).l 2 8 rfl)).trans (((Fs.ss h11.1).l 2 8 rfl)).symm)) dX5_look_72 cb_X11_copyRow ne_RX5_49 sm_yX11_copyRow ⟨(Nat.le_of_ble_eq_true rfl), (Nat.le_of_ble_eq_true rfl)⟩ rfl rfl (Nat.le_of_ble_eq_true rfl) ⟨(Nat.le_of_ble_eq_true rfl), (Nat.le_of_ble_eq_true rfl)⟩ (RV.go (fun S13 q14 => ?_))
      have h16 : FZ [o + 1, o + 2, o + 3] [(o, 3)] S S13 := h11.tr ((fr_cpy q14).sub (by simp) (by simp))
      have p17 : ((fun T => NB s B T ∧ OB o B T) S13) := by exact ⟨p12.1.fz (fr_cpy q14) (by simp; omega) (by simp; omega) (by simp), p12.2.fz (fr_cpy q14) (by simp) (by simp)⟩
      refine V_aload_2 75 dX5_look_75 ?_
      refine V_getR 76 (c := 10) 3 ((Ft.ss h16.1).r 0 3 2 rfl) dX5_look_76 fl_RX5_46 ((Ft.ss h16.1).m 0 (Nat.le_of_ble_eq_true rfl)) ((Ft.ss h16.1).k 0 10 rfl) (Nat.le_of_ble_eq_true rfl) (Nat.le_of_ble_eq_true rfl) rfl ?_
      refine V_aload_0 79 dX5_look_79 ?_
      refine V_getR 80 (c := 5) 2 ((F.ss h16.1).r 0 2 3 rfl) dX5_look_80 fl_RX5_18 ((F.ss h16.1).m 0 (Nat.le_of_ble_eq_true rfl)) ((F.ss h16.1).k 0 5 rfl) (Nat.le_of_ble_eq_true rfl) (Nat.le_of_ble_eq_true rfl) rfl ?_
      refine V_callSN 83 [.ref _, .ref _] _ (c_copyRow M.2.1 Γ S13 (a := (t + 2)) (b := (o + 3)) ((Ft.ss h16.1).m 2 (Nat.le_of_ble_eq_true rfl)) ((Ft.ss h16.1).k 2 14 rfl) (by rw [((Ft.ss h16.1).l 2 8 rfl)]; decide) ((F.ss h16.1).m 3 (Nat.le_of_ble_eq_true rfl)) ((F.ss h16.1).k 3 14 rfl) ((((F.ss h16.1).l 3 8 rfl)).trans (((Ft.ss h16.1).l 2 8 rfl)).symm)) dX5_look_83 cb_X11_copyRow ne_RX5_49 sm_yX11_copyRow ⟨(Nat.le_of_ble_eq_true rfl), (Nat.le_of_ble_eq_true rfl)⟩ rfl rfl (Nat.le_of_ble_eq_true rfl) ⟨(Nat.le_of_ble_eq_true rfl), (Nat.le_of_ble_eq_true rfl)⟩ (RV.go (fun S18 q19 => ?_))
      have h21 : FZ [o + 1, o + 2, o + 3] [(o, 3)] S S18 := h16.tr ((fr_cpy q19).sub (by simp) (by simp))
      have p22 : ((fun T => NB s B T ∧ OB o B T) S18) := by exact ⟨p17.1.fz (fr_cpy q19) (by simp; omega) (by simp; omega) (by simp), p17.2.fz (fr_cpy q19) (by simp) (by simp)⟩
      refine V_aload_0 86 dX5_look_86 ?_
      refine V_aload_0 87 dX5_look_87 ?_
      refine V_getR 88 (c := 5) 0 ((F.ss h21.1).r 0 0 1 rfl) dX5_look_88 fl_RX5_9 ((F.ss h21.1).m 0 (Nat.le_of_ble_eq_true rfl)) ((F.ss h21.1).k 0 5 rfl) (Nat.le_of_ble_eq_true rfl) (Nat.le_of_ble_eq_true rfl) rfl ?_
      refine V_callSN 91 [.ref _] _ (c_total M.2.1 Γ S18 (a := (o + 1)) ((F.ss h21.1).m 1 (Nat.le_of_ble_eq_true rfl)) ((F.ss h21.1).k 1 14 rfl) (by rw [((F.ss h21.1).l 1 8 rfl)]; decide)) dX5_look_91 cb_X11_total ne_RX5_53 sm_yX11_total ⟨(Nat.le_of_ble_eq_true rfl), (Nat.le_of_ble_eq_true rfl)⟩ rfl rfl (Nat.le_of_ble_eq_true rfl) ⟨(Nat.le_of_ble_eq_true rfl), (Nat.le_of_ble_eq_true rfl)⟩ (RI.go (fun r25 S23 q24 => ?_))
      have ht9 := q24.1
      rw [q24.2]
      refine V_putI 94 (c := 5) 3 dX5_look_94 fl_RX5_57 ((F.ss h21.1).m 0 (Nat.le_of_ble_eq_true rfl)) ((F.ss h21.1).k 0 5 rfl) (Nat.le_of_ble_eq_true rfl) (Nat.le_of_ble_eq_true rfl) rfl (Or.inl rfl) ?_
      refine V_abs (fun T9 => FZ [o + 1, o + 2, o + 3] [(o, 3)] S T9 ∧ ((fun T => NB s B T ∧ OB o B T) T9)) ⟨h21.uI (by simp), by exact ⟨NB_uI p22.1 (by simp), p22.2.things ht9 ((F.ss h21.1).l 1 8 rfl) (by omega)⟩⟩ (fun S26 hh29 => ?_)
      obtain ⟨h27, p28⟩ := hh29
      refine V_aload_0 97 dX5_look_97 ?_
      refine V_callV 98 (ci := 5) [] _ (s_forget M.2.1 Γ S26 (F.ss h27.1)) dX5_look_98 cb_X5_forgetCounts ml_RX5_35 im_yX5_forgetCounts se_yX5_forgetCounts ((F.ss h27.1).m 0 (Nat.le_of_ble_eq_true rfl)) ((F.ss h27.1).k 0 5 rfl) (Nat.le_of_ble_eq_true rfl) ⟨(Nat.le_of_ble_eq_true rfl), (Nat.le_of_ble_eq_true rfl)⟩ rfl rfl (Nat.le_of_ble_eq_true rfl) ⟨(Nat.le_of_ble_eq_true rfl), (Nat.le_of_ble_eq_true rfl)⟩ (RV.go (fun S30 q31 => ?_))
      have h33 : FZ [o + 1, o + 2, o + 3] [(o, 3)] S S30 := h27.tr (q31.sub (by simp) (by simp))
      have p34 : ((fun T => NB s B T ∧ OB o B T) S30) := by exact ⟨p28.1.fz q31 (by simp) (by simp) (by simp), p28.2.fz q31 (by simp) (by simp)⟩
      refine V_vret 101 dX5_look_101 rfl (Nat.le_of_ble_eq_true rfl) (Nat.le_of_ble_eq_true rfl) (RV.mk ⟨h33, p34.2⟩)
    ·
      refine V_vret 52 dX5_look_52 rfl (Nat.le_of_ble_eq_true rfl) (Nat.le_of_ble_eq_true rfl) (RV.mk ⟨h4, p5.2⟩)
  ·
    refine V_aload_0 14 dX5_look_14 ?_
    refine V_getR 15 (c := 5) 1 ((F.ss h4.1).r 0 1 2 rfl) dX5_look_15 fl_RX5_15 ((F.ss h4.1).m 0 (Nat.le_of_ble_eq_true rfl)) ((F.ss h4.1).k 0 5 rfl) (Nat.le_of_ble_eq_true rfl) (Nat.le_of_ble_eq_true rfl) rfl ?_
    refine V_aload_1 18 dX5_look_18 ?_
    refine V_getR 19 (c := 7) 1 ((Fs.ss h4.1).r 0 1 2 rfl) dX5_look_19 fl_RX5_45 ((Fs.ss h4.1).m 0 (Nat.le_of_ble_eq_true rfl)) ((Fs.ss h4.1).k 0 7 rfl) (Nat.le_of_ble_eq_true rfl) (Nat.le_of_ble_eq_true rfl) rfl ?_
    refine V_callSN 22 [.ref _, .ref _] _ (s_sameRow M.2.1 Γ S1 ((F.ss h4.1).m 2 (Nat.le_of_ble_eq_true rfl)) ((F.ss h4.1).k 2 14 rfl) ((F.ss h4.1).l 2 8 rfl) ((Fs.ss h4.1).m 2 (Nat.le_of_ble_eq_true rfl)) ((Fs.ss h4.1).k 2 14 rfl) ((Fs.ss h4.1).l 2 8 rfl)) dX5_look_22 cb_X11_sameRow ne_RX5_41 sm_yX11_sameRow ⟨(Nat.le_of_ble_eq_true rfl), (Nat.le_of_ble_eq_true rfl)⟩ rfl rfl (Nat.le_of_ble_eq_true rfl) ⟨(Nat.le_of_ble_eq_true rfl), (Nat.le_of_ble_eq_true rfl)⟩ (RI.go (fun r37 S35 q36 => ?_))
    have h38 : FZ [o + 1, o + 2, o + 3] [(o, 3)] S S35 := h4.tr (q36.2.sub (by simp) (by simp))
    have p39 : ((fun T => NB s B T ∧ OB o B T) S35) := by exact ⟨p5.1.fz q36.2 (by simp) (by simp) (by simp), p5.2.fz q36.2 (by simp) (by simp)⟩
    refine V_if_eq 25 46 dX5_look_25 (by decide) (fun c40 => ?_) (fun c40 => ?_)
    ·
      refine V_iconst 46 (0) dX5_look_46 (by decide) ?_
      refine V_istore_3 47 dX5_look_47 rfl (Nat.le_of_ble_eq_true rfl) ?_
      refine V_iload_3 48 dX5_look_48 ?_
      refine V_if_eq 49 53 dX5_look_49 (by decide) (fun c41 => ?_) (fun c41 => ?_)
      ·
        refine V_aload_1 53 dX5_look_53 ?_
        refine V_getR 54 (c := 7) 0 ((Fs.ss h38.1).r 0 0 1 rfl) dX5_look_54 fl_RX5_38 ((Fs.ss h38.1).m 0 (Nat.le_of_ble_eq_true rfl)) ((Fs.ss h38.1).k 0 7 rfl) (Nat.le_of_ble_eq_true rfl) (Nat.le_of_ble_eq_true rfl) rfl ?_
        refine V_aload_0 57 dX5_look_57 ?_
        refine V_getR 58 (c := 5) 0 ((F.ss h38.1).r 0 0 1 rfl) dX5_look_58 fl_RX5_9 ((F.ss h38.1).m 0 (Nat.le_of_ble_eq_true rfl)) ((F.ss h38.1).k 0 5 rfl) (Nat.le_of_ble_eq_true rfl) (Nat.le_of_ble_eq_true rfl) rfl ?_
        refine V_callSN 61 [.ref _, .ref _] _ (c_copyRow M.2.1 Γ S35 (a := (s + 1)) (b := (o + 1)) ((Fs.ss h38.1).m 1 (Nat.le_of_ble_eq_true rfl)) ((Fs.ss h38.1).k 1 14 rfl) (by rw [((Fs.ss h38.1).l 1 8 rfl)]; decide) ((F.ss h38.1).m 1 (Nat.le_of_ble_eq_true rfl)) ((F.ss h38.1).k 1 14 rfl) ((((F.ss h38.1).l 1 8 rfl)).trans (((Fs.ss h38.1).l 1 8 rfl)).symm)) dX5_look_61 cb_X11_copyRow ne_RX5_49 sm_yX11_copyRow ⟨(Nat.le_of_ble_eq_true rfl), (Nat.le_of_ble_eq_true rfl)⟩ rfl rfl (Nat.le_of_ble_eq_true rfl) ⟨(Nat.le_of_ble_eq_true rfl), (Nat.le_of_ble_eq_true rfl)⟩ (RV.go (fun S42 q43 => ?_))
        have h45 : FZ [o + 1, o + 2, o + 3] [(o, 3)] S S42 := h38.tr ((fr_cpy q43).sub (by simp) (by simp))
        have p46 : ((fun T => NB s B T ∧ OB o B T) S42) := by exact ⟨p39.1.fz (fr_cpy q43) (by simp; omega) (by simp; omega) (by simp), p39.2.cpy q43 (cpB1 p39.1)⟩
        refine V_aload_1 64 dX5_look_64 ?_
        refine V_getR 65 (c := 7) 1 ((Fs.ss h45.1).r 0 1 2 rfl) dX5_look_65 fl_RX5_45 ((Fs.ss h45.1).m 0 (Nat.le_of_ble_eq_true rfl)) ((Fs.ss h45.1).k 0 7 rfl) (Nat.le_of_ble_eq_true rfl) (Nat.le_of_ble_eq_true rfl) rfl ?_
        refine V_aload_0 68 dX5_look_68 ?_
        refine V_getR 69 (c := 5) 1 ((F.ss h45.1).r 0 1 2 rfl) dX5_look_69 fl_RX5_15 ((F.ss h45.1).m 0 (Nat.le_of_ble_eq_true rfl)) ((F.ss h45.1).k 0 5 rfl) (Nat.le_of_ble_eq_true rfl) (Nat.le_of_ble_eq_true rfl) rfl ?_
        refine V_callSN 72 [.ref _, .ref _] _ (c_copyRow M.2.1 Γ S42 (a := (s + 2)) (b := (o + 2)) ((Fs.ss h45.1).m 2 (Nat.le_of_ble_eq_true rfl)) ((Fs.ss h45.1).k 2 14 rfl) (by rw [((Fs.ss h45.1).l 2 8 rfl)]; decide) ((F.ss h45.1).m 2 (Nat.le_of_ble_eq_true rfl)) ((F.ss h45.1).k 2 14 rfl) ((((F.ss h45.1).l 2 8 rfl)).trans (((Fs.ss h45.1).l 2 8 rfl)).symm)) dX5_look_72 cb_X11_copyRow ne_RX5_49 sm_yX11_copyRow ⟨(Nat.le_of_ble_eq_true rfl), (Nat.le_of_ble_eq_true rfl)⟩ rfl rfl (Nat.le_of_ble_eq_true rfl) ⟨(Nat.le_of_ble_eq_true rfl), (Nat.le_of_ble_eq_true rfl)⟩ (RV.go (fun S47 q48 => ?_))
        have h50 : FZ [o + 1, o + 2, o + 3] [(o, 3)] S S47 := h45.tr ((fr_cpy q48).sub (by simp) (by simp))
        have p51 : ((fun T => NB s B T ∧ OB o B T) S47) := by exact ⟨p46.1.fz (fr_cpy q48) (by simp; omega) (by simp; omega) (by simp), p46.2.fz (fr_cpy q48) (by simp) (by simp)⟩
        refine V_aload_2 75 dX5_look_75 ?_
        refine V_getR 76 (c := 10) 3 ((Ft.ss h50.1).r 0 3 2 rfl) dX5_look_76 fl_RX5_46 ((Ft.ss h50.1).m 0 (Nat.le_of_ble_eq_true rfl)) ((Ft.ss h50.1).k 0 10 rfl) (Nat.le_of_ble_eq_true rfl) (Nat.le_of_ble_eq_true rfl) rfl ?_
        refine V_aload_0 79 dX5_look_79 ?_
        refine V_getR 80 (c := 5) 2 ((F.ss h50.1).r 0 2 3 rfl) dX5_look_80 fl_RX5_18 ((F.ss h50.1).m 0 (Nat.le_of_ble_eq_true rfl)) ((F.ss h50.1).k 0 5 rfl) (Nat.le_of_ble_eq_true rfl) (Nat.le_of_ble_eq_true rfl) rfl ?_
        refine V_callSN 83 [.ref _, .ref _] _ (c_copyRow M.2.1 Γ S47 (a := (t + 2)) (b := (o + 3)) ((Ft.ss h50.1).m 2 (Nat.le_of_ble_eq_true rfl)) ((Ft.ss h50.1).k 2 14 rfl) (by rw [((Ft.ss h50.1).l 2 8 rfl)]; decide) ((F.ss h50.1).m 3 (Nat.le_of_ble_eq_true rfl)) ((F.ss h50.1).k 3 14 rfl) ((((F.ss h50.1).l 3 8 rfl)).trans (((Ft.ss h50.1).l 2 8 rfl)).symm)) dX5_look_83 cb_X11_copyRow ne_RX5_49 sm_yX11_copyRow ⟨(Nat.le_of_ble_eq_true rfl), (Nat.le_of_ble_eq_true rfl)⟩ rfl rfl (Nat.le_of_ble_eq_true rfl) ⟨(Nat.le_of_ble_eq_true rfl), (Nat.le_of_ble_eq_true rfl)⟩ (RV.go (fun S52 q53 => ?_))
        have h55 : FZ [o + 1, o + 2, o + 3] [(o, 3)] S S52 := h50.tr ((fr_cpy q53).sub (by simp) (by simp))
        have p56 : ((fun T => NB s B T ∧ OB o B T) S52) := by exact ⟨p51.1.fz (fr_cpy q53) (by simp; omega) (by simp; omega) (by simp), p51.2.fz (fr_cpy q53) (by simp) (by simp)⟩
        refine V_aload_0 86 dX5_look_86 ?_
        refine V_aload_0 87 dX5_look_87 ?_
        refine V_getR 88 (c := 5) 0 ((F.ss h55.1).r 0 0 1 rfl) dX5_look_88 fl_RX5_9 ((F.ss h55.1).m 0 (Nat.le_of_ble_eq_true rfl)) ((F.ss h55.1).k 0 5 rfl) (Nat.le_of_ble_eq_true rfl) (Nat.le_of_ble_eq_true rfl) rfl ?_
        refine V_callSN 91 [.ref _] _ (c_total M.2.1 Γ S52 (a := (o + 1)) ((F.ss h55.1).m 1 (Nat.le_of_ble_eq_true rfl)) ((F.ss h55.1).k 1 14 rfl) (by rw [((F.ss h55.1).l 1 8 rfl)]; decide)) dX5_look_91 cb_X11_total ne_RX5_53 sm_yX11_total ⟨(Nat.le_of_ble_eq_true rfl), (Nat.le_of_ble_eq_true rfl)⟩ rfl rfl (Nat.le_of_ble_eq_true rfl) ⟨(Nat.le_of_ble_eq_true rfl), (Nat.le_of_ble_eq_true rfl)⟩ (RI.go (fun r59 S57 q58 => ?_))
        have ht9 := q58.1
        rw [q58.2]
        refine V_putI 94 (c := 5) 3 dX5_look_94 fl_RX5_57 ((F.ss h55.1).m 0 (Nat.le_of_ble_eq_true rfl)) ((F.ss h55.1).k 0 5 rfl) (Nat.le_of_ble_eq_true rfl) (Nat.le_of_ble_eq_true rfl) rfl (Or.inl rfl) ?_
        refine V_abs (fun T9 => FZ [o + 1, o + 2, o + 3] [(o, 3)] S T9 ∧ ((fun T => NB s B T ∧ OB o B T) T9)) ⟨h55.uI (by simp), by exact ⟨NB_uI p56.1 (by simp), p56.2.things ht9 ((F.ss h55.1).l 1 8 rfl) (by omega)⟩⟩ (fun S60 hh63 => ?_)
        obtain ⟨h61, p62⟩ := hh63
        refine V_aload_0 97 dX5_look_97 ?_
        refine V_callV 98 (ci := 5) [] _ (s_forget M.2.1 Γ S60 (F.ss h61.1)) dX5_look_98 cb_X5_forgetCounts ml_RX5_35 im_yX5_forgetCounts se_yX5_forgetCounts ((F.ss h61.1).m 0 (Nat.le_of_ble_eq_true rfl)) ((F.ss h61.1).k 0 5 rfl) (Nat.le_of_ble_eq_true rfl) ⟨(Nat.le_of_ble_eq_true rfl), (Nat.le_of_ble_eq_true rfl)⟩ rfl rfl (Nat.le_of_ble_eq_true rfl) ⟨(Nat.le_of_ble_eq_true rfl), (Nat.le_of_ble_eq_true rfl)⟩ (RV.go (fun S64 q65 => ?_))
        have h67 : FZ [o + 1, o + 2, o + 3] [(o, 3)] S S64 := h61.tr (q65.sub (by simp) (by simp))
        have p68 : ((fun T => NB s B T ∧ OB o B T) S64) := by exact ⟨p62.1.fz q65 (by simp) (by simp) (by simp), p62.2.fz q65 (by simp) (by simp)⟩
        refine V_vret 101 dX5_look_101 rfl (Nat.le_of_ble_eq_true rfl) (Nat.le_of_ble_eq_true rfl) (RV.mk ⟨h67, p68.2⟩)
      ·
        refine V_vret 52 dX5_look_52 rfl (Nat.le_of_ble_eq_true rfl) (Nat.le_of_ble_eq_true rfl) (RV.mk ⟨h38, p39.2⟩)
    ·
      refine V_aload_0 28 dX5_look_28 ?_
      refine V_getR 29 (c := 5) 2 ((F.ss h38.1).r 0 2 3 rfl) dX5_look_29 fl_RX5_18 ((F.ss h38.1).m 0 (Nat.le_of_ble_eq_true rfl)) ((F.ss h38.1).k 0 5 rfl) (Nat.le_of_ble_eq_true rfl) (Nat.le_of_ble_eq_true rfl) rfl ?_
      refine V_aload_2 32 dX5_look_32 ?_
      refine V_getR 33 (c := 10) 3 ((Ft.ss h38.1).r 0 3 2 rfl) dX5_look_33 fl_RX5_46 ((Ft.ss h38.1).m 0 (Nat.le_of_ble_eq_true rfl)) ((Ft.ss h38.1).k 0 10 rfl) (Nat.le_of_ble_eq_true rfl) (Nat.le_of_ble_eq_true rfl) rfl ?_
      refine V_callSN 36 [.ref _, .ref _] _ (s_sameRow M.2.1 Γ S35 ((F.ss h38.1).m 3 (Nat.le_of_ble_eq_true rfl)) ((F.ss h38.1).k 3 14 rfl) ((F.ss h38.1).l 3 8 rfl) ((Ft.ss h38.1).m 2 (Nat.le_of_ble_eq_true rfl)) ((Ft.ss h38.1).k 2 14 rfl) ((Ft.ss h38.1).l 2 8 rfl)) dX5_look_36 cb_X11_sameRow ne_RX5_41 sm_yX11_sameRow ⟨(Nat.le_of_ble_eq_true rfl), (Nat.le_of_ble_eq_true rfl)⟩ rfl rfl (Nat.le_of_ble_eq_true rfl) ⟨(Nat.le_of_ble_eq_true rfl), (Nat.le_of_ble_eq_true rfl)⟩ (RI.go (fun r71 S69 q70 => ?_))
      have h72 : FZ [o + 1, o + 2, o + 3] [(o, 3)] S S69 := h38.tr (q70.2.sub (by simp) (by simp))
      have p73 : ((fun T => NB s B T ∧ OB o B T) S69) := by exact ⟨p39.1.fz q70.2 (by simp) (by simp) (by simp), p39.2.fz q70.2 (by simp) (by simp)⟩
      refine V_if_eq 39 46 dX5_look_39 (by decide) (fun c74 => ?_) (fun c74 => ?_)
      ·
        refine V_iconst 46 (0) dX5_look_46 (by decide) ?_
        refine V_istore_3 47 dX5_look_47 rfl (Nat.le_of_ble_eq_true rfl) ?_
        refine V_iload_3 48 dX5_look_48 ?_
        refine V_if_eq 49 53 dX5_look_49 (by decide) (fun c75 => ?_) (fun c75 => ?_)
        ·
          refine V_aload_1 53 dX5_look_53 ?_
          refine V_getR 54 (c := 7) 0 ((Fs.ss h72.1).r 0 0 1 rfl) dX5_look_54 fl_RX5_38 ((Fs.ss h72.1).m 0 (Nat.le_of_ble_eq_true rfl)) ((Fs.ss h72.1).k 0 7 rfl) (Nat.le_of_ble_eq_true rfl) (Nat.le_of_ble_eq_true rfl) rfl ?_
          refine V_aload_0 57 dX5_look_57 ?_
          refine V_getR 58 (c := 5) 0 ((F.ss h72.1).r 0 0 1 rfl) dX5_look_58 fl_RX5_9 ((F.ss h72.1).m 0 (Nat.le_of_ble_eq_true rfl)) ((F.ss h72.1).k 0 5 rfl) (Nat.le_of_ble_eq_true rfl) (Nat.le_of_ble_eq_true rfl) rfl ?_
          refine V_callSN 61 [.ref _, .ref _] _ (c_copyRow M.2.1 Γ S69 (a := (s + 1)) (b := (o + 1)) ((Fs.ss h72.1).m 1 (Nat.le_of_ble_eq_true rfl)) ((Fs.ss h72.1).k 1 14 rfl) (by rw [((Fs.ss h72.1).l 1 8 rfl)]; decide) ((F.ss h72.1).m 1 (Nat.le_of_ble_eq_true rfl)) ((F.ss h72.1).k 1 14 rfl) ((((F.ss h72.1).l 1 8 rfl)).trans (((Fs.ss h72.1).l 1 8 rfl)).symm)) dX5_look_61 cb_X11_copyRow ne_RX5_49 sm_yX11_copyRow ⟨(Nat.le_of_ble_eq_true rfl), (Nat.le_of_ble_eq_true rfl)⟩ rfl rfl (Nat.le_of_ble_eq_true rfl) ⟨(Nat.le_of_ble_eq_true rfl), (Nat.le_of_ble_eq_true rfl)⟩ (RV.go (fun S76 q77 => ?_))
          have h79 : FZ [o + 1, o + 2, o + 3] [(o, 3)] S S76 := h72.tr ((fr_cpy q77).sub (by simp) (by simp))
          have p80 : ((fun T => NB s B T ∧ OB o B T) S76) := by exact ⟨p73.1.fz (fr_cpy q77) (by simp; omega) (by simp; omega) (by simp), p73.2.cpy q77 (cpB1 p73.1)⟩
          refine V_aload_1 64 dX5_look_64 ?_
          refine V_getR 65 (c := 7) 1 ((Fs.ss h79.1).r 0 1 2 rfl) dX5_look_65 fl_RX5_45 ((Fs.ss h79.1).m 0 (Nat.le_of_ble_eq_true rfl)) ((Fs.ss h79.1).k 0 7 rfl) (Nat.le_of_ble_eq_true rfl) (Nat.le_of_ble_eq_true rfl) rfl ?_
          refine V_aload_0 68 dX5_look_68 ?_
          refine V_getR 69 (c := 5) 1 ((F.ss h79.1).r 0 1 2 rfl) dX5_look_69 fl_RX5_15 ((F.ss h79.1).m 0 (Nat.le_of_ble_eq_true rfl)) ((F.ss h79.1).k 0 5 rfl) (Nat.le_of_ble_eq_true rfl) (Nat.le_of_ble_eq_true rfl) rfl ?_
          refine V_callSN 72 [.ref _, .ref _] _ (c_copyRow M.2.1 Γ S76 (a := (s + 2)) (b := (o + 2)) ((Fs.ss h79.1).m 2 (Nat.le_of_ble_eq_true rfl)) ((Fs.ss h79.1).k 2 14 rfl) (by rw [((Fs.ss h79.1).l 2 8 rfl)]; decide) ((F.ss h79.1).m 2 (Nat.le_of_ble_eq_true rfl)) ((F.ss h79.1).k 2 14 rfl) ((((F.ss h79.1).l 2 8 rfl)).trans (((Fs.ss h79.1).l 2 8 rfl)).symm)) dX5_look_72 cb_X11_copyRow ne_RX5_49 sm_yX11_copyRow ⟨(Nat.le_of_ble_eq_true rfl), (Nat.le_of_ble_eq_true rfl)⟩ rfl rfl (Nat.le_of_ble_eq_true rfl) ⟨(Nat.le_of_ble_eq_true rfl), (Nat.le_of_ble_eq_true rfl)⟩ (RV.go (fun S81 q82 => ?_))
          have h84 : FZ [o + 1, o + 2, o + 3] [(o, 3)] S S81 := h79.tr ((fr_cpy q82).sub (by simp) (by simp))
          have p85 : ((fun T => NB s B T ∧ OB o B T) S81) := by exact ⟨p80.1.fz (fr_cpy q82) (by simp; omega) (by simp; omega) (by simp), p80.2.fz (fr_cpy q82) (by simp) (by simp)⟩
          refine V_aload_2 75 dX5_look_75 ?_
          refine V_getR 76 (c := 10) 3 ((Ft.ss h84.1).r 0 3 2 rfl) dX5_look_76 fl_RX5_46 ((Ft.ss h84.1).m 0 (Nat.le_of_ble_eq_true rfl)) ((Ft.ss h84.1).k 0 10 rfl) (Nat.le_of_ble_eq_true rfl) (Nat.le_of_ble_eq_true rfl) rfl ?_
          refine V_aload_0 79 dX5_look_79 ?_
          refine V_getR 80 (c := 5) 2 ((F.ss h84.1).r 0 2 3 rfl) dX5_look_80 fl_RX5_18 ((F.ss h84.1).m 0 (Nat.le_of_ble_eq_true rfl)) ((F.ss h84.1).k 0 5 rfl) (Nat.le_of_ble_eq_true rfl) (Nat.le_of_ble_eq_true rfl) rfl ?_
          refine V_callSN 83 [.ref _, .ref _] _ (c_copyRow M.2.1 Γ S81 (a := (t + 2)) (b := (o + 3)) ((Ft.ss h84.1).m 2 (Nat.le_of_ble_eq_true rfl)) ((Ft.ss h84.1).k 2 14 rfl) (by rw [((Ft.ss h84.1).l 2 8 rfl)]; decide) ((F.ss h84.1).m 3 (Nat.le_of_ble_eq_true rfl)) ((F.ss h84.1).k 3 14 rfl) ((((F.ss h84.1).l 3 8 rfl)).trans (((Ft.ss h84.1).l 2 8 rfl)).symm)) dX5_look_83 cb_X11_copyRow ne_RX5_49 sm_yX11_copyRow ⟨(Nat.le_of_ble_eq_true rfl), (Nat.le_of_ble_eq_true rfl)⟩ rfl rfl (Nat.le_of_ble_eq_true rfl) ⟨(Nat.le_of_ble_eq_true rfl), (Nat.le_of_ble_eq_true rfl)⟩ (RV.go (fun S86 q87 => ?_))
          have h89 : FZ [o + 1, o + 2, o + 3] [(o, 3)] S S86 := h84.tr ((fr_cpy q87).sub (by simp) (by simp))
          have p90 : ((fun T => NB s B T ∧ OB o B T) S86) := by exact ⟨p85.1.fz (fr_cpy q87) (by simp; omega) (by simp; omega) (by simp), p85.2.fz (fr_cpy q87) (by simp) (by simp)⟩
          refine V_aload_0 86 dX5_look_86 ?_
          refine V_aload_0 87 dX5_look_87 ?_
          refine V_getR 88 (c := 5) 0 ((F.ss h89.1).r 0 0 1 rfl) dX5_look_88 fl_RX5_9 ((F.ss h89.1).m 0 (Nat.le_of_ble_eq_true rfl)) ((F.ss h89.1).k 0 5 rfl) (Nat.le_of_ble_eq_true rfl) (Nat.le_of_ble_eq_true rfl) rfl ?_
          refine V_callSN 91 [.ref _] _ (c_total M.2.1 Γ S86 (a := (o + 1)) ((F.ss h89.1).m 1 (Nat.le_of_ble_eq_true rfl)) ((F.ss h89.1).k 1 14 rfl) (by rw [((F.ss h89.1).l 1 8 rfl)]; decide)) dX5_look_91 cb_X11_total ne_RX5_53 sm_yX11_total ⟨(Nat.le_of_ble_eq_true rfl), (Nat.le_of_ble_eq_true rfl)⟩ rfl rfl (Nat.le_of_ble_eq_true rfl) ⟨(Nat.le_of_ble_eq_true rfl), (Nat.le_of_ble_eq_true rfl)⟩ (RI.go (fun r93 S91 q92 => ?_))
          have ht9 := q92.1
          rw [q92.2]
          refine V_putI 94 (c := 5) 3 dX5_look_94 fl_RX5_57 ((F.ss h89.1).m 0 (Nat.le_of_ble_eq_true rfl)) ((F.ss h89.1).k 0 5 rfl) (Nat.le_of_ble_eq_true rfl) (Nat.le_of_ble_eq_true rfl) rfl (Or.inl rfl) ?_
          refine V_abs (fun T9 => FZ [o + 1, o + 2, o + 3] [(o, 3)] S T9 ∧ ((fun T => NB s B T ∧ OB o B T) T9)) ⟨h89.uI (by simp), by exact ⟨NB_uI p90.1 (by simp), p90.2.things ht9 ((F.ss h89.1).l 1 8 rfl) (by omega)⟩⟩ (fun S94 hh97 => ?_)
          obtain ⟨h95, p96⟩ := hh97
          refine V_aload_0 97 dX5_look_97 ?_
          refine V_callV 98 (ci := 5) [] _ (s_forget M.2.1 Γ S94 (F.ss h95.1)) dX5_look_98 cb_X5_forgetCounts ml_RX5_35 im_yX5_forgetCounts se_yX5_forgetCounts ((F.ss h95.1).m 0 (Nat.le_of_ble_eq_true rfl)) ((F.ss h95.1).k 0 5 rfl) (Nat.le_of_ble_eq_true rfl) ⟨(Nat.le_of_ble_eq_true rfl), (Nat.le_of_ble_eq_true rfl)⟩ rfl rfl (Nat.le_of_ble_eq_true rfl) ⟨(Nat.le_of_ble_eq_true rfl), (Nat.le_of_ble_eq_true rfl)⟩ (RV.go (fun S98 q99 => ?_))
          have h101 : FZ [o + 1, o + 2, o + 3] [(o, 3)] S S98 := h95.tr (q99.sub (by simp) (by simp))
          have p102 : ((fun T => NB s B T ∧ OB o B T) S98) := by exact ⟨p96.1.fz q99 (by simp) (by simp) (by simp), p96.2.fz q99 (by simp) (by simp)⟩
          refine V_vret 101 dX5_look_101 rfl (Nat.le_of_ble_eq_true rfl) (Nat.le_of_ble_eq_true rfl) (RV.mk ⟨h101, p102.2⟩)
        ·
          refine V_vret 52 dX5_look_52 rfl (Nat.le_of_ble_eq_true rfl) (Nat.le_of_ble_eq_true rfl) (RV.mk ⟨h72, p73.2⟩)
      ·
        refine V_iconst 42 (1) dX5_look_42 (by decide) ?_
        refine V_goto 43 47 dX5_look_43 (by decide) ?_
        refine V_istore_3 47 dX5_look_47 rfl (Nat.le_of_ble_eq_true rfl) ?_
        refine V_iload_3 48 dX5_look_48 ?_
        refine V_if_eq 49 53 dX5_look_49 (by decide) (fun c103 => ?_) (fun c103 => ?_)
        ·
          refine V_aload_1 53 dX5_look_53 ?_
          refine V_getR 54 (c := 7) 0 ((Fs.ss h72.1).r 0 0 1 rfl) dX5_look_54 fl_RX5_38 ((Fs.ss h72.1).m 0 (Nat.le_of_ble_eq_true rfl)) ((Fs.ss h72.1).k 0 7 rfl) (Nat.le_of_ble_eq_true rfl) (Nat.le_of_ble_eq_true rfl) rfl ?_
          refine V_aload_0 57 dX5_look_57 ?_
          refine V_getR 58 (c := 5) 0 ((F.ss h72.1).r 0 0 1 rfl) dX5_look_58 fl_RX5_9 ((F.ss h72.1).m 0 (Nat.le_of_ble_eq_true rfl)) ((F.ss h72.1).k 0 5 rfl) (Nat.le_of_ble_eq_true rfl) (Nat.le_of_ble_eq_true rfl) rfl ?_
          refine V_callSN 61 [.ref _, .ref _] _ (c_copyRow M.2.1 Γ S69 (a := (s + 1)) (b := (o + 1)) ((Fs.ss h72.1).m 1 (Nat.le_of_ble_eq_true rfl)) ((Fs.ss h72.1).k 1 14 rfl) (by rw [((Fs.ss h72.1).l 1 8 rfl)]; decide) ((F.ss h72.1).m 1 (Nat.le_of_ble_eq_true rfl)) ((F.ss h72.1).k 1 14 rfl) ((((F.ss h72.1).l 1 8 rfl)).trans (((Fs.ss h72.1).l 1 8 rfl)).symm)) dX5_look_61 cb_X11_copyRow ne_RX5_49 sm_yX11_copyRow ⟨(Nat.le_of_ble_eq_true rfl), (Nat.le_of_ble_eq_true rfl)⟩ rfl rfl (Nat.le_of_ble_eq_true rfl) ⟨(Nat.le_of_ble_eq_true rfl), (Nat.le_of_ble_eq_true rfl)⟩ (RV.go (fun S104 q105 => ?_))
          have h107 : FZ [o + 1, o + 2, o + 3] [(o, 3)] S S104 := h72.tr ((fr_cpy q105).sub (by simp) (by simp))
          have p108 : ((fun T => NB s B T ∧ OB o B T) S104) := by exact ⟨p73.1.fz (fr_cpy q105) (by simp; omega) (by simp; omega) (by simp), p73.2.cpy q105 (cpB1 p73.1)⟩
          refine V_aload_1 64 dX5_look_64 ?_
          refine V_getR 65 (c := 7) 1 ((Fs.ss h107.1).r 0 1 2 rfl) dX5_look_65 fl_RX5_45 ((Fs.ss h107.1).m 0 (Nat.le_of_ble_eq_true rfl)) ((Fs.ss h107.1).k 0 7 rfl) (Nat.le_of_ble_eq_true rfl) (Nat.le_of_ble_eq_true rfl) rfl ?_
          refine V_aload_0 68 dX5_look_68 ?_
          refine V_getR 69 (c := 5) 1 ((F.ss h107.1).r 0 1 2 rfl) dX5_look_69 fl_RX5_15 ((F.ss h107.1).m 0 (Nat.le_of_ble_eq_true rfl)) ((F.ss h107.1).k 0 5 rfl) (Nat.le_of_ble_eq_true rfl) (Nat.le_of_ble_eq_true rfl) rfl ?_
          refine V_callSN 72 [.ref _, .ref _] _ (c_copyRow M.2.1 Γ S104 (a := (s + 2)) (b := (o + 2)) ((Fs.ss h107.1).m 2 (Nat.le_of_ble_eq_true rfl)) ((Fs.ss h107.1).k 2 14 rfl) (by rw [((Fs.ss h107.1).l 2 8 rfl)]; decide) ((F.ss h107.1).m 2 (Nat.le_of_ble_eq_true rfl)) ((F.ss h107.1).k 2 14 rfl) ((((F.ss h107.1).l 2 8 rfl)).trans (((Fs.ss h107.1).l 2 8 rfl)).symm)) dX5_look_72 cb_X11_copyRow ne_RX5_49 sm_yX11_copyRow ⟨(Nat.le_of_ble_eq_true rfl), (Nat.le_of_ble_eq_true rfl)⟩ rfl rfl (Nat.le_of_ble_eq_true rfl) ⟨(Nat.le_of_ble_eq_true rfl), (Nat.le_of_ble_eq_true rfl)⟩ (RV.go (fun S109 q110 => ?_))
          have h112 : FZ [o + 1, o + 2, o + 3] [(o, 3)] S S109 := h107.tr ((fr_cpy q110).sub (by simp) (by simp))
          have p113 : ((fun T => NB s B T ∧ OB o B T) S109) := by exact ⟨p108.1.fz (fr_cpy q110) (by simp; omega) (by simp; omega) (by simp), p108.2.fz (fr_cpy q110) (by simp) (by simp)⟩
          refine V_aload_2 75 dX5_look_75 ?_
          refine V_getR 76 (c := 10) 3 ((Ft.ss h112.1).r 0 3 2 rfl) dX5_look_76 fl_RX5_46 ((Ft.ss h112.1).m 0 (Nat.le_of_ble_eq_true rfl)) ((Ft.ss h112.1).k 0 10 rfl) (Nat.le_of_ble_eq_true rfl) (Nat.le_of_ble_eq_true rfl) rfl ?_
          refine V_aload_0 79 dX5_look_79 ?_
          refine V_getR 80 (c := 5) 2 ((F.ss h112.1).r 0 2 3 rfl) dX5_look_80 fl_RX5_18 ((F.ss h112.1).m 0 (Nat.le_of_ble_eq_true rfl)) ((F.ss h112.1).k 0 5 rfl) (Nat.le_of_ble_eq_true rfl) (Nat.le_of_ble_eq_true rfl) rfl ?_
          refine V_callSN 83 [.ref _, .ref _] _ (c_copyRow M.2.1 Γ S109 (a := (t + 2)) (b := (o + 3)) ((Ft.ss h112.1).m 2 (Nat.le_of_ble_eq_true rfl)) ((Ft.ss h112.1).k 2 14 rfl) (by rw [((Ft.ss h112.1).l 2 8 rfl)]; decide) ((F.ss h112.1).m 3 (Nat.le_of_ble_eq_true rfl)) ((F.ss h112.1).k 3 14 rfl) ((((F.ss h112.1).l 3 8 rfl)).trans (((Ft.ss h112.1).l 2 8 rfl)).symm)) dX5_look_83 cb_X11_copyRow ne_RX5_49 sm_yX11_copyRow ⟨(Nat.le_of_ble_eq_true rfl), (Nat.le_of_ble_eq_true rfl)⟩ rfl rfl (Nat.le_of_ble_eq_true rfl) ⟨(Nat.le_of_ble_eq_true rfl), (Nat.le_of_ble_eq_true rfl)⟩ (RV.go (fun S114 q115 => ?_))
          have h117 : FZ [o + 1, o + 2, o + 3] [(o, 3)] S S114 := h112.tr ((fr_cpy q115).sub (by simp) (by simp))
          have p118 : ((fun T => NB s B T ∧ OB o B T) S114) := by exact ⟨p113.1.fz (fr_cpy q115) (by simp; omega) (by simp; omega) (by simp), p113.2.fz (fr_cpy q115) (by simp) (by simp)⟩
          refine V_aload_0 86 dX5_look_86 ?_
          refine V_aload_0 87 dX5_look_87 ?_
          refine V_getR 88 (c := 5) 0 ((F.ss h117.1).r 0 0 1 rfl) dX5_look_88 fl_RX5_9 ((F.ss h117.1).m 0 (Nat.le_of_ble_eq_true rfl)) ((F.ss h117.1).k 0 5 rfl) (Nat.le_of_ble_eq_true rfl) (Nat.le_of_ble_eq_true rfl) rfl ?_
          refine V_callSN 91 [.ref _] _ (c_total M.2.1 Γ S114 (a := (o + 1)) ((F.ss h117.1).m 1 (Nat.le_of_ble_eq_true rfl)) ((F.ss h117.1).k 1 14 rfl) (by rw [((F.ss h117.1).l 1 8 rfl)]; decide)) dX5_look_91 cb_X11_total ne_RX5_53 sm_yX11_total ⟨(Nat.le_of_ble_eq_true rfl), (Nat.le_of_ble_eq_true rfl)⟩ rfl rfl (Nat.le_of_ble_eq_true rfl) ⟨(Nat.le_of_ble_eq_true rfl), (Nat.le_of_ble_eq_true rfl)⟩ (RI.go (fun r121 S119 q120 => ?_))
          have ht9 := q120.1
          rw [q120.2]
          refine V_putI 94 (c := 5) 3 dX5_look_94 fl_RX5_57 ((F.ss h117.1).m 0 (Nat.le_of_ble_eq_true rfl)) ((F.ss h117.1).k 0 5 rfl) (Nat.le_of_ble_eq_true rfl) (Nat.le_of_ble_eq_true rfl) rfl (Or.inl rfl) ?_
          refine V_abs (fun T9 => FZ [o + 1, o + 2, o + 3] [(o, 3)] S T9 ∧ ((fun T => NB s B T ∧ OB o B T) T9)) ⟨h117.uI (by simp), by exact ⟨NB_uI p118.1 (by simp), p118.2.things ht9 ((F.ss h117.1).l 1 8 rfl) (by omega)⟩⟩ (fun S122 hh125 => ?_)
          obtain ⟨h123, p124⟩ := hh125
          refine V_aload_0 97 dX5_look_97 ?_
          refine V_callV 98 (ci := 5) [] _ (s_forget M.2.1 Γ S122 (F.ss h123.1)) dX5_look_98 cb_X5_forgetCounts ml_RX5_35 im_yX5_forgetCounts se_yX5_forgetCounts ((F.ss h123.1).m 0 (Nat.le_of_ble_eq_true rfl)) ((F.ss h123.1).k 0 5 rfl) (Nat.le_of_ble_eq_true rfl) ⟨(Nat.le_of_ble_eq_true rfl), (Nat.le_of_ble_eq_true rfl)⟩ rfl rfl (Nat.le_of_ble_eq_true rfl) ⟨(Nat.le_of_ble_eq_true rfl), (Nat.le_of_ble_eq_true rfl)⟩ (RV.go (fun S126 q127 => ?_))
          have h129 : FZ [o + 1, o + 2, o + 3] [(o, 3)] S S126 := h123.tr (q127.sub (by simp) (by simp))
          have p130 : ((fun T => NB s B T ∧ OB o B T) S126) := by exact ⟨p124.1.fz q127 (by simp) (by simp) (by simp), p124.2.fz q127 (by simp) (by simp)⟩
          refine V_vret 101 dX5_look_101 rfl (Nat.le_of_ble_eq_true rfl) (Nat.le_of_ble_eq_true rfl) (RV.mk ⟨h129, p130.2⟩)
        ·
          refine V_vret 52 dX5_look_52 rfl (Nat.le_of_ble_eq_true rfl) (Nat.le_of_ble_eq_true rfl) (RV.mk ⟨h72, p73.2⟩)
set_option maxRecDepth 100000 in
set_option maxHeartbeats 8000000 in
theorem s_countWithin (l : Launch) (Γ : GC) (S : PS) {o : Nat} (F : isL lyOrders Γ.2.2.2.2.1 S o) (x : Int32) : CT l Γ yX5_countWithin cX5_countWithin 3 (some .long) (3) (0) (0) [.ref o, .int x] S (RLg (fun r S' => FZ [o + 5, o + 6, o + 7] [(o + 4, 3)] S S')) := by
  refine CT.of RX5 "countWithin" [some (.ref o), some (.int x), none] (by decide +kernel) rfl rfl (Nat.le_of_ble_eq_true rfl) rfl (fun M hM => ?_)
  subst hM
  have J3 : ∀ (S1 : PS) (x4 : Int32), FZ [o + 5, o + 6, o + 7] [(o + 4, 3)] S S1 → V M Γ (3, RX5, "countWithin", (some .long), RM (3) (0) (0)) cX5_countWithin (RQ M Γ (RLg (fun r S' => FZ [o + 5, o + 6, o + 7] [(o + 4, 3)] S S')) (0) (0)) 0 0 S1 76 [some (.ref o), some (.int x), some (.int x4)] [] := by
    intro S1 x4 h2
    refine V_aload_0 76 dX5_countWithin_76 ?_
    refine V_getR 77 (c := 5) 5 ((F.ss h2.1).r 0 5 8 rfl) dX5_countWithin_77 fl_RX5_28 ((F.ss h2.1).m 0 (Nat.le_of_ble_eq_true rfl)) ((F.ss h2.1).k 0 5 rfl) (Nat.le_of_ble_eq_true rfl) (Nat.le_of_ble_eq_true rfl) rfl ?_
    refine V_aload_0 80 dX5_countWithin_80 ?_
    refine V_getR 81 (c := 5) 4 ((F.ss h2.1).r 0 4 4 rfl) dX5_countWithin_81 fl_RX5_24 ((F.ss h2.1).m 0 (Nat.le_of_ble_eq_true rfl)) ((F.ss h2.1).k 0 5 rfl) (Nat.le_of_ble_eq_true rfl) (Nat.le_of_ble_eq_true rfl) rfl ?_
    refine V_getI 84 (c := 1) 3 dX5_countWithin_84 fl_RX5_99 ((F.ss h2.1).m 4 (Nat.le_of_ble_eq_true rfl)) ((F.ss h2.1).k 4 1 rfl) (Nat.le_of_ble_eq_true rfl) (Nat.le_of_ble_eq_true rfl) rfl ?_
    refine V_iconst 87 (1) dX5_countWithin_87 (by decide) ?_
    refine V_isub 88 dX5_countWithin_88 ?_
    refine V_callSN 89 [.ref _, .int _] _ (c_longAt M.2.1 Γ S1 (a := (o + 8)) ((F.ss h2.1).m 8 (Nat.le_of_ble_eq_true rfl)) ((F.ss h2.1).k 8 15 rfl) (by rw [((F.ss h2.1).l 8 11664 rfl)]; decide) _) dX5_countWithin_89 cb_X11_longAt ne_RX5_112 sm_yX11_longAt ⟨(Nat.le_of_ble_eq_true rfl), (Nat.le_of_ble_eq_true rfl)⟩ rfl rfl (Nat.le_of_ble_eq_true rfl) ⟨(Nat.le_of_ble_eq_true rfl), (Nat.le_of_ble_eq_true rfl)⟩ (RLg.go (fun r7 S5 q6 => ?_))
    rw [q6.2]
    refine V_lret 92 dX5_countWithin_92 rfl (Nat.le_of_ble_eq_true rfl) (Nat.le_of_ble_eq_true rfl) (RLg.mk h2)
  refine V_aload_0 0 dX5_countWithin_0 ?_
  refine V_getR 1 (c := 5) 4 (F.r 0 4 4 rfl) dX5_countWithin_1 fl_RX5_24 (F.m 0 (Nat.le_of_ble_eq_true rfl)) (F.k 0 5 rfl) (Nat.le_of_ble_eq_true rfl) (Nat.le_of_ble_eq_true rfl) rfl ?_
  refine V_aload_0 4 dX5_countWithin_4 ?_
  refine V_getR 5 (c := 5) 0 (F.r 0 0 1 rfl) dX5_countWithin_5 fl_RX5_9 (F.m 0 (Nat.le_of_ble_eq_true rfl)) (F.k 0 5 rfl) (Nat.le_of_ble_eq_true rfl) (Nat.le_of_ble_eq_true rfl) rfl ?_
  refine V_callV 8 (ci := 1) [.ref _] _ (s_X1_begin M.2.1 Γ S (F.sub 4 lyGrid rfl (by decide)) (F.m 1 (Nat.le_of_ble_eq_true rfl)) (F.k 1 14 rfl) (F.l 1 8 rfl)) dX5_countWithin_8 cb_X1_begin ml_RX5_95 im_yX1_begin se_yX1_begin (F.m 4 (Nat.le_of_ble_eq_true rfl)) (F.k 4 1 rfl) (Nat.le_of_ble_eq_true rfl) ⟨(Nat.le_of_ble_eq_true rfl), (Nat.le_of_ble_eq_true rfl)⟩ rfl rfl (Nat.le_of_ble_eq_true rfl) ⟨(Nat.le_of_ble_eq_true rfl), (Nat.le_of_ble_eq_true rfl)⟩ (RV.go (fun S8 q9 => ?_))
  have h11 : FZ [o + 5, o + 6, o + 7] [(o + 4, 3)] S S8 := (FZ.rf (X := [o + 5, o + 6, o + 7]) (Y := [(o + 4, 3)]) (S := S)).tr (q9.sub (by simp) (by simp))
  refine V_aload_0 11 dX5_countWithin_11 ?_
  refine V_getR 12 (c := 5) 5 ((F.ss h11.1).r 0 5 8 rfl) dX5_countWithin_12 fl_RX5_28 ((F.ss h11.1).m 0 (Nat.le_of_ble_eq_true rfl)) ((F.ss h11.1).k 0 5 rfl) (Nat.le_of_ble_eq_true rfl) (Nat.le_of_ble_eq_true rfl) rfl ?_
  refine V_iconst 15 (0) dX5_countWithin_15 (by decide) ?_
  refine V_lconst 16 1 dX5_countWithin_16 (by decide) ?_
  refine V_lastore2 17 dX5_countWithin_17 ((F.ss h11.1).m 8 (Nat.le_of_ble_eq_true rfl)) ((F.ss h11.1).k 8 15 rfl) ((F.ss h11.1).l 8 11664 rfl) ?_ ?_
  · exact (by unfold vp_in; decide)
  refine V_abs (FZ [o + 5, o + 6, o + 7] [(o + 4, 3)] S) (h11.uJ) (fun S12 h13 => ?_)
  refine V_iconst 18 (1) dX5_countWithin_18 (by decide) ?_
  refine V_istore_2 19 dX5_countWithin_19 rfl (Nat.le_of_ble_eq_true rfl) ?_
  refine V_lvw (by repeat (first | exact trivial | refine ⟨rfl, ?_⟩)) (V_while (α := Nat × PS) (fun z14 => 11664 - z14.1) (fun z14 => z14.1 ≤ 11664 ∧ FZ [o + 5, o + 6, o + 7] [(o + 4, 3)] S z14.2) (fun z14 => z14.2) (fun z14 => [some (.ref o), some (.int x), some (.int (nI z14.1))]) (1, _) ⟨(by dsimp only; omega), h13⟩ (fun z14 hx20 ih19 => ?b21))
  obtain ⟨i15, S16⟩ := z14
  obtain ⟨hi17, h18⟩ := hx20
  dsimp only at hi17 h18 ih19 ⊢
  refine V_iload_2 20 dX5_countWithin_20 ?_
  refine V_aload_0 21 dX5_countWithin_21 ?_
  refine V_getR 22 (c := 5) 4 ((F.ss h18.1).r 0 4 4 rfl) dX5_countWithin_22 fl_RX5_24 ((F.ss h18.1).m 0 (Nat.le_of_ble_eq_true rfl)) ((F.ss h18.1).k 0 5 rfl) (Nat.le_of_ble_eq_true rfl) (Nat.le_of_ble_eq_true rfl) rfl ?_
  refine V_getI 25 (c := 1) 3 dX5_countWithin_25 fl_RX5_99 ((F.ss h18.1).m 4 (Nat.le_of_ble_eq_true rfl)) ((F.ss h18.1).k 4 1 rfl) (Nat.le_of_ble_eq_true rfl) (Nat.le_of_ble_eq_true rfl) rfl ?_
  refine V_icmp_ge 28 76 dX5_countWithin_28 (by decide) (fun c23 => ?_) (fun c23 => ?_)
  ·
    refine V_lvw (by repeat (first | exact trivial | refine ⟨rfl, ?_⟩)) (J3 _ _ h18)
  ·
    refine V_iload_2 31 dX5_countWithin_31 ?_
    refine V_aload_0 32 dX5_countWithin_32 ?_
    refine V_getR 33 (c := 5) 5 ((F.ss h18.1).r 0 5 8 rfl) dX5_countWithin_33 fl_RX5_28 ((F.ss h18.1).m 0 (Nat.le_of_ble_eq_true rfl)) ((F.ss h18.1).k 0 5 rfl) (Nat.le_of_ble_eq_true rfl) (Nat.le_of_ble_eq_true rfl) rfl ?_
    refine V_alen2 36 dX5_countWithin_36 ((F.ss h18.1).m 8 (Nat.le_of_ble_eq_true rfl)) ((F.ss h18.1).k 8 15 rfl) (Nat.le_of_ble_eq_true rfl) (Nat.le_of_ble_eq_true rfl) ((F.ss h18.1).l 8 11664 rfl) ?_
    refine V_icmp_ge 37 76 dX5_countWithin_37 (by decide) (fun c25 => ?_) (fun c25 => ?_)
    ·
      refine V_lvw (by repeat (first | exact trivial | refine ⟨rfl, ?_⟩)) (J3 _ _ h18)
    ·
      have lt27 := nI_lt8 (by decide) hi17 c25
      refine V_aload_0 40 dX5_countWithin_40 ?_
      refine V_getR 41 (c := 5) 4 ((F.ss h18.1).r 0 4 4 rfl) dX5_countWithin_41 fl_RX5_24 ((F.ss h18.1).m 0 (Nat.le_of_ble_eq_true rfl)) ((F.ss h18.1).k 0 5 rfl) (Nat.le_of_ble_eq_true rfl) (Nat.le_of_ble_eq_true rfl) rfl ?_
      refine V_callV 44 (ci := 1) [] _ (s_X1_step M.2.1 Γ S16 ((F.ss h18.1).sub 4 lyGrid rfl (by decide))) dX5_countWithin_44 cb_X1_step ml_RX5_102 im_yX1_step se_yX1_step ((F.ss h18.1).m 4 (Nat.le_of_ble_eq_true rfl)) ((F.ss h18.1).k 4 1 rfl) (Nat.le_of_ble_eq_true rfl) ⟨(Nat.le_of_ble_eq_true rfl), (Nat.le_of_ble_eq_true rfl)⟩ rfl rfl (Nat.le_of_ble_eq_true rfl) ⟨(Nat.le_of_ble_eq_true rfl), (Nat.le_of_ble_eq_true rfl)⟩ (RV.go (fun S28 q29 => ?_))
      have h31 : FZ [o + 5, o + 6, o + 7] [(o + 4, 3)] S S28 := h18.tr (q29.sub (by simp) (by simp))
      refine V_aload_0 47 dX5_countWithin_47 ?_
      refine V_getR 48 (c := 5) 5 ((F.ss h31.1).r 0 5 8 rfl) dX5_countWithin_48 fl_RX5_28 ((F.ss h31.1).m 0 (Nat.le_of_ble_eq_true rfl)) ((F.ss h31.1).k 0 5 rfl) (Nat.le_of_ble_eq_true rfl) (Nat.le_of_ble_eq_true rfl) rfl ?_
      refine V_iload_2 51 dX5_countWithin_51 ?_
      refine V_aload_0 52 dX5_countWithin_52 ?_
      refine V_callV 53 (ci := 5) [] _ (s_lyingNow M.2.1 Γ S28 (F.ss h31.1)) dX5_countWithin_53 cb_X5_lyingNow ml_RX5_105 im_yX5_lyingNow se_yX5_lyingNow ((F.ss h31.1).m 0 (Nat.le_of_ble_eq_true rfl)) ((F.ss h31.1).k 0 5 rfl) (Nat.le_of_ble_eq_true rfl) ⟨(Nat.le_of_ble_eq_true rfl), (Nat.le_of_ble_eq_true rfl)⟩ rfl rfl (Nat.le_of_ble_eq_true rfl) ⟨(Nat.le_of_ble_eq_true rfl), (Nat.le_of_ble_eq_true rfl)⟩ (RI.go (fun r34 S32 q33 => ?_))
      have h35 : FZ [o + 5, o + 6, o + 7] [(o + 4, 3)] S S32 := h31.tr (q33.sub (by simp) (by simp))
      refine V_iload_1 56 dX5_countWithin_56 ?_
      refine V_icmp_le 57 64 dX5_countWithin_57 (by decide) (fun c36 => ?_) (fun c36 => ?_)
      ·
        refine V_aload_0 64 dX5_countWithin_64 ?_
        refine V_iload_2 65 dX5_countWithin_65 ?_
        refine V_callV 66 (ci := 5) [.int _] _ (s_waysTo M.2.1 Γ S32 (F.ss h35.1) _) dX5_countWithin_66 cb_X5_waysTo ml_RX5_109 im_yX5_waysTo se_yX5_waysTo ((F.ss h35.1).m 0 (Nat.le_of_ble_eq_true rfl)) ((F.ss h35.1).k 0 5 rfl) (Nat.le_of_ble_eq_true rfl) ⟨(Nat.le_of_ble_eq_true rfl), (Nat.le_of_ble_eq_true rfl)⟩ rfl rfl (Nat.le_of_ble_eq_true rfl) ⟨(Nat.le_of_ble_eq_true rfl), (Nat.le_of_ble_eq_true rfl)⟩ (RLg.go (fun r39 S37 q38 => ?_))
        have h40 : FZ [o + 5, o + 6, o + 7] [(o + 4, 3)] S S37 := h35.tr (q38.sub (by simp) (by simp))
        refine V_lastore2 69 dX5_countWithin_69 ((F.ss h40.1).m 8 (Nat.le_of_ble_eq_true rfl)) ((F.ss h40.1).k 8 15 rfl) ((F.ss h40.1).l 8 11664 rfl) ?_ ?_
        · exact vp_in_nI (by omega) (by decide)
        refine V_abs (FZ [o + 5, o + 6, o + 7] [(o + 4, 3)] S) (h40.uJ) (fun S41 h42 => ?_)
        refine V_iinc_2 70 (1) dX5_countWithin_70 (by decide) rfl (Nat.le_of_ble_eq_true rfl) ?_
        refine V_goto 73 20 dX5_countWithin_73 (by decide) ?_
        rw [← nI_succ]
        refine V_lvw (by repeat (first | exact trivial | refine ⟨rfl, ?_⟩)) (ih19 (i15 + 1, _) ⟨by dsimp only; omega, h42⟩ (by dsimp only; omega))
      ·
        refine V_lconst 60 0 dX5_countWithin_60 (by decide) ?_
        refine V_goto 61 69 dX5_countWithin_61 (by decide) ?_
        refine V_lastore2 69 dX5_countWithin_69 ((F.ss h35.1).m 8 (Nat.le_of_ble_eq_true rfl)) ((F.ss h35.1).k 8 15 rfl) ((F.ss h35.1).l 8 11664 rfl) ?_ ?_
        · exact vp_in_nI (by omega) (by decide)
        refine V_abs (FZ [o + 5, o + 6, o + 7] [(o + 4, 3)] S) (h35.uJ) (fun S43 h44 => ?_)
        refine V_iinc_2 70 (1) dX5_countWithin_70 (by decide) rfl (Nat.le_of_ble_eq_true rfl) ?_
        refine V_goto 73 20 dX5_countWithin_73 (by decide) ?_
        rw [← nI_succ]
        refine V_lvw (by repeat (first | exact trivial | refine ⟨rfl, ?_⟩)) (ih19 (i15 + 1, _) ⟨by dsimp only; omega, h44⟩ (by dsimp only; omega))
set_option maxRecDepth 100000 in
set_option maxHeartbeats 8000000 in
theorem s_withinCount (l : Launch) (Γ : GC) (S : PS) {o : Nat} (F : isL lyOrders Γ.2.2.2.2.1 S o) (x : Int32) : CT l Γ yX5_withinCount cX5_withinCount 2 (some .long) (4) (0) (0) [.ref o, .int x] S (RLg (fun r S' => FZ [o + 5, o + 6, o + 7] [(o + 4, 3)] S S')) := by
  refine CT.of RX5 "withinCount" [some (.ref o), some (.int x)] (by decide +kernel) rfl rfl (Nat.le_of_ble_eq_true rfl) rfl (fun M hM => ?_)
  subst hM
  have J3 : ∀ (S1 : PS) , FZ [o + 5, o + 6, o + 7] [(o + 4, 3)] S S1 → V M Γ (2, RX5, "withinCount", (some .long), RM (4) (0) (0)) cX5_withinCount (RQ M Γ (RLg (fun r S' => FZ [o + 5, o + 6, o + 7] [(o + 4, 3)] S S')) (0) (0)) 0 0 S1 13 [some (.ref o), some (.int x)] [] := by
    intro S1  h2
    refine V_lconst 13 0 dX5_withinCount_13 (by decide) ?_
    refine V_lret 14 dX5_withinCount_14 rfl (Nat.le_of_ble_eq_true rfl) (Nat.le_of_ble_eq_true rfl) (RLg.mk h2)
  refine V_iload_1 0 dX5_withinCount_0 ?_
  refine V_if_lt 1 13 dX5_withinCount_1 (by decide) (fun c4 => ?_) (fun c4 => ?_)
  ·
    refine V_lvw (by repeat (first | exact trivial | refine ⟨rfl, ?_⟩)) (J3 _ FZ.rf)
  ·
    refine V_iload_1 4 dX5_withinCount_4 ?_
    refine V_aload_0 5 dX5_withinCount_5 ?_
    refine V_getR 6 (c := 5) 6 (F.r 0 6 9 rfl) dX5_withinCount_6 fl_RX5_32 (F.m 0 (Nat.le_of_ble_eq_true rfl)) (F.k 0 5 rfl) (Nat.le_of_ble_eq_true rfl) (Nat.le_of_ble_eq_true rfl) rfl ?_
    refine V_alen2 9 dX5_withinCount_9 (F.m 9 (Nat.le_of_ble_eq_true rfl)) (F.k 9 15 rfl) (Nat.le_of_ble_eq_true rfl) (Nat.le_of_ble_eq_true rfl) (F.l 9 19 rfl) ?_
    refine V_icmp_lt 10 15 dX5_withinCount_10 (by decide) (fun c6 => ?_) (fun c6 => ?_)
    ·
      refine V_aload_0 15 dX5_withinCount_15 ?_
      refine V_getR 16 (c := 5) 6 (F.r 0 6 9 rfl) dX5_withinCount_16 fl_RX5_32 (F.m 0 (Nat.le_of_ble_eq_true rfl)) (F.k 0 5 rfl) (Nat.le_of_ble_eq_true rfl) (Nat.le_of_ble_eq_true rfl) rfl ?_
      refine V_iload_1 19 dX5_withinCount_19 ?_
      refine V_laload2 20 dX5_withinCount_20 (F.m 9 (Nat.le_of_ble_eq_true rfl)) (F.k 9 15 rfl) (F.l 9 19 rfl) ?_ ?_
      · exact in_of (by decide) (by assumption) (lt19 (by assumption))
      refine V_ldc2_w 21 dX5_withinCount_21 kL_RX5_61 ?_
      refine V_lcmp 24 dX5_withinCount_24 ?_
      refine V_if_ne 25 39 dX5_withinCount_25 (by decide) (fun c7 => ?_) (fun c7 => ?_)
      ·
        refine V_aload_0 39 dX5_withinCount_39 ?_
        refine V_getR 40 (c := 5) 6 (F.r 0 6 9 rfl) dX5_withinCount_40 fl_RX5_32 (F.m 0 (Nat.le_of_ble_eq_true rfl)) (F.k 0 5 rfl) (Nat.le_of_ble_eq_true rfl) (Nat.le_of_ble_eq_true rfl) rfl ?_
        refine V_iload_1 43 dX5_withinCount_43 ?_
        refine V_laload2 44 dX5_withinCount_44 (F.m 9 (Nat.le_of_ble_eq_true rfl)) (F.k 9 15 rfl) (F.l 9 19 rfl) ?_ ?_
        · exact in_of (by decide) (by assumption) (lt19 (by assumption))
        refine V_lret 45 dX5_withinCount_45 rfl (Nat.le_of_ble_eq_true rfl) (Nat.le_of_ble_eq_true rfl) (RLg.mk FZ.rf)
      ·
        refine V_aload_0 28 dX5_withinCount_28 ?_
        refine V_getR 29 (c := 5) 6 (F.r 0 6 9 rfl) dX5_withinCount_29 fl_RX5_32 (F.m 0 (Nat.le_of_ble_eq_true rfl)) (F.k 0 5 rfl) (Nat.le_of_ble_eq_true rfl) (Nat.le_of_ble_eq_true rfl) rfl ?_
        refine V_iload_1 32 dX5_withinCount_32 ?_
        refine V_aload_0 33 dX5_withinCount_33 ?_
        refine V_iload_1 34 dX5_withinCount_34 ?_
        refine V_callV 35 (ci := 5) [.int _] _ (s_countWithin M.2.1 Γ S F _) dX5_withinCount_35 cb_X5_countWithin ml_RX5_63 im_yX5_countWithin se_yX5_countWithin (F.m 0 (Nat.le_of_ble_eq_true rfl)) (F.k 0 5 rfl) (Nat.le_of_ble_eq_true rfl) ⟨(Nat.le_of_ble_eq_true rfl), (Nat.le_of_ble_eq_true rfl)⟩ rfl rfl (Nat.le_of_ble_eq_true rfl) ⟨(Nat.le_of_ble_eq_true rfl), (Nat.le_of_ble_eq_true rfl)⟩ (RLg.go (fun r10 S8 q9 => ?_))
        have h11 : FZ [o + 5, o + 6, o + 7] [(o + 4, 3)] S S8 := (FZ.rf (X := [o + 5, o + 6, o + 7]) (Y := [(o + 4, 3)]) (S := S)).tr (q9.sub (by simp) (by simp))
        refine V_lastore2 38 dX5_withinCount_38 ((F.ss h11.1).m 9 (Nat.le_of_ble_eq_true rfl)) ((F.ss h11.1).k 9 15 rfl) ((F.ss h11.1).l 9 19 rfl) ?_ ?_
        · exact in_of (by decide) (by assumption) (lt19 (by assumption))
        refine V_abs (FZ [o + 5, o + 6, o + 7] [(o + 4, 3)] S) (h11.uJ) (fun S12 h13 => ?_)
        refine V_aload_0 39 dX5_withinCount_39 ?_
        refine V_getR 40 (c := 5) 6 ((F.ss h13.1).r 0 6 9 rfl) dX5_withinCount_40 fl_RX5_32 ((F.ss h13.1).m 0 (Nat.le_of_ble_eq_true rfl)) ((F.ss h13.1).k 0 5 rfl) (Nat.le_of_ble_eq_true rfl) (Nat.le_of_ble_eq_true rfl) rfl ?_
        refine V_iload_1 43 dX5_withinCount_43 ?_
        refine V_laload2 44 dX5_withinCount_44 ((F.ss h13.1).m 9 (Nat.le_of_ble_eq_true rfl)) ((F.ss h13.1).k 9 15 rfl) ((F.ss h13.1).l 9 19 rfl) ?_ ?_
        · exact in_of (by decide) (by assumption) (lt19 (by assumption))
        refine V_lret 45 dX5_withinCount_45 rfl (Nat.le_of_ble_eq_true rfl) (Nat.le_of_ble_eq_true rfl) (RLg.mk h13)
    ·
      refine V_lvw (by repeat (first | exact trivial | refine ⟨rfl, ?_⟩)) (J3 _ FZ.rf)
set_option maxRecDepth 100000 in
set_option maxHeartbeats 8000000 in
theorem s_sumOfMosts (l : Launch) (Γ : GC) (S : PS) {o : Nat} (F : isL lyOrders Γ.2.2.2.2.1 S o) (B : Nat) (h : OB o B S) (hB : B * 8 < 2147483647) : CT l Γ yX5_sumOfMosts cX5_sumOfMosts 8 (some .long) (5) (0) (0) [.ref o] S (RLg (fun r S' => FZ [o + 5, o + 6, o + 7] [(o + 4, 3)] S S')) := by
  refine CT.of RX5 "sumOfMosts" [some (.ref o), none, none, none, none, none, none, none] (by decide +kernel) rfl rfl (Nat.le_of_ble_eq_true rfl) rfl (fun M hM => ?_)
  subst hM
  have J3 : ∀ (S1 : PS) (y4 : Int64) (y5 : Int64) (x6 : Int32), FZ [o + 5, o + 6, o + 7] [(o + 4, 3)] S S1 → V M Γ (8, RX5, "sumOfMosts", (some .long), RM (5) (0) (0)) cX5_sumOfMosts (RQ M Γ (RLg (fun r S' => FZ [o + 5, o + 6, o + 7] [(o + 4, 3)] S S')) (0) (0)) 0 0 S1 51 [some (.ref o), some (.long y4), none, some (.long y5), none, some (.int x6), none, none] [] := by
    intro S1 y4 y5 x6 h2
    refine V_lload_3 51 dX5_sumOfMosts_51 ?_
    refine V_lret 52 dX5_sumOfMosts_52 rfl (Nat.le_of_ble_eq_true rfl) (Nat.le_of_ble_eq_true rfl) (RLg.mk h2)
  refine V_aload_0 0 dX5_sumOfMosts_0 ?_
  refine V_getI 1 (c := 5) 3 dX5_sumOfMosts_1 fl_RX5_57 (F.m 0 (Nat.le_of_ble_eq_true rfl)) (F.k 0 5 rfl) (Nat.le_of_ble_eq_true rfl) (Nat.le_of_ble_eq_true rfl) rfl ?_
  refine V_callSN 4 [.int _] _ (s_factorial M.2.1 Γ S _ (by exact h.2.lt hB)) dX5_sumOfMosts_4 cb_X11_factorial ne_RX5_67 sm_yX11_factorial ⟨(Nat.le_of_ble_eq_true rfl), (Nat.le_of_ble_eq_true rfl)⟩ rfl rfl (Nat.le_of_ble_eq_true rfl) ⟨(Nat.le_of_ble_eq_true rfl), (Nat.le_of_ble_eq_true rfl)⟩ (RLg.go (fun r9 S7 q8 => ?_))
  have h10 : FZ [o + 5, o + 6, o + 7] [(o + 4, 3)] S S7 := (FZ.rf (X := [o + 5, o + 6, o + 7]) (Y := [(o + 4, 3)]) (S := S)).tr (q8.sub (by simp) (by simp))
  refine V_lstore_1 7 dX5_sumOfMosts_7 rfl (Nat.le_of_ble_eq_true rfl) ?_
  refine V_lconst 8 0 dX5_sumOfMosts_8 (by decide) ?_
  refine V_lstore_3 9 dX5_sumOfMosts_9 rfl (Nat.le_of_ble_eq_true rfl) ?_
  refine V_iconst 10 (0) dX5_sumOfMosts_10 (by decide) ?_
  refine V_istore_5 11 dX5_sumOfMosts_11 rfl (Nat.le_of_ble_eq_true rfl) ?_
  refine V_lvw (by repeat (first | exact trivial | refine ⟨rfl, ?_⟩)) (V_while (α := Nat × PS × Int64 × Int64) (fun z11 => 19 - z11.1) (fun z11 => z11.1 ≤ 19 ∧ FZ [o + 5, o + 6, o + 7] [(o + 4, 3)] S z11.2.1) (fun z11 => z11.2.1) (fun z11 => [some (.ref o), some (.long z11.2.2.1), none, some (.long z11.2.2.2), none, some (.int (nI z11.1)), none, none]) (0, _, _, _) ⟨Nat.zero_le _, h10⟩ (fun z11 hx19 ih16 => ?b20))
  obtain ⟨i12, S13, w17, w18⟩ := z11
  obtain ⟨hi14, h15⟩ := hx19
  dsimp only at hi14 h15 ih16 ⊢
  refine V_iload_5 13 dX5_sumOfMosts_13 ?_
  refine V_bipush 15 (18) dX5_sumOfMosts_15 (by decide) ?_
  refine V_icmp_gt 17 51 dX5_sumOfMosts_17 (by decide) (fun c22 => ?_) (fun c22 => ?_)
  ·
    refine V_lvw (by repeat (first | exact trivial | refine ⟨rfl, ?_⟩)) (J3 _ _ _ _ h15)
  ·
    have lt24 := nI_ltg (n := 18) (by decide) hi14 c22
    refine V_aload_0 20 dX5_sumOfMosts_20 ?_
    refine V_iload_5 21 dX5_sumOfMosts_21 ?_
    refine V_callV 23 (ci := 5) [.int _] _ (s_withinCount M.2.1 Γ S13 (F.ss h15.1) _) dX5_sumOfMosts_23 cb_X5_withinCount ml_RX5_70 im_yX5_withinCount se_yX5_withinCount ((F.ss h15.1).m 0 (Nat.le_of_ble_eq_true rfl)) ((F.ss h15.1).k 0 5 rfl) (Nat.le_of_ble_eq_true rfl) ⟨(Nat.le_of_ble_eq_true rfl), (Nat.le_of_ble_eq_true rfl)⟩ rfl rfl (Nat.le_of_ble_eq_true rfl) ⟨(Nat.le_of_ble_eq_true rfl), (Nat.le_of_ble_eq_true rfl)⟩ (RLg.go (fun r27 S25 q26 => ?_))
    have h28 : FZ [o + 5, o + 6, o + 7] [(o + 4, 3)] S S25 := h15.tr (q26.sub (by simp) (by simp))
    refine V_lstore_6 26 dX5_sumOfMosts_26 rfl (Nat.le_of_ble_eq_true rfl) ?_
    refine V_lload_6 28 dX5_sumOfMosts_28 ?_
    refine V_lload_1 30 dX5_sumOfMosts_30 ?_
    refine V_lcmp 31 dX5_sumOfMosts_31 ?_
    refine V_if_ne 32 38 dX5_sumOfMosts_32 (by decide) (fun c29 => ?_) (fun c29 => ?_)
    ·
      refine V_lload_3 38 dX5_sumOfMosts_38 ?_
      refine V_lload_1 39 dX5_sumOfMosts_39 ?_
      refine V_lload_6 40 dX5_sumOfMosts_40 ?_
      refine V_lsub 42 dX5_sumOfMosts_42 ?_
      refine V_ladd 43 dX5_sumOfMosts_43 ?_
      refine V_lstore_3 44 dX5_sumOfMosts_44 rfl (Nat.le_of_ble_eq_true rfl) ?_
      refine V_iinc_5 45 (1) dX5_sumOfMosts_45 (by decide) rfl (Nat.le_of_ble_eq_true rfl) ?_
      refine V_goto 48 13 dX5_sumOfMosts_48 (by decide) ?_
      rw [← nI_succ]
      refine V_lvw (by repeat (first | exact trivial | refine ⟨rfl, ?_⟩)) (ih16 (i12 + 1, _, _, _) ⟨by dsimp only; omega, h28⟩ (by dsimp only; omega))
    ·
      refine V_goto 35 51 dX5_sumOfMosts_35 (by decide) ?_
      refine V_lvw (by repeat (first | exact trivial | refine ⟨rfl, ?_⟩)) (J3 _ _ _ _ h28)
set_option maxRecDepth 100000 in
set_option maxHeartbeats 8000000 in
theorem s_leastSure (l : Launch) (Γ : GC) (S : PS) {o : Nat} (F : isL lyOrders Γ.2.2.2.2.1 S o) (B : Nat) (h : OB o B S) (hB : B * 8 < 2147483647) (x y : Int32) : CT l Γ yX5_leastSure cX5_leastSure 6 (some .int) (5) (0) (0) [.ref o, .int x, .int y] S (RI (fun r S' => FZ [o + 5, o + 6, o + 7] [(o + 4, 3)] S S')) := by
  refine CT.of RX5 "leastSure" [some (.ref o), some (.int x), some (.int y), none, none, none] (by decide +kernel) rfl rfl (Nat.le_of_ble_eq_true rfl) rfl (fun M hM => ?_)
  subst hM
  have J3 : ∀ (S1 : PS) (y4 : Int64) (x5 : Int32), FZ [o + 5, o + 6, o + 7] [(o + 4, 3)] S S1 → V M Γ (6, RX5, "leastSure", (some .int), RM (5) (0) (0)) cX5_leastSure (RQ M Γ (RI (fun r S' => FZ [o + 5, o + 6, o + 7] [(o + 4, 3)] S S')) (0) (0)) 0 0 S1 41 [some (.ref o), some (.int x), some (.int y), some (.long y4), none, some (.int x5)] [] := by
    intro S1 y4 x5 h2
    refine V_iload_5 41 dX5_leastSure_41 ?_
    refine V_iret 43 .int dX5_leastSure_43 rfl rfl (Nat.le_of_ble_eq_true rfl) (Nat.le_of_ble_eq_true rfl) (RI.mk h2)
  refine V_iload_1 0 dX5_leastSure_0 ?_
  refine V_i2l 1 dX5_leastSure_1 ?_
  refine V_aload_0 2 dX5_leastSure_2 ?_
  refine V_getI 3 (c := 5) 3 dX5_leastSure_3 fl_RX5_57 (F.m 0 (Nat.le_of_ble_eq_true rfl)) (F.k 0 5 rfl) (Nat.le_of_ble_eq_true rfl) (Nat.le_of_ble_eq_true rfl) rfl ?_
  refine V_callSN 6 [.int _] _ (s_factorial M.2.1 Γ S _ (by exact h.2.lt hB)) dX5_leastSure_6 cb_X11_factorial ne_RX5_67 sm_yX11_factorial ⟨(Nat.le_of_ble_eq_true rfl), (Nat.le_of_ble_eq_true rfl)⟩ rfl rfl (Nat.le_of_ble_eq_true rfl) ⟨(Nat.le_of_ble_eq_true rfl), (Nat.le_of_ble_eq_true rfl)⟩ (RLg.go (fun r8 S6 q7 => ?_))
  have h9 : FZ [o + 5, o + 6, o + 7] [(o + 4, 3)] S S6 := (FZ.rf (X := [o + 5, o + 6, o + 7]) (Y := [(o + 4, 3)]) (S := S)).tr (q7.sub (by simp) (by simp))
  refine V_lmul 9 dX5_leastSure_9 ?_
  refine V_lstore_3 10 dX5_leastSure_10 rfl (Nat.le_of_ble_eq_true rfl) ?_
  refine V_iconst 11 (0) dX5_leastSure_11 (by decide) ?_
  refine V_istore_5 12 dX5_leastSure_12 rfl (Nat.le_of_ble_eq_true rfl) ?_
  refine V_lvw (by repeat (first | exact trivial | refine ⟨rfl, ?_⟩)) (V_while (α := Nat × PS × Int64) (fun z10 => 19 - z10.1) (fun z10 => z10.1 ≤ 19 ∧ FZ [o + 5, o + 6, o + 7] [(o + 4, 3)] S z10.2.1) (fun z10 => z10.2.1) (fun z10 => [some (.ref o), some (.int x), some (.int y), some (.long z10.2.2), none, some (.int (nI z10.1))]) (0, _, _) ⟨Nat.zero_le _, h9⟩ (fun z10 hx17 ih15 => ?b18))
  obtain ⟨i11, S12, w16⟩ := z10
  obtain ⟨hi13, h14⟩ := hx17
  dsimp only at hi13 h14 ih15 ⊢
  refine V_iload_5 14 dX5_leastSure_14 ?_
  refine V_bipush 16 (18) dX5_leastSure_16 (by decide) ?_
  refine V_icmp_gt 18 50 dX5_leastSure_18 (by decide) (fun c20 => ?_) (fun c20 => ?_)
  ·
    refine V_iconst 50 (-1) dX5_leastSure_50 (by decide) ?_
    refine V_iret 51 .int dX5_leastSure_51 rfl rfl (Nat.le_of_ble_eq_true rfl) (Nat.le_of_ble_eq_true rfl) (RI.mk h14)
  ·
    have lt21 := nI_ltg (n := 18) (by decide) hi13 c20
    refine V_lload_3 21 dX5_leastSure_21 ?_
    refine V_lconst 22 0 dX5_leastSure_22 (by decide) ?_
    refine V_lcmp 23 dX5_leastSure_23 ?_
    refine V_if_eq 24 41 dX5_leastSure_24 (by decide) (fun c22 => ?_) (fun c22 => ?_)
    ·
      refine V_lvw (by repeat (first | exact trivial | refine ⟨rfl, ?_⟩)) (J3 _ _ _ h14)
    ·
      refine V_aload_0 27 dX5_leastSure_27 ?_
      refine V_iload_5 28 dX5_leastSure_28 ?_
      refine V_callV 30 (ci := 5) [.int _] _ (s_withinCount M.2.1 Γ S12 (F.ss h14.1) _) dX5_leastSure_30 cb_X5_withinCount ml_RX5_70 im_yX5_withinCount se_yX5_withinCount ((F.ss h14.1).m 0 (Nat.le_of_ble_eq_true rfl)) ((F.ss h14.1).k 0 5 rfl) (Nat.le_of_ble_eq_true rfl) ⟨(Nat.le_of_ble_eq_true rfl), (Nat.le_of_ble_eq_true rfl)⟩ rfl rfl (Nat.le_of_ble_eq_true rfl) ⟨(Nat.le_of_ble_eq_true rfl), (Nat.le_of_ble_eq_true rfl)⟩ (RLg.go (fun r26 S24 q25 => ?_))
      have h27 : FZ [o + 5, o + 6, o + 7] [(o + 4, 3)] S S24 := h14.tr (q25.sub (by simp) (by simp))
      refine V_iload_2 33 dX5_leastSure_33 ?_
      refine V_i2l 34 dX5_leastSure_34 ?_
      refine V_lmul 35 dX5_leastSure_35 ?_
      refine V_lload_3 36 dX5_leastSure_36 ?_
      refine V_lcmp 37 dX5_leastSure_37 ?_
      refine V_if_lt 38 44 dX5_leastSure_38 (by decide) (fun c28 => ?_) (fun c28 => ?_)
      ·
        refine V_iinc_5 44 (1) dX5_leastSure_44 (by decide) rfl (Nat.le_of_ble_eq_true rfl) ?_
        refine V_goto 47 14 dX5_leastSure_47 (by decide) ?_
        rw [← nI_succ]
        refine V_lvw (by repeat (first | exact trivial | refine ⟨rfl, ?_⟩)) (ih15 (i11 + 1, _, _) ⟨by dsimp only; omega, h27⟩ (by dsimp only; omega))
      ·
        refine V_lvw (by repeat (first | exact trivial | refine ⟨rfl, ?_⟩)) (J3 _ _ _ h27)
set_option maxRecDepth 100000 in
set_option maxHeartbeats 8000000 in
theorem s_choicesLying (l : Launch) (Γ : GC) (S : PS) {o : Nat} (F : isL lyOrders Γ.2.2.2.2.1 S o) (B : Nat) (h : OB o B S) (hB : B * 8 < 2147483647) (x y z : Int32) : CT l Γ yX5_choicesLying cX5_choicesLying 12 (some .long) (2) (0) (0) [.ref o, .int x, .int y, .int z] S (RLg (fun r S' => FZ [] [] S S')) := by
  refine CT.of RX5 "choicesLying" [some (.ref o), some (.int x), some (.int y), some (.int z), none, none, none, none, none, none, none, none] (by decide +kernel) rfl rfl (Nat.le_of_ble_eq_true rfl) rfl (fun M hM => ?_)
  subst hM
  refine V_aload_0 0 dX5_choicesLying_0 ?_
  refine V_getR 1 (c := 5) 0 (F.r 0 0 1 rfl) dX5_choicesLying_1 fl_RX5_9 (F.m 0 (Nat.le_of_ble_eq_true rfl)) (F.k 0 5 rfl) (Nat.le_of_ble_eq_true rfl) (Nat.le_of_ble_eq_true rfl) rfl ?_
  refine V_iload_1 4 dX5_choicesLying_4 ?_
  refine V_callSN 5 [.ref _, .int _] _ (c_at M.2.1 Γ S (a := o + 1) (F.m 1 (by decide)) (F.k 1 14 rfl) (by rw [F.l 1 8 rfl]; decide) _) dX5_choicesLying_5 cb_X11_at ne_RX5_77 sm_yX11_at ⟨(Nat.le_of_ble_eq_true rfl), (Nat.le_of_ble_eq_true rfl)⟩ rfl rfl (Nat.le_of_ble_eq_true rfl) ⟨(Nat.le_of_ble_eq_true rfl), (Nat.le_of_ble_eq_true rfl)⟩ (RI.go (fun r1 S1 h1 => ?_))
  rw [h1.2]
  refine V_istore_4 8 dX5_choicesLying_8 rfl (Nat.le_of_ble_eq_true rfl) ?_
  have hr1 : r1.toInt < 2147483647 := by rw [h1.1]; exact IB.lt (IB.aAt h.1) (by omega)
  clear h1
  refine V_iload_1 10 dX5_choicesLying_10 ?_
  refine V_iload_2 11 dX5_choicesLying_11 ?_
  have J29 : ∀ (v : Int32), v.toInt < 2147483647 → V M Γ (12, RX5, "choicesLying", (some .long), RM (2) (0) (0)) cX5_choicesLying (RQ M Γ (RLg (fun r S' => FZ [] [] S S')) (0) (0)) 0 0 S 29 [some (.ref o), some (.int x), some (.int y), some (.int z), some (.int r1), some (.int v), none, none, none, none, none, none] [] := by
    intro v hv
    refine V_lconst 29 0 dX5_choicesLying_29 (by decide) ?_
    refine V_lstore_6 30 dX5_choicesLying_30 rfl (Nat.le_of_ble_eq_true rfl) ?_
    refine V_iconst 32 (0) dX5_choicesLying_32 (by decide) ?_
    refine V_istore_8 33 dX5_choicesLying_33 rfl (Nat.le_of_ble_eq_true rfl) ?_
    refine V_lvw (by repeat (first | exact trivial | refine ⟨rfl, ?_⟩)) (V_while (α := Int32 × PS × Int64) (fun z1 => ((r1).toInt + 1 - z1.1.toInt).toNat) (fun z1 => FZ [] [] S z1.2.1) (fun z1 => z1.2.1) (fun z1 => [some (.ref o), some (.int x), some (.int y), some (.int z), some (.int r1), some (.int v), some (.long z1.2.2), none, some (.int z1.1), none, none, none]) (_, _, _) (FZ.rf) (fun z1 h5 ih6 => ?b9))
    obtain ⟨i2, S3, w7⟩ := z1
    dsimp only at h5 ih6 ⊢
    refine V_iload_8 35 dX5_choicesLying_35 ?_
    refine V_iload_4 37 dX5_choicesLying_37 ?_
    refine V_icmp_gt 39 121 dX5_choicesLying_39 (by decide) (fun c11 => ?_) (fun c11 => ?_)
    ·
      refine V_lload_6 121 dX5_choicesLying_121 ?_
      refine V_lret 123 dX5_choicesLying_123 rfl (Nat.le_of_ble_eq_true rfl) (Nat.le_of_ble_eq_true rfl) (RLg.mk h5)
    ·
      refine V_iconst 42 (0) dX5_choicesLying_42 (by decide) ?_
      refine V_istore_9 43 dX5_choicesLying_43 rfl (Nat.le_of_ble_eq_true rfl) ?_
      refine V_lvw (by repeat (first | exact trivial | refine ⟨rfl, ?_⟩)) (V_while (α := Int32 × PS × Int64) (fun z12 => ((v).toInt + 1 - z12.1.toInt).toNat) (fun z12 => FZ [] [] S z12.2.1) (fun z12 => z12.2.1) (fun z12 => [some (.ref o), some (.int x), some (.int y), some (.int z), some (.int r1), some (.int v), some (.long z12.2.2), none, some (.int i2), some (.int z12.1), none, none]) (_, _, _) (h5) (fun z12 h16 ih17 => ?b20))
      obtain ⟨i13, S14, w18⟩ := z12
      dsimp only at h16 ih17 ⊢
      refine V_iload_9 45 dX5_choicesLying_45 ?_
      refine V_iload_5 47 dX5_choicesLying_47 ?_
      refine V_icmp_gt 49 115 dX5_choicesLying_49 (by decide) (fun c22 => ?_) (fun c22 => ?_)
      ·
        refine V_iinc_8 115 (1) dX5_choicesLying_115 (by decide) rfl (Nat.le_of_ble_eq_true rfl) ?_
        refine V_goto 118 35 dX5_choicesLying_118 (by decide) ?_
        refine V_lvw (by repeat (first | exact trivial | refine ⟨rfl, ?_⟩)) (ih6 (_, _, _) (h16) (le32 (by first | assumption | (assumption)) (hr1)))
      ·
        refine V_aload_0 52 dX5_choicesLying_52 ?_
        refine V_getI 53 (c := 5) 3 dX5_choicesLying_53 fl_RX5_57 ((F.ss h16.1).m 0 (Nat.le_of_ble_eq_true rfl)) ((F.ss h16.1).k 0 5 rfl) (Nat.le_of_ble_eq_true rfl) (Nat.le_of_ble_eq_true rfl) rfl ?_
        refine V_iload_4 56 dX5_choicesLying_56 ?_
        refine V_isub 58 dX5_choicesLying_58 ?_
        refine V_iload_5 59 dX5_choicesLying_59 ?_
        refine V_isub 61 dX5_choicesLying_61 ?_
        refine V_iload_3 62 dX5_choicesLying_62 ?_
        refine V_iload_8 63 dX5_choicesLying_63 ?_
        refine V_isub 65 dX5_choicesLying_65 ?_
        refine V_iload_9 66 dX5_choicesLying_66 ?_
        refine V_isub 68 dX5_choicesLying_68 ?_
        refine V_callSN 69 [.int _, .int _] _ (s_choose M.2.1 Γ S14 _ _) dX5_choicesLying_69 cb_X11_choose ne_RX5_81 sm_yX11_choose ⟨(Nat.le_of_ble_eq_true rfl), (Nat.le_of_ble_eq_true rfl)⟩ rfl rfl (Nat.le_of_ble_eq_true rfl) ⟨(Nat.le_of_ble_eq_true rfl), (Nat.le_of_ble_eq_true rfl)⟩ (RLg.go (fun r25 S23 q24 => ?_))
        have h26 : FZ [] [] S S23 := h16.tr (q24.sub (by simp) (by simp))
        refine V_lstore_10 72 dX5_choicesLying_72 rfl (Nat.le_of_ble_eq_true rfl) ?_
        refine V_lload_6 74 dX5_choicesLying_74 ?_
        refine V_iload_4 76 dX5_choicesLying_76 ?_
        refine V_iload_8 78 dX5_choicesLying_78 ?_
        refine V_callSN 80 [.int _, .int _] _ (s_choose M.2.1 Γ S23 _ _) dX5_choicesLying_80 cb_X11_choose ne_RX5_81 sm_yX11_choose ⟨(Nat.le_of_ble_eq_true rfl), (Nat.le_of_ble_eq_true rfl)⟩ rfl rfl (Nat.le_of_ble_eq_true rfl) ⟨(Nat.le_of_ble_eq_true rfl), (Nat.le_of_ble_eq_true rfl)⟩ (RLg.go (fun r29 S27 q28 => ?_))
        have h30 : FZ [] [] S S27 := h26.tr (q28.sub (by simp) (by simp))
        refine V_iload_5 83 dX5_choicesLying_83 ?_
        refine V_iload_9 85 dX5_choicesLying_85 ?_
        refine V_callSN 87 [.int _, .int _] _ (s_choose M.2.1 Γ S27 _ _) dX5_choicesLying_87 cb_X11_choose ne_RX5_81 sm_yX11_choose ⟨(Nat.le_of_ble_eq_true rfl), (Nat.le_of_ble_eq_true rfl)⟩ rfl rfl (Nat.le_of_ble_eq_true rfl) ⟨(Nat.le_of_ble_eq_true rfl), (Nat.le_of_ble_eq_true rfl)⟩ (RLg.go (fun r33 S31 q32 => ?_))
        have h34 : FZ [] [] S S31 := h30.tr (q32.sub (by simp) (by simp))
        refine V_lmul 90 dX5_choicesLying_90 ?_
        refine V_lload_10 91 dX5_choicesLying_91 ?_
        refine V_lmul 93 dX5_choicesLying_93 ?_
        refine V_aload_0 94 dX5_choicesLying_94 ?_
        refine V_iload_1 95 dX5_choicesLying_95 ?_
        refine V_iload_2 96 dX5_choicesLying_96 ?_
        refine V_iload_8 97 dX5_choicesLying_97 ?_
        refine V_iload_9 99 dX5_choicesLying_99 ?_
        refine V_callV 101 (ci := 5) [.int _, .int _, .int _, .int _] _ (s_lyingOf M.2.1 Γ S31 (F.ss h34.1) _ _ _ _) dX5_choicesLying_101 cb_X5_lyingOf ml_RX5_85 im_yX5_lyingOf se_yX5_lyingOf ((F.ss h34.1).m 0 (Nat.le_of_ble_eq_true rfl)) ((F.ss h34.1).k 0 5 rfl) (Nat.le_of_ble_eq_true rfl) ⟨(Nat.le_of_ble_eq_true rfl), (Nat.le_of_ble_eq_true rfl)⟩ rfl rfl (Nat.le_of_ble_eq_true rfl) ⟨(Nat.le_of_ble_eq_true rfl), (Nat.le_of_ble_eq_true rfl)⟩ (RI.go (fun r37 S35 q36 => ?_))
        have h38 : FZ [] [] S S35 := h34.tr (q36.sub (by simp) (by simp))
        refine V_i2l 104 dX5_choicesLying_104 ?_
        refine V_lmul 105 dX5_choicesLying_105 ?_
        refine V_ladd 106 dX5_choicesLying_106 ?_
        refine V_lstore_6 107 dX5_choicesLying_107 rfl (Nat.le_of_ble_eq_true rfl) ?_
        refine V_iinc_9 109 (1) dX5_choicesLying_109 (by decide) rfl (Nat.le_of_ble_eq_true rfl) ?_
        refine V_goto 112 45 dX5_choicesLying_112 (by decide) ?_
        refine V_lvw (by repeat (first | exact trivial | refine ⟨rfl, ?_⟩)) (ih17 (_, _, _) (h38) (le32 (by first | assumption | (assumption)) (hv)))
  refine V_icmp_ne 12 19 dX5_choicesLying_12 (by decide) (fun c => ?_) (fun c => ?_)
  ·
    refine V_aload_0 19 dX5_choicesLying_19 ?_
    refine V_getR 20 (c := 5) 0 (F.r 0 0 1 rfl) dX5_choicesLying_20 fl_RX5_9 (F.m 0 (Nat.le_of_ble_eq_true rfl)) (F.k 0 5 rfl) (Nat.le_of_ble_eq_true rfl) (Nat.le_of_ble_eq_true rfl) rfl ?_
    refine V_iload_2 23 dX5_choicesLying_23 ?_
    refine V_callSN 24 [.ref _, .int _] _ (c_at M.2.1 Γ S (a := o + 1) (F.m 1 (by decide)) (F.k 1 14 rfl) (by rw [F.l 1 8 rfl]; decide) _) dX5_choicesLying_24 cb_X11_at ne_RX5_77 sm_yX11_at ⟨(Nat.le_of_ble_eq_true rfl), (Nat.le_of_ble_eq_true rfl)⟩ rfl rfl (Nat.le_of_ble_eq_true rfl) ⟨(Nat.le_of_ble_eq_true rfl), (Nat.le_of_ble_eq_true rfl)⟩ (RI.go (fun r2 S2 h2 => ?_))
    rw [h2.2]
    refine V_istore_5 27 dX5_choicesLying_27 rfl (Nat.le_of_ble_eq_true rfl) ?_
    exact J29 _ (by rw [h2.1]; exact IB.lt (IB.aAt h.1) (by omega))
  ·
    refine V_iconst 15 (0) dX5_choicesLying_15 (by decide) ?_
    refine V_goto 16 27 dX5_choicesLying_16 (by decide) ?_
    refine V_istore_5 27 dX5_choicesLying_27 rfl (Nat.le_of_ble_eq_true rfl) ?_
    exact J29 _ (by decide)
set_option maxRecDepth 100000 in
set_option maxHeartbeats 8000000 in
theorem s_lyingAfter (l : Launch) (Γ : GC) (S : PS) {o : Nat} (F : isL lyOrders Γ.2.2.2.2.1 S o) (B : Nat) (h : OB o B S) (hB : B * 16 < 2147483647) (k : Int32) (hk : IB (B * 8) k) : CT l Γ yX5_lyingAfter cX5_lyingAfter 5 (some .long) (3) (0) (0) [.ref o, .int k] S (RLg (fun r S' => FZ [] [] S S')) := by
  refine CT.of RX5 "lyingAfter" [some (.ref o), some (.int k), none, none, none] (by decide +kernel) rfl rfl (Nat.le_of_ble_eq_true rfl) rfl (fun M hM => ?_)
  subst hM
  refine V_lconst 0 0 dX5_lyingAfter_0 (by decide) ?_
  refine V_lstore_2 1 dX5_lyingAfter_1 rfl (Nat.le_of_ble_eq_true rfl) ?_
  refine V_iconst 2 (0) dX5_lyingAfter_2 (by decide) ?_
  refine V_istore_4 3 dX5_lyingAfter_3 rfl (Nat.le_of_ble_eq_true rfl) ?_
  refine V_lvw (by repeat (first | exact trivial | refine ⟨rfl, ?_⟩)) (V_while (α := Nat × PS × Int64) (fun z1 => 8 - z1.1) (fun z1 => z1.1 ≤ 8 ∧ FZ [] [] S z1.2.1 ∧ (OB o B z1.2.1)) (fun z1 => z1.2.1) (fun z1 => [some (.ref o), some (.int k), some (.long z1.2.2), none, some (.int (nI z1.1))]) (0, _, _) ⟨Nat.zero_le _, FZ.rf, h⟩ (fun z1 hx8 ih6 => ?b9))
  obtain ⟨i2, S3, w7⟩ := z1
  obtain ⟨hi4, h5, p11⟩ := hx8
  dsimp only at hi4 h5 p11 ih6 ⊢
  have J14 : ∀ (S12 : PS) (y15 : Int64) (x16 : Int64) (x17 : Int64), FZ [] [] S S12 → (OB o B S12) → i2 < 8 → V M Γ (5, RX5, "lyingAfter", (some .long), RM (3) (0) (0)) cX5_lyingAfter (RQ M Γ (RLg (fun r S' => FZ [] [] S S')) (0) (0)) 0 0 S12 43 [some (.ref o), some (.int k), some (.long y15), none, some (.int (nI i2))] [.long x17, .long x16] := by
    intro S12 y15 x16 x17 h13 p18 lt19
    refine V_ladd 43 dX5_lyingAfter_43 ?_
    refine V_lstore_2 44 dX5_lyingAfter_44 rfl (Nat.le_of_ble_eq_true rfl) ?_
    refine V_iinc_4 45 (1) dX5_lyingAfter_45 (by decide) rfl (Nat.le_of_ble_eq_true rfl) ?_
    refine V_goto 48 5 dX5_lyingAfter_48 (by decide) ?_
    rw [← nI_succ]
    refine V_lvw (by repeat (first | exact trivial | refine ⟨rfl, ?_⟩)) (ih6 (i2 + 1, _, _) ⟨by dsimp only; omega, h13, p18⟩ (by dsimp only; omega))
  refine V_iload_4 5 dX5_lyingAfter_5 ?_
  refine V_bipush 7 (8) dX5_lyingAfter_7 (by decide) ?_
  refine V_icmp_ge 9 51 dX5_lyingAfter_9 (by decide) (fun c20 => ?_) (fun c20 => ?_)
  ·
    refine V_lload_2 51 dX5_lyingAfter_51 ?_
    refine V_iload_1 52 dX5_lyingAfter_52 ?_
    refine V_callSN 53 [.int _] _ (s_factorial M.2.1 Γ S3 _ (hk.lt (by omega))) dX5_lyingAfter_53 cb_X11_factorial ne_RX5_67 sm_yX11_factorial ⟨(Nat.le_of_ble_eq_true rfl), (Nat.le_of_ble_eq_true rfl)⟩ rfl rfl (Nat.le_of_ble_eq_true rfl) ⟨(Nat.le_of_ble_eq_true rfl), (Nat.le_of_ble_eq_true rfl)⟩ (RLg.go (fun r23 S21 q22 => ?_))
    have h24 : FZ [] [] S S21 := h5.tr (q22.sub (by simp) (by simp))
    have p25 : (OB o B S21) := by exact p11.fz q22 (by simp) (by simp)
    refine V_lmul 56 dX5_lyingAfter_56 ?_
    refine V_aload_0 57 dX5_lyingAfter_57 ?_
    refine V_getI 58 (c := 5) 3 dX5_lyingAfter_58 fl_RX5_57 ((F.ss h24.1).m 0 (Nat.le_of_ble_eq_true rfl)) ((F.ss h24.1).k 0 5 rfl) (Nat.le_of_ble_eq_true rfl) (Nat.le_of_ble_eq_true rfl) rfl ?_
    refine V_iload_1 61 dX5_lyingAfter_61 ?_
    refine V_isub 62 dX5_lyingAfter_62 ?_
    refine V_callSN 63 [.int _] _ (s_factorial M.2.1 Γ S21 _ (by exact IB.lt (p25.2.sub hk (by omega)) (by omega))) dX5_lyingAfter_63 cb_X11_factorial ne_RX5_67 sm_yX11_factorial ⟨(Nat.le_of_ble_eq_true rfl), (Nat.le_of_ble_eq_true rfl)⟩ rfl rfl (Nat.le_of_ble_eq_true rfl) ⟨(Nat.le_of_ble_eq_true rfl), (Nat.le_of_ble_eq_true rfl)⟩ (RLg.go (fun r28 S26 q27 => ?_))
    have h29 : FZ [] [] S S26 := h24.tr (q27.sub (by simp) (by simp))
    have p30 : (OB o B S26) := by exact p25.fz q27 (by simp) (by simp)
    refine V_lmul 66 dX5_lyingAfter_66 ?_
    refine V_lret 67 dX5_lyingAfter_67 rfl (Nat.le_of_ble_eq_true rfl) (Nat.le_of_ble_eq_true rfl) (RLg.mk h29)
  ·
    have lt31 := nI_lt8 (by decide) hi4 c20
    refine V_lload_2 12 dX5_lyingAfter_12 ?_
    refine V_iload_4 13 dX5_lyingAfter_13 ?_
    refine V_aload_0 15 dX5_lyingAfter_15 ?_
    refine V_getR 16 (c := 5) 2 ((F.ss h5.1).r 0 2 3 rfl) dX5_lyingAfter_16 fl_RX5_18 ((F.ss h5.1).m 0 (Nat.le_of_ble_eq_true rfl)) ((F.ss h5.1).k 0 5 rfl) (Nat.le_of_ble_eq_true rfl) (Nat.le_of_ble_eq_true rfl) rfl ?_
    refine V_iload_4 19 dX5_lyingAfter_19 ?_
    refine V_iaload2 21 dX5_lyingAfter_21 ((F.ss h5.1).m 3 (Nat.le_of_ble_eq_true rfl)) ((F.ss h5.1).k 3 14 rfl) ((F.ss h5.1).l 3 8 rfl) ?_ ?_
    · exact vp_in_nI (by omega) (by decide)
    refine V_icmp_gt 22 42 dX5_lyingAfter_22 (by decide) (fun c32 => ?_) (fun c32 => ?_)
    ·
      refine V_lconst 42 0 dX5_lyingAfter_42 (by decide) ?_
      refine V_lvw (by repeat (first | exact trivial | refine ⟨rfl, ?_⟩)) (J14 _ _ _ _ h5 p11 (by first | omega | assumption))
    ·
      refine V_aload_0 25 dX5_lyingAfter_25 ?_
      refine V_iload_4 26 dX5_lyingAfter_26 ?_
      refine V_aload_0 28 dX5_lyingAfter_28 ?_
      refine V_getR 29 (c := 5) 2 ((F.ss h5.1).r 0 2 3 rfl) dX5_lyingAfter_29 fl_RX5_18 ((F.ss h5.1).m 0 (Nat.le_of_ble_eq_true rfl)) ((F.ss h5.1).k 0 5 rfl) (Nat.le_of_ble_eq_true rfl) (Nat.le_of_ble_eq_true rfl) rfl ?_
      refine V_iload_4 32 dX5_lyingAfter_32 ?_
      refine V_iaload2 34 dX5_lyingAfter_34 ((F.ss h5.1).m 3 (Nat.le_of_ble_eq_true rfl)) ((F.ss h5.1).k 3 14 rfl) ((F.ss h5.1).l 3 8 rfl) ?_ ?_
      · exact vp_in_nI (by omega) (by decide)
      refine V_iload_1 35 dX5_lyingAfter_35 ?_
      refine V_callV 36 (ci := 5) [.int _, .int _, .int _] _ (s_choicesLying M.2.1 Γ S3 (F.ss h5.1) B p11 (by omega) _ _ _) dX5_lyingAfter_36 cb_X5_choicesLying ml_RX5_73 im_yX5_choicesLying se_yX5_choicesLying ((F.ss h5.1).m 0 (Nat.le_of_ble_eq_true rfl)) ((F.ss h5.1).k 0 5 rfl) (Nat.le_of_ble_eq_true rfl) ⟨(Nat.le_of_ble_eq_true rfl), (Nat.le_of_ble_eq_true rfl)⟩ rfl rfl (Nat.le_of_ble_eq_true rfl) ⟨(Nat.le_of_ble_eq_true rfl), (Nat.le_of_ble_eq_true rfl)⟩ (RLg.go (fun r36 S34 q35 => ?_))
      have h37 : FZ [] [] S S34 := h5.tr (q35.sub (by simp) (by simp))
      have p38 : (OB o B S34) := by exact p11.fz q35 (by simp) (by simp)
      refine V_goto 39 43 dX5_lyingAfter_39 (by decide) ?_
      refine V_lvw (by repeat (first | exact trivial | refine ⟨rfl, ?_⟩)) (J14 _ _ _ _ h37 p38 (by first | omega | assumption))

