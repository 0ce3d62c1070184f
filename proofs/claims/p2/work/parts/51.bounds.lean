/-! States with bounded bags and tables -/
def IB (B : Nat) (x : Int32) : Prop := -(B : Int) ≤ x.toInt ∧ x.toInt ≤ (B : Int)
/-- a told text has 0 .. 9 of each kind -/
def NUM (t : Nat) (S : PS) : Prop := ∀ i, i < 8 → 0 ≤ sA S (t + 1) i ∧ sA S (t + 1) i ≤ 9
def NB (s B : Nat) (S : PS) : Prop := (sI S s 4 = 0 ∨ sI S s 4 = 1) ∧ ∀ i, IB B (sA S (s + 1) i) ∧ IB B (sA S (s + 2) i)
section NBS
variable {s t B C : Nat} {S S1 S2 : PS} {X : List Nat} {Y : List (Nat × Nat)} {x y v : Int32}
theorem IB.mono (h : IB B x) (hB : B ≤ C) : IB C x := ⟨by have := h.1; omega, by have := h.2; omega⟩
theorem IB.zero : IB B 0 := ⟨by show -(B : Int) ≤ (0 : Int32).toInt; rw [show (0 : Int32).toInt = 0 from by decide]; omega, by show (0 : Int32).toInt ≤ _; rw [show (0 : Int32).toInt = 0 from by decide]; omega⟩
theorem IB.one : IB 1 1 := ⟨by decide, by decide⟩
theorem IB.neg : IB 1 (-1) := ⟨by decide, by decide⟩
theorem IB.add (h : IB B x) (g : IB C y) (hB : B + C < 2147483648) : IB (B + C) (x + y) := by
  have e : (x + y).toInt = x.toInt + y.toInt := by
    rw [Int32.toInt_add]
    exact Int.bmod_eq_of_le (by have := h.1; have := g.1; omega) (by have := h.2; have := g.2; omega)
  constructor <;> rw [e] <;> have h1 := h.1 <;> have h2 := h.2 <;> have g1 := g.1 <;> have g2 := g.2 <;> push_cast <;> omega
theorem IB.lt (h : IB B x) (hB : B < 2147483647) : x.toInt < 2147483647 := by have := h.2; omega
theorem IB.of9 (h : 0 ≤ x ∧ x ≤ 9) : IB 9 x := by
  have h1 := Int32.le_iff_toInt_le.mp h.1
  have h2 := Int32.le_iff_toInt_le.mp h.2
  rw [show (0 : Int32).toInt = 0 from by decide] at h1
  rw [show (9 : Int32).toInt = 9 from by decide] at h2
  exact ⟨by omega, by omega⟩
theorem IB.aAt {a : Nat} {i : Int32} (h : ∀ j, IB B (sA S a j)) : IB B (aAt S a i) := by
  unfold Jvm.Pilot.CSockTableLaw_law_r3635_2ecde3.aAt
  split
  · exact IB.zero
  · exact h _
theorem IB.aSum {f : Nat → Int32} (h : ∀ j, IB B (f j)) : ∀ n, n ≤ 8 → B * 8 < 2147483648 → IB (B * n) (aSum f n)
  | 0, _, _ => IB.zero
  | n + 1, hn, hB => by
    have q := (IB.aSum h n (by omega) hB).add (h n) (by have : B * n ≤ B * 7 := Nat.mul_le_mul_left _ (by omega); omega)
    rw [show B * (n + 1) = B * n + B from by rw [Nat.mul_add, Nat.mul_one]]
    exact q
theorem NUM.fz (h : NUM t S) (e : FZ X Y S S2) (hx : t + 1 ∉ X) : NUM t S2 := fun i hi => by rw [e.2.1 _ hx]; exact h i hi
theorem NUM.fw (h : NUM t S) (e : FW X Y S S2) (hx : t + 1 ∉ X) : NUM t S2 := fun i hi => by rw [e.2.1 _ hx]; exact h i hi
theorem NUM.aAt9 {i : Int32} (h : NUM t S) (hl : sL S (t + 1) = 8) : 0 ≤ aAt S (t + 1) i ∧ aAt S (t + 1) i ≤ 9 := by
  unfold Jvm.Pilot.CSockTableLaw_law_r3635_2ecde3.aAt
  split
  · decide
  · rename_i q
    exact h _ (by omega)
theorem NB.mono (h : NB s B S) (hB : B ≤ C) : NB s C S := ⟨h.1, fun i => ⟨(h.2 i).1.mono hB, (h.2 i).2.mono hB⟩⟩
theorem NB.fz (h : NB s B S) (e : FZ X Y S S2) (h1 : s + 1 ∉ X) (h2 : s + 2 ∉ X) (hy : (s, 4) ∉ Y) : NB s B S2 := ⟨by rw [e.2.2 s 4 hy]; exact h.1, fun i => by rw [e.2.1 _ h1, e.2.1 _ h2]; exact h.2 i⟩
theorem NB.fw (h : NB s B S) (e : FW X Y S S2) (h1 : s + 1 ∉ X) (h2 : s + 2 ∉ X) (hy : (s, 4) ∉ Y) : NB s B S2 := ⟨by rw [e.2.2 s 4 hy]; exact h.1, fun i => by rw [e.2.1 _ h1, e.2.1 _ h2]; exact h.2 i⟩
theorem up2_cases {f : Nat → Nat → Int32} {a k b j : Nat} {P : Int32 → Prop} (h1 : P (f b j)) (h2 : P v) : P (up2 f a k v b j) := by
  unfold up2; split
  · exact h2
  · exact h1
theorem NB_uA {a i : Nat} (h : NB s B S) (hv : IB B v) : NB s B (uA S a i v) := ⟨h.1, fun j => ⟨up2_cases (P := IB B) (h.2 j).1 hv, up2_cases (P := IB B) (h.2 j).2 hv⟩⟩
theorem NB_uI {a k : Nat} (h : NB s B S) (n : (a, k) ≠ (s, 4)) : NB s B (uI S a k v) := ⟨by
  rw [sI_uI]; unfold up2; rw [if_neg (fun q => n (by rw [q.1, q.2]))]; exact h.1, h.2⟩
theorem NB_uS (h : NB s B S) (hv : v = 0 ∨ v = 1) : NB s B (uI S s 4 v) := ⟨by rw [sI_uI, up2_s]; exact hv, h.2⟩
theorem NB.add1 {a x : Nat} (h : NB s B S) (e : S2 = S ∨ S2 = uA S a x (sA S a x + v)) (ha : a = s + 1 ∨ a = s + 2) (hv : IB 1 v) (hB : B + 1 < 2147483648) : NB s (B + 1) S2 := by
  rcases e with rfl | rfl
  · exact h.mono (by omega)
  · refine NB_uA (h.mono (by omega)) ?_
    rcases ha with rfl | rfl
    · exact (h.2 x).1.add hv hB
    · exact (h.2 x).2.add hv hB
theorem NB.cpy {a b n : Nat} (h : NB s B S) (e : S2 = cpA S a b n) (g : ∀ j, j < n → IB B (sA S a j)) : NB s B S2 := by
  rw [e]
  refine ⟨h.1, fun j => ⟨?_, ?_⟩⟩
  · show IB B (if s + 1 = b ∧ j < n then sA S a j else sA S (s + 1) j)
    split
    · rename_i q; exact g j q.2
    · exact (h.2 j).1
  · show IB B (if s + 2 = b ∧ j < n then sA S a j else sA S (s + 2) j)
    split
    · rename_i q; exact g j q.2
    · exact (h.2 j).2
theorem cpN {t B : Nat} {S : PS} {lo : Nat} (Ft : isL lyText lo S t) (hn : NUM t S) (hB : 9 ≤ B) : ∀ j, j < sL S (t + 1) → IB B (sA S (t + 1) j) := fun j hj => (IB.of9 (hn j (by rw [Ft.l 1 8 rfl] at hj; exact hj))).mono hB
theorem cpB1 {n : Nat} (h : NB t B S) : ∀ j, j < n → IB B (sA S (t + 1) j) := fun j _ => (h.2 j).1
theorem cpB2 {n : Nat} (h : NB t B S) : ∀ j, j < n → IB B (sA S (t + 2) j) := fun j _ => (h.2 j).2
end NBS
set_option maxRecDepth 100000 in
set_option maxHeartbeats 8000000 in
theorem s_drawOneN (l : Launch) (Γ : GC) (S : PS) {s t : Nat} (F : isL lyState Γ.2.2.2.2.1 S s) (Ft : isL lyText Γ.2.2.2.2.1 S t) (x y : Int32) (B : Nat) (h : NB s B S) (hB : B + 9 < 2147483648) : CT l Γ yX7_drawOne cX7_drawOne 6 (some .int) (2) (0) (0) [.ref s, .ref t, .int x, .int y] S (RI (fun r S' => FZ [s + 1, s + 2, s + 3] [(s, 3), (s, 4)] S S' ∧ NB s (B + 4) S')) := by
  refine CT.of RX7 "drawOne" [some (.ref s), some (.ref t), some (.int x), some (.int y), none, none] (by decide +kernel) rfl rfl (Nat.le_of_ble_eq_true rfl) rfl (fun M hM => ?_)
  subst hM
  refine V_aload_1 0 dX7_drawOne_0 ?_
  refine V_getR 1 (c := 10) 3 (Ft.r 0 3 2 rfl) dX7_drawOne_1 fl_RX7_38 (Ft.m 0 (Nat.le_of_ble_eq_true rfl)) (Ft.k 0 10 rfl) (Nat.le_of_ble_eq_true rfl) (Nat.le_of_ble_eq_true rfl) rfl ?_
  refine V_iload_2 4 dX7_drawOne_4 ?_
  refine V_callSN 5 [.ref _, .int _] _ (c_at M.2.1 Γ S (a := (t + 2)) (Ft.m 2 (Nat.le_of_ble_eq_true rfl)) (Ft.k 2 14 rfl) (by rw [(Ft.l 2 8 rfl)]; decide) _) dX7_drawOne_5 cb_X11_at ne_RX7_41 sm_yX11_at ⟨(Nat.le_of_ble_eq_true rfl), (Nat.le_of_ble_eq_true rfl)⟩ rfl rfl (Nat.le_of_ble_eq_true rfl) ⟨(Nat.le_of_ble_eq_true rfl), (Nat.le_of_ble_eq_true rfl)⟩ (RI.go (fun r3 S1 q2 => ?_))
  rw [q2.2]
  refine V_istore_4 8 dX7_drawOne_8 rfl (Nat.le_of_ble_eq_true rfl) ?_
  refine V_aload_0 10 dX7_drawOne_10 ?_
  refine V_getR 11 (c := 7) 0 (F.r 0 0 1 rfl) dX7_drawOne_11 fl_RX7_9 (F.m 0 (Nat.le_of_ble_eq_true rfl)) (F.k 0 7 rfl) (Nat.le_of_ble_eq_true rfl) (Nat.le_of_ble_eq_true rfl) rfl ?_
  refine V_iload_2 14 dX7_drawOne_14 ?_
  refine V_iconst 15 (-1) dX7_drawOne_15 (by decide) ?_
  refine V_callSN 16 [.ref _, .int _, .int _] _ (c_add M.2.1 Γ S (a := (s + 1)) (F.m 1 (Nat.le_of_ble_eq_true rfl)) (F.k 1 14 rfl) (by rw [(F.l 1 8 rfl)]; decide) _ _) dX7_drawOne_16 cb_X11_add ne_RX7_45 sm_yX11_add ⟨(Nat.le_of_ble_eq_true rfl), (Nat.le_of_ble_eq_true rfl)⟩ rfl rfl (Nat.le_of_ble_eq_true rfl) ⟨(Nat.le_of_ble_eq_true rfl), (Nat.le_of_ble_eq_true rfl)⟩ (RV.go (fun S4 q5 => ?_))
  have h7 : FZ [s + 1, s + 2, s + 3] [(s, 3), (s, 4)] S S4 := (FZ.rf (X := [s + 1, s + 2, s + 3]) (Y := [(s, 3), (s, 4)]) (S := S)).tr ((fr_add q5).sub (by simp) (by simp))
  have p8 : (NB s (B + 1) S4) := by exact h.add1 q5 (Or.inl rfl) IB.neg (by omega)
  refine V_aload_0 19 dX7_drawOne_19 ?_
  refine V_dup 20 dX7_drawOne_20 rfl ?_
  refine V_getI 21 (c := 7) 3 dX7_drawOne_21 fl_RX7_30 ((F.ss h7.1).m 0 (Nat.le_of_ble_eq_true rfl)) ((F.ss h7.1).k 0 7 rfl) (Nat.le_of_ble_eq_true rfl) (Nat.le_of_ble_eq_true rfl) rfl ?_
  refine V_iconst 24 (1) dX7_drawOne_24 (by decide) ?_
  refine V_iadd 25 dX7_drawOne_25 ?_
  refine V_putI 26 (c := 7) 3 dX7_drawOne_26 fl_RX7_30 ((F.ss h7.1).m 0 (Nat.le_of_ble_eq_true rfl)) ((F.ss h7.1).k 0 7 rfl) (Nat.le_of_ble_eq_true rfl) (Nat.le_of_ble_eq_true rfl) rfl (Or.inl rfl) ?_
  refine V_abs (fun T9 => FZ [s + 1, s + 2, s + 3] [(s, 3), (s, 4)] S T9 ∧ (NB s (B + 1) T9)) ⟨h7.uI (by simp), by exact NB_uI p8 (by simp)⟩ (fun S9 hh12 => ?_)
  obtain ⟨h10, p11⟩ := hh12
  refine V_aload_0 29 dX7_drawOne_29 ?_
  refine V_getR 30 (c := 7) 1 ((F.ss h10.1).r 0 1 2 rfl) dX7_drawOne_30 fl_RX7_15 ((F.ss h10.1).m 0 (Nat.le_of_ble_eq_true rfl)) ((F.ss h10.1).k 0 7 rfl) (Nat.le_of_ble_eq_true rfl) (Nat.le_of_ble_eq_true rfl) rfl ?_
  refine V_iload_4 33 dX7_drawOne_33 ?_
  refine V_callSN 35 [.ref _, .int _] _ (c_at M.2.1 Γ S9 (a := (s + 2)) ((F.ss h10.1).m 2 (Nat.le_of_ble_eq_true rfl)) ((F.ss h10.1).k 2 14 rfl) (by rw [((F.ss h10.1).l 2 8 rfl)]; decide) _) dX7_drawOne_35 cb_X11_at ne_RX7_41 sm_yX11_at ⟨(Nat.le_of_ble_eq_true rfl), (Nat.le_of_ble_eq_true rfl)⟩ rfl rfl (Nat.le_of_ble_eq_true rfl) ⟨(Nat.le_of_ble_eq_true rfl), (Nat.le_of_ble_eq_true rfl)⟩ (RI.go (fun r15 S13 q14 => ?_))
  rw [q14.2]
  refine V_if_le 38 67 dX7_drawOne_38 (by decide) (fun c16 => ?_) (fun c16 => ?_)
  ·
    refine V_aload_0 67 dX7_drawOne_67 ?_
    refine V_getR 68 (c := 7) 1 ((F.ss h10.1).r 0 1 2 rfl) dX7_drawOne_68 fl_RX7_15 ((F.ss h10.1).m 0 (Nat.le_of_ble_eq_true rfl)) ((F.ss h10.1).k 0 7 rfl) (Nat.le_of_ble_eq_true rfl) (Nat.le_of_ble_eq_true rfl) rfl ?_
    refine V_callSN 71 [.ref _] _ (c_total M.2.1 Γ S9 (a := (s + 2)) ((F.ss h10.1).m 2 (Nat.le_of_ble_eq_true rfl)) ((F.ss h10.1).k 2 14 rfl) (by rw [((F.ss h10.1).l 2 8 rfl)]; decide)) dX7_drawOne_71 cb_X11_total ne_RX7_55 sm_yX11_total ⟨(Nat.le_of_ble_eq_true rfl), (Nat.le_of_ble_eq_true rfl)⟩ rfl rfl (Nat.le_of_ble_eq_true rfl) ⟨(Nat.le_of_ble_eq_true rfl), (Nat.le_of_ble_eq_true rfl)⟩ (RI.go (fun r19 S17 q18 => ?_))
    rw [q18.2]
    refine V_aload_1 74 dX7_drawOne_74 ?_
    refine V_getI 75 (c := 10) 9 dX7_drawOne_75 fl_RX7_59 ((Ft.ss h10.1).m 0 (Nat.le_of_ble_eq_true rfl)) ((Ft.ss h10.1).k 0 10 rfl) (Nat.le_of_ble_eq_true rfl) (Nat.le_of_ble_eq_true rfl) rfl ?_
    refine V_icmp_ge 78 92 dX7_drawOne_78 (by decide) (fun c20 => ?_) (fun c20 => ?_)
    ·
      refine V_iload_3 92 dX7_drawOne_92 ?_
      refine V_iconst 93 (2) dX7_drawOne_93 (by decide) ?_
      refine V_icmp_eq 94 102 dX7_drawOne_94 (by decide) (fun c21 => ?_) (fun c21 => ?_)
      ·
        refine V_aload_0 102 dX7_drawOne_102 ?_
        refine V_aload_1 103 dX7_drawOne_103 ?_
        refine V_iload_3 104 dX7_drawOne_104 ?_
        refine V_callV 105 (ci := 7) [.ref _, .int _] _ (s_X7_goingBack M.2.1 Γ S9 (F.ss h10.1) (Ft.ss h10.1) _) dX7_drawOne_105 cb_X7_goingBack ml_RX7_62 im_yX7_goingBack se_yX7_goingBack ((F.ss h10.1).m 0 (Nat.le_of_ble_eq_true rfl)) ((F.ss h10.1).k 0 7 rfl) (Nat.le_of_ble_eq_true rfl) ⟨(Nat.le_of_ble_eq_true rfl), (Nat.le_of_ble_eq_true rfl)⟩ rfl rfl (Nat.le_of_ble_eq_true rfl) ⟨(Nat.le_of_ble_eq_true rfl), (Nat.le_of_ble_eq_true rfl)⟩ (RI.go (fun r24 S22 q23 => ?_))
        have h25 : FZ [s + 1, s + 2, s + 3] [(s, 3), (s, 4)] S S22 := h10.tr (q23.sub (by simp) (by simp))
        have p26 : (NB s (B + 1) S22) := by exact p11.fz q23 (by simp) (by simp) (by simp)
        refine V_istore_5 108 dX7_drawOne_108 rfl (Nat.le_of_ble_eq_true rfl) ?_
        refine V_aload_0 110 dX7_drawOne_110 ?_
        refine V_getR 111 (c := 7) 1 ((F.ss h25.1).r 0 1 2 rfl) dX7_drawOne_111 fl_RX7_15 ((F.ss h25.1).m 0 (Nat.le_of_ble_eq_true rfl)) ((F.ss h25.1).k 0 7 rfl) (Nat.le_of_ble_eq_true rfl) (Nat.le_of_ble_eq_true rfl) rfl ?_
        refine V_iload_5 114 dX7_drawOne_114 ?_
        refine V_iconst 116 (-1) dX7_drawOne_116 (by decide) ?_
        refine V_callSN 117 [.ref _, .int _, .int _] _ (c_add M.2.1 Γ S22 (a := (s + 2)) ((F.ss h25.1).m 2 (Nat.le_of_ble_eq_true rfl)) ((F.ss h25.1).k 2 14 rfl) (by rw [((F.ss h25.1).l 2 8 rfl)]; decide) _ _) dX7_drawOne_117 cb_X11_add ne_RX7_45 sm_yX11_add ⟨(Nat.le_of_ble_eq_true rfl), (Nat.le_of_ble_eq_true rfl)⟩ rfl rfl (Nat.le_of_ble_eq_true rfl) ⟨(Nat.le_of_ble_eq_true rfl), (Nat.le_of_ble_eq_true rfl)⟩ (RV.go (fun S27 q28 => ?_))
        have h30 : FZ [s + 1, s + 2, s + 3] [(s, 3), (s, 4)] S S27 := h25.tr ((fr_add q28).sub (by simp) (by simp))
        have p31 : (NB s (B + 2) S27) := by exact p26.add1 q28 (Or.inr rfl) IB.neg (by omega)
        refine V_aload_0 120 dX7_drawOne_120 ?_
        refine V_getR 121 (c := 7) 0 ((F.ss h30.1).r 0 0 1 rfl) dX7_drawOne_121 fl_RX7_9 ((F.ss h30.1).m 0 (Nat.le_of_ble_eq_true rfl)) ((F.ss h30.1).k 0 7 rfl) (Nat.le_of_ble_eq_true rfl) (Nat.le_of_ble_eq_true rfl) rfl ?_
        refine V_iload_5 124 dX7_drawOne_124 ?_
        refine V_iconst 126 (1) dX7_drawOne_126 (by decide) ?_
        refine V_callSN 127 [.ref _, .int _, .int _] _ (c_add M.2.1 Γ S27 (a := (s + 1)) ((F.ss h30.1).m 1 (Nat.le_of_ble_eq_true rfl)) ((F.ss h30.1).k 1 14 rfl) (by rw [((F.ss h30.1).l 1 8 rfl)]; decide) _ _) dX7_drawOne_127 cb_X11_add ne_RX7_45 sm_yX11_add ⟨(Nat.le_of_ble_eq_true rfl), (Nat.le_of_ble_eq_true rfl)⟩ rfl rfl (Nat.le_of_ble_eq_true rfl) ⟨(Nat.le_of_ble_eq_true rfl), (Nat.le_of_ble_eq_true rfl)⟩ (RV.go (fun S32 q33 => ?_))
        have h35 : FZ [s + 1, s + 2, s + 3] [(s, 3), (s, 4)] S S32 := h30.tr ((fr_add q33).sub (by simp) (by simp))
        have p36 : (NB s (B + 3) S32) := by exact p31.add1 q33 (Or.inl rfl) IB.one (by omega)
        refine V_aload_0 130 dX7_drawOne_130 ?_
        refine V_getR 131 (c := 7) 1 ((F.ss h35.1).r 0 1 2 rfl) dX7_drawOne_131 fl_RX7_15 ((F.ss h35.1).m 0 (Nat.le_of_ble_eq_true rfl)) ((F.ss h35.1).k 0 7 rfl) (Nat.le_of_ble_eq_true rfl) (Nat.le_of_ble_eq_true rfl) rfl ?_
        refine V_iload_2 134 dX7_drawOne_134 ?_
        refine V_iconst 135 (1) dX7_drawOne_135 (by decide) ?_
        refine V_callSN 136 [.ref _, .int _, .int _] _ (c_add M.2.1 Γ S32 (a := (s + 2)) ((F.ss h35.1).m 2 (Nat.le_of_ble_eq_true rfl)) ((F.ss h35.1).k 2 14 rfl) (by rw [((F.ss h35.1).l 2 8 rfl)]; decide) _ _) dX7_drawOne_136 cb_X11_add ne_RX7_45 sm_yX11_add ⟨(Nat.le_of_ble_eq_true rfl), (Nat.le_of_ble_eq_true rfl)⟩ rfl rfl (Nat.le_of_ble_eq_true rfl) ⟨(Nat.le_of_ble_eq_true rfl), (Nat.le_of_ble_eq_true rfl)⟩ (RV.go (fun S37 q38 => ?_))
        have h40 : FZ [s + 1, s + 2, s + 3] [(s, 3), (s, 4)] S S37 := h35.tr ((fr_add q38).sub (by simp) (by simp))
        have p41 : (NB s (B + 4) S37) := by exact p36.add1 q38 (Or.inr rfl) IB.one (by omega)
        refine V_goto 139 165 dX7_drawOne_139 (by decide) ?_
        refine V_iconst 165 (2) dX7_drawOne_165 (by decide) ?_
        refine V_iret 166 .int dX7_drawOne_166 rfl rfl (Nat.le_of_ble_eq_true rfl) (Nat.le_of_ble_eq_true rfl) (RI.mk ⟨h40, p41.mono (by omega)⟩)
      ·
        refine V_iload_3 97 dX7_drawOne_97 ?_
        refine V_iconst 98 (3) dX7_drawOne_98 (by decide) ?_
        refine V_icmp_ne 99 142 dX7_drawOne_99 (by decide) (fun c42 => ?_) (fun c42 => ?_)
        ·
          refine V_aload_0 142 dX7_drawOne_142 ?_
          refine V_getR 143 (c := 7) 0 ((F.ss h10.1).r 0 0 1 rfl) dX7_drawOne_143 fl_RX7_9 ((F.ss h10.1).m 0 (Nat.le_of_ble_eq_true rfl)) ((F.ss h10.1).k 0 7 rfl) (Nat.le_of_ble_eq_true rfl) (Nat.le_of_ble_eq_true rfl) rfl ?_
          refine V_iload_2 146 dX7_drawOne_146 ?_
          refine V_iconst 147 (1) dX7_drawOne_147 (by decide) ?_
          refine V_callSN 148 [.ref _, .int _, .int _] _ (c_add M.2.1 Γ S9 (a := (s + 1)) ((F.ss h10.1).m 1 (Nat.le_of_ble_eq_true rfl)) ((F.ss h10.1).k 1 14 rfl) (by rw [((F.ss h10.1).l 1 8 rfl)]; decide) _ _) dX7_drawOne_148 cb_X11_add ne_RX7_45 sm_yX11_add ⟨(Nat.le_of_ble_eq_true rfl), (Nat.le_of_ble_eq_true rfl)⟩ rfl rfl (Nat.le_of_ble_eq_true rfl) ⟨(Nat.le_of_ble_eq_true rfl), (Nat.le_of_ble_eq_true rfl)⟩ (RV.go (fun S43 q44 => ?_))
          have h46 : FZ [s + 1, s + 2, s + 3] [(s, 3), (s, 4)] S S43 := h10.tr ((fr_add q44).sub (by simp) (by simp))
          have p47 : (NB s (B + 2) S43) := by exact p11.add1 q44 (Or.inl rfl) IB.one (by omega)
          refine V_aload_0 151 dX7_drawOne_151 ?_
          refine V_iload_3 152 dX7_drawOne_152 ?_
          refine V_iconst 153 (1) dX7_drawOne_153 (by decide) ?_
          refine V_icmp_ne 154 161 dX7_drawOne_154 (by decide) (fun c48 => ?_) (fun c48 => ?_)
          ·
            refine V_iconst 161 (0) dX7_drawOne_161 (by decide) ?_
            refine V_putI 162 (c := 7) 4 dX7_drawOne_162 fl_RX7_34 ((F.ss h46.1).m 0 (Nat.le_of_ble_eq_true rfl)) ((F.ss h46.1).k 0 7 rfl) (Nat.le_of_ble_eq_true rfl) (Nat.le_of_ble_eq_true rfl) rfl (Or.inr ⟨rfl, (Or.inl rfl)⟩) ?_
            refine V_abs (fun T9 => FZ [s + 1, s + 2, s + 3] [(s, 3), (s, 4)] S T9 ∧ (NB s (B + 2) T9)) ⟨h46.uI (by simp), by exact NB_uS p47 (by first | exact Or.inl rfl | exact Or.inr rfl)⟩ (fun S49 hh52 => ?_)
            obtain ⟨h50, p51⟩ := hh52
            refine V_iconst 165 (2) dX7_drawOne_165 (by decide) ?_
            refine V_iret 166 .int dX7_drawOne_166 rfl rfl (Nat.le_of_ble_eq_true rfl) (Nat.le_of_ble_eq_true rfl) (RI.mk ⟨h50, p51.mono (by omega)⟩)
          ·
            refine V_iconst 157 (1) dX7_drawOne_157 (by decide) ?_
            refine V_goto 158 162 dX7_drawOne_158 (by decide) ?_
            refine V_putI 162 (c := 7) 4 dX7_drawOne_162 fl_RX7_34 ((F.ss h46.1).m 0 (Nat.le_of_ble_eq_true rfl)) ((F.ss h46.1).k 0 7 rfl) (Nat.le_of_ble_eq_true rfl) (Nat.le_of_ble_eq_true rfl) rfl (Or.inr ⟨rfl, (Or.inr rfl)⟩) ?_
            refine V_abs (fun T9 => FZ [s + 1, s + 2, s + 3] [(s, 3), (s, 4)] S T9 ∧ (NB s (B + 2) T9)) ⟨h46.uI (by simp), by exact NB_uS p47 (by first | exact Or.inl rfl | exact Or.inr rfl)⟩ (fun S53 hh56 => ?_)
            obtain ⟨h54, p55⟩ := hh56
            refine V_iconst 165 (2) dX7_drawOne_165 (by decide) ?_
            refine V_iret 166 .int dX7_drawOne_166 rfl rfl (Nat.le_of_ble_eq_true rfl) (Nat.le_of_ble_eq_true rfl) (RI.mk ⟨h54, p55.mono (by omega)⟩)
        ·
          refine V_aload_0 102 dX7_drawOne_102 ?_
          refine V_aload_1 103 dX7_drawOne_103 ?_
          refine V_iload_3 104 dX7_drawOne_104 ?_
          refine V_callV 105 (ci := 7) [.ref _, .int _] _ (s_X7_goingBack M.2.1 Γ S9 (F.ss h10.1) (Ft.ss h10.1) _) dX7_drawOne_105 cb_X7_goingBack ml_RX7_62 im_yX7_goingBack se_yX7_goingBack ((F.ss h10.1).m 0 (Nat.le_of_ble_eq_true rfl)) ((F.ss h10.1).k 0 7 rfl) (Nat.le_of_ble_eq_true rfl) ⟨(Nat.le_of_ble_eq_true rfl), (Nat.le_of_ble_eq_true rfl)⟩ rfl rfl (Nat.le_of_ble_eq_true rfl) ⟨(Nat.le_of_ble_eq_true rfl), (Nat.le_of_ble_eq_true rfl)⟩ (RI.go (fun r59 S57 q58 => ?_))
          have h60 : FZ [s + 1, s + 2, s + 3] [(s, 3), (s, 4)] S S57 := h10.tr (q58.sub (by simp) (by simp))
          have p61 : (NB s (B + 1) S57) := by exact p11.fz q58 (by simp) (by simp) (by simp)
          refine V_istore_5 108 dX7_drawOne_108 rfl (Nat.le_of_ble_eq_true rfl) ?_
          refine V_aload_0 110 dX7_drawOne_110 ?_
          refine V_getR 111 (c := 7) 1 ((F.ss h60.1).r 0 1 2 rfl) dX7_drawOne_111 fl_RX7_15 ((F.ss h60.1).m 0 (Nat.le_of_ble_eq_true rfl)) ((F.ss h60.1).k 0 7 rfl) (Nat.le_of_ble_eq_true rfl) (Nat.le_of_ble_eq_true rfl) rfl ?_
          refine V_iload_5 114 dX7_drawOne_114 ?_
          refine V_iconst 116 (-1) dX7_drawOne_116 (by decide) ?_
          refine V_callSN 117 [.ref _, .int _, .int _] _ (c_add M.2.1 Γ S57 (a := (s + 2)) ((F.ss h60.1).m 2 (Nat.le_of_ble_eq_true rfl)) ((F.ss h60.1).k 2 14 rfl) (by rw [((F.ss h60.1).l 2 8 rfl)]; decide) _ _) dX7_drawOne_117 cb_X11_add ne_RX7_45 sm_yX11_add ⟨(Nat.le_of_ble_eq_true rfl), (Nat.le_of_ble_eq_true rfl)⟩ rfl rfl (Nat.le_of_ble_eq_true rfl) ⟨(Nat.le_of_ble_eq_true rfl), (Nat.le_of_ble_eq_true rfl)⟩ (RV.go (fun S62 q63 => ?_))
          have h65 : FZ [s + 1, s + 2, s + 3] [(s, 3), (s, 4)] S S62 := h60.tr ((fr_add q63).sub (by simp) (by simp))
          have p66 : (NB s (B + 2) S62) := by exact p61.add1 q63 (Or.inr rfl) IB.neg (by omega)
          refine V_aload_0 120 dX7_drawOne_120 ?_
          refine V_getR 121 (c := 7) 0 ((F.ss h65.1).r 0 0 1 rfl) dX7_drawOne_121 fl_RX7_9 ((F.ss h65.1).m 0 (Nat.le_of_ble_eq_true rfl)) ((F.ss h65.1).k 0 7 rfl) (Nat.le_of_ble_eq_true rfl) (Nat.le_of_ble_eq_true rfl) rfl ?_
          refine V_iload_5 124 dX7_drawOne_124 ?_
          refine V_iconst 126 (1) dX7_drawOne_126 (by decide) ?_
          refine V_callSN 127 [.ref _, .int _, .int _] _ (c_add M.2.1 Γ S62 (a := (s + 1)) ((F.ss h65.1).m 1 (Nat.le_of_ble_eq_true rfl)) ((F.ss h65.1).k 1 14 rfl) (by rw [((F.ss h65.1).l 1 8 rfl)]; decide) _ _) dX7_drawOne_127 cb_X11_add ne_RX7_45 sm_yX11_add ⟨(Nat.le_of_ble_eq_true rfl), (Nat.le_of_ble_eq_true rfl)⟩ rfl rfl (Nat.le_of_ble_eq_true rfl) ⟨(Nat.le_of_ble_eq_true rfl), (Nat.le_of_ble_eq_true rfl)⟩ (RV.go (fun S67 q68 => ?_))
          have h70 : FZ [s + 1, s + 2, s + 3] [(s, 3), (s, 4)] S S67 := h65.tr ((fr_add q68).sub (by simp) (by simp))
          have p71 : (NB s (B + 3) S67) := by exact p66.add1 q68 (Or.inl rfl) IB.one (by omega)
          refine V_aload_0 130 dX7_drawOne_130 ?_
          refine V_getR 131 (c := 7) 1 ((F.ss h70.1).r 0 1 2 rfl) dX7_drawOne_131 fl_RX7_15 ((F.ss h70.1).m 0 (Nat.le_of_ble_eq_true rfl)) ((F.ss h70.1).k 0 7 rfl) (Nat.le_of_ble_eq_true rfl) (Nat.le_of_ble_eq_true rfl) rfl ?_
          refine V_iload_2 134 dX7_drawOne_134 ?_
          refine V_iconst 135 (1) dX7_drawOne_135 (by decide) ?_
          refine V_callSN 136 [.ref _, .int _, .int _] _ (c_add M.2.1 Γ S67 (a := (s + 2)) ((F.ss h70.1).m 2 (Nat.le_of_ble_eq_true rfl)) ((F.ss h70.1).k 2 14 rfl) (by rw [((F.ss h70.1).l 2 8 rfl)]; decide) _ _) dX7_drawOne_136 cb_X11_add ne_RX7_45 sm_yX11_add ⟨(Nat.le_of_ble_eq_true rfl), (Nat.le_of_ble_eq_true rfl)⟩ rfl rfl (Nat.le_of_ble_eq_true rfl) ⟨(Nat.le_of_ble_eq_true rfl), (Nat.le_of_ble_eq_true rfl)⟩ (RV.go (fun S72 q73 => ?_))
          have h75 : FZ [s + 1, s + 2, s + 3] [(s, 3), (s, 4)] S S72 := h70.tr ((fr_add q73).sub (by simp) (by simp))
          have p76 : (NB s (B + 4) S72) := by exact p71.add1 q73 (Or.inr rfl) IB.one (by omega)
          refine V_goto 139 165 dX7_drawOne_139 (by decide) ?_
          refine V_iconst 165 (2) dX7_drawOne_165 (by decide) ?_
          refine V_iret 166 .int dX7_drawOne_166 rfl rfl (Nat.le_of_ble_eq_true rfl) (Nat.le_of_ble_eq_true rfl) (RI.mk ⟨h75, p76.mono (by omega)⟩)
    ·
      refine V_aload_0 81 dX7_drawOne_81 ?_
      refine V_getR 82 (c := 7) 1 ((F.ss h10.1).r 0 1 2 rfl) dX7_drawOne_82 fl_RX7_15 ((F.ss h10.1).m 0 (Nat.le_of_ble_eq_true rfl)) ((F.ss h10.1).k 0 7 rfl) (Nat.le_of_ble_eq_true rfl) (Nat.le_of_ble_eq_true rfl) rfl ?_
      refine V_iload_2 85 dX7_drawOne_85 ?_
      refine V_iconst 86 (1) dX7_drawOne_86 (by decide) ?_
      refine V_callSN 87 [.ref _, .int _, .int _] _ (c_add M.2.1 Γ S9 (a := (s + 2)) ((F.ss h10.1).m 2 (Nat.le_of_ble_eq_true rfl)) ((F.ss h10.1).k 2 14 rfl) (by rw [((F.ss h10.1).l 2 8 rfl)]; decide) _ _) dX7_drawOne_87 cb_X11_add ne_RX7_45 sm_yX11_add ⟨(Nat.le_of_ble_eq_true rfl), (Nat.le_of_ble_eq_true rfl)⟩ rfl rfl (Nat.le_of_ble_eq_true rfl) ⟨(Nat.le_of_ble_eq_true rfl), (Nat.le_of_ble_eq_true rfl)⟩ (RV.go (fun S77 q78 => ?_))
      have h80 : FZ [s + 1, s + 2, s + 3] [(s, 3), (s, 4)] S S77 := h10.tr ((fr_add q78).sub (by simp) (by simp))
      have p81 : (NB s (B + 2) S77) := by exact p11.add1 q78 (Or.inr rfl) IB.one (by omega)
      refine V_iconst 90 (0) dX7_drawOne_90 (by decide) ?_
      refine V_iret 91 .int dX7_drawOne_91 rfl rfl (Nat.le_of_ble_eq_true rfl) (Nat.le_of_ble_eq_true rfl) (RI.mk ⟨h80, p81.mono (by omega)⟩)
  ·
    refine V_aload_0 41 dX7_drawOne_41 ?_
    refine V_getR 42 (c := 7) 1 ((F.ss h10.1).r 0 1 2 rfl) dX7_drawOne_42 fl_RX7_15 ((F.ss h10.1).m 0 (Nat.le_of_ble_eq_true rfl)) ((F.ss h10.1).k 0 7 rfl) (Nat.le_of_ble_eq_true rfl) (Nat.le_of_ble_eq_true rfl) rfl ?_
    refine V_iload_4 45 dX7_drawOne_45 ?_
    refine V_iconst 47 (-1) dX7_drawOne_47 (by decide) ?_
    refine V_callSN 48 [.ref _, .int _, .int _] _ (c_add M.2.1 Γ S9 (a := (s + 2)) ((F.ss h10.1).m 2 (Nat.le_of_ble_eq_true rfl)) ((F.ss h10.1).k 2 14 rfl) (by rw [((F.ss h10.1).l 2 8 rfl)]; decide) _ _) dX7_drawOne_48 cb_X11_add ne_RX7_45 sm_yX11_add ⟨(Nat.le_of_ble_eq_true rfl), (Nat.le_of_ble_eq_true rfl)⟩ rfl rfl (Nat.le_of_ble_eq_true rfl) ⟨(Nat.le_of_ble_eq_true rfl), (Nat.le_of_ble_eq_true rfl)⟩ (RV.go (fun S82 q83 => ?_))
    have h85 : FZ [s + 1, s + 2, s + 3] [(s, 3), (s, 4)] S S82 := h10.tr ((fr_add q83).sub (by simp) (by simp))
    have p86 : (NB s (B + 2) S82) := by exact p11.add1 q83 (Or.inr rfl) IB.neg (by omega)
    refine V_aload_0 51 dX7_drawOne_51 ?_
    refine V_getR 52 (c := 7) 2 ((F.ss h85.1).r 0 2 3 rfl) dX7_drawOne_52 fl_RX7_18 ((F.ss h85.1).m 0 (Nat.le_of_ble_eq_true rfl)) ((F.ss h85.1).k 0 7 rfl) (Nat.le_of_ble_eq_true rfl) (Nat.le_of_ble_eq_true rfl) rfl ?_
    refine V_iload_2 55 dX7_drawOne_55 ?_
    refine V_iload_4 56 dX7_drawOne_56 ?_
    refine V_mmin 58 dX7_drawOne_58 ml_RX7_49 (Nat.le_of_ble_eq_true rfl) (Nat.le_of_ble_eq_true rfl) (Nat.le_of_ble_eq_true rfl) (Nat.le_of_ble_eq_true rfl) ?_
    refine V_iconst 61 (1) dX7_drawOne_61 (by decide) ?_
    refine V_callSN 62 [.ref _, .int _, .int _] _ (c_add M.2.1 Γ S82 (a := (s + 3)) ((F.ss h85.1).m 3 (Nat.le_of_ble_eq_true rfl)) ((F.ss h85.1).k 3 14 rfl) (by rw [((F.ss h85.1).l 3 8 rfl)]; decide) _ _) dX7_drawOne_62 cb_X11_add ne_RX7_45 sm_yX11_add ⟨(Nat.le_of_ble_eq_true rfl), (Nat.le_of_ble_eq_true rfl)⟩ rfl rfl (Nat.le_of_ble_eq_true rfl) ⟨(Nat.le_of_ble_eq_true rfl), (Nat.le_of_ble_eq_true rfl)⟩ (RV.go (fun S87 q88 => ?_))
    have h90 : FZ [s + 1, s + 2, s + 3] [(s, 3), (s, 4)] S S87 := h85.tr ((fr_add q88).sub (by simp) (by simp))
    have p91 : (NB s (B + 2) S87) := by exact p86.fz (fr_add q88) (by simp) (by simp) (by simp)
    refine V_iconst 65 (1) dX7_drawOne_65 (by decide) ?_
    refine V_iret 66 .int dX7_drawOne_66 rfl rfl (Nat.le_of_ble_eq_true rfl) (Nat.le_of_ble_eq_true rfl) (RI.mk ⟨h90, p91.mono (by omega)⟩)
set_option maxRecDepth 100000 in
set_option maxHeartbeats 8000000 in
theorem s_takeAwayN (l : Launch) (Γ : GC) (S : PS) {s : Nat} (F : isL lyState Γ.2.2.2.2.1 S s) (x : Int32) (B : Nat) (h : NB s B S) (hB : B + 9 < 2147483648) : CT l Γ yX7_takeAway cX7_takeAway 2 none (1) (0) (0) [.ref s, .int x] S (RV (fun S' => FZ [s + 1, s + 2, s + 3] [(s, 3), (s, 4)] S S' ∧ NB s (B + 4) S')) := by
  refine CT.of RX7 "takeAway" [some (.ref s), some (.int x)] (by decide +kernel) rfl rfl (Nat.le_of_ble_eq_true rfl) rfl (fun M hM => ?_)
  subst hM
  refine V_aload_0 0 dX7_takeAway_0 ?_
  refine V_getR 1 (c := 7) 1 (F.r 0 1 2 rfl) dX7_takeAway_1 fl_RX7_15 (F.m 0 (Nat.le_of_ble_eq_true rfl)) (F.k 0 7 rfl) (Nat.le_of_ble_eq_true rfl) (Nat.le_of_ble_eq_true rfl) rfl ?_
  refine V_iload_1 4 dX7_takeAway_4 ?_
  refine V_iconst 5 (-1) dX7_takeAway_5 (by decide) ?_
  refine V_callSN 6 [.ref _, .int _, .int _] _ (c_add M.2.1 Γ S (a := (s + 2)) (F.m 2 (Nat.le_of_ble_eq_true rfl)) (F.k 2 14 rfl) (by rw [(F.l 2 8 rfl)]; decide) _ _) dX7_takeAway_6 cb_X11_add ne_RX7_45 sm_yX11_add ⟨(Nat.le_of_ble_eq_true rfl), (Nat.le_of_ble_eq_true rfl)⟩ rfl rfl (Nat.le_of_ble_eq_true rfl) ⟨(Nat.le_of_ble_eq_true rfl), (Nat.le_of_ble_eq_true rfl)⟩ (RV.go (fun S1 q2 => ?_))
  have h4 : FZ [s + 1, s + 2, s + 3] [(s, 3), (s, 4)] S S1 := (FZ.rf (X := [s + 1, s + 2, s + 3]) (Y := [(s, 3), (s, 4)]) (S := S)).tr ((fr_add q2).sub (by simp) (by simp))
  have p5 : (NB s (B + 1) S1) := by exact h.add1 q2 (Or.inr rfl) IB.neg (by omega)
  refine V_aload_0 9 dX7_takeAway_9 ?_
  refine V_getR 10 (c := 7) 0 ((F.ss h4.1).r 0 0 1 rfl) dX7_takeAway_10 fl_RX7_9 ((F.ss h4.1).m 0 (Nat.le_of_ble_eq_true rfl)) ((F.ss h4.1).k 0 7 rfl) (Nat.le_of_ble_eq_true rfl) (Nat.le_of_ble_eq_true rfl) rfl ?_
  refine V_iload_1 13 dX7_takeAway_13 ?_
  refine V_iconst 14 (1) dX7_takeAway_14 (by decide) ?_
  refine V_callSN 15 [.ref _, .int _, .int _] _ (c_add M.2.1 Γ S1 (a := (s + 1)) ((F.ss h4.1).m 1 (Nat.le_of_ble_eq_true rfl)) ((F.ss h4.1).k 1 14 rfl) (by rw [((F.ss h4.1).l 1 8 rfl)]; decide) _ _) dX7_takeAway_15 cb_X11_add ne_RX7_45 sm_yX11_add ⟨(Nat.le_of_ble_eq_true rfl), (Nat.le_of_ble_eq_true rfl)⟩ rfl rfl (Nat.le_of_ble_eq_true rfl) ⟨(Nat.le_of_ble_eq_true rfl), (Nat.le_of_ble_eq_true rfl)⟩ (RV.go (fun S6 q7 => ?_))
  have h9 : FZ [s + 1, s + 2, s + 3] [(s, 3), (s, 4)] S S6 := h4.tr ((fr_add q7).sub (by simp) (by simp))
  have p10 : (NB s (B + 2) S6) := by exact p5.add1 q7 (Or.inl rfl) IB.one (by omega)
  refine V_aload_0 18 dX7_takeAway_18 ?_
  refine V_iconst 19 (0) dX7_takeAway_19 (by decide) ?_
  refine V_putI 20 (c := 7) 4 dX7_takeAway_20 fl_RX7_34 ((F.ss h9.1).m 0 (Nat.le_of_ble_eq_true rfl)) ((F.ss h9.1).k 0 7 rfl) (Nat.le_of_ble_eq_true rfl) (Nat.le_of_ble_eq_true rfl) rfl (Or.inr ⟨rfl, (Or.inl rfl)⟩) ?_
  refine V_abs (fun T9 => FZ [s + 1, s + 2, s + 3] [(s, 3), (s, 4)] S T9 ∧ (NB s (B + 2) T9)) ⟨h9.uI (by simp), by exact NB_uS p10 (Or.inl rfl)⟩ (fun S11 hh14 => ?_)
  obtain ⟨h12, p13⟩ := hh14
  refine V_vret 23 dX7_takeAway_23 rfl (Nat.le_of_ble_eq_true rfl) (Nat.le_of_ble_eq_true rfl) (RV.mk ⟨h12, p13.mono (by omega)⟩)
set_option maxRecDepth 100000 in
set_option maxHeartbeats 8000000 in
theorem s_stbeginN (l : Launch) (Γ : GC) (S : PS) {s t : Nat} (F : isL lyState Γ.2.2.2.2.1 S s) (Ft : isL lyText Γ.2.2.2.2.1 S t) (B : Nat) (h : NB s B S) (hB : 9 ≤ B) (hn : NUM t S) : CT l Γ yX7_begin cX7_begin 3 none (1) (0) (0) [.ref s, .ref t] S (RV (fun S' => FZ [s + 1, s + 2, s + 3] [(s, 3), (s, 4)] S S' ∧ NB s B S')) := by
  refine CT.of RX7 "begin" [some (.ref s), some (.ref t), none] (by decide +kernel) rfl rfl (Nat.le_of_ble_eq_true rfl) rfl (fun M hM => ?_)
  subst hM
  refine V_aload_1 0 dX7_begin_0 ?_
  refine V_getR 1 (c := 10) 2 (Ft.r 0 2 1 rfl) dX7_begin_1 fl_RX7_21 (Ft.m 0 (Nat.le_of_ble_eq_true rfl)) (Ft.k 0 10 rfl) (Nat.le_of_ble_eq_true rfl) (Nat.le_of_ble_eq_true rfl) rfl ?_
  refine V_aload_0 4 dX7_begin_4 ?_
  refine V_getR 5 (c := 7) 0 (F.r 0 0 1 rfl) dX7_begin_5 fl_RX7_9 (F.m 0 (Nat.le_of_ble_eq_true rfl)) (F.k 0 7 rfl) (Nat.le_of_ble_eq_true rfl) (Nat.le_of_ble_eq_true rfl) rfl ?_
  refine V_callSN 8 [.ref _, .ref _] _ (c_copyRow M.2.1 Γ S (a := (t + 1)) (b := (s + 1)) (Ft.m 1 (Nat.le_of_ble_eq_true rfl)) (Ft.k 1 14 rfl) (by rw [(Ft.l 1 8 rfl)]; decide) (F.m 1 (Nat.le_of_ble_eq_true rfl)) (F.k 1 14 rfl) (((F.l 1 8 rfl)).trans ((Ft.l 1 8 rfl)).symm)) dX7_begin_8 cb_X11_copyRow ne_RX7_26 sm_yX11_copyRow ⟨(Nat.le_of_ble_eq_true rfl), (Nat.le_of_ble_eq_true rfl)⟩ rfl rfl (Nat.le_of_ble_eq_true rfl) ⟨(Nat.le_of_ble_eq_true rfl), (Nat.le_of_ble_eq_true rfl)⟩ (RV.go (fun S1 q2 => ?_))
  have h4 : FZ [s + 1, s + 2, s + 3] [(s, 3), (s, 4)] S S1 := (FZ.rf (X := [s + 1, s + 2, s + 3]) (Y := [(s, 3), (s, 4)]) (S := S)).tr ((fr_cpy q2).sub (by simp) (by simp))
  have p5 : (NB s B S1) := by exact h.cpy q2 (cpN Ft hn hB)
  refine V_iconst 11 (0) dX7_begin_11 (by decide) ?_
  refine V_istore_2 12 dX7_begin_12 rfl (Nat.le_of_ble_eq_true rfl) ?_
  refine V_lvw (by repeat (first | exact trivial | refine ⟨rfl, ?_⟩)) (V_while (α := Nat × PS) (fun z6 => 8 - z6.1) (fun z6 => z6.1 ≤ 8 ∧ FZ [s + 1, s + 2, s + 3] [(s, 3), (s, 4)] S z6.2 ∧ (NB s B z6.2)) (fun z6 => z6.2) (fun z6 => [some (.ref s), some (.ref t), some (.int (nI z6.1))]) (0, _) ⟨Nat.zero_le _, h4, p5⟩ (fun z6 hx12 ih11 => ?b13))
  obtain ⟨i7, S8⟩ := z6
  obtain ⟨hi9, h10, p15⟩ := hx12
  dsimp only at hi9 h10 p15 ih11 ⊢
  refine V_iload_2 13 dX7_begin_13 ?_
  refine V_bipush 14 (8) dX7_begin_14 (by decide) ?_
  refine V_icmp_ge 16 39 dX7_begin_16 (by decide) (fun c16 => ?_) (fun c16 => ?_)
  ·
    refine V_aload_0 39 dX7_begin_39 ?_
    refine V_iconst 40 (0) dX7_begin_40 (by decide) ?_
    refine V_putI 41 (c := 7) 3 dX7_begin_41 fl_RX7_30 ((F.ss h10.1).m 0 (Nat.le_of_ble_eq_true rfl)) ((F.ss h10.1).k 0 7 rfl) (Nat.le_of_ble_eq_true rfl) (Nat.le_of_ble_eq_true rfl) rfl (Or.inl rfl) ?_
    refine V_abs (fun T9 => FZ [s + 1, s + 2, s + 3] [(s, 3), (s, 4)] S T9 ∧ (NB s B T9)) ⟨h10.uI (by simp), by exact NB_uI p15 (by simp)⟩ (fun S17 hh20 => ?_)
    obtain ⟨h18, p19⟩ := hh20
    refine V_aload_0 44 dX7_begin_44 ?_
    refine V_iconst 45 (0) dX7_begin_45 (by decide) ?_
    refine V_putI 46 (c := 7) 4 dX7_begin_46 fl_RX7_34 ((F.ss h18.1).m 0 (Nat.le_of_ble_eq_true rfl)) ((F.ss h18.1).k 0 7 rfl) (Nat.le_of_ble_eq_true rfl) (Nat.le_of_ble_eq_true rfl) rfl (Or.inr ⟨rfl, (Or.inl rfl)⟩) ?_
    refine V_abs (fun T9 => FZ [s + 1, s + 2, s + 3] [(s, 3), (s, 4)] S T9 ∧ (NB s B T9)) ⟨h18.uI (by simp), by exact NB_uS p19 (Or.inl rfl)⟩ (fun S21 hh24 => ?_)
    obtain ⟨h22, p23⟩ := hh24
    refine V_vret 49 dX7_begin_49 rfl (Nat.le_of_ble_eq_true rfl) (Nat.le_of_ble_eq_true rfl) (RV.mk ⟨h22, p23⟩)
  ·
    have lt25 := nI_lt8 (by decide) hi9 c16
    refine V_aload_0 19 dX7_begin_19 ?_
    refine V_getR 20 (c := 7) 1 ((F.ss h10.1).r 0 1 2 rfl) dX7_begin_20 fl_RX7_15 ((F.ss h10.1).m 0 (Nat.le_of_ble_eq_true rfl)) ((F.ss h10.1).k 0 7 rfl) (Nat.le_of_ble_eq_true rfl) (Nat.le_of_ble_eq_true rfl) rfl ?_
    refine V_iload_2 23 dX7_begin_23 ?_
    refine V_iconst 24 (0) dX7_begin_24 (by decide) ?_
    refine V_iastore2 25 dX7_begin_25 ((F.ss h10.1).m 2 (Nat.le_of_ble_eq_true rfl)) ((F.ss h10.1).k 2 14 rfl) ((F.ss h10.1).l 2 8 rfl) ?_ ?_
    · exact vp_in_nI (by omega) (by decide)
    refine V_abs (fun T9 => FZ [s + 1, s + 2, s + 3] [(s, 3), (s, 4)] S T9 ∧ (NB s B T9)) ⟨h10.uA (by simp), by exact NB_uA p15 IB.zero⟩ (fun S26 hh29 => ?_)
    obtain ⟨h27, p28⟩ := hh29
    refine V_aload_0 26 dX7_begin_26 ?_
    refine V_getR 27 (c := 7) 2 ((F.ss h27.1).r 0 2 3 rfl) dX7_begin_27 fl_RX7_18 ((F.ss h27.1).m 0 (Nat.le_of_ble_eq_true rfl)) ((F.ss h27.1).k 0 7 rfl) (Nat.le_of_ble_eq_true rfl) (Nat.le_of_ble_eq_true rfl) rfl ?_
    refine V_iload_2 30 dX7_begin_30 ?_
    refine V_iconst 31 (0) dX7_begin_31 (by decide) ?_
    refine V_iastore2 32 dX7_begin_32 ((F.ss h27.1).m 3 (Nat.le_of_ble_eq_true rfl)) ((F.ss h27.1).k 3 14 rfl) ((F.ss h27.1).l 3 8 rfl) ?_ ?_
    · exact vp_in_nI (by omega) (by decide)
    refine V_abs (fun T9 => FZ [s + 1, s + 2, s + 3] [(s, 3), (s, 4)] S T9 ∧ (NB s B T9)) ⟨h27.uA (by simp), by exact NB_uA p28 IB.zero⟩ (fun S30 hh33 => ?_)
    obtain ⟨h31, p32⟩ := hh33
    refine V_iinc_2 33 (1) dX7_begin_33 (by decide) rfl (Nat.le_of_ble_eq_true rfl) ?_
    refine V_goto 36 13 dX7_begin_36 (by decide) ?_
    rw [← nI_succ]
    refine V_lvw (by repeat (first | exact trivial | refine ⟨rfl, ?_⟩)) (ih11 (i7 + 1, _) ⟨by dsimp only; omega, h31, p32⟩ (by dsimp only; omega))
set_option maxRecDepth 100000 in
set_option maxHeartbeats 8000000 in
theorem s_stbecomeN (l : Launch) (Γ : GC) (S : PS) {s t : Nat} (F : isL lyState Γ.2.2.2.2.1 S s) (Ft : isL lyState Γ.2.2.2.2.1 S t) (hne : s + 4 ≤ t ∨ t + 4 ≤ s) (B : Nat) (h : NB s B S) (h2 : NB t B S) : CT l Γ yX7_become cX7_become 2 none (1) (0) (0) [.ref s, .ref t] S (RV (fun S' => FZ [s + 1, s + 2, s + 3] [(s, 3), (s, 4)] S S' ∧ NB s B S')) := by
  refine CT.of RX7 "become" [some (.ref s), some (.ref t)] (by decide +kernel) rfl rfl (Nat.le_of_ble_eq_true rfl) rfl (fun M hM => ?_)
  subst hM
  refine V_aload_1 0 dX7_become_0 ?_
  refine V_getR 1 (c := 7) 0 (Ft.r 0 0 1 rfl) dX7_become_1 fl_RX7_9 (Ft.m 0 (Nat.le_of_ble_eq_true rfl)) (Ft.k 0 7 rfl) (Nat.le_of_ble_eq_true rfl) (Nat.le_of_ble_eq_true rfl) rfl ?_
  refine V_aload_0 4 dX7_become_4 ?_
  refine V_getR 5 (c := 7) 0 (F.r 0 0 1 rfl) dX7_become_5 fl_RX7_9 (F.m 0 (Nat.le_of_ble_eq_true rfl)) (F.k 0 7 rfl) (Nat.le_of_ble_eq_true rfl) (Nat.le_of_ble_eq_true rfl) rfl ?_
  refine V_callSN 8 [.ref _, .ref _] _ (c_copyRow M.2.1 Γ S (a := (t + 1)) (b := (s + 1)) (Ft.m 1 (Nat.le_of_ble_eq_true rfl)) (Ft.k 1 14 rfl) (by rw [(Ft.l 1 8 rfl)]; decide) (F.m 1 (Nat.le_of_ble_eq_true rfl)) (F.k 1 14 rfl) (((F.l 1 8 rfl)).trans ((Ft.l 1 8 rfl)).symm)) dX7_become_8 cb_X11_copyRow ne_RX7_26 sm_yX11_copyRow ⟨(Nat.le_of_ble_eq_true rfl), (Nat.le_of_ble_eq_true rfl)⟩ rfl rfl (Nat.le_of_ble_eq_true rfl) ⟨(Nat.le_of_ble_eq_true rfl), (Nat.le_of_ble_eq_true rfl)⟩ (RV.go (fun S1 q2 => ?_))
  have h4 : FZ [s + 1, s + 2, s + 3] [(s, 3), (s, 4)] S S1 := (FZ.rf (X := [s + 1, s + 2, s + 3]) (Y := [(s, 3), (s, 4)]) (S := S)).tr ((fr_cpy q2).sub (by simp) (by simp))
  have p5 : ((fun T => NB s B T ∧ NB t B T) S1) := by exact ⟨(And.intro h h2).1.cpy q2 (cpB1 (And.intro h h2).2), (And.intro h h2).2.cpy q2 (cpB1 (And.intro h h2).2)⟩
  refine V_aload_1 11 dX7_become_11 ?_
  refine V_getR 12 (c := 7) 1 ((Ft.ss h4.1).r 0 1 2 rfl) dX7_become_12 fl_RX7_15 ((Ft.ss h4.1).m 0 (Nat.le_of_ble_eq_true rfl)) ((Ft.ss h4.1).k 0 7 rfl) (Nat.le_of_ble_eq_true rfl) (Nat.le_of_ble_eq_true rfl) rfl ?_
  refine V_aload_0 15 dX7_become_15 ?_
  refine V_getR 16 (c := 7) 1 ((F.ss h4.1).r 0 1 2 rfl) dX7_become_16 fl_RX7_15 ((F.ss h4.1).m 0 (Nat.le_of_ble_eq_true rfl)) ((F.ss h4.1).k 0 7 rfl) (Nat.le_of_ble_eq_true rfl) (Nat.le_of_ble_eq_true rfl) rfl ?_
  refine V_callSN 19 [.ref _, .ref _] _ (c_copyRow M.2.1 Γ S1 (a := (t + 2)) (b := (s + 2)) ((Ft.ss h4.1).m 2 (Nat.le_of_ble_eq_true rfl)) ((Ft.ss h4.1).k 2 14 rfl) (by rw [((Ft.ss h4.1).l 2 8 rfl)]; decide) ((F.ss h4.1).m 2 (Nat.le_of_ble_eq_true rfl)) ((F.ss h4.1).k 2 14 rfl) ((((F.ss h4.1).l 2 8 rfl)).trans (((Ft.ss h4.1).l 2 8 rfl)).symm)) dX7_become_19 cb_X11_copyRow ne_RX7_26 sm_yX11_copyRow ⟨(Nat.le_of_ble_eq_true rfl), (Nat.le_of_ble_eq_true rfl)⟩ rfl rfl (Nat.le_of_ble_eq_true rfl) ⟨(Nat.le_of_ble_eq_true rfl), (Nat.le_of_ble_eq_true rfl)⟩ (RV.go (fun S6 q7 => ?_))
  have h9 : FZ [s + 1, s + 2, s + 3] [(s, 3), (s, 4)] S S6 := h4.tr ((fr_cpy q7).sub (by simp) (by simp))
  have p10 : ((fun T => NB s B T ∧ NB t B T) S6) := by exact ⟨p5.1.cpy q7 (cpB2 p5.2), p5.2.cpy q7 (cpB2 p5.2)⟩
  refine V_aload_1 22 dX7_become_22 ?_
  refine V_getR 23 (c := 7) 2 ((Ft.ss h9.1).r 0 2 3 rfl) dX7_become_23 fl_RX7_18 ((Ft.ss h9.1).m 0 (Nat.le_of_ble_eq_true rfl)) ((Ft.ss h9.1).k 0 7 rfl) (Nat.le_of_ble_eq_true rfl) (Nat.le_of_ble_eq_true rfl) rfl ?_
  refine V_aload_0 26 dX7_become_26 ?_
  refine V_getR 27 (c := 7) 2 ((F.ss h9.1).r 0 2 3 rfl) dX7_become_27 fl_RX7_18 ((F.ss h9.1).m 0 (Nat.le_of_ble_eq_true rfl)) ((F.ss h9.1).k 0 7 rfl) (Nat.le_of_ble_eq_true rfl) (Nat.le_of_ble_eq_true rfl) rfl ?_
  refine V_callSN 30 [.ref _, .ref _] _ (c_copyRow M.2.1 Γ S6 (a := (t + 3)) (b := (s + 3)) ((Ft.ss h9.1).m 3 (Nat.le_of_ble_eq_true rfl)) ((Ft.ss h9.1).k 3 14 rfl) (by rw [((Ft.ss h9.1).l 3 8 rfl)]; decide) ((F.ss h9.1).m 3 (Nat.le_of_ble_eq_true rfl)) ((F.ss h9.1).k 3 14 rfl) ((((F.ss h9.1).l 3 8 rfl)).trans (((Ft.ss h9.1).l 3 8 rfl)).symm)) dX7_become_30 cb_X11_copyRow ne_RX7_26 sm_yX11_copyRow ⟨(Nat.le_of_ble_eq_true rfl), (Nat.le_of_ble_eq_true rfl)⟩ rfl rfl (Nat.le_of_ble_eq_true rfl) ⟨(Nat.le_of_ble_eq_true rfl), (Nat.le_of_ble_eq_true rfl)⟩ (RV.go (fun S11 q12 => ?_))
  have h14 : FZ [s + 1, s + 2, s + 3] [(s, 3), (s, 4)] S S11 := h9.tr ((fr_cpy q12).sub (by simp) (by simp))
  have p15 : ((fun T => NB s B T ∧ NB t B T) S11) := by exact ⟨p10.1.fz (fr_cpy q12) (by simp) (by simp) (by simp), p10.2.fz (fr_cpy q12) (by simp; omega) (by simp; omega) (by simp)⟩
  refine V_aload_0 33 dX7_become_33 ?_
  refine V_aload_1 34 dX7_become_34 ?_
  refine V_getI 35 (c := 7) 3 dX7_become_35 fl_RX7_30 ((Ft.ss h14.1).m 0 (Nat.le_of_ble_eq_true rfl)) ((Ft.ss h14.1).k 0 7 rfl) (Nat.le_of_ble_eq_true rfl) (Nat.le_of_ble_eq_true rfl) rfl ?_
  refine V_putI 38 (c := 7) 3 dX7_become_38 fl_RX7_30 ((F.ss h14.1).m 0 (Nat.le_of_ble_eq_true rfl)) ((F.ss h14.1).k 0 7 rfl) (Nat.le_of_ble_eq_true rfl) (Nat.le_of_ble_eq_true rfl) rfl (Or.inl rfl) ?_
  refine V_abs (fun T9 => FZ [s + 1, s + 2, s + 3] [(s, 3), (s, 4)] S T9 ∧ ((fun T => NB s B T ∧ NB t B T) T9)) ⟨h14.uI (by simp), by exact ⟨NB_uI p15.1 (by simp), NB_uI p15.2 (by simp)⟩⟩ (fun S16 hh19 => ?_)
  obtain ⟨h17, p18⟩ := hh19
  refine V_aload_0 41 dX7_become_41 ?_
  refine V_aload_1 42 dX7_become_42 ?_
  refine V_getI 43 (c := 7) 4 dX7_become_43 fl_RX7_34 ((Ft.ss h17.1).m 0 (Nat.le_of_ble_eq_true rfl)) ((Ft.ss h17.1).k 0 7 rfl) (Nat.le_of_ble_eq_true rfl) (Nat.le_of_ble_eq_true rfl) rfl ?_
  refine V_putI 46 (c := 7) 4 dX7_become_46 fl_RX7_34 ((F.ss h17.1).m 0 (Nat.le_of_ble_eq_true rfl)) ((F.ss h17.1).k 0 7 rfl) (Nat.le_of_ble_eq_true rfl) (Nat.le_of_ble_eq_true rfl) rfl (Or.inr ⟨rfl, p18.2.1⟩) ?_
  refine V_abs (fun T9 => FZ [s + 1, s + 2, s + 3] [(s, 3), (s, 4)] S T9 ∧ ((fun T => NB s B T ∧ NB t B T) T9)) ⟨h17.uI (by simp), by exact ⟨NB_uS p18.1 p18.2.1, NB_uI p18.2 (by simp; omega)⟩⟩ (fun S20 hh23 => ?_)
  obtain ⟨h21, p22⟩ := hh23
  refine V_vret 49 dX7_become_49 rfl (Nat.le_of_ble_eq_true rfl) (Nat.le_of_ble_eq_true rfl) (RV.mk ⟨h21, p22.1⟩)

