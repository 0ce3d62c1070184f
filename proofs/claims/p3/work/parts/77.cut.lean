/-! The reference's cut: the tape's tokens -/
set_option maxRecDepth 100000 in
set_option maxHeartbeats 8000000 in
theorem s_misLetter2 (l : Launch) (Γ : GC) (S : PS) (x : Int32) : CT l Γ yX12_isLetter cX12_isLetter 1 (some .boolean) (0) (0) (0) [.int x] S (RI (fun r S' => ((r = 0 ∧ ¬ (97 ≤ x ∧ x ≤ 122)) ∨ (r = 1 ∧ 97 ≤ x ∧ x ≤ 122)) ∧ S' = S)) := by
  refine CT.of RX12 "isLetter" [some (.int x)] (by decide +kernel) rfl rfl (Nat.le_of_ble_eq_true rfl) rfl (fun M hM => ?_)
  subst hM
  refine V_iload_0 0 dX12_isLetter_0 ?_
  refine V_bipush 1 (97) dX12_isLetter_1 (by decide) ?_
  refine V_icmp_lt 3 16 dX12_isLetter_3 (by decide) (fun c1 => ?_) (fun c1 => ?_)
  ·
    refine V_iconst 16 (0) dX12_isLetter_16 (by decide) ?_
    refine V_iret 17 .boolean dX12_isLetter_17 rfl (nrwB (Or.inl rfl)) (Nat.le_of_ble_eq_true rfl) (Nat.le_of_ble_eq_true rfl) (RI.mk ⟨by first | exact Or.inr ⟨rfl, Int32.not_lt.mp (by assumption), Int32.not_lt.mp (by assumption)⟩ | exact Or.inl ⟨rfl, fun q => absurd (by assumption) (Int32.not_lt.mpr q.1)⟩ | exact Or.inl ⟨rfl, fun q => absurd (by assumption) (Int32.not_lt.mpr q.2)⟩, rfl⟩)
  ·
    refine V_iload_0 6 dX12_isLetter_6 ?_
    refine V_bipush 7 (122) dX12_isLetter_7 (by decide) ?_
    refine V_icmp_gt 9 16 dX12_isLetter_9 (by decide) (fun c2 => ?_) (fun c2 => ?_)
    ·
      refine V_iconst 16 (0) dX12_isLetter_16 (by decide) ?_
      refine V_iret 17 .boolean dX12_isLetter_17 rfl (nrwB (Or.inl rfl)) (Nat.le_of_ble_eq_true rfl) (Nat.le_of_ble_eq_true rfl) (RI.mk ⟨by first | exact Or.inr ⟨rfl, Int32.not_lt.mp (by assumption), Int32.not_lt.mp (by assumption)⟩ | exact Or.inl ⟨rfl, fun q => absurd (by assumption) (Int32.not_lt.mpr q.1)⟩ | exact Or.inl ⟨rfl, fun q => absurd (by assumption) (Int32.not_lt.mpr q.2)⟩, rfl⟩)
    ·
      refine V_iconst 12 (1) dX12_isLetter_12 (by decide) ?_
      refine V_goto 13 17 dX12_isLetter_13 (by decide) ?_
      refine V_iret 17 .boolean dX12_isLetter_17 rfl (nrwB (Or.inr rfl)) (Nat.le_of_ble_eq_true rfl) (Nat.le_of_ble_eq_true rfl) (RI.mk ⟨by first | exact Or.inr ⟨rfl, Int32.not_lt.mp (by assumption), Int32.not_lt.mp (by assumption)⟩ | exact Or.inl ⟨rfl, fun q => absurd (by assumption) (Int32.not_lt.mpr q.1)⟩ | exact Or.inl ⟨rfl, fun q => absurd (by assumption) (Int32.not_lt.mpr q.2)⟩, rfl⟩)
set_option maxRecDepth 100000 in
set_option maxHeartbeats 8000000 in
theorem s_misDigit2 (l : Launch) (Γ : GC) (S : PS) (x : Int32) : CT l Γ yX12_isDigit cX12_isDigit 1 (some .boolean) (0) (0) (0) [.int x] S (RI (fun r S' => ((r = 0 ∧ ¬ (48 ≤ x ∧ x ≤ 57)) ∨ (r = 1 ∧ 48 ≤ x ∧ x ≤ 57)) ∧ S' = S)) := by
  refine CT.of RX12 "isDigit" [some (.int x)] (by decide +kernel) rfl rfl (Nat.le_of_ble_eq_true rfl) rfl (fun M hM => ?_)
  subst hM
  refine V_iload_0 0 dX12_isDigit_0 ?_
  refine V_bipush 1 (48) dX12_isDigit_1 (by decide) ?_
  refine V_icmp_lt 3 16 dX12_isDigit_3 (by decide) (fun c1 => ?_) (fun c1 => ?_)
  ·
    refine V_iconst 16 (0) dX12_isDigit_16 (by decide) ?_
    refine V_iret 17 .boolean dX12_isDigit_17 rfl (nrwB (Or.inl rfl)) (Nat.le_of_ble_eq_true rfl) (Nat.le_of_ble_eq_true rfl) (RI.mk ⟨by first | exact Or.inr ⟨rfl, Int32.not_lt.mp (by assumption), Int32.not_lt.mp (by assumption)⟩ | exact Or.inl ⟨rfl, fun q => absurd (by assumption) (Int32.not_lt.mpr q.1)⟩ | exact Or.inl ⟨rfl, fun q => absurd (by assumption) (Int32.not_lt.mpr q.2)⟩, rfl⟩)
  ·
    refine V_iload_0 6 dX12_isDigit_6 ?_
    refine V_bipush 7 (57) dX12_isDigit_7 (by decide) ?_
    refine V_icmp_gt 9 16 dX12_isDigit_9 (by decide) (fun c2 => ?_) (fun c2 => ?_)
    ·
      refine V_iconst 16 (0) dX12_isDigit_16 (by decide) ?_
      refine V_iret 17 .boolean dX12_isDigit_17 rfl (nrwB (Or.inl rfl)) (Nat.le_of_ble_eq_true rfl) (Nat.le_of_ble_eq_true rfl) (RI.mk ⟨by first | exact Or.inr ⟨rfl, Int32.not_lt.mp (by assumption), Int32.not_lt.mp (by assumption)⟩ | exact Or.inl ⟨rfl, fun q => absurd (by assumption) (Int32.not_lt.mpr q.1)⟩ | exact Or.inl ⟨rfl, fun q => absurd (by assumption) (Int32.not_lt.mpr q.2)⟩, rfl⟩)
    ·
      refine V_iconst 12 (1) dX12_isDigit_12 (by decide) ?_
      refine V_goto 13 17 dX12_isDigit_13 (by decide) ?_
      refine V_iret 17 .boolean dX12_isDigit_17 rfl (nrwB (Or.inr rfl)) (Nat.le_of_ble_eq_true rfl) (Nat.le_of_ble_eq_true rfl) (RI.mk ⟨by first | exact Or.inr ⟨rfl, Int32.not_lt.mp (by assumption), Int32.not_lt.mp (by assumption)⟩ | exact Or.inl ⟨rfl, fun q => absurd (by assumption) (Int32.not_lt.mpr q.1)⟩ | exact Or.inl ⟨rfl, fun q => absurd (by assumption) (Int32.not_lt.mpr q.2)⟩, rfl⟩)
def bt (m z : Nat) (S : PS) (i : Nat) : Int32 := if i < z then sA S (m + 2) i &&& 255 else 0
set_option maxRecDepth 100000 in
set_option maxHeartbeats 8000000 in
theorem s_mbyteAt (l : Launch) (Γ : GC) (S : PS) {m z : Nat} (F : isL lyModel Γ.2.2.2.2.1 S m) (ez : sI S m 4 = nI z) (hz : z ≤ 2000) {i : Nat} (hi : i < 100000) : CT l Γ yX12_byteAt cX12_byteAt 2 (some .int) (0) (0) (0) [.ref m, .int (nI i)] S (RI (fun r S' => r = bt m z S i ∧ S' = S)) := by
  refine CT.of RX12 "byteAt" [some (.ref m), some (.int (nI i))] (by decide +kernel) rfl rfl (Nat.le_of_ble_eq_true rfl) rfl (fun M hM => ?_)
  subst hM
  refine V_iload_1 0 dX12_byteAt_0 ?_
  refine V_aload_0 1 dX12_byteAt_1 ?_
  refine V_getI 2 (c := 12) 4 dX12_byteAt_2 fl_RX12_203 (F.m 0 (Nat.le_of_ble_eq_true rfl)) (F.k 0 12 rfl) (Nat.le_of_ble_eq_true rfl) (Nat.le_of_ble_eq_true rfl) rfl ?_
  rw [ez]
  refine V_icmp_ge 5 21 dX12_byteAt_5 (by decide) (fun c1 => ?_) (fun c1 => ?_)
  ·
    try have nf2 := (nI_leE (Eq.refl (nI (z))) (Eq.refl (nI i)) (by omega) (by omega)).mp c1
    refine V_iconst 21 (0) dX12_byteAt_21 (by decide) ?_
    refine V_iret 22 .int dX12_byteAt_22 rfl rfl (Nat.le_of_ble_eq_true rfl) (Nat.le_of_ble_eq_true rfl) (RI.mk ⟨by unfold bt; first | rw [if_pos (by omega)] | rw [if_neg (by omega)], rfl⟩)
  ·
    try have nf3 := mt (nI_leE (Eq.refl (nI (z))) (Eq.refl (nI i)) (by omega) (by omega)).mpr c1
    refine V_aload_0 8 dX12_byteAt_8 ?_
    refine V_getR 9 (c := 12) 3 (F.r 0 3 2 rfl) dX12_byteAt_9 fl_RX12_17 (F.m 0 (Nat.le_of_ble_eq_true rfl)) (F.k 0 12 rfl) (Nat.le_of_ble_eq_true rfl) (Nat.le_of_ble_eq_true rfl) rfl ?_
    refine V_iload_1 12 dX12_byteAt_12 ?_
    refine V_baload2 13 dX12_byteAt_13 (F.m 2 (Nat.le_of_ble_eq_true rfl)) (F.k 2 13 rfl) (F.l 2 2000 rfl) ?_ ?_
    · exact vpN (Eq.refl (nI i)) (by omega) (by decide)
    rw [clN (Eq.refl (nI i)) (by omega)]
    refine V_sipush 14 (255) dX12_byteAt_14 (by decide) ?_
    refine V_iand 17 dX12_byteAt_17 ?_
    refine V_goto 18 22 dX12_byteAt_18 (by decide) ?_
    refine V_iret 22 .int dX12_byteAt_22 rfl rfl (Nat.le_of_ble_eq_true rfl) (Nat.le_of_ble_eq_true rfl) (RI.mk ⟨by unfold bt; first | rw [if_pos (by omega)] | rw [if_neg (by omega)], rfl⟩)
set_option maxRecDepth 100000 in
set_option maxHeartbeats 8000000 in
theorem s_mtoken (l : Launch) (Γ : GC) (S : PS) {m k : Nat} (F : isL lyModel Γ.2.2.2.2.1 S m) (ek : sI S m 10 = nI k) (hk : k ≤ 400) (x y z : Int32) (w : Int64) : CT l Γ yX12_token cX12_token 6 none (0) (0) (0) [.ref m, .int x, .int y, .int z, .long w] S (RV (fun S' => FZ [m + 3, m + 4, m + 5] [(m, 10)] S S' ∧ sI S' m 10 = nI (k + 1))) := by
  refine CT.of RX12 "token" [some (.ref m), some (.int x), some (.int y), some (.int z), some (.long w), none] (by decide +kernel) rfl rfl (Nat.le_of_ble_eq_true rfl) rfl (fun M hM => ?_)
  subst hM
  have p1 : ((fun T => sI T m 10 = nI k) S) := ek
  refine V_aload_0 0 dX12_token_0 ?_
  refine V_getR 1 (c := 12) 5 (F.r 0 5 3 rfl) dX12_token_1 fl_RX12_20 (F.m 0 (Nat.le_of_ble_eq_true rfl)) (F.k 0 12 rfl) (Nat.le_of_ble_eq_true rfl) (Nat.le_of_ble_eq_true rfl) rfl ?_
  refine V_aload_0 4 dX12_token_4 ?_
  refine V_getI 5 (c := 12) 10 dX12_token_5 fl_RX12_212 (F.m 0 (Nat.le_of_ble_eq_true rfl)) (F.k 0 12 rfl) (Nat.le_of_ble_eq_true rfl) (Nat.le_of_ble_eq_true rfl) rfl ?_
  rw [p1]
  refine V_iload_1 8 dX12_token_8 ?_
  refine V_iastore2 9 dX12_token_9 (F.m 3 (Nat.le_of_ble_eq_true rfl)) (F.k 3 14 rfl) (F.l 3 403 rfl) ?_ ?_
  · exact vpN (Eq.refl (nI (k))) (by omega) (by decide)
  refine V_abs (fun T9 => FZ [m + 3, m + 4, m + 5] [(m, 10)] S T9 ∧ ((fun T => sI T m 10 = nI k) T9)) ⟨(FZ.rf (X := [m + 3, m + 4, m + 5]) (Y := [(m, 10)]) (S := S)).uA (by simp), by exact p1⟩ (fun S2 hh5 => ?_)
  obtain ⟨h3, p4⟩ := hh5
  refine V_aload_0 10 dX12_token_10 ?_
  refine V_getR 11 (c := 12) 6 ((F.ss h3.1).r 0 6 4 rfl) dX12_token_11 fl_RX12_24 ((F.ss h3.1).m 0 (Nat.le_of_ble_eq_true rfl)) ((F.ss h3.1).k 0 12 rfl) (Nat.le_of_ble_eq_true rfl) (Nat.le_of_ble_eq_true rfl) rfl ?_
  refine V_aload_0 14 dX12_token_14 ?_
  refine V_getI 15 (c := 12) 10 dX12_token_15 fl_RX12_212 ((F.ss h3.1).m 0 (Nat.le_of_ble_eq_true rfl)) ((F.ss h3.1).k 0 12 rfl) (Nat.le_of_ble_eq_true rfl) (Nat.le_of_ble_eq_true rfl) rfl ?_
  rw [p4]
  refine V_iload_2 18 dX12_token_18 ?_
  refine V_iastore2 19 dX12_token_19 ((F.ss h3.1).m 4 (Nat.le_of_ble_eq_true rfl)) ((F.ss h3.1).k 4 14 rfl) ((F.ss h3.1).l 4 403 rfl) ?_ ?_
  · exact vpN (Eq.refl (nI (k))) (by omega) (by decide)
  refine V_abs (fun T9 => FZ [m + 3, m + 4, m + 5] [(m, 10)] S T9 ∧ ((fun T => sI T m 10 = nI k) T9)) ⟨h3.uA (by simp), by exact p4⟩ (fun S6 hh9 => ?_)
  obtain ⟨h7, p8⟩ := hh9
  refine V_aload_0 20 dX12_token_20 ?_
  refine V_getR 21 (c := 12) 7 ((F.ss h7.1).r 0 7 5 rfl) dX12_token_21 fl_RX12_27 ((F.ss h7.1).m 0 (Nat.le_of_ble_eq_true rfl)) ((F.ss h7.1).k 0 12 rfl) (Nat.le_of_ble_eq_true rfl) (Nat.le_of_ble_eq_true rfl) rfl ?_
  refine V_aload_0 24 dX12_token_24 ?_
  refine V_getI 25 (c := 12) 10 dX12_token_25 fl_RX12_212 ((F.ss h7.1).m 0 (Nat.le_of_ble_eq_true rfl)) ((F.ss h7.1).k 0 12 rfl) (Nat.le_of_ble_eq_true rfl) (Nat.le_of_ble_eq_true rfl) rfl ?_
  rw [p8]
  refine V_iload_3 28 dX12_token_28 ?_
  refine V_iastore2 29 dX12_token_29 ((F.ss h7.1).m 5 (Nat.le_of_ble_eq_true rfl)) ((F.ss h7.1).k 5 14 rfl) ((F.ss h7.1).l 5 403 rfl) ?_ ?_
  · exact vpN (Eq.refl (nI (k))) (by omega) (by decide)
  refine V_abs (fun T9 => FZ [m + 3, m + 4, m + 5] [(m, 10)] S T9 ∧ ((fun T => sI T m 10 = nI k) T9)) ⟨h7.uA (by simp), by exact p8⟩ (fun S10 hh13 => ?_)
  obtain ⟨h11, p12⟩ := hh13
  refine V_aload_0 30 dX12_token_30 ?_
  refine V_getR 31 (c := 12) 8 ((F.ss h11.1).r 0 8 6 rfl) dX12_token_31 fl_RX12_30 ((F.ss h11.1).m 0 (Nat.le_of_ble_eq_true rfl)) ((F.ss h11.1).k 0 12 rfl) (Nat.le_of_ble_eq_true rfl) (Nat.le_of_ble_eq_true rfl) rfl ?_
  refine V_aload_0 34 dX12_token_34 ?_
  refine V_getI 35 (c := 12) 10 dX12_token_35 fl_RX12_212 ((F.ss h11.1).m 0 (Nat.le_of_ble_eq_true rfl)) ((F.ss h11.1).k 0 12 rfl) (Nat.le_of_ble_eq_true rfl) (Nat.le_of_ble_eq_true rfl) rfl ?_
  rw [p12]
  refine V_lload_4 38 dX12_token_38 ?_
  refine V_lastore2 40 dX12_token_40 ((F.ss h11.1).m 6 (Nat.le_of_ble_eq_true rfl)) ((F.ss h11.1).k 6 15 rfl) ((F.ss h11.1).l 6 403 rfl) ?_ ?_
  · exact vpN (Eq.refl (nI (k))) (by omega) (by decide)
  refine V_abs (fun T9 => FZ [m + 3, m + 4, m + 5] [(m, 10)] S T9 ∧ ((fun T => sI T m 10 = nI k) T9)) ⟨h11.uJ, by exact p12⟩ (fun S14 hh17 => ?_)
  obtain ⟨h15, p16⟩ := hh17
  refine V_aload_0 41 dX12_token_41 ?_
  refine V_dup 42 dX12_token_42 rfl ?_
  refine V_getI 43 (c := 12) 10 dX12_token_43 fl_RX12_212 ((F.ss h15.1).m 0 (Nat.le_of_ble_eq_true rfl)) ((F.ss h15.1).k 0 12 rfl) (Nat.le_of_ble_eq_true rfl) (Nat.le_of_ble_eq_true rfl) rfl ?_
  rw [p16]
  refine V_iconst 46 (1) dX12_token_46 (by decide) ?_
  refine V_iadd 47 dX12_token_47 ?_
  refine V_putI 48 (c := 12) 10 dX12_token_48 fl_RX12_212 ((F.ss h15.1).m 0 (Nat.le_of_ble_eq_true rfl)) ((F.ss h15.1).k 0 12 rfl) (Nat.le_of_ble_eq_true rfl) (Nat.le_of_ble_eq_true rfl) rfl (Or.inl rfl) ?_
  refine V_abs (fun T9 => FZ [m + 3, m + 4, m + 5] [(m, 10)] S T9 ∧ ((fun T => sI T m 10 = nI (k + 1)) T9)) ⟨h15.uI (by simp), by exact (up2_s _ _ _ _).trans (nI_1 k)⟩ (fun S18 hh21 => ?_)
  obtain ⟨h19, p20⟩ := hh21
  refine V_vret 51 dX12_token_51 rfl (Nat.le_of_ble_eq_true rfl) (Nat.le_of_ble_eq_true rfl) (RV.mk ⟨h19, p20⟩)
set_option maxRecDepth 100000 in
set_option maxHeartbeats 8000000 in
theorem s_msign (l : Launch) (Γ : GC) (S : PS) {m k : Nat} (F : isL lyModel Γ.2.2.2.2.1 S m) (ek : sI S m 10 = nI k) (hk : k ≤ 400) (x y z : Int32) : CT l Γ yX12_sign cX12_sign 5 (some .int) (1) (0) (0) [.ref m, .int x, .int y, .int z] S (RI (fun r S' => r = nI 1 ∧ FZ [m + 3, m + 4, m + 5] [(m, 10)] S S' ∧ sI S' m 10 = nI (k + 1))) := by
  refine CT.of RX12 "sign" [some (.ref m), some (.int x), some (.int y), some (.int z), none] (by decide +kernel) rfl rfl (Nat.le_of_ble_eq_true rfl) rfl (fun M hM => ?_)
  subst hM
  have p1 : ((fun T => sI T m 10 = nI k) S) := ek
  have J4 : ∀ (S2 : PS) (x5 : Int32), FZ [m + 3, m + 4, m + 5] [(m, 10)] S S2 → ((fun T => sI T m 10 = nI k) S2) → V M Γ (5, RX12, "sign", (some .int), RM (1) (0) (0)) cX12_sign (RQ M Γ (RI (fun r S' => r = nI 1 ∧ FZ [m + 3, m + 4, m + 5] [(m, 10)] S S' ∧ sI S' m 10 = nI (k + 1))) (0) (0)) 0 0 S2 95 [some (.ref m), some (.int x), some (.int y), some (.int z), some (.int x5)] [] := by
    intro S2 x5 h3 p6
    refine V_aload_0 95 dX12_sign_95 ?_
    refine V_iload_4 96 dX12_sign_96 ?_
    refine V_iload_1 98 dX12_sign_98 ?_
    refine V_iconst 99 (0) dX12_sign_99 (by decide) ?_
    refine V_lconst 100 0 dX12_sign_100 (by decide) ?_
    refine V_callV 101 (ci := 12) [.int _, .int _, .int _, .long _] _ (s_mtoken M.2.1 Γ S2 (F.ss h3.1) p6 hk _ _ _ _) dX12_sign_101 cb_X12_token ml_RX12_219 im_yX12_token se_yX12_token ((F.ss h3.1).m 0 (Nat.le_of_ble_eq_true rfl)) ((F.ss h3.1).k 0 12 rfl) (Nat.le_of_ble_eq_true rfl) ⟨(Nat.le_of_ble_eq_true rfl), (Nat.le_of_ble_eq_true rfl)⟩ rfl rfl (Nat.le_of_ble_eq_true rfl) ⟨(Nat.le_of_ble_eq_true rfl), (Nat.le_of_ble_eq_true rfl)⟩ (RV.go (fun S7 q8 => ?_))
    have h10 : FZ [m + 3, m + 4, m + 5] [(m, 10)] S S7 := h3.tr (q8.1.sub (by simp) (by simp))
    have p11 : ((fun T => sI T m 10 = nI (k + 1)) S7) := by exact q8.2
    refine V_iconst 104 (1) dX12_sign_104 (by decide) ?_
    refine V_iret 105 .int dX12_sign_105 rfl rfl (Nat.le_of_ble_eq_true rfl) (Nat.le_of_ble_eq_true rfl) (RI.mk ⟨rfl, h10, p11⟩)
  have J14 : ∀ (S12 : PS) (x15 : Int32), FZ [m + 3, m + 4, m + 5] [(m, 10)] S S12 → ((fun T => sI T m 10 = nI k) S12) → V M Γ (5, RX12, "sign", (some .int), RM (1) (0) (0)) cX12_sign (RQ M Γ (RI (fun r S' => r = nI 1 ∧ FZ [m + 3, m + 4, m + 5] [(m, 10)] S S' ∧ sI S' m 10 = nI (k + 1))) (0) (0)) 0 0 S12 85 [some (.ref m), some (.int x), some (.int y), some (.int z), some (.int x15)] [] := by
    intro S12 x15 h13 p16
    refine V_iload_2 85 dX12_sign_85 ?_
    refine V_bipush 86 (60) dX12_sign_86 (by decide) ?_
    refine V_icmp_ne 88 95 dX12_sign_88 (by decide) (fun c17 => ?_) (fun c17 => ?_)
    ·
      refine V_lvw (by repeat (first | exact trivial | refine ⟨rfl, ?_⟩)) (J4 _ _ h13 p16)
    ·
      refine V_bipush 91 (13) dX12_sign_91 (by decide) ?_
      refine V_istore_4 93 dX12_sign_93 rfl (Nat.le_of_ble_eq_true rfl) ?_
      refine V_lvw (by repeat (first | exact trivial | refine ⟨rfl, ?_⟩)) (J4 _ _ h13 p16)
  have J22 : ∀ (S20 : PS) (x23 : Int32), FZ [m + 3, m + 4, m + 5] [(m, 10)] S S20 → ((fun T => sI T m 10 = nI k) S20) → V M Γ (5, RX12, "sign", (some .int), RM (1) (0) (0)) cX12_sign (RQ M Γ (RI (fun r S' => r = nI 1 ∧ FZ [m + 3, m + 4, m + 5] [(m, 10)] S S' ∧ sI S' m 10 = nI (k + 1))) (0) (0)) 0 0 S20 75 [some (.ref m), some (.int x), some (.int y), some (.int z), some (.int x23)] [] := by
    intro S20 x23 h21 p24
    refine V_iload_2 75 dX12_sign_75 ?_
    refine V_bipush 76 (47) dX12_sign_76 (by decide) ?_
    refine V_icmp_ne 78 85 dX12_sign_78 (by decide) (fun c25 => ?_) (fun c25 => ?_)
    ·
      refine V_lvw (by repeat (first | exact trivial | refine ⟨rfl, ?_⟩)) (J14 _ _ h21 p24)
    ·
      refine V_bipush 81 (15) dX12_sign_81 (by decide) ?_
      refine V_istore_4 83 dX12_sign_83 rfl (Nat.le_of_ble_eq_true rfl) ?_
      refine V_lvw (by repeat (first | exact trivial | refine ⟨rfl, ?_⟩)) (J14 _ _ h21 p24)
  have J30 : ∀ (S28 : PS) (x31 : Int32), FZ [m + 3, m + 4, m + 5] [(m, 10)] S S28 → ((fun T => sI T m 10 = nI k) S28) → V M Γ (5, RX12, "sign", (some .int), RM (1) (0) (0)) cX12_sign (RQ M Γ (RI (fun r S' => r = nI 1 ∧ FZ [m + 3, m + 4, m + 5] [(m, 10)] S S' ∧ sI S' m 10 = nI (k + 1))) (0) (0)) 0 0 S28 65 [some (.ref m), some (.int x), some (.int y), some (.int z), some (.int x31)] [] := by
    intro S28 x31 h29 p32
    refine V_iload_2 65 dX12_sign_65 ?_
    refine V_bipush 66 (42) dX12_sign_66 (by decide) ?_
    refine V_icmp_ne 68 75 dX12_sign_68 (by decide) (fun c33 => ?_) (fun c33 => ?_)
    ·
      refine V_lvw (by repeat (first | exact trivial | refine ⟨rfl, ?_⟩)) (J22 _ _ h29 p32)
    ·
      refine V_bipush 71 (10) dX12_sign_71 (by decide) ?_
      refine V_istore_4 73 dX12_sign_73 rfl (Nat.le_of_ble_eq_true rfl) ?_
      refine V_lvw (by repeat (first | exact trivial | refine ⟨rfl, ?_⟩)) (J22 _ _ h29 p32)
  have J38 : ∀ (S36 : PS) (x39 : Int32), FZ [m + 3, m + 4, m + 5] [(m, 10)] S S36 → ((fun T => sI T m 10 = nI k) S36) → V M Γ (5, RX12, "sign", (some .int), RM (1) (0) (0)) cX12_sign (RQ M Γ (RI (fun r S' => r = nI 1 ∧ FZ [m + 3, m + 4, m + 5] [(m, 10)] S S' ∧ sI S' m 10 = nI (k + 1))) (0) (0)) 0 0 S36 55 [some (.ref m), some (.int x), some (.int y), some (.int z), some (.int x39)] [] := by
    intro S36 x39 h37 p40
    refine V_iload_2 55 dX12_sign_55 ?_
    refine V_bipush 56 (45) dX12_sign_56 (by decide) ?_
    refine V_icmp_ne 58 65 dX12_sign_58 (by decide) (fun c41 => ?_) (fun c41 => ?_)
    ·
      refine V_lvw (by repeat (first | exact trivial | refine ⟨rfl, ?_⟩)) (J30 _ _ h37 p40)
    ·
      refine V_bipush 61 (9) dX12_sign_61 (by decide) ?_
      refine V_istore_4 63 dX12_sign_63 rfl (Nat.le_of_ble_eq_true rfl) ?_
      refine V_lvw (by repeat (first | exact trivial | refine ⟨rfl, ?_⟩)) (J30 _ _ h37 p40)
  have J46 : ∀ (S44 : PS) (x47 : Int32), FZ [m + 3, m + 4, m + 5] [(m, 10)] S S44 → ((fun T => sI T m 10 = nI k) S44) → V M Γ (5, RX12, "sign", (some .int), RM (1) (0) (0)) cX12_sign (RQ M Γ (RI (fun r S' => r = nI 1 ∧ FZ [m + 3, m + 4, m + 5] [(m, 10)] S S' ∧ sI S' m 10 = nI (k + 1))) (0) (0)) 0 0 S44 43 [some (.ref m), some (.int x), some (.int y), some (.int z), none] [.int x47] := by
    intro S44 x47 h45 p48
    refine V_istore_4 43 dX12_sign_43 rfl (Nat.le_of_ble_eq_true rfl) ?_
    refine V_iload_2 45 dX12_sign_45 ?_
    refine V_bipush 46 (43) dX12_sign_46 (by decide) ?_
    refine V_icmp_ne 48 55 dX12_sign_48 (by decide) (fun c49 => ?_) (fun c49 => ?_)
    ·
      refine V_lvw (by repeat (first | exact trivial | refine ⟨rfl, ?_⟩)) (J38 _ _ h45 p48)
    ·
      refine V_bipush 51 (8) dX12_sign_51 (by decide) ?_
      refine V_istore_4 53 dX12_sign_53 rfl (Nat.le_of_ble_eq_true rfl) ?_
      refine V_lvw (by repeat (first | exact trivial | refine ⟨rfl, ?_⟩)) (J38 _ _ h45 p48)
  refine V_iload_2 0 dX12_sign_0 ?_
  refine V_bipush 1 (59) dX12_sign_1 (by decide) ?_
  refine V_icmp_ne 3 10 dX12_sign_3 (by decide) (fun c52 => ?_) (fun c52 => ?_)
  ·
    refine V_iload_2 10 dX12_sign_10 ?_
    refine V_bipush 11 (61) dX12_sign_11 (by decide) ?_
    refine V_icmp_ne 13 20 dX12_sign_13 (by decide) (fun c53 => ?_) (fun c53 => ?_)
    ·
      refine V_iload_2 20 dX12_sign_20 ?_
      refine V_bipush 21 (40) dX12_sign_21 (by decide) ?_
      refine V_icmp_ne 23 31 dX12_sign_23 (by decide) (fun c54 => ?_) (fun c54 => ?_)
      ·
        refine V_iload_2 31 dX12_sign_31 ?_
        refine V_bipush 32 (41) dX12_sign_32 (by decide) ?_
        refine V_icmp_ne 34 42 dX12_sign_34 (by decide) (fun c55 => ?_) (fun c55 => ?_)
        ·
          refine V_iconst 42 (3) dX12_sign_42 (by decide) ?_
          refine V_lvw (by repeat (first | exact trivial | refine ⟨rfl, ?_⟩)) (J46 _ _ FZ.rf p1)
        ·
          refine V_bipush 37 (7) dX12_sign_37 (by decide) ?_
          refine V_goto 39 43 dX12_sign_39 (by decide) ?_
          refine V_lvw (by repeat (first | exact trivial | refine ⟨rfl, ?_⟩)) (J46 _ _ FZ.rf p1)
      ·
        refine V_bipush 26 (6) dX12_sign_26 (by decide) ?_
        refine V_goto 28 43 dX12_sign_28 (by decide) ?_
        refine V_lvw (by repeat (first | exact trivial | refine ⟨rfl, ?_⟩)) (J46 _ _ FZ.rf p1)
    ·
      refine V_iconst 16 (5) dX12_sign_16 (by decide) ?_
      refine V_goto 17 43 dX12_sign_17 (by decide) ?_
      refine V_lvw (by repeat (first | exact trivial | refine ⟨rfl, ?_⟩)) (J46 _ _ FZ.rf p1)
  ·
    refine V_iconst 6 (4) dX12_sign_6 (by decide) ?_
    refine V_goto 7 43 dX12_sign_7 (by decide) ?_
    refine V_lvw (by repeat (first | exact trivial | refine ⟨rfl, ?_⟩)) (J46 _ _ FZ.rf p1)
theorem bt_out {m z i : Nat} {S : PS} (h : ¬ i < z) : bt m z S i = 0 := if_neg h
theorem bt_eq {m z i : Nat} {S T : PS} (h : sA T (m + 2) = sA S (m + 2)) : bt m z T i = bt m z S i := by unfold bt; rw [h]
theorem noL {x : Int32} (h : x = 0) : ¬ ((97 : Int32) ≤ x ∧ x ≤ 122) := fun q => by rw [h] at q; exact absurd q.1 (by decide)
theorem noD {x : Int32} (h : x = 0) : ¬ ((48 : Int32) ≤ x ∧ x ≤ 57) := fun q => by rw [h] at q; exact absurd q.1 (by decide)
set_option maxRecDepth 100000 in
set_option maxHeartbeats 8000000 in
theorem s_mcut (l : Launch) (Γ : GC) (S : PS) {m z : Nat} (F : isL lyModel Γ.2.2.2.2.1 S m) (ez : sI S m 4 = nI z) (hz : z ≤ 2000) : CT l Γ yX12_cut cX12_cut 8 none (3) (0) (0) [.ref m] S (RV (fun S' => FZ [m + 3, m + 4, m + 5] [(m, 10)] S S')) := by
  refine CT.of RX12 "cut" [some (.ref m), none, none, none, none, none, none, none] (by decide +kernel) rfl rfl (Nat.le_of_ble_eq_true rfl) rfl (fun M hM => ?_)
  subst hM
  refine V_aload_0 0 dX12_cut_0 ?_
  refine V_iconst 1 (0) dX12_cut_1 (by decide) ?_
  refine V_putI 2 (c := 12) 10 dX12_cut_2 fl_RX12_212 (F.m 0 (Nat.le_of_ble_eq_true rfl)) (F.k 0 12 rfl) (Nat.le_of_ble_eq_true rfl) (Nat.le_of_ble_eq_true rfl) rfl (Or.inl rfl) ?_
  refine V_iconst 5 (0) dX12_cut_5 (by decide) ?_
  refine V_istore_1 6 dX12_cut_6 rfl (Nat.le_of_ble_eq_true rfl) ?_
  refine V_lvw (lv2 := [some (.ref m), some (.int (nI 0)), none, none, none, none, none, none]) (by repeat (first | exact trivial | refine ⟨rfl, ?_⟩)) ?_
  refine V_while (α := Nat × Nat × PS × Option Value × Option Value × Option Value × Option Value × Option Value × Option Value) (fun q => z + 1 - q.1) (fun q => q.1 ≤ z ∧ q.2.1 ≤ 401 ∧ FZ [m + 3, m + 4, m + 5] [(m, 10)] S q.2.2.1 ∧ sI q.2.2.1 m 10 = nI q.2.1) (fun q => q.2.2.1) (fun q => [some (.ref m), some (.int (nI q.1)), q.2.2.2.1, q.2.2.2.2.1, q.2.2.2.2.2.1, q.2.2.2.2.2.2.1, q.2.2.2.2.2.2.2.1, q.2.2.2.2.2.2.2.2]) (0, 0, _, none, none, none, none, none, none) ⟨Nat.zero_le _, Nat.zero_le _, FZ.rf.uI (by simp), up2_s _ _ _ _⟩ (fun q hq ih => ?_)
  obtain ⟨i, k, T, w2, w3, w4, w5, w6, w7⟩ := q
  obtain ⟨hi, hk, e, ek⟩ := hq
  dsimp only at hi hk e ek ih ⊢
  have FT9 := F.ss e.1
  have ezT : sI T m 4 = nI z := (e.2.2 m 4 (by simp)).trans ez
  have JB : ∀ (i2 k2 : Nat) (T2 : PS) (w2 w3 w4 w5 w6 w7 : Option Value), i < i2 → i2 ≤ z → k2 ≤ 401 → FZ [m + 3, m + 4, m + 5] [(m, 10)] S T2 → sI T2 m 10 = nI k2 → V M Γ (8, RX12, "cut", none, RM (3) (0) (0)) cX12_cut (RQ M Γ (RV (fun S' => FZ [m + 3, m + 4, m + 5] [(m, 10)] S S')) (0) (0)) 0 0 T2 291 [some (.ref m), some (.int (nI i2)), w2, w3, w4, w5, w6, w7] [] := by
    intro i2 k2 T2 w2 w3 w4 w5 w6 w7 h1 h2 h3 e2 ek2
    refine V_goto 291 7 dX12_cut_291 (by decide) ?_
    exact ih (i2, k2, T2, w2, w3, w4, w5, w6, w7) ⟨h2, h3, e2, ek2⟩ (by dsimp only; omega)
  refine V_aload_0 7 dX12_cut_7 ?_
  refine V_getI 8 (c := 12) 10 dX12_cut_8 fl_RX12_212 (FT9.m 0 (Nat.le_of_ble_eq_true rfl)) (FT9.k 0 12 rfl) (Nat.le_of_ble_eq_true rfl) (Nat.le_of_ble_eq_true rfl) rfl ?_
  rw [ek]
  refine V_sipush 11 (400) dX12_cut_11 (by decide) ?_
  refine V_icmp_gt 14 294 dX12_cut_14 (by decide) (fun c => ?_) (fun c => ?_)
  ·
    refine V_vret 294 dX12_cut_294 rfl (Nat.le_of_ble_eq_true rfl) (Nat.le_of_ble_eq_true rfl) (RV.mk e)
  · have hk4 : k ≤ 400 := by have := mt (nI_ltE (show (400 : Int32) = nI 400 from rfl) (Eq.refl (nI k)) (by omega) (by omega)).mpr c; omega
    refine V_aload_0 17 dX12_cut_17 ?_
    refine V_iload_1 18 dX12_cut_18 ?_
    refine V_callV 19 (ci := 12) [.int _] _ (s_mbyteAt M.2.1 Γ T FT9 ezT hz (i := i) (by omega)) dX12_cut_19 cb_X12_byteAt ml_RX12_215 im_yX12_byteAt se_yX12_byteAt (FT9.m 0 (Nat.le_of_ble_eq_true rfl)) (FT9.k 0 12 rfl) (Nat.le_of_ble_eq_true rfl) ⟨(Nat.le_of_ble_eq_true rfl), (Nat.le_of_ble_eq_true rfl)⟩ rfl rfl (Nat.le_of_ble_eq_true rfl) ⟨(Nat.le_of_ble_eq_true rfl), (Nat.le_of_ble_eq_true rfl)⟩ (RI.go (fun r1 S1 q1 => ?_))
    rw [q1.2, q1.1]
    refine V_istore_2 22 dX12_cut_22 rfl (Nat.le_of_ble_eq_true rfl) ?_
    refine V_iload_1 23 dX12_cut_23 ?_
    refine V_aload_0 24 dX12_cut_24 ?_
    refine V_getI 25 (c := 12) 4 dX12_cut_25 fl_RX12_203 (FT9.m 0 (Nat.le_of_ble_eq_true rfl)) (FT9.k 0 12 rfl) (Nat.le_of_ble_eq_true rfl) (Nat.le_of_ble_eq_true rfl) rfl ?_
    rw [ezT]
    refine V_icmp_lt 28 43 dX12_cut_28 (by decide) (fun c2 => ?_) (fun c2 => ?_)
    · have hiz : i < z := (nI_ltI (by omega) (by omega)).mp c2
      have J67 : ∀ (w2 : Option Value), V M Γ (8, RX12, "cut", none, RM (3) (0) (0)) cX12_cut (RQ M Γ (RV (fun S' => FZ [m + 3, m + 4, m + 5] [(m, 10)] S S')) (0) (0)) 0 0 T 67 [some (.ref m), some (.int (nI i)), w2, w3, w4, w5, w6, w7] [] := by
        intro w2
        refine V_iinc_1 67 (1) dX12_cut_67 (by decide) rfl (Nat.le_of_ble_eq_true rfl) ?_
        refine V_goto 70 291 dX12_cut_70 (by decide) ?_
        rw [nI_1]
        exact JB (i + 1) k T _ _ _ _ _ _ (by omega) (by omega) hk e ek
      refine V_iload_2 43 dX12_cut_43 ?_
      refine V_bipush 44 (9) dX12_cut_44 (by decide) ?_
      refine V_icmp_eq 46 67 dX12_cut_46 (by decide) (fun _ => J67 _) (fun _ => ?_)
      refine V_iload_2 49 dX12_cut_49 ?_
      refine V_bipush 50 (10) dX12_cut_50 (by decide) ?_
      refine V_icmp_eq 52 67 dX12_cut_52 (by decide) (fun _ => J67 _) (fun _ => ?_)
      refine V_iload_2 55 dX12_cut_55 ?_
      refine V_bipush 56 (13) dX12_cut_56 (by decide) ?_
      refine V_icmp_eq 58 67 dX12_cut_58 (by decide) (fun _ => J67 _) (fun _ => ?_)
      refine V_iload_2 61 dX12_cut_61 ?_
      refine V_bipush 62 (32) dX12_cut_62 (by decide) ?_
      refine V_icmp_ne 64 73 dX12_cut_64 (by decide) (fun _ => ?_) (fun _ => J67 _)
      refine V_iload_2 73 dX12_cut_73 ?_
      refine V_callS 74 [.int _] _ (s_misLetter2 M.2.1 Γ T _) dX12_cut_74 cb_X12_isLetter ml_RX12_223 sm_yX12_isLetter ⟨(Nat.le_of_ble_eq_true rfl), (Nat.le_of_ble_eq_true rfl)⟩ rfl rfl (Nat.le_of_ble_eq_true rfl) ⟨(Nat.le_of_ble_eq_true rfl), (Nat.le_of_ble_eq_true rfl)⟩ (RI.go (fun r2 S2 q2 => ?_))
      rw [q2.2]
      have q2 := q2.1
      refine V_if_eq 77 196 dX12_cut_77 (by decide) (fun c3 => ?_) (fun c3 => ?_)
      ·
        refine V_iload_2 196 dX12_cut_196 ?_
        refine V_callS 197 [.int _] _ (s_misDigit2 M.2.1 Γ T _) dX12_cut_197 cb_X12_isDigit ml_RX12_227 sm_yX12_isDigit ⟨(Nat.le_of_ble_eq_true rfl), (Nat.le_of_ble_eq_true rfl)⟩ rfl rfl (Nat.le_of_ble_eq_true rfl) ⟨(Nat.le_of_ble_eq_true rfl), (Nat.le_of_ble_eq_true rfl)⟩ (RI.go (fun r3 S3 q3 => ?_))
        rw [q3.2]
        have q3 := q3.1
        refine V_if_eq 200 275 dX12_cut_200 (by decide) (fun c4 => ?_) (fun c4 => ?_)
        ·
          refine V_iload_1 275 dX12_cut_275 ?_
          refine V_aload_0 276 dX12_cut_276 ?_
          refine V_iload_1 277 dX12_cut_277 ?_
          refine V_iload_2 278 dX12_cut_278 ?_
          refine V_aload_0 279 dX12_cut_279 ?_
          refine V_iload_1 280 dX12_cut_280 ?_
          refine V_iconst 281 (1) dX12_cut_281 (by decide) ?_
          refine V_iadd 282 dX12_cut_282 ?_
          rw [nI_1]
          refine V_callV 283 (ci := 12) [.int _] _ (s_mbyteAt M.2.1 Γ T FT9 ezT hz (i := i + 1) (by omega)) dX12_cut_283 cb_X12_byteAt ml_RX12_215 im_yX12_byteAt se_yX12_byteAt (FT9.m 0 (Nat.le_of_ble_eq_true rfl)) (FT9.k 0 12 rfl) (Nat.le_of_ble_eq_true rfl) ⟨(Nat.le_of_ble_eq_true rfl), (Nat.le_of_ble_eq_true rfl)⟩ rfl rfl (Nat.le_of_ble_eq_true rfl) ⟨(Nat.le_of_ble_eq_true rfl), (Nat.le_of_ble_eq_true rfl)⟩ (RI.go (fun r4 S4 q4 => ?_))
          rw [q4.2]
          refine V_callV 286 (ci := 12) [.int _, .int _, .int _] _ (s_msign M.2.1 Γ T FT9 ek hk4 _ _ _) dX12_cut_286 cb_X12_sign ml_RX12_230 im_yX12_sign se_yX12_sign (FT9.m 0 (Nat.le_of_ble_eq_true rfl)) (FT9.k 0 12 rfl) (Nat.le_of_ble_eq_true rfl) ⟨(Nat.le_of_ble_eq_true rfl), (Nat.le_of_ble_eq_true rfl)⟩ rfl rfl (Nat.le_of_ble_eq_true rfl) ⟨(Nat.le_of_ble_eq_true rfl), (Nat.le_of_ble_eq_true rfl)⟩ (RI.go (fun r5 S5 q5 => ?_))
          rw [q5.1]
          refine V_iadd 289 dX12_cut_289 ?_
          rw [nI_add]
          refine V_istore_1 290 dX12_cut_290 rfl (Nat.le_of_ble_eq_true rfl) ?_
          exact JB (i + 1) (k + 1) S5 _ _ _ _ _ _ (by omega) (by omega) (by omega) (e.tr q5.2.1) q5.2.2
        · have hD := (q3.resolve_left (fun q => c4 q.1)).2
          refine V_iconst 203 (0) dX12_cut_203 (by decide) ?_
          refine V_istore_3 204 dX12_cut_204 rfl (Nat.le_of_ble_eq_true rfl) ?_
          refine V_iconst 205 (0) dX12_cut_205 (by decide) ?_
          refine V_istore_4 206 dX12_cut_206 rfl (Nat.le_of_ble_eq_true rfl) ?_
          refine V_lvw (lv2 := [some (.ref m), some (.int (nI i)), some (.int (bt m z T i)), some (.int (nI 0)), some (.int 0), none, none, none]) (by repeat (first | exact trivial | refine ⟨rfl, ?_⟩)) ?_
          refine V_while (α := Nat × Int32) (fun q => z - (i + q.1)) (fun q => i + q.1 ≤ z) (fun q => T) (fun q => [some (.ref m), some (.int (nI i)), some (.int (bt m z T i)), some (.int (nI q.1)), some (.int q.2), none, none, none]) (0, 0) (by dsimp only; omega) (fun q hq ih2 => ?_)
          obtain ⟨n, v⟩ := q
          dsimp only at hq ih2 ⊢
          refine V_aload_0 208 dX12_cut_208 ?_
          refine V_iload_1 209 dX12_cut_209 ?_
          refine V_iload_3 210 dX12_cut_210 ?_
          refine V_iadd 211 dX12_cut_211 ?_
          rw [nI_add]
          refine V_callV 212 (ci := 12) [.int _] _ (s_mbyteAt M.2.1 Γ T FT9 ezT hz (i := i + n) (by omega)) dX12_cut_212 cb_X12_byteAt ml_RX12_215 im_yX12_byteAt se_yX12_byteAt (FT9.m 0 (Nat.le_of_ble_eq_true rfl)) (FT9.k 0 12 rfl) (Nat.le_of_ble_eq_true rfl) ⟨(Nat.le_of_ble_eq_true rfl), (Nat.le_of_ble_eq_true rfl)⟩ rfl rfl (Nat.le_of_ble_eq_true rfl) ⟨(Nat.le_of_ble_eq_true rfl), (Nat.le_of_ble_eq_true rfl)⟩ (RI.go (fun r4 S4 q4 => ?_))
          rw [q4.2, q4.1]
          refine V_callS 215 [.int _] _ (s_misDigit2 M.2.1 Γ T _) dX12_cut_215 cb_X12_isDigit ml_RX12_227 sm_yX12_isDigit ⟨(Nat.le_of_ble_eq_true rfl), (Nat.le_of_ble_eq_true rfl)⟩ rfl rfl (Nat.le_of_ble_eq_true rfl) ⟨(Nat.le_of_ble_eq_true rfl), (Nat.le_of_ble_eq_true rfl)⟩ (RI.go (fun r5 S5 q5 => ?_))
          rw [q5.2]
          have q5 := q5.1
          refine V_if_eq 218 250 dX12_cut_218 (by decide) (fun c5 => ?_) (fun c5 => ?_)
          · have hnd := (q5.resolve_right (fun q => absurd (q.1.symm.trans c5) (by decide))).2
            have hn1 : 1 ≤ n := by
              rcases Nat.eq_zero_or_pos n with q | q
              · subst q; exact absurd hD hnd
              · exact q
            have J265 : ∀ (x : Int32), V M Γ (8, RX12, "cut", none, RM (3) (0) (0)) cX12_cut (RQ M Γ (RV (fun S' => FZ [m + 3, m + 4, m + 5] [(m, 10)] S S')) (0) (0)) 0 0 T 261 [some (.ref m), some (.int (nI i)), some (.int (bt m z T i)), some (.int (nI n)), some (.int v), none, none, none] [.int x, .ref m] := by
              intro x
              refine V_iload_1 261 dX12_cut_261 ?_
              refine V_iload_4 262 dX12_cut_262 ?_
              refine V_lconst 264 0 dX12_cut_264 (by decide) ?_
              refine V_callV 265 (ci := 12) [.int _, .int _, .int _, .long _] _ (s_mtoken M.2.1 Γ T FT9 ek hk4 _ _ _ _) dX12_cut_265 cb_X12_token ml_RX12_219 im_yX12_token se_yX12_token (FT9.m 0 (Nat.le_of_ble_eq_true rfl)) (FT9.k 0 12 rfl) (Nat.le_of_ble_eq_true rfl) ⟨(Nat.le_of_ble_eq_true rfl), (Nat.le_of_ble_eq_true rfl)⟩ rfl rfl (Nat.le_of_ble_eq_true rfl) ⟨(Nat.le_of_ble_eq_true rfl), (Nat.le_of_ble_eq_true rfl)⟩ (RV.go (fun S6 q6 => ?_))
              refine V_iload_1 268 dX12_cut_268 ?_
              refine V_iload_3 269 dX12_cut_269 ?_
              refine V_iadd 270 dX12_cut_270 ?_
              rw [nI_add]
              refine V_istore_1 271 dX12_cut_271 rfl (Nat.le_of_ble_eq_true rfl) ?_
              refine V_goto 272 291 dX12_cut_272 (by decide) ?_
              exact JB (i + n) (k + 1) S6 _ _ _ _ _ _ (by omega) hq (by omega) (e.tr q6.1) q6.2
            refine V_aload_0 250 dX12_cut_250 ?_
            refine V_iload_3 251 dX12_cut_251 ?_
            refine V_iconst 252 (4) dX12_cut_252 (by decide) ?_
            refine V_icmp_le 253 260 dX12_cut_253 (by decide) (fun c6 => ?_) (fun c6 => ?_)
            ·
              refine V_iconst 260 (2) dX12_cut_260 (by decide) ?_
              exact J265 _
            ·
              refine V_iconst 256 (3) dX12_cut_256 (by decide) ?_
              refine V_goto 257 261 dX12_cut_257 (by decide) ?_
              exact J265 _
          · have hd := (q5.resolve_left (fun q => c5 q.1)).2
            have hin : i + n < z := by
              rcases Nat.lt_or_ge (i + n) z with q | q
              · exact q
              · exact absurd hd (noD (bt_out (by omega)))
            have J244 : ∀ (v : Int32), V M Γ (8, RX12, "cut", none, RM (3) (0) (0)) cX12_cut (RQ M Γ (RV (fun S' => FZ [m + 3, m + 4, m + 5] [(m, 10)] S S')) (0) (0)) 0 0 T 244 [some (.ref m), some (.int (nI i)), some (.int (bt m z T i)), some (.int (nI n)), some (.int v), none, none, none] [] := by
              intro v
              refine V_iinc_3 244 (1) dX12_cut_244 (by decide) rfl (Nat.le_of_ble_eq_true rfl) ?_
              refine V_goto 247 208 dX12_cut_247 (by decide) ?_
              rw [← nI_succ]
              exact ih2 (n + 1, v) (by dsimp only; omega) (by dsimp only; omega)
            refine V_iload_3 221 dX12_cut_221 ?_
            refine V_iconst 222 (4) dX12_cut_222 (by decide) ?_
            refine V_icmp_ge 223 244 dX12_cut_223 (by decide) (fun c6 => ?_) (fun c6 => ?_)
            · exact J244 _
            ·
              refine V_bipush 226 (10) dX12_cut_226 (by decide) ?_
              refine V_iload_4 228 dX12_cut_228 ?_
              refine V_imul 230 dX12_cut_230 ?_
              refine V_aload_0 231 dX12_cut_231 ?_
              refine V_iload_1 232 dX12_cut_232 ?_
              refine V_iload_3 233 dX12_cut_233 ?_
              refine V_iadd 234 dX12_cut_234 ?_
              rw [nI_add]
              refine V_callV 235 (ci := 12) [.int _] _ (s_mbyteAt M.2.1 Γ T FT9 ezT hz (i := i + n) (by omega)) dX12_cut_235 cb_X12_byteAt ml_RX12_215 im_yX12_byteAt se_yX12_byteAt (FT9.m 0 (Nat.le_of_ble_eq_true rfl)) (FT9.k 0 12 rfl) (Nat.le_of_ble_eq_true rfl) ⟨(Nat.le_of_ble_eq_true rfl), (Nat.le_of_ble_eq_true rfl)⟩ rfl rfl (Nat.le_of_ble_eq_true rfl) ⟨(Nat.le_of_ble_eq_true rfl), (Nat.le_of_ble_eq_true rfl)⟩ (RI.go (fun r7 S7 q7 => ?_))
              rw [q7.2]
              refine V_iadd 238 dX12_cut_238 ?_
              refine V_bipush 239 (48) dX12_cut_239 (by decide) ?_
              refine V_isub 241 dX12_cut_241 ?_
              refine V_istore_4 242 dX12_cut_242 rfl (Nat.le_of_ble_eq_true rfl) ?_
              exact J244 _
      · have hL := (q2.resolve_left (fun q => c3 q.1)).2
        refine V_iconst 80 (0) dX12_cut_80 (by decide) ?_
        refine V_istore_3 81 dX12_cut_81 rfl (Nat.le_of_ble_eq_true rfl) ?_
        refine V_lconst 82 0 dX12_cut_82 (by decide) ?_
        refine V_lstore_4 83 dX12_cut_83 rfl (Nat.le_of_ble_eq_true rfl) ?_
        refine V_lvw (lv2 := [some (.ref m), some (.int (nI i)), some (.int (bt m z T i)), some (.int (nI 0)), some (.long 0), none, none, none]) (by repeat (first | exact trivial | refine ⟨rfl, ?_⟩)) ?_
        refine V_while (α := Nat × Int64) (fun q => z - (i + q.1)) (fun q => i + q.1 ≤ z) (fun q => T) (fun q => [some (.ref m), some (.int (nI i)), some (.int (bt m z T i)), some (.int (nI q.1)), some (.long q.2), none, none, none]) (0, 0) (by dsimp only; omega) (fun q hq ih2 => ?_)
        obtain ⟨n, v⟩ := q
        dsimp only at hq ih2 ⊢
        refine V_aload_0 85 dX12_cut_85 ?_
        refine V_iload_1 86 dX12_cut_86 ?_
        refine V_iload_3 87 dX12_cut_87 ?_
        refine V_iadd 88 dX12_cut_88 ?_
        rw [nI_add]
        refine V_callV 89 (ci := 12) [.int _] _ (s_mbyteAt M.2.1 Γ T FT9 ezT hz (i := i + n) (by omega)) dX12_cut_89 cb_X12_byteAt ml_RX12_215 im_yX12_byteAt se_yX12_byteAt (FT9.m 0 (Nat.le_of_ble_eq_true rfl)) (FT9.k 0 12 rfl) (Nat.le_of_ble_eq_true rfl) ⟨(Nat.le_of_ble_eq_true rfl), (Nat.le_of_ble_eq_true rfl)⟩ rfl rfl (Nat.le_of_ble_eq_true rfl) ⟨(Nat.le_of_ble_eq_true rfl), (Nat.le_of_ble_eq_true rfl)⟩ (RI.go (fun r4 S4 q4 => ?_))
        rw [q4.2, q4.1]
        refine V_callS 92 [.int _] _ (s_misLetter2 M.2.1 Γ T _) dX12_cut_92 cb_X12_isLetter ml_RX12_223 sm_yX12_isLetter ⟨(Nat.le_of_ble_eq_true rfl), (Nat.le_of_ble_eq_true rfl)⟩ rfl rfl (Nat.le_of_ble_eq_true rfl) ⟨(Nat.le_of_ble_eq_true rfl), (Nat.le_of_ble_eq_true rfl)⟩ (RI.go (fun r5 S5 q5 => ?_))
        rw [q5.2]
        have q5 := q5.1
        refine V_if_eq 95 124 dX12_cut_95 (by decide) (fun c5 => ?_) (fun c5 => ?_)
        · have hnd := (q5.resolve_right (fun q => absurd (q.1.symm.trans c5) (by decide))).2
          have hn1 : 1 ≤ n := by
            rcases Nat.eq_zero_or_pos n with q | q
            · subst q; exact absurd hL hnd
            · exact q
          have J179 : ∀ (x : Int32) (w7 : Option Value), V M Γ (8, RX12, "cut", none, RM (3) (0) (0)) cX12_cut (RQ M Γ (RV (fun S' => FZ [m + 3, m + 4, m + 5] [(m, 10)] S S')) (0) (0)) 0 0 T 179 [some (.ref m), some (.int (nI i)), some (.int (bt m z T i)), some (.int (nI n)), some (.long v), none, some (.int x), w7] [] := by
            intro x w7
            refine V_aload_0 179 dX12_cut_179 ?_
            refine V_iload_6 180 dX12_cut_180 ?_
            refine V_iload_1 182 dX12_cut_182 ?_
            refine V_iconst 183 (0) dX12_cut_183 (by decide) ?_
            refine V_lload_4 184 dX12_cut_184 ?_
            refine V_callV 186 (ci := 12) [.int _, .int _, .int _, .long _] _ (s_mtoken M.2.1 Γ T FT9 ek hk4 _ _ _ _) dX12_cut_186 cb_X12_token ml_RX12_219 im_yX12_token se_yX12_token (FT9.m 0 (Nat.le_of_ble_eq_true rfl)) (FT9.k 0 12 rfl) (Nat.le_of_ble_eq_true rfl) ⟨(Nat.le_of_ble_eq_true rfl), (Nat.le_of_ble_eq_true rfl)⟩ rfl rfl (Nat.le_of_ble_eq_true rfl) ⟨(Nat.le_of_ble_eq_true rfl), (Nat.le_of_ble_eq_true rfl)⟩ (RV.go (fun S6 q6 => ?_))
            refine V_iload_1 189 dX12_cut_189 ?_
            refine V_iload_3 190 dX12_cut_190 ?_
            refine V_iadd 191 dX12_cut_191 ?_
            rw [nI_add]
            refine V_istore_1 192 dX12_cut_192 rfl (Nat.le_of_ble_eq_true rfl) ?_
            refine V_goto 193 291 dX12_cut_193 (by decide) ?_
            exact JB (i + n) (k + 1) S6 _ _ _ _ _ _ (by omega) hq (by omega) (e.tr q6.1) q6.2
          have J135 : ∀ (x : Int32), V M Γ (8, RX12, "cut", none, RM (3) (0) (0)) cX12_cut (RQ M Γ (RV (fun S' => FZ [m + 3, m + 4, m + 5] [(m, 10)] S S')) (0) (0)) 0 0 T 135 [some (.ref m), some (.int (nI i)), some (.int (bt m z T i)), some (.int (nI n)), some (.long v), none, none, none] [.int x] := by
            intro x
            refine V_istore_6 135 dX12_cut_135 rfl (Nat.le_of_ble_eq_true rfl) ?_
            refine V_iload_3 137 dX12_cut_137 ?_
            refine V_bipush 138 (7) dX12_cut_138 (by decide) ?_
            refine V_icmp_gt 140 179 dX12_cut_140 (by decide) (fun c7 => ?_) (fun c7 => ?_)
            · exact J179 _ _
            ·
              refine V_iconst 143 (0) dX12_cut_143 (by decide) ?_
              refine V_istore_7 144 dX12_cut_144 rfl (Nat.le_of_ble_eq_true rfl) ?_
              refine V_while (α := Nat × Int32) (fun q => 22 - q.1) (fun q => q.1 ≤ 22) (fun q => T) (fun q => [some (.ref m), some (.int (nI i)), some (.int (bt m z T i)), some (.int (nI n)), some (.long v), none, some (.int q.2), some (.int (nI q.1))]) (0, x) (Nat.zero_le _) (fun q hq ih3 => ?_)
              obtain ⟨j, x2⟩ := q
              dsimp only at hq ih3 ⊢
              have J173 : j < 22 → ∀ (x : Int32), V M Γ (8, RX12, "cut", none, RM (3) (0) (0)) cX12_cut (RQ M Γ (RV (fun S' => FZ [m + 3, m + 4, m + 5] [(m, 10)] S S')) (0) (0)) 0 0 T 173 [some (.ref m), some (.int (nI i)), some (.int (bt m z T i)), some (.int (nI n)), some (.long v), none, some (.int x), some (.int (nI j))] [] := by
                intro hj x
                refine V_iinc_7 173 (1) dX12_cut_173 (by decide) rfl (Nat.le_of_ble_eq_true rfl) ?_
                refine V_goto 176 146 dX12_cut_176 (by decide) ?_
                rw [← nI_succ]
                exact ih3 (j + 1, x) (by dsimp only; omega) (by dsimp only; omega)
              refine V_iload_7 146 dX12_cut_146 ?_
              refine V_bipush 148 (22) dX12_cut_148 (by decide) ?_
              refine V_icmp_ge 150 179 dX12_cut_150 (by decide) (fun c8 => ?_) (fun c8 => ?_)
              · exact J179 _ _
              · have hj := nI_lt8 (by decide) hq c8
                refine V_aload_0 153 dX12_cut_153 ?_
                refine V_getR 154 (c := 12) 9 (FT9.r 0 9 7 rfl) dX12_cut_154 fl_RX12_34 (FT9.m 0 (Nat.le_of_ble_eq_true rfl)) (FT9.k 0 12 rfl) (Nat.le_of_ble_eq_true rfl) (Nat.le_of_ble_eq_true rfl) rfl ?_
                refine V_iload_7 157 dX12_cut_157 ?_
                refine V_laload2 159 dX12_cut_159 (FT9.m 7 (Nat.le_of_ble_eq_true rfl)) (FT9.k 7 15 rfl) (FT9.l 7 22 rfl) ?_ ?_
                · exact vp_in_nI (by omega) (by decide)
                refine V_lload_4 160 dX12_cut_160 ?_
                refine V_lcmp 162 dX12_cut_162 ?_
                refine V_if_ne 163 173 dX12_cut_163 (by decide) (fun c9 => ?_) (fun c9 => ?_)
                · exact J173 hj _
                ·
                  refine V_bipush 166 (20) dX12_cut_166 (by decide) ?_
                  refine V_iload_7 168 dX12_cut_168 ?_
                  refine V_iadd 170 dX12_cut_170 ?_
                  refine V_istore_6 171 dX12_cut_171 rfl (Nat.le_of_ble_eq_true rfl) ?_
                  exact J173 hj _
          refine V_iload_3 124 dX12_cut_124 ?_
          refine V_bipush 125 (8) dX12_cut_125 (by decide) ?_
          refine V_icmp_le 127 134 dX12_cut_127 (by decide) (fun c6 => ?_) (fun c6 => ?_)
          ·
            refine V_iconst 134 (1) dX12_cut_134 (by decide) ?_
            exact J135 _
          ·
            refine V_iconst 130 (3) dX12_cut_130 (by decide) ?_
            refine V_goto 131 135 dX12_cut_131 (by decide) ?_
            exact J135 _
        · have hd := (q5.resolve_left (fun q => c5 q.1)).2
          have hin : i + n < z := by
            rcases Nat.lt_or_ge (i + n) z with q | q
            · exact q
            · exact absurd hd (noL (bt_out (by omega)))
          have J118 : ∀ (v : Int64), V M Γ (8, RX12, "cut", none, RM (3) (0) (0)) cX12_cut (RQ M Γ (RV (fun S' => FZ [m + 3, m + 4, m + 5] [(m, 10)] S S')) (0) (0)) 0 0 T 118 [some (.ref m), some (.int (nI i)), some (.int (bt m z T i)), some (.int (nI n)), some (.long v), none, none, none] [] := by
            intro v
            refine V_iinc_3 118 (1) dX12_cut_118 (by decide) rfl (Nat.le_of_ble_eq_true rfl) ?_
            refine V_goto 121 85 dX12_cut_121 (by decide) ?_
            rw [← nI_succ]
            exact ih2 (n + 1, v) (by dsimp only; omega) (by dsimp only; omega)
          refine V_iload_3 98 dX12_cut_98 ?_
          refine V_bipush 99 (8) dX12_cut_99 (by decide) ?_
          refine V_icmp_ge 101 118 dX12_cut_101 (by decide) (fun c6 => ?_) (fun c6 => ?_)
          · exact J118 _
          ·
            refine V_lload_4 104 dX12_cut_104 ?_
            refine V_aload_0 106 dX12_cut_106 ?_
            refine V_iload_1 107 dX12_cut_107 ?_
            refine V_iload_3 108 dX12_cut_108 ?_
            refine V_iadd 109 dX12_cut_109 ?_
            rw [nI_add]
            refine V_callV 110 (ci := 12) [.int _] _ (s_mbyteAt M.2.1 Γ T FT9 ezT hz (i := i + n) (by omega)) dX12_cut_110 cb_X12_byteAt ml_RX12_215 im_yX12_byteAt se_yX12_byteAt (FT9.m 0 (Nat.le_of_ble_eq_true rfl)) (FT9.k 0 12 rfl) (Nat.le_of_ble_eq_true rfl) ⟨(Nat.le_of_ble_eq_true rfl), (Nat.le_of_ble_eq_true rfl)⟩ rfl rfl (Nat.le_of_ble_eq_true rfl) ⟨(Nat.le_of_ble_eq_true rfl), (Nat.le_of_ble_eq_true rfl)⟩ (RI.go (fun r7 S7 q7 => ?_))
            rw [q7.2]
            refine V_callS 113 [.long _, .int _] _ (s_mappends M.2.1 Γ T _ _) dX12_cut_113 cb_X12_appends ml_RX12_208 sm_yX12_appends ⟨(Nat.le_of_ble_eq_true rfl), (Nat.le_of_ble_eq_true rfl)⟩ rfl rfl (Nat.le_of_ble_eq_true rfl) ⟨(Nat.le_of_ble_eq_true rfl), (Nat.le_of_ble_eq_true rfl)⟩ (RLg.go (fun r8 S8 q8 => ?_))
            rw [q8]
            refine V_lstore_4 116 dX12_cut_116 rfl (Nat.le_of_ble_eq_true rfl) ?_
            exact J118 _
    ·
      refine V_aload_0 31 dX12_cut_31 ?_
      refine V_iconst 32 (0) dX12_cut_32 (by decide) ?_
      refine V_aload_0 33 dX12_cut_33 ?_
      refine V_getI 34 (c := 12) 4 dX12_cut_34 fl_RX12_203 (FT9.m 0 (Nat.le_of_ble_eq_true rfl)) (FT9.k 0 12 rfl) (Nat.le_of_ble_eq_true rfl) (Nat.le_of_ble_eq_true rfl) rfl ?_
      rw [ezT]
      refine V_iconst 37 (0) dX12_cut_37 (by decide) ?_
      refine V_lconst 38 0 dX12_cut_38 (by decide) ?_
      refine V_callV 39 (ci := 12) [.int _, .int _, .int _, .long _] _ (s_mtoken M.2.1 Γ T FT9 ek hk4 _ _ _ _) dX12_cut_39 cb_X12_token ml_RX12_219 im_yX12_token se_yX12_token (FT9.m 0 (Nat.le_of_ble_eq_true rfl)) (FT9.k 0 12 rfl) (Nat.le_of_ble_eq_true rfl) ⟨(Nat.le_of_ble_eq_true rfl), (Nat.le_of_ble_eq_true rfl)⟩ rfl rfl (Nat.le_of_ble_eq_true rfl) ⟨(Nat.le_of_ble_eq_true rfl), (Nat.le_of_ble_eq_true rfl)⟩ (RV.go (fun S6 q6 => ?_))
      refine V_vret 42 dX12_cut_42 rfl (Nat.le_of_ble_eq_true rfl) (Nat.le_of_ble_eq_true rfl) (RV.mk (e.tr q6.1))

