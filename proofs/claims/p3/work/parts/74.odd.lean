/-! The reference's odd ones -/
theorem shl1 : ∀ n, n < 31 → (1 : Int32) <<< (nI n &&& 31) = nI (2 ^ n) := by decide +kernel
theorem shlN {y : Int32} {n : Nat} (e : y = nI n) (h : n < 31) : (1 : Int32) <<< (y &&& 31) = nI (2 ^ n) := by rw [e]; exact shl1 n h
theorem smod32 : ∀ n, n < 31 → ((nI n &&& 31).toBitVec.smod 32).toNat = n := by decide +kernel
theorem shrN {x y : Int32} {s n : Nat} (ex : x = nI s) (ey : y = nI n) (hs : s < 2 ^ 31) (hn : n < 31) : x >>> (y &&& 31) = nI (s / 2 ^ n) := by
  subst ex ey
  apply Int32.toInt_inj.mp
  have hd : s / 2 ^ n ≤ s := Nat.div_le_self _ _
  rw [nI_toInt (by omega)]
  show ((nI s) >>> (nI n &&& 31)).toBitVec.toInt = _
  rw [Int32.toBitVec_shiftRight]
  show ((nI s).toBitVec.sshiftRight ((nI n &&& 31).toBitVec.smod 32).toNat).toInt = _
  rw [smod32 n hn, BitVec.toInt_sshiftRight, Int.shiftRight_eq_div_pow]
  have e : (nI s).toBitVec.toInt = (s : Int) := nI_toInt hs
  rw [e]
  simp
theorem andE (s : Nat) (z : Int32) (hs : s < 2 ^ 31) : ∃ j, j ≤ s ∧ nI s &&& z = nI j := by
  refine ⟨s &&& z.toBitVec.toNat, Nat.and_le_left, ?_⟩
  apply Int32.toBitVec_inj.mp
  rw [Int32.toBitVec_and]
  show _ = (Int32.ofNat _).toBitVec
  rw [Int32.toBitVec_ofNat']
  apply BitVec.eq_of_toNat_eq
  have e : (nI s).toBitVec.toNat = s := by
    show (Int32.ofNat s).toBitVec.toNat = s
    rw [Int32.toBitVec_ofNat', BitVec.toNat_ofNat]
    omega
  have h2 : s &&& z.toBitVec.toNat ≤ s := Nat.and_le_left
  rw [BitVec.toNat_and, e, BitVec.toNat_ofNat]
  omega
theorem andN {x : Int32} {s : Nat} (e : x = nI s) (h : s < 2 ^ 31) : x &&& 1 = nI (s % 2) := by
  rw [e, ← Nat.and_one_is_mod]
  apply Int32.toBitVec_inj.mp
  rw [Int32.toBitVec_and]
  show _ = (Int32.ofNat _).toBitVec
  rw [Int32.toBitVec_ofNat']
  apply BitVec.eq_of_toNat_eq
  have e2 : (nI s).toBitVec.toNat = s := by
    show (Int32.ofNat s).toBitVec.toNat = s
    rw [Int32.toBitVec_ofNat', BitVec.toNat_ofNat]
    omega
  have h2 : s &&& 1 ≤ s := Nat.and_le_left
  rw [BitVec.toNat_and, e2, BitVec.toNat_ofNat, show (1 : Int32).toBitVec.toNat = 1 from by decide]
  omega
theorem vpAnd {s len : Nat} {z : Int32} (h : s < len) (hl : len < 2 ^ 31) : vp_in (nI s &&& z) len := by
  obtain ⟨j, hj, e⟩ := andE s z (by omega)
  rw [e]; exact vp_in_nI (by omega) hl
theorem vpAnd2 {s len : Nat} {z z2 : Int32} (h : s < len) (hl : len < 2 ^ 31) : vp_in (nI s &&& z &&& z2) len := by
  obtain ⟨j, hj, e⟩ := andE s z (by omega)
  rw [e]; exact vpAnd (by omega) hl
theorem modStep {s i : Nat} (h : s % 2 ^ i = 0) (h2 : s / 2 ^ i % 2 = 0) : s % 2 ^ (i + 1) = 0 := by
  rw [Nat.pow_succ, Nat.mod_mul, h, h2]
  simp
theorem bitN {s i n : Nat} (h0 : 1 ≤ s) (h1 : s < 2 ^ n) (h : s % 2 ^ i = 0) (hi : i ≤ n) : i < n := by
  rcases Nat.lt_or_ge i n with q | q
  · exact q
  · have : i = n := by omega
    subst this
    rw [Nat.mod_eq_of_lt h1] at h
    omega
theorem sumN_mono {f : Nat → Nat} : ∀ a b, a ≤ b → sumN f a ≤ sumN f b := by
  intro a b h
  induction b with
  | zero => have : a = 0 := by omega
            rw [this]; exact Nat.le_refl _
  | succ b ih =>
    by_cases q : a = b + 1
    · rw [q]; exact Nat.le_refl _
    · have := ih (by omega)
      show _ ≤ sumN f b + f b
      omega
set_option maxRecDepth 100000 in
set_option maxHeartbeats 8000000 in
theorem s_munlikeBy (l : Launch) (Γ : GC) (S : PS) {m : Nat} {g : MG} (F : isL lyModel Γ.2.2.2.2.1 S m) (h : TXT m g S) {a b : Nat} (ha : a < gK g) (hb : b < gK g) : CT l Γ yX12_unlikeBy cX12_unlikeBy 3 (some .int) (0) (0) (0) [.ref m, .int (nI a), .int (nI b)] S (RI (fun r S' => True ∧ S' = S)) := by
  refine CT.of RX12 "unlikeBy" [some (.ref m), some (.int (nI a)), some (.int (nI b))] (by decide +kernel) rfl rfl (Nat.le_of_ble_eq_true rfl) rfl (fun M hM => ?_)
  subst hM
  have hl := h.l2
  have hK := h.k8
  have pa := h.pl8 ha
  have pb := h.pl8 hb
  refine V_aload_0 0 dX12_unlikeBy_0 ?_
  refine V_getR 1 (c := 12) 29 (F.r 0 29 17 rfl) dX12_unlikeBy_1 fl_RX12_67 (F.m 0 (Nat.le_of_ble_eq_true rfl)) (F.k 0 12 rfl) (Nat.le_of_ble_eq_true rfl) (Nat.le_of_ble_eq_true rfl) rfl ?_
  refine V_bipush 4 (64) dX12_unlikeBy_4 (by decide) ?_
  refine V_aload_0 6 dX12_unlikeBy_6 ?_
  refine V_getI 7 (c := 12) 18 dX12_unlikeBy_7 fl_RX12_264 (F.m 0 (Nat.le_of_ble_eq_true rfl)) (F.k 0 12 rfl) (Nat.le_of_ble_eq_true rfl) (Nat.le_of_ble_eq_true rfl) rfl ?_
  rw [h.lv]
  refine V_imul 10 dX12_unlikeBy_10 ?_
  refine V_bipush 11 (8) dX12_unlikeBy_11 (by decide) ?_
  refine V_aload_0 13 dX12_unlikeBy_13 ?_
  refine V_getR 14 (c := 12) 26 (F.r 0 26 14 rfl) dX12_unlikeBy_14 fl_RX12_58 (F.m 0 (Nat.le_of_ble_eq_true rfl)) (F.k 0 12 rfl) (Nat.le_of_ble_eq_true rfl) (Nat.le_of_ble_eq_true rfl) rfl ?_
  refine V_bipush 17 (8) dX12_unlikeBy_17 (by decide) ?_
  refine V_aload_0 19 dX12_unlikeBy_19 ?_
  refine V_getI 20 (c := 12) 18 dX12_unlikeBy_20 fl_RX12_264 (F.m 0 (Nat.le_of_ble_eq_true rfl)) (F.k 0 12 rfl) (Nat.le_of_ble_eq_true rfl) (Nat.le_of_ble_eq_true rfl) rfl ?_
  rw [h.lv]
  refine V_imul 23 dX12_unlikeBy_23 ?_
  refine V_iload_1 24 dX12_unlikeBy_24 ?_
  refine V_iadd 25 dX12_unlikeBy_25 ?_
  refine V_iaload2 26 dX12_unlikeBy_26 (F.m 14 (Nat.le_of_ble_eq_true rfl)) (F.k 14 14 rfl) (F.l 14 16 rfl) ?_ ?_
  · exact vpN (eqAdd (eqMul (show (8 : Int32) = nI 8 from rfl) (Eq.refl (nI (gl g)))) (Eq.refl (nI a))) (by omega) (by decide)
  rw [clN (eqAdd (eqMul (show (8 : Int32) = nI 8 from rfl) (Eq.refl (nI (gl g)))) (Eq.refl (nI a))) (by omega)]
  rw [h.pl ha]
  refine V_imul 27 dX12_unlikeBy_27 ?_
  refine V_iadd 28 dX12_unlikeBy_28 ?_
  refine V_aload_0 29 dX12_unlikeBy_29 ?_
  refine V_getR 30 (c := 12) 26 (F.r 0 26 14 rfl) dX12_unlikeBy_30 fl_RX12_58 (F.m 0 (Nat.le_of_ble_eq_true rfl)) (F.k 0 12 rfl) (Nat.le_of_ble_eq_true rfl) (Nat.le_of_ble_eq_true rfl) rfl ?_
  refine V_bipush 33 (8) dX12_unlikeBy_33 (by decide) ?_
  refine V_aload_0 35 dX12_unlikeBy_35 ?_
  refine V_getI 36 (c := 12) 18 dX12_unlikeBy_36 fl_RX12_264 (F.m 0 (Nat.le_of_ble_eq_true rfl)) (F.k 0 12 rfl) (Nat.le_of_ble_eq_true rfl) (Nat.le_of_ble_eq_true rfl) rfl ?_
  rw [h.lv]
  refine V_imul 39 dX12_unlikeBy_39 ?_
  refine V_iload_2 40 dX12_unlikeBy_40 ?_
  refine V_iadd 41 dX12_unlikeBy_41 ?_
  refine V_iaload2 42 dX12_unlikeBy_42 (F.m 14 (Nat.le_of_ble_eq_true rfl)) (F.k 14 14 rfl) (F.l 14 16 rfl) ?_ ?_
  · exact vpN (eqAdd (eqMul (show (8 : Int32) = nI 8 from rfl) (Eq.refl (nI (gl g)))) (Eq.refl (nI b))) (by omega) (by decide)
  rw [clN (eqAdd (eqMul (show (8 : Int32) = nI 8 from rfl) (Eq.refl (nI (gl g)))) (Eq.refl (nI b))) (by omega)]
  rw [h.pl hb]
  refine V_iadd 43 dX12_unlikeBy_43 ?_
  refine V_iaload2 44 dX12_unlikeBy_44 (F.m 17 (Nat.le_of_ble_eq_true rfl)) (F.k 17 14 rfl) (F.l 17 128 rfl) ?_ ?_
  · exact vpN (eqAdd (eqAdd (eqMul (show (64 : Int32) = nI 64 from rfl) (Eq.refl (nI (gl g)))) (eqMul (show (8 : Int32) = nI 8 from rfl) (Eq.refl (nI (gAt g a))))) (Eq.refl (nI (gAt g b)))) (by omega) (by decide)
  refine V_iret 45 .int dX12_unlikeBy_45 rfl rfl (Nat.le_of_ble_eq_true rfl) (Nat.le_of_ble_eq_true rfl) (RI.mk ⟨trivial, rfl⟩)
set_option maxRecDepth 100000 in
set_option maxHeartbeats 8000000 in
theorem s_mcanPair (l : Launch) (Γ : GC) (S : PS) {m : Nat} {g : MG} (F : isL lyModel Γ.2.2.2.2.1 S m) (h : TXT m g S) {a b : Nat} (ha : a < gK g) (hb : b < gK g) : CT l Γ yX12_canPair cX12_canPair 6 (some .boolean) (1) (0) (0) [.ref m, .int (nI a), .int (nI b)] S (RI (fun r S' => (r = 0 ∨ r = 1) ∧ FZ [] [] S S')) := by
  refine CT.of RX12 "canPair" [some (.ref m), some (.int (nI a)), some (.int (nI b)), none, none, none] (by decide +kernel) rfl rfl (Nat.le_of_ble_eq_true rfl) rfl (fun M hM => ?_)
  subst hM
  have hl := h.l2
  have hK := h.k8
  have J3 : ∀ (S1 : PS) (x4 : Int32) (x5 : Int32) (x6 : Int32), FZ [] [] S S1 → (x4 = 0 ∨ x4 = 1) → (x5 = 0 ∨ x5 = 1) → (x6 = 0 ∨ x6 = 1) → V M Γ (6, RX12, "canPair", (some .boolean), RM (1) (0) (0)) cX12_canPair (RQ M Γ (RI (fun r S' => (r = 0 ∨ r = 1) ∧ FZ [] [] S S')) (0) (0)) 0 0 S1 114 [some (.ref m), some (.int (nI a)), some (.int (nI b)), some (.int x4), some (.int x5), some (.int x6)] [] := by
    intro S1 x4 x5 x6 h2 hb_x4 hb_x5 hb_x6
    refine V_iconst 114 (0) dX12_canPair_114 (by decide) ?_
    refine V_iret 115 .boolean dX12_canPair_115 rfl (nrwB (Or.inl rfl)) (Nat.le_of_ble_eq_true rfl) (Nat.le_of_ble_eq_true rfl) (RI.mk ⟨(Or.inl rfl), h2⟩)
  have J9 : ∀ (S7 : PS) (x10 : Int32) (x11 : Int32), FZ [] [] S S7 → (x10 = 0 ∨ x10 = 1) → (x11 = 0 ∨ x11 = 1) → V M Γ (6, RX12, "canPair", (some .boolean), RM (1) (0) (0)) cX12_canPair (RQ M Γ (RI (fun r S' => (r = 0 ∨ r = 1) ∧ FZ [] [] S S')) (0) (0)) 0 0 S7 80 [some (.ref m), some (.int (nI a)), some (.int (nI b)), some (.int x10), some (.int x11), none] [] := by
    intro S7 x10 x11 h8 hb_x10 hb_x11
    refine V_iconst 80 (1) dX12_canPair_80 (by decide) ?_
    refine V_goto 81 85 dX12_canPair_81 (by decide) ?_
    refine V_istore_5 85 dX12_canPair_85 rfl (Nat.le_of_ble_eq_true rfl) ?_
    refine V_iload_5 87 dX12_canPair_87 ?_
    refine V_if_eq 89 114 dX12_canPair_89 (by decide) (fun c12 => ?_) (fun c12 => ?_)
    ·
      try have nf13 := (nI_eqE (show (1 : Int32) = nI 1 from rfl) (show (0 : Int32) = nI 0 from rfl) (by omega) (by omega)).mp c12
      refine V_lvw (by repeat (first | exact trivial | refine ⟨rfl, ?_⟩)) (J3 _ _ _ _ h8 hb_x10 hb_x11 (Or.inr rfl))
    ·
      try have nf15 := mt (nI_eqE (show (1 : Int32) = nI 1 from rfl) (show (0 : Int32) = nI 0 from rfl) (by omega) (by omega)).mpr c12
      refine V_aload_0 92 dX12_canPair_92 ?_
      refine V_iload_1 93 dX12_canPair_93 ?_
      refine V_iload_2 94 dX12_canPair_94 ?_
      refine V_callV 95 (ci := 12) [.int _, .int _] _ (s_munlikeBy M.2.1 Γ S7 (F.ss h8.1) (h.z [] [] h8 rfl rfl rfl rfl) ha hb) dX12_canPair_95 cb_X12_unlikeBy ml_RX12_409 im_yX12_unlikeBy se_yX12_unlikeBy ((F.ss h8.1).m 0 (Nat.le_of_ble_eq_true rfl)) ((F.ss h8.1).k 0 12 rfl) (Nat.le_of_ble_eq_true rfl) ⟨(Nat.le_of_ble_eq_true rfl), (Nat.le_of_ble_eq_true rfl)⟩ rfl rfl (Nat.le_of_ble_eq_true rfl) ⟨(Nat.le_of_ble_eq_true rfl), (Nat.le_of_ble_eq_true rfl)⟩ (RI.go (fun r18 S16 q17 => ?_))
      rw [q17.2]
      refine V_aload_0 98 dX12_canPair_98 ?_
      refine V_getR 99 (c := 12) 30 ((F.ss h8.1).r 0 30 18 rfl) dX12_canPair_99 fl_RX12_70 ((F.ss h8.1).m 0 (Nat.le_of_ble_eq_true rfl)) ((F.ss h8.1).k 0 12 rfl) (Nat.le_of_ble_eq_true rfl) (Nat.le_of_ble_eq_true rfl) rfl ?_
      refine V_aload_0 102 dX12_canPair_102 ?_
      refine V_getI 103 (c := 12) 18 dX12_canPair_103 fl_RX12_264 ((F.ss h8.1).m 0 (Nat.le_of_ble_eq_true rfl)) ((F.ss h8.1).k 0 12 rfl) (Nat.le_of_ble_eq_true rfl) (Nat.le_of_ble_eq_true rfl) rfl ?_
      rw [(h.z [] [] h8 rfl rfl rfl rfl).lv]
      refine V_iaload2 106 dX12_canPair_106 ((F.ss h8.1).m 18 (Nat.le_of_ble_eq_true rfl)) ((F.ss h8.1).k 18 14 rfl) ((F.ss h8.1).l 18 2 rfl) ?_ ?_
      · exact vpN (Eq.refl (nI (gl g))) (by omega) (by decide)
      refine V_icmp_gt 107 114 dX12_canPair_107 (by decide) (fun c19 => ?_) (fun c19 => ?_)
      ·
        refine V_lvw (by repeat (first | exact trivial | refine ⟨rfl, ?_⟩)) (J3 _ _ _ _ h8 hb_x10 hb_x11 (Or.inr rfl))
      ·
        refine V_iconst 110 (1) dX12_canPair_110 (by decide) ?_
        refine V_goto 111 115 dX12_canPair_111 (by decide) ?_
        refine V_iret 115 .boolean dX12_canPair_115 rfl (nrwB (Or.inr rfl)) (Nat.le_of_ble_eq_true rfl) (Nat.le_of_ble_eq_true rfl) (RI.mk ⟨(Or.inr rfl), h8⟩)
  have J23 : ∀ (S21 : PS) (x24 : Int32) (x25 : Int32), FZ [] [] S S21 → (x24 = 0 ∨ x24 = 1) → (x25 = 0 ∨ x25 = 1) → V M Γ (6, RX12, "canPair", (some .boolean), RM (1) (0) (0)) cX12_canPair (RQ M Γ (RI (fun r S' => (r = 0 ∨ r = 1) ∧ FZ [] [] S S')) (0) (0)) 0 0 S21 40 [some (.ref m), some (.int (nI a)), some (.int (nI b)), some (.int x24), some (.int x25), none] [] := by
    intro S21 x24 x25 h22 hb_x24 hb_x25
    refine V_iload_3 40 dX12_canPair_40 ?_
    refine V_if_ne 41 84 dX12_canPair_41 (by decide) (fun c26 => ?_) (fun c26 => ?_)
    ·
      refine V_iconst 84 (0) dX12_canPair_84 (by decide) ?_
      refine V_istore_5 85 dX12_canPair_85 rfl (Nat.le_of_ble_eq_true rfl) ?_
      refine V_iload_5 87 dX12_canPair_87 ?_
      refine V_if_eq 89 114 dX12_canPair_89 (by decide) (fun c27 => ?_) (fun c27 => ?_)
      ·
        try have nf28 := (nI_eqE (show (0 : Int32) = nI 0 from rfl) (show (0 : Int32) = nI 0 from rfl) (by omega) (by omega)).mp c27
        refine V_lvw (by repeat (first | exact trivial | refine ⟨rfl, ?_⟩)) (J3 _ _ _ _ h22 hb_x24 hb_x25 (Or.inl rfl))
      ·
        try have nf30 := mt (nI_eqE (show (0 : Int32) = nI 0 from rfl) (show (0 : Int32) = nI 0 from rfl) (by omega) (by omega)).mpr c27
        refine V_aload_0 92 dX12_canPair_92 ?_
        refine V_iload_1 93 dX12_canPair_93 ?_
        refine V_iload_2 94 dX12_canPair_94 ?_
        refine V_callV 95 (ci := 12) [.int _, .int _] _ (s_munlikeBy M.2.1 Γ S21 (F.ss h22.1) (h.z [] [] h22 rfl rfl rfl rfl) ha hb) dX12_canPair_95 cb_X12_unlikeBy ml_RX12_409 im_yX12_unlikeBy se_yX12_unlikeBy ((F.ss h22.1).m 0 (Nat.le_of_ble_eq_true rfl)) ((F.ss h22.1).k 0 12 rfl) (Nat.le_of_ble_eq_true rfl) ⟨(Nat.le_of_ble_eq_true rfl), (Nat.le_of_ble_eq_true rfl)⟩ rfl rfl (Nat.le_of_ble_eq_true rfl) ⟨(Nat.le_of_ble_eq_true rfl), (Nat.le_of_ble_eq_true rfl)⟩ (RI.go (fun r33 S31 q32 => ?_))
        rw [q32.2]
        refine V_aload_0 98 dX12_canPair_98 ?_
        refine V_getR 99 (c := 12) 30 ((F.ss h22.1).r 0 30 18 rfl) dX12_canPair_99 fl_RX12_70 ((F.ss h22.1).m 0 (Nat.le_of_ble_eq_true rfl)) ((F.ss h22.1).k 0 12 rfl) (Nat.le_of_ble_eq_true rfl) (Nat.le_of_ble_eq_true rfl) rfl ?_
        refine V_aload_0 102 dX12_canPair_102 ?_
        refine V_getI 103 (c := 12) 18 dX12_canPair_103 fl_RX12_264 ((F.ss h22.1).m 0 (Nat.le_of_ble_eq_true rfl)) ((F.ss h22.1).k 0 12 rfl) (Nat.le_of_ble_eq_true rfl) (Nat.le_of_ble_eq_true rfl) rfl ?_
        rw [(h.z [] [] h22 rfl rfl rfl rfl).lv]
        refine V_iaload2 106 dX12_canPair_106 ((F.ss h22.1).m 18 (Nat.le_of_ble_eq_true rfl)) ((F.ss h22.1).k 18 14 rfl) ((F.ss h22.1).l 18 2 rfl) ?_ ?_
        · exact vpN (Eq.refl (nI (gl g))) (by omega) (by decide)
        refine V_icmp_gt 107 114 dX12_canPair_107 (by decide) (fun c34 => ?_) (fun c34 => ?_)
        ·
          refine V_lvw (by repeat (first | exact trivial | refine ⟨rfl, ?_⟩)) (J3 _ _ _ _ h22 hb_x24 hb_x25 (Or.inl rfl))
        ·
          refine V_iconst 110 (1) dX12_canPair_110 (by decide) ?_
          refine V_goto 111 115 dX12_canPair_111 (by decide) ?_
          refine V_iret 115 .boolean dX12_canPair_115 rfl (nrwB (Or.inr rfl)) (Nat.le_of_ble_eq_true rfl) (Nat.le_of_ble_eq_true rfl) (RI.mk ⟨(Or.inr rfl), h22⟩)
    ·
      refine V_iload_4 44 dX12_canPair_44 ?_
      refine V_if_ne 46 84 dX12_canPair_46 (by decide) (fun c36 => ?_) (fun c36 => ?_)
      ·
        refine V_iconst 84 (0) dX12_canPair_84 (by decide) ?_
        refine V_istore_5 85 dX12_canPair_85 rfl (Nat.le_of_ble_eq_true rfl) ?_
        refine V_iload_5 87 dX12_canPair_87 ?_
        refine V_if_eq 89 114 dX12_canPair_89 (by decide) (fun c37 => ?_) (fun c37 => ?_)
        ·
          try have nf38 := (nI_eqE (show (0 : Int32) = nI 0 from rfl) (show (0 : Int32) = nI 0 from rfl) (by omega) (by omega)).mp c37
          refine V_lvw (by repeat (first | exact trivial | refine ⟨rfl, ?_⟩)) (J3 _ _ _ _ h22 hb_x24 hb_x25 (Or.inl rfl))
        ·
          try have nf40 := mt (nI_eqE (show (0 : Int32) = nI 0 from rfl) (show (0 : Int32) = nI 0 from rfl) (by omega) (by omega)).mpr c37
          refine V_aload_0 92 dX12_canPair_92 ?_
          refine V_iload_1 93 dX12_canPair_93 ?_
          refine V_iload_2 94 dX12_canPair_94 ?_
          refine V_callV 95 (ci := 12) [.int _, .int _] _ (s_munlikeBy M.2.1 Γ S21 (F.ss h22.1) (h.z [] [] h22 rfl rfl rfl rfl) ha hb) dX12_canPair_95 cb_X12_unlikeBy ml_RX12_409 im_yX12_unlikeBy se_yX12_unlikeBy ((F.ss h22.1).m 0 (Nat.le_of_ble_eq_true rfl)) ((F.ss h22.1).k 0 12 rfl) (Nat.le_of_ble_eq_true rfl) ⟨(Nat.le_of_ble_eq_true rfl), (Nat.le_of_ble_eq_true rfl)⟩ rfl rfl (Nat.le_of_ble_eq_true rfl) ⟨(Nat.le_of_ble_eq_true rfl), (Nat.le_of_ble_eq_true rfl)⟩ (RI.go (fun r43 S41 q42 => ?_))
          rw [q42.2]
          refine V_aload_0 98 dX12_canPair_98 ?_
          refine V_getR 99 (c := 12) 30 ((F.ss h22.1).r 0 30 18 rfl) dX12_canPair_99 fl_RX12_70 ((F.ss h22.1).m 0 (Nat.le_of_ble_eq_true rfl)) ((F.ss h22.1).k 0 12 rfl) (Nat.le_of_ble_eq_true rfl) (Nat.le_of_ble_eq_true rfl) rfl ?_
          refine V_aload_0 102 dX12_canPair_102 ?_
          refine V_getI 103 (c := 12) 18 dX12_canPair_103 fl_RX12_264 ((F.ss h22.1).m 0 (Nat.le_of_ble_eq_true rfl)) ((F.ss h22.1).k 0 12 rfl) (Nat.le_of_ble_eq_true rfl) (Nat.le_of_ble_eq_true rfl) rfl ?_
          rw [(h.z [] [] h22 rfl rfl rfl rfl).lv]
          refine V_iaload2 106 dX12_canPair_106 ((F.ss h22.1).m 18 (Nat.le_of_ble_eq_true rfl)) ((F.ss h22.1).k 18 14 rfl) ((F.ss h22.1).l 18 2 rfl) ?_ ?_
          · exact vpN (Eq.refl (nI (gl g))) (by omega) (by decide)
          refine V_icmp_gt 107 114 dX12_canPair_107 (by decide) (fun c44 => ?_) (fun c44 => ?_)
          ·
            refine V_lvw (by repeat (first | exact trivial | refine ⟨rfl, ?_⟩)) (J3 _ _ _ _ h22 hb_x24 hb_x25 (Or.inl rfl))
          ·
            refine V_iconst 110 (1) dX12_canPair_110 (by decide) ?_
            refine V_goto 111 115 dX12_canPair_111 (by decide) ?_
            refine V_iret 115 .boolean dX12_canPair_115 rfl (nrwB (Or.inr rfl)) (Nat.le_of_ble_eq_true rfl) (Nat.le_of_ble_eq_true rfl) (RI.mk ⟨(Or.inr rfl), h22⟩)
      ·
        refine V_iload_1 49 dX12_canPair_49 ?_
        refine V_aload_0 50 dX12_canPair_50 ?_
        refine V_iload_1 51 dX12_canPair_51 ?_
        refine V_callV 52 (ci := 12) [.int _] _ (s_mpartner M.2.1 Γ S21 (F.ss h22.1) (h.z [] [] h22 rfl rfl rfl rfl) (show (a) < gK g by omega)) dX12_canPair_52 cb_X12_partner ml_RX12_349 im_yX12_partner se_yX12_partner ((F.ss h22.1).m 0 (Nat.le_of_ble_eq_true rfl)) ((F.ss h22.1).k 0 12 rfl) (Nat.le_of_ble_eq_true rfl) ⟨(Nat.le_of_ble_eq_true rfl), (Nat.le_of_ble_eq_true rfl)⟩ rfl rfl (Nat.le_of_ble_eq_true rfl) ⟨(Nat.le_of_ble_eq_true rfl), (Nat.le_of_ble_eq_true rfl)⟩ (RI.go (fun r48 S46 q47 => ?_))
        rw [q47.2]
        refine V_icmp_ge 55 62 dX12_canPair_55 (by decide) (fun c49 => ?_) (fun c49 => ?_)
        ·
          refine V_iconst 62 (0) dX12_canPair_62 (by decide) ?_
          refine V_iload_2 63 dX12_canPair_63 ?_
          refine V_aload_0 64 dX12_canPair_64 ?_
          refine V_iload_2 65 dX12_canPair_65 ?_
          refine V_callV 66 (ci := 12) [.int _] _ (s_mpartner M.2.1 Γ S21 (F.ss h22.1) (h.z [] [] h22 rfl rfl rfl rfl) (show (b) < gK g by omega)) dX12_canPair_66 cb_X12_partner ml_RX12_349 im_yX12_partner se_yX12_partner ((F.ss h22.1).m 0 (Nat.le_of_ble_eq_true rfl)) ((F.ss h22.1).k 0 12 rfl) (Nat.le_of_ble_eq_true rfl) ⟨(Nat.le_of_ble_eq_true rfl), (Nat.le_of_ble_eq_true rfl)⟩ rfl rfl (Nat.le_of_ble_eq_true rfl) ⟨(Nat.le_of_ble_eq_true rfl), (Nat.le_of_ble_eq_true rfl)⟩ (RI.go (fun r52 S50 q51 => ?_))
          rw [q51.2]
          refine V_icmp_ge 69 76 dX12_canPair_69 (by decide) (fun c53 => ?_) (fun c53 => ?_)
          ·
            refine V_iconst 76 (0) dX12_canPair_76 (by decide) ?_
            refine V_icmp_eq 77 84 dX12_canPair_77 (by decide) (fun c54 => ?_) (fun c54 => ?_)
            ·
              try have nf55 := (nI_eqE (show (0 : Int32) = nI 0 from rfl) (show (0 : Int32) = nI 0 from rfl) (by omega) (by omega)).mp c54
              refine V_iconst 84 (0) dX12_canPair_84 (by decide) ?_
              refine V_istore_5 85 dX12_canPair_85 rfl (Nat.le_of_ble_eq_true rfl) ?_
              refine V_iload_5 87 dX12_canPair_87 ?_
              refine V_if_eq 89 114 dX12_canPair_89 (by decide) (fun c56 => ?_) (fun c56 => ?_)
              ·
                try have nf57 := (nI_eqE (show (0 : Int32) = nI 0 from rfl) (show (0 : Int32) = nI 0 from rfl) (by omega) (by omega)).mp c56
                refine V_lvw (by repeat (first | exact trivial | refine ⟨rfl, ?_⟩)) (J3 _ _ _ _ h22 hb_x24 hb_x25 (Or.inl rfl))
              ·
                try have nf59 := mt (nI_eqE (show (0 : Int32) = nI 0 from rfl) (show (0 : Int32) = nI 0 from rfl) (by omega) (by omega)).mpr c56
                refine V_aload_0 92 dX12_canPair_92 ?_
                refine V_iload_1 93 dX12_canPair_93 ?_
                refine V_iload_2 94 dX12_canPair_94 ?_
                refine V_callV 95 (ci := 12) [.int _, .int _] _ (s_munlikeBy M.2.1 Γ S21 (F.ss h22.1) (h.z [] [] h22 rfl rfl rfl rfl) ha hb) dX12_canPair_95 cb_X12_unlikeBy ml_RX12_409 im_yX12_unlikeBy se_yX12_unlikeBy ((F.ss h22.1).m 0 (Nat.le_of_ble_eq_true rfl)) ((F.ss h22.1).k 0 12 rfl) (Nat.le_of_ble_eq_true rfl) ⟨(Nat.le_of_ble_eq_true rfl), (Nat.le_of_ble_eq_true rfl)⟩ rfl rfl (Nat.le_of_ble_eq_true rfl) ⟨(Nat.le_of_ble_eq_true rfl), (Nat.le_of_ble_eq_true rfl)⟩ (RI.go (fun r62 S60 q61 => ?_))
                rw [q61.2]
                refine V_aload_0 98 dX12_canPair_98 ?_
                refine V_getR 99 (c := 12) 30 ((F.ss h22.1).r 0 30 18 rfl) dX12_canPair_99 fl_RX12_70 ((F.ss h22.1).m 0 (Nat.le_of_ble_eq_true rfl)) ((F.ss h22.1).k 0 12 rfl) (Nat.le_of_ble_eq_true rfl) (Nat.le_of_ble_eq_true rfl) rfl ?_
                refine V_aload_0 102 dX12_canPair_102 ?_
                refine V_getI 103 (c := 12) 18 dX12_canPair_103 fl_RX12_264 ((F.ss h22.1).m 0 (Nat.le_of_ble_eq_true rfl)) ((F.ss h22.1).k 0 12 rfl) (Nat.le_of_ble_eq_true rfl) (Nat.le_of_ble_eq_true rfl) rfl ?_
                rw [(h.z [] [] h22 rfl rfl rfl rfl).lv]
                refine V_iaload2 106 dX12_canPair_106 ((F.ss h22.1).m 18 (Nat.le_of_ble_eq_true rfl)) ((F.ss h22.1).k 18 14 rfl) ((F.ss h22.1).l 18 2 rfl) ?_ ?_
                · exact vpN (Eq.refl (nI (gl g))) (by omega) (by decide)
                refine V_icmp_gt 107 114 dX12_canPair_107 (by decide) (fun c63 => ?_) (fun c63 => ?_)
                ·
                  refine V_lvw (by repeat (first | exact trivial | refine ⟨rfl, ?_⟩)) (J3 _ _ _ _ h22 hb_x24 hb_x25 (Or.inl rfl))
                ·
                  refine V_iconst 110 (1) dX12_canPair_110 (by decide) ?_
                  refine V_goto 111 115 dX12_canPair_111 (by decide) ?_
                  refine V_iret 115 .boolean dX12_canPair_115 rfl (nrwB (Or.inr rfl)) (Nat.le_of_ble_eq_true rfl) (Nat.le_of_ble_eq_true rfl) (RI.mk ⟨(Or.inr rfl), h22⟩)
            ·
              try have nf65 := mt (nI_eqE (show (0 : Int32) = nI 0 from rfl) (show (0 : Int32) = nI 0 from rfl) (by omega) (by omega)).mpr c54
              refine V_lvw (by repeat (first | exact trivial | refine ⟨rfl, ?_⟩)) (J9 _ _ _ h22 hb_x24 hb_x25)
          ·
            refine V_iconst 72 (1) dX12_canPair_72 (by decide) ?_
            refine V_goto 73 77 dX12_canPair_73 (by decide) ?_
            refine V_icmp_eq 77 84 dX12_canPair_77 (by decide) (fun c67 => ?_) (fun c67 => ?_)
            ·
              try have nf68 := (nI_eqE (show (0 : Int32) = nI 0 from rfl) (show (1 : Int32) = nI 1 from rfl) (by omega) (by omega)).mp c67
              refine V_iconst 84 (0) dX12_canPair_84 (by decide) ?_
              refine V_istore_5 85 dX12_canPair_85 rfl (Nat.le_of_ble_eq_true rfl) ?_
              refine V_iload_5 87 dX12_canPair_87 ?_
              refine V_if_eq 89 114 dX12_canPair_89 (by decide) (fun c69 => ?_) (fun c69 => ?_)
              ·
                try have nf70 := (nI_eqE (show (0 : Int32) = nI 0 from rfl) (show (0 : Int32) = nI 0 from rfl) (by omega) (by omega)).mp c69
                refine V_lvw (by repeat (first | exact trivial | refine ⟨rfl, ?_⟩)) (J3 _ _ _ _ h22 hb_x24 hb_x25 (Or.inl rfl))
              ·
                try have nf72 := mt (nI_eqE (show (0 : Int32) = nI 0 from rfl) (show (0 : Int32) = nI 0 from rfl) (by omega) (by omega)).mpr c69
                refine V_aload_0 92 dX12_canPair_92 ?_
                refine V_iload_1 93 dX12_canPair_93 ?_
                refine V_iload_2 94 dX12_canPair_94 ?_
                refine V_callV 95 (ci := 12) [.int _, .int _] _ (s_munlikeBy M.2.1 Γ S21 (F.ss h22.1) (h.z [] [] h22 rfl rfl rfl rfl) ha hb) dX12_canPair_95 cb_X12_unlikeBy ml_RX12_409 im_yX12_unlikeBy se_yX12_unlikeBy ((F.ss h22.1).m 0 (Nat.le_of_ble_eq_true rfl)) ((F.ss h22.1).k 0 12 rfl) (Nat.le_of_ble_eq_true rfl) ⟨(Nat.le_of_ble_eq_true rfl), (Nat.le_of_ble_eq_true rfl)⟩ rfl rfl (Nat.le_of_ble_eq_true rfl) ⟨(Nat.le_of_ble_eq_true rfl), (Nat.le_of_ble_eq_true rfl)⟩ (RI.go (fun r75 S73 q74 => ?_))
                rw [q74.2]
                refine V_aload_0 98 dX12_canPair_98 ?_
                refine V_getR 99 (c := 12) 30 ((F.ss h22.1).r 0 30 18 rfl) dX12_canPair_99 fl_RX12_70 ((F.ss h22.1).m 0 (Nat.le_of_ble_eq_true rfl)) ((F.ss h22.1).k 0 12 rfl) (Nat.le_of_ble_eq_true rfl) (Nat.le_of_ble_eq_true rfl) rfl ?_
                refine V_aload_0 102 dX12_canPair_102 ?_
                refine V_getI 103 (c := 12) 18 dX12_canPair_103 fl_RX12_264 ((F.ss h22.1).m 0 (Nat.le_of_ble_eq_true rfl)) ((F.ss h22.1).k 0 12 rfl) (Nat.le_of_ble_eq_true rfl) (Nat.le_of_ble_eq_true rfl) rfl ?_
                rw [(h.z [] [] h22 rfl rfl rfl rfl).lv]
                refine V_iaload2 106 dX12_canPair_106 ((F.ss h22.1).m 18 (Nat.le_of_ble_eq_true rfl)) ((F.ss h22.1).k 18 14 rfl) ((F.ss h22.1).l 18 2 rfl) ?_ ?_
                · exact vpN (Eq.refl (nI (gl g))) (by omega) (by decide)
                refine V_icmp_gt 107 114 dX12_canPair_107 (by decide) (fun c76 => ?_) (fun c76 => ?_)
                ·
                  refine V_lvw (by repeat (first | exact trivial | refine ⟨rfl, ?_⟩)) (J3 _ _ _ _ h22 hb_x24 hb_x25 (Or.inl rfl))
                ·
                  refine V_iconst 110 (1) dX12_canPair_110 (by decide) ?_
                  refine V_goto 111 115 dX12_canPair_111 (by decide) ?_
                  refine V_iret 115 .boolean dX12_canPair_115 rfl (nrwB (Or.inr rfl)) (Nat.le_of_ble_eq_true rfl) (Nat.le_of_ble_eq_true rfl) (RI.mk ⟨(Or.inr rfl), h22⟩)
            ·
              try have nf78 := mt (nI_eqE (show (0 : Int32) = nI 0 from rfl) (show (1 : Int32) = nI 1 from rfl) (by omega) (by omega)).mpr c67
              refine V_lvw (by repeat (first | exact trivial | refine ⟨rfl, ?_⟩)) (J9 _ _ _ h22 hb_x24 hb_x25)
        ·
          refine V_iconst 58 (1) dX12_canPair_58 (by decide) ?_
          refine V_goto 59 63 dX12_canPair_59 (by decide) ?_
          refine V_iload_2 63 dX12_canPair_63 ?_
          refine V_aload_0 64 dX12_canPair_64 ?_
          refine V_iload_2 65 dX12_canPair_65 ?_
          refine V_callV 66 (ci := 12) [.int _] _ (s_mpartner M.2.1 Γ S21 (F.ss h22.1) (h.z [] [] h22 rfl rfl rfl rfl) (show (b) < gK g by omega)) dX12_canPair_66 cb_X12_partner ml_RX12_349 im_yX12_partner se_yX12_partner ((F.ss h22.1).m 0 (Nat.le_of_ble_eq_true rfl)) ((F.ss h22.1).k 0 12 rfl) (Nat.le_of_ble_eq_true rfl) ⟨(Nat.le_of_ble_eq_true rfl), (Nat.le_of_ble_eq_true rfl)⟩ rfl rfl (Nat.le_of_ble_eq_true rfl) ⟨(Nat.le_of_ble_eq_true rfl), (Nat.le_of_ble_eq_true rfl)⟩ (RI.go (fun r82 S80 q81 => ?_))
          rw [q81.2]
          refine V_icmp_ge 69 76 dX12_canPair_69 (by decide) (fun c83 => ?_) (fun c83 => ?_)
          ·
            refine V_iconst 76 (0) dX12_canPair_76 (by decide) ?_
            refine V_icmp_eq 77 84 dX12_canPair_77 (by decide) (fun c84 => ?_) (fun c84 => ?_)
            ·
              try have nf85 := (nI_eqE (show (1 : Int32) = nI 1 from rfl) (show (0 : Int32) = nI 0 from rfl) (by omega) (by omega)).mp c84
              refine V_iconst 84 (0) dX12_canPair_84 (by decide) ?_
              refine V_istore_5 85 dX12_canPair_85 rfl (Nat.le_of_ble_eq_true rfl) ?_
              refine V_iload_5 87 dX12_canPair_87 ?_
              refine V_if_eq 89 114 dX12_canPair_89 (by decide) (fun c86 => ?_) (fun c86 => ?_)
              ·
                try have nf87 := (nI_eqE (show (0 : Int32) = nI 0 from rfl) (show (0 : Int32) = nI 0 from rfl) (by omega) (by omega)).mp c86
                refine V_lvw (by repeat (first | exact trivial | refine ⟨rfl, ?_⟩)) (J3 _ _ _ _ h22 hb_x24 hb_x25 (Or.inl rfl))
              ·
                try have nf89 := mt (nI_eqE (show (0 : Int32) = nI 0 from rfl) (show (0 : Int32) = nI 0 from rfl) (by omega) (by omega)).mpr c86
                refine V_aload_0 92 dX12_canPair_92 ?_
                refine V_iload_1 93 dX12_canPair_93 ?_
                refine V_iload_2 94 dX12_canPair_94 ?_
                refine V_callV 95 (ci := 12) [.int _, .int _] _ (s_munlikeBy M.2.1 Γ S21 (F.ss h22.1) (h.z [] [] h22 rfl rfl rfl rfl) ha hb) dX12_canPair_95 cb_X12_unlikeBy ml_RX12_409 im_yX12_unlikeBy se_yX12_unlikeBy ((F.ss h22.1).m 0 (Nat.le_of_ble_eq_true rfl)) ((F.ss h22.1).k 0 12 rfl) (Nat.le_of_ble_eq_true rfl) ⟨(Nat.le_of_ble_eq_true rfl), (Nat.le_of_ble_eq_true rfl)⟩ rfl rfl (Nat.le_of_ble_eq_true rfl) ⟨(Nat.le_of_ble_eq_true rfl), (Nat.le_of_ble_eq_true rfl)⟩ (RI.go (fun r92 S90 q91 => ?_))
                rw [q91.2]
                refine V_aload_0 98 dX12_canPair_98 ?_
                refine V_getR 99 (c := 12) 30 ((F.ss h22.1).r 0 30 18 rfl) dX12_canPair_99 fl_RX12_70 ((F.ss h22.1).m 0 (Nat.le_of_ble_eq_true rfl)) ((F.ss h22.1).k 0 12 rfl) (Nat.le_of_ble_eq_true rfl) (Nat.le_of_ble_eq_true rfl) rfl ?_
                refine V_aload_0 102 dX12_canPair_102 ?_
                refine V_getI 103 (c := 12) 18 dX12_canPair_103 fl_RX12_264 ((F.ss h22.1).m 0 (Nat.le_of_ble_eq_true rfl)) ((F.ss h22.1).k 0 12 rfl) (Nat.le_of_ble_eq_true rfl) (Nat.le_of_ble_eq_true rfl) rfl ?_
                rw [(h.z [] [] h22 rfl rfl rfl rfl).lv]
                refine V_iaload2 106 dX12_canPair_106 ((F.ss h22.1).m 18 (Nat.le_of_ble_eq_true rfl)) ((F.ss h22.1).k 18 14 rfl) ((F.ss h22.1).l 18 2 rfl) ?_ ?_
                · exact vpN (Eq.refl (nI (gl g))) (by omega) (by decide)
                refine V_icmp_gt 107 114 dX12_canPair_107 (by decide) (fun c93 => ?_) (fun c93 => ?_)
                ·
                  refine V_lvw (by repeat (first | exact trivial | refine ⟨rfl, ?_⟩)) (J3 _ _ _ _ h22 hb_x24 hb_x25 (Or.inl rfl))
                ·
                  refine V_iconst 110 (1) dX12_canPair_110 (by decide) ?_
                  refine V_goto 111 115 dX12_canPair_111 (by decide) ?_
                  refine V_iret 115 .boolean dX12_canPair_115 rfl (nrwB (Or.inr rfl)) (Nat.le_of_ble_eq_true rfl) (Nat.le_of_ble_eq_true rfl) (RI.mk ⟨(Or.inr rfl), h22⟩)
            ·
              try have nf95 := mt (nI_eqE (show (1 : Int32) = nI 1 from rfl) (show (0 : Int32) = nI 0 from rfl) (by omega) (by omega)).mpr c84
              refine V_lvw (by repeat (first | exact trivial | refine ⟨rfl, ?_⟩)) (J9 _ _ _ h22 hb_x24 hb_x25)
          ·
            refine V_iconst 72 (1) dX12_canPair_72 (by decide) ?_
            refine V_goto 73 77 dX12_canPair_73 (by decide) ?_
            refine V_icmp_eq 77 84 dX12_canPair_77 (by decide) (fun c97 => ?_) (fun c97 => ?_)
            ·
              try have nf98 := (nI_eqE (show (1 : Int32) = nI 1 from rfl) (show (1 : Int32) = nI 1 from rfl) (by omega) (by omega)).mp c97
              refine V_iconst 84 (0) dX12_canPair_84 (by decide) ?_
              refine V_istore_5 85 dX12_canPair_85 rfl (Nat.le_of_ble_eq_true rfl) ?_
              refine V_iload_5 87 dX12_canPair_87 ?_
              refine V_if_eq 89 114 dX12_canPair_89 (by decide) (fun c99 => ?_) (fun c99 => ?_)
              ·
                try have nf100 := (nI_eqE (show (0 : Int32) = nI 0 from rfl) (show (0 : Int32) = nI 0 from rfl) (by omega) (by omega)).mp c99
                refine V_lvw (by repeat (first | exact trivial | refine ⟨rfl, ?_⟩)) (J3 _ _ _ _ h22 hb_x24 hb_x25 (Or.inl rfl))
              ·
                try have nf102 := mt (nI_eqE (show (0 : Int32) = nI 0 from rfl) (show (0 : Int32) = nI 0 from rfl) (by omega) (by omega)).mpr c99
                refine V_aload_0 92 dX12_canPair_92 ?_
                refine V_iload_1 93 dX12_canPair_93 ?_
                refine V_iload_2 94 dX12_canPair_94 ?_
                refine V_callV 95 (ci := 12) [.int _, .int _] _ (s_munlikeBy M.2.1 Γ S21 (F.ss h22.1) (h.z [] [] h22 rfl rfl rfl rfl) ha hb) dX12_canPair_95 cb_X12_unlikeBy ml_RX12_409 im_yX12_unlikeBy se_yX12_unlikeBy ((F.ss h22.1).m 0 (Nat.le_of_ble_eq_true rfl)) ((F.ss h22.1).k 0 12 rfl) (Nat.le_of_ble_eq_true rfl) ⟨(Nat.le_of_ble_eq_true rfl), (Nat.le_of_ble_eq_true rfl)⟩ rfl rfl (Nat.le_of_ble_eq_true rfl) ⟨(Nat.le_of_ble_eq_true rfl), (Nat.le_of_ble_eq_true rfl)⟩ (RI.go (fun r105 S103 q104 => ?_))
                rw [q104.2]
                refine V_aload_0 98 dX12_canPair_98 ?_
                refine V_getR 99 (c := 12) 30 ((F.ss h22.1).r 0 30 18 rfl) dX12_canPair_99 fl_RX12_70 ((F.ss h22.1).m 0 (Nat.le_of_ble_eq_true rfl)) ((F.ss h22.1).k 0 12 rfl) (Nat.le_of_ble_eq_true rfl) (Nat.le_of_ble_eq_true rfl) rfl ?_
                refine V_aload_0 102 dX12_canPair_102 ?_
                refine V_getI 103 (c := 12) 18 dX12_canPair_103 fl_RX12_264 ((F.ss h22.1).m 0 (Nat.le_of_ble_eq_true rfl)) ((F.ss h22.1).k 0 12 rfl) (Nat.le_of_ble_eq_true rfl) (Nat.le_of_ble_eq_true rfl) rfl ?_
                rw [(h.z [] [] h22 rfl rfl rfl rfl).lv]
                refine V_iaload2 106 dX12_canPair_106 ((F.ss h22.1).m 18 (Nat.le_of_ble_eq_true rfl)) ((F.ss h22.1).k 18 14 rfl) ((F.ss h22.1).l 18 2 rfl) ?_ ?_
                · exact vpN (Eq.refl (nI (gl g))) (by omega) (by decide)
                refine V_icmp_gt 107 114 dX12_canPair_107 (by decide) (fun c106 => ?_) (fun c106 => ?_)
                ·
                  refine V_lvw (by repeat (first | exact trivial | refine ⟨rfl, ?_⟩)) (J3 _ _ _ _ h22 hb_x24 hb_x25 (Or.inl rfl))
                ·
                  refine V_iconst 110 (1) dX12_canPair_110 (by decide) ?_
                  refine V_goto 111 115 dX12_canPair_111 (by decide) ?_
                  refine V_iret 115 .boolean dX12_canPair_115 rfl (nrwB (Or.inr rfl)) (Nat.le_of_ble_eq_true rfl) (Nat.le_of_ble_eq_true rfl) (RI.mk ⟨(Or.inr rfl), h22⟩)
            ·
              try have nf108 := mt (nI_eqE (show (1 : Int32) = nI 1 from rfl) (show (1 : Int32) = nI 1 from rfl) (by omega) (by omega)).mpr c97
              refine V_lvw (by repeat (first | exact trivial | refine ⟨rfl, ?_⟩)) (J9 _ _ _ h22 hb_x24 hb_x25)
  refine V_aload_0 0 dX12_canPair_0 ?_
  refine V_iload_1 1 dX12_canPair_1 ?_
  refine V_callV 2 (ci := 12) [.int _] _ (s_mpartner M.2.1 Γ S F (h.z [] [] FZ.rf rfl rfl rfl rfl) (show (a) < gK g by omega)) dX12_canPair_2 cb_X12_partner ml_RX12_349 im_yX12_partner se_yX12_partner (F.m 0 (Nat.le_of_ble_eq_true rfl)) (F.k 0 12 rfl) (Nat.le_of_ble_eq_true rfl) ⟨(Nat.le_of_ble_eq_true rfl), (Nat.le_of_ble_eq_true rfl)⟩ rfl rfl (Nat.le_of_ble_eq_true rfl) ⟨(Nat.le_of_ble_eq_true rfl), (Nat.le_of_ble_eq_true rfl)⟩ (RI.go (fun r112 S110 q111 => ?_))
  rw [q111.2]
  refine V_iload_1 5 dX12_canPair_5 ?_
  refine V_icmp_ne 6 13 dX12_canPair_6 (by decide) (fun c113 => ?_) (fun c113 => ?_)
  ·
    refine V_iconst 13 (0) dX12_canPair_13 (by decide) ?_
    refine V_istore_3 14 dX12_canPair_14 rfl (Nat.le_of_ble_eq_true rfl) ?_
    refine V_aload_0 15 dX12_canPair_15 ?_
    refine V_iload_2 16 dX12_canPair_16 ?_
    refine V_callV 17 (ci := 12) [.int _] _ (s_mpartner M.2.1 Γ S F (h.z [] [] FZ.rf rfl rfl rfl rfl) (show (b) < gK g by omega)) dX12_canPair_17 cb_X12_partner ml_RX12_349 im_yX12_partner se_yX12_partner (F.m 0 (Nat.le_of_ble_eq_true rfl)) (F.k 0 12 rfl) (Nat.le_of_ble_eq_true rfl) ⟨(Nat.le_of_ble_eq_true rfl), (Nat.le_of_ble_eq_true rfl)⟩ rfl rfl (Nat.le_of_ble_eq_true rfl) ⟨(Nat.le_of_ble_eq_true rfl), (Nat.le_of_ble_eq_true rfl)⟩ (RI.go (fun r116 S114 q115 => ?_))
    rw [q115.2]
    refine V_iload_2 20 dX12_canPair_20 ?_
    refine V_icmp_ne 21 28 dX12_canPair_21 (by decide) (fun c117 => ?_) (fun c117 => ?_)
    ·
      refine V_iconst 28 (0) dX12_canPair_28 (by decide) ?_
      refine V_istore_4 29 dX12_canPair_29 rfl (Nat.le_of_ble_eq_true rfl) ?_
      refine V_iload_3 31 dX12_canPair_31 ?_
      refine V_if_eq 32 40 dX12_canPair_32 (by decide) (fun c118 => ?_) (fun c118 => ?_)
      ·
        try have nf119 := (nI_eqE (show (0 : Int32) = nI 0 from rfl) (show (0 : Int32) = nI 0 from rfl) (by omega) (by omega)).mp c118
        refine V_lvw (by repeat (first | exact trivial | refine ⟨rfl, ?_⟩)) (J23 _ _ _ FZ.rf (Or.inl rfl) (Or.inl rfl))
      ·
        try have nf121 := mt (nI_eqE (show (0 : Int32) = nI 0 from rfl) (show (0 : Int32) = nI 0 from rfl) (by omega) (by omega)).mpr c118
        refine V_iload_4 35 dX12_canPair_35 ?_
        refine V_if_ne 37 80 dX12_canPair_37 (by decide) (fun c122 => ?_) (fun c122 => ?_)
        ·
          try have nf123 := mt (nI_eqE (show (0 : Int32) = nI 0 from rfl) (show (0 : Int32) = nI 0 from rfl) (by omega) (by omega)).mpr c122
          refine V_lvw (by repeat (first | exact trivial | refine ⟨rfl, ?_⟩)) (J9 _ _ _ FZ.rf (Or.inl rfl) (Or.inl rfl))
        ·
          try have nf125 := (nI_eqE (show (0 : Int32) = nI 0 from rfl) (show (0 : Int32) = nI 0 from rfl) (by omega) (by omega)).mp c122
          refine V_lvw (by repeat (first | exact trivial | refine ⟨rfl, ?_⟩)) (J23 _ _ _ FZ.rf (Or.inl rfl) (Or.inl rfl))
    ·
      refine V_iconst 24 (1) dX12_canPair_24 (by decide) ?_
      refine V_goto 25 29 dX12_canPair_25 (by decide) ?_
      refine V_istore_4 29 dX12_canPair_29 rfl (Nat.le_of_ble_eq_true rfl) ?_
      refine V_iload_3 31 dX12_canPair_31 ?_
      refine V_if_eq 32 40 dX12_canPair_32 (by decide) (fun c127 => ?_) (fun c127 => ?_)
      ·
        try have nf128 := (nI_eqE (show (0 : Int32) = nI 0 from rfl) (show (0 : Int32) = nI 0 from rfl) (by omega) (by omega)).mp c127
        refine V_lvw (by repeat (first | exact trivial | refine ⟨rfl, ?_⟩)) (J23 _ _ _ FZ.rf (Or.inl rfl) (Or.inr rfl))
      ·
        try have nf130 := mt (nI_eqE (show (0 : Int32) = nI 0 from rfl) (show (0 : Int32) = nI 0 from rfl) (by omega) (by omega)).mpr c127
        refine V_iload_4 35 dX12_canPair_35 ?_
        refine V_if_ne 37 80 dX12_canPair_37 (by decide) (fun c131 => ?_) (fun c131 => ?_)
        ·
          try have nf132 := mt (nI_eqE (show (1 : Int32) = nI 1 from rfl) (show (0 : Int32) = nI 0 from rfl) (by omega) (by omega)).mpr c131
          refine V_lvw (by repeat (first | exact trivial | refine ⟨rfl, ?_⟩)) (J9 _ _ _ FZ.rf (Or.inl rfl) (Or.inr rfl))
        ·
          try have nf134 := (nI_eqE (show (1 : Int32) = nI 1 from rfl) (show (0 : Int32) = nI 0 from rfl) (by omega) (by omega)).mp c131
          refine V_lvw (by repeat (first | exact trivial | refine ⟨rfl, ?_⟩)) (J23 _ _ _ FZ.rf (Or.inl rfl) (Or.inr rfl))
  ·
    refine V_iconst 9 (1) dX12_canPair_9 (by decide) ?_
    refine V_goto 10 14 dX12_canPair_10 (by decide) ?_
    refine V_istore_3 14 dX12_canPair_14 rfl (Nat.le_of_ble_eq_true rfl) ?_
    refine V_aload_0 15 dX12_canPair_15 ?_
    refine V_iload_2 16 dX12_canPair_16 ?_
    refine V_callV 17 (ci := 12) [.int _] _ (s_mpartner M.2.1 Γ S F (h.z [] [] FZ.rf rfl rfl rfl rfl) (show (b) < gK g by omega)) dX12_canPair_17 cb_X12_partner ml_RX12_349 im_yX12_partner se_yX12_partner (F.m 0 (Nat.le_of_ble_eq_true rfl)) (F.k 0 12 rfl) (Nat.le_of_ble_eq_true rfl) ⟨(Nat.le_of_ble_eq_true rfl), (Nat.le_of_ble_eq_true rfl)⟩ rfl rfl (Nat.le_of_ble_eq_true rfl) ⟨(Nat.le_of_ble_eq_true rfl), (Nat.le_of_ble_eq_true rfl)⟩ (RI.go (fun r138 S136 q137 => ?_))
    rw [q137.2]
    refine V_iload_2 20 dX12_canPair_20 ?_
    refine V_icmp_ne 21 28 dX12_canPair_21 (by decide) (fun c139 => ?_) (fun c139 => ?_)
    ·
      refine V_iconst 28 (0) dX12_canPair_28 (by decide) ?_
      refine V_istore_4 29 dX12_canPair_29 rfl (Nat.le_of_ble_eq_true rfl) ?_
      refine V_iload_3 31 dX12_canPair_31 ?_
      refine V_if_eq 32 40 dX12_canPair_32 (by decide) (fun c140 => ?_) (fun c140 => ?_)
      ·
        try have nf141 := (nI_eqE (show (1 : Int32) = nI 1 from rfl) (show (0 : Int32) = nI 0 from rfl) (by omega) (by omega)).mp c140
        refine V_lvw (by repeat (first | exact trivial | refine ⟨rfl, ?_⟩)) (J23 _ _ _ FZ.rf (Or.inr rfl) (Or.inl rfl))
      ·
        try have nf143 := mt (nI_eqE (show (1 : Int32) = nI 1 from rfl) (show (0 : Int32) = nI 0 from rfl) (by omega) (by omega)).mpr c140
        refine V_iload_4 35 dX12_canPair_35 ?_
        refine V_if_ne 37 80 dX12_canPair_37 (by decide) (fun c144 => ?_) (fun c144 => ?_)
        ·
          try have nf145 := mt (nI_eqE (show (0 : Int32) = nI 0 from rfl) (show (0 : Int32) = nI 0 from rfl) (by omega) (by omega)).mpr c144
          refine V_lvw (by repeat (first | exact trivial | refine ⟨rfl, ?_⟩)) (J9 _ _ _ FZ.rf (Or.inr rfl) (Or.inl rfl))
        ·
          try have nf147 := (nI_eqE (show (0 : Int32) = nI 0 from rfl) (show (0 : Int32) = nI 0 from rfl) (by omega) (by omega)).mp c144
          refine V_lvw (by repeat (first | exact trivial | refine ⟨rfl, ?_⟩)) (J23 _ _ _ FZ.rf (Or.inr rfl) (Or.inl rfl))
    ·
      refine V_iconst 24 (1) dX12_canPair_24 (by decide) ?_
      refine V_goto 25 29 dX12_canPair_25 (by decide) ?_
      refine V_istore_4 29 dX12_canPair_29 rfl (Nat.le_of_ble_eq_true rfl) ?_
      refine V_iload_3 31 dX12_canPair_31 ?_
      refine V_if_eq 32 40 dX12_canPair_32 (by decide) (fun c149 => ?_) (fun c149 => ?_)
      ·
        try have nf150 := (nI_eqE (show (1 : Int32) = nI 1 from rfl) (show (0 : Int32) = nI 0 from rfl) (by omega) (by omega)).mp c149
        refine V_lvw (by repeat (first | exact trivial | refine ⟨rfl, ?_⟩)) (J23 _ _ _ FZ.rf (Or.inr rfl) (Or.inr rfl))
      ·
        try have nf152 := mt (nI_eqE (show (1 : Int32) = nI 1 from rfl) (show (0 : Int32) = nI 0 from rfl) (by omega) (by omega)).mpr c149
        refine V_iload_4 35 dX12_canPair_35 ?_
        refine V_if_ne 37 80 dX12_canPair_37 (by decide) (fun c153 => ?_) (fun c153 => ?_)
        ·
          try have nf154 := mt (nI_eqE (show (1 : Int32) = nI 1 from rfl) (show (0 : Int32) = nI 0 from rfl) (by omega) (by omega)).mpr c153
          refine V_lvw (by repeat (first | exact trivial | refine ⟨rfl, ?_⟩)) (J9 _ _ _ FZ.rf (Or.inr rfl) (Or.inr rfl))
        ·
          try have nf156 := (nI_eqE (show (1 : Int32) = nI 1 from rfl) (show (0 : Int32) = nI 0 from rfl) (by omega) (by omega)).mp c153
          refine V_lvw (by repeat (first | exact trivial | refine ⟨rfl, ?_⟩)) (J23 _ _ _ FZ.rf (Or.inr rfl) (Or.inr rfl))
theorem oddOut {m a b K : Nat} {y0 : Nat → Nat} {T : PS} (p : ∀ j, j < sumN y0 a + b → ∃ k, k < K ∧ sA T (m + 45) j = nI k) (hb : y0 a ≤ b) : ∀ j, j < sumN y0 (a + 1) → ∃ k, k < K ∧ sA T (m + 45) j = nI k := fun j hj => p j (by have e : sumN y0 (a + 1) = sumN y0 a + y0 a := rfl; omega)
theorem oddIn {m s i n idx K : Nat} {v : Int32} {T : PS} (p : ∀ j, j < s + i → ∃ k, k < K ∧ sA T (m + 45) j = nI k) (ei : idx = n) (en : n = s + i) (hv : ∃ k, k < K ∧ v = nI k) : ∀ j, j < s + (i + 1) → ∃ k, k < K ∧ sA (uA T (m + 45) idx v) (m + 45) j = nI k := fun j hj => by
  subst ei
  rw [sA_uA]; unfold up2
  by_cases q : j = idx
  · rw [if_pos ⟨rfl, q⟩]; exact hv
  · rw [if_neg (fun z => q z.2)]; exact p j (by omega)
theorem sumUp {m : Nat} {g : MG} {S : PS} {x y : Nat → Nat} (ok : OKR g x y) (h : TXT m g S) {k : Nat} (hk : k < 8) : sumN y k + y k ≤ 18 := by
  have h1 := sumN_mono (f := y) (k + 1) 8 (by omega)
  have h2 := OKR.s18 h ok
  have e : sumN y (k + 1) = sumN y k + y k := rfl
  omega
theorem n18 {n i : Nat} {y0 : Nat → Nat} (e : n = sumN y0 i) (hi : i ≤ 8) (h : sumN y0 8 ≤ 18) : n ≤ 18 := by
  have := sumN_mono (f := y0) i 8 hi
  omega
set_option maxRecDepth 100000 in
set_option maxHeartbeats 8000000 in
theorem s_modd (l : Launch) (Γ : GC) (S : PS) {m tp : Nat} {g : MG} (I : MV Γ.2.2.2.2.1 m g tp S) (x : Int32) : CT l Γ yX12_odd cX12_odd 8 (some .int) (2) (0) (0) [.ref m, .int x] S (RI (fun r S' => MV Γ.2.2.2.2.1 m g tp S')) := by
  refine CT.of RX12 "odd" [some (.ref m), some (.int x), none, none, none, none, none, none] (by decide +kernel) rfl rfl (Nat.le_of_ble_eq_true rfl) rfl (fun M hM => ?_)
  subst hM
  have F := I.f
  have h := I.t
  have hl := h.l2
  have hK := h.k8
  obtain ⟨x0, y0, hn, ok⟩ := I.now
  have hs0 := OKR.s18 h ok
  refine V_iload_1 0 dX12_odd_0 ?_
  refine V_iconst 1 (0) dX12_odd_1 (by decide) ?_
  refine V_iconst 2 (1) dX12_odd_2 (by decide) ?_
  refine V_callS 3 [.int _, .int _, .int _] _ (s_min M.2.1 Γ S _ _ _) dX12_odd_3 cb_X12_in ml_RX12_335 sm_yX12_in ⟨(Nat.le_of_ble_eq_true rfl), (Nat.le_of_ble_eq_true rfl)⟩ rfl rfl (Nat.le_of_ble_eq_true rfl) ⟨(Nat.le_of_ble_eq_true rfl), (Nat.le_of_ble_eq_true rfl)⟩ (RI.go (fun r1 S1 q1 => ?_))
  rw [q1.2]
  refine V_if_ne 6 11 dX12_odd_6 (by decide) (fun c => ?_) (fun c => ?_)
  ·
    have J67 : ∀ (T : PS) (n : Nat) (w3 w4 : Option Value), n ≤ 18 → FZ [m + 45] [] S T → (∀ j, j < n → ∃ k, k < gK g ∧ sA T (m + 45) j = nI k) → V M Γ (8, RX12, "odd", (some .int), RM (2) (0) (0)) cX12_odd (RQ M Γ (RI (fun r S' => MV Γ.2.2.2.2.1 m g tp S')) (0) (0)) 0 0 T 67 [some (.ref m), some (.int x), some (.int (nI n)), w3, w4, none, none, none] [] := by
      intro T n w3 w4 hn18 e hly
      obtain ⟨ly, hly⟩ := pick_ex hly
      have FT9 := F.ss e.1
      have hT := h.z [45] [] e rfl rfl rfl rfl
      have hp2 : 0 < 2 ^ n := Nat.two_pow_pos n
      have hb2 : 2 ^ n ≤ 2 ^ 18 := Nat.pow_le_pow_right (by decide) hn18
      have hb3 : 2 ^ n ≤ 262144 := hb2
      clear hb2
      refine V_aload_0 67 dX12_odd_67 ?_
      refine V_getR 68 (c := 12) 65 (FT9.r 0 65 46 rfl) dX12_odd_68 fl_RX12_156 (FT9.m 0 (Nat.le_of_ble_eq_true rfl)) (FT9.k 0 12 rfl) (Nat.le_of_ble_eq_true rfl) (Nat.le_of_ble_eq_true rfl) rfl ?_
      refine V_iconst 71 (0) dX12_odd_71 (by decide) ?_
      refine V_iconst 72 (0) dX12_odd_72 (by decide) ?_
      refine V_iastore2 73 dX12_odd_73 (FT9.m 46 (Nat.le_of_ble_eq_true rfl)) (FT9.k 46 14 rfl) (FT9.l 46 262144 rfl) ?_ ?_
      · exact (by unfold vp_in; decide)
      refine V_abs (fun T9 => FZ [m + 46] [] T T9 ∧ ((fun _ => True) T9)) ⟨(FZ.rf (X := [m + 46]) (Y := []) (S := T)).uA (by simp), by exact trivial⟩ (fun S1 hh4 => ?_)
      obtain ⟨h2, p3⟩ := hh4
      refine V_iconst 74 (1) dX12_odd_74 (by decide) ?_
      refine V_istore_3 75 dX12_odd_75 rfl (Nat.le_of_ble_eq_true rfl) ?_
      have p5 : ((fun _ => 1 ≤ 1) S1) := by exact (Nat.le_refl 1)
      refine V_lvw (by repeat (first | exact trivial | refine ⟨rfl, ?_⟩)) (V_while (α := Nat × PS) (fun z6 => 2 ^ n - z6.1) (fun z6 => z6.1 ≤ 2 ^ n ∧ FZ [m + 46] [] T z6.2 ∧ ((fun _ => 1 ≤ z6.1) z6.2)) (fun z6 => z6.2) (fun z6 => [some (.ref m), some (.int x), some (.int (nI n)), some (.int (nI z6.1)), none, none, none, none]) (1, _) ⟨(by dsimp only; omega), h2, p5⟩ (fun z6 hx12 ih11 => ?b13))
      obtain ⟨i7, S8⟩ := z6
      obtain ⟨hi9, h10, p15⟩ := hx12
      dsimp only at hi9 h10 p15 ih11 ⊢
      refine V_iload_3 76 dX12_odd_76 ?_
      refine V_iconst 77 (1) dX12_odd_77 (by decide) ?_
      refine V_iload_2 78 dX12_odd_78 ?_
      refine V_ishl 79 dX12_odd_79 ?_
      refine V_icmp_ge 80 237 dX12_odd_80 (by decide) (fun c16 => ?_) (fun c16 => ?_)
      ·
        try have nf17 := (nI_leE (shlN (Eq.refl (nI n)) (by omega)) (Eq.refl (nI i7)) (by omega) (by omega)).mp c16
        refine V_aload_0 237 dX12_odd_237 ?_
        refine V_getR 238 (c := 12) 65 ((FT9.ss h10.1).r 0 65 46 rfl) dX12_odd_238 fl_RX12_156 ((FT9.ss h10.1).m 0 (Nat.le_of_ble_eq_true rfl)) ((FT9.ss h10.1).k 0 12 rfl) (Nat.le_of_ble_eq_true rfl) (Nat.le_of_ble_eq_true rfl) rfl ?_
        refine V_iconst 241 (1) dX12_odd_241 (by decide) ?_
        refine V_iload_2 242 dX12_odd_242 ?_
        refine V_ishl 243 dX12_odd_243 ?_
        refine V_iconst 244 (1) dX12_odd_244 (by decide) ?_
        refine V_isub 245 dX12_odd_245 ?_
        refine V_iaload2 246 dX12_odd_246 ((FT9.ss h10.1).m 46 (Nat.le_of_ble_eq_true rfl)) ((FT9.ss h10.1).k 46 14 rfl) ((FT9.ss h10.1).l 46 262144 rfl) ?_ ?_
        · exact vpN (eqSub (shlN (Eq.refl (nI n)) (by omega)) (show (1 : Int32) = nI 1 from rfl) (by omega)) (by omega) (by decide)
        refine V_istore_3 247 dX12_odd_247 rfl (Nat.le_of_ble_eq_true rfl) ?_
        refine V_iload_3 248 dX12_odd_248 ?_
        refine V_sipush 249 (9999) dX12_odd_249 (by decide) ?_
        refine V_iadd 252 dX12_odd_252 ?_
        refine V_sipush 253 (10000) dX12_odd_253 (by decide) ?_
        refine V_idiv 256 dX12_odd_256 (by decide) ?_
        refine V_istore_4 257 dX12_odd_257 rfl (Nat.le_of_ble_eq_true rfl) ?_
        refine V_iload_1 259 dX12_odd_259 ?_
        refine V_if_ne 260 268 dX12_odd_260 (by decide) (fun c18 => ?_) (fun c18 => ?_)
        ·
          refine V_sipush 268 (10000) dX12_odd_268 (by decide) ?_
          refine V_iload_4 271 dX12_odd_271 ?_
          refine V_imul 273 dX12_odd_273 ?_
          refine V_iload_3 274 dX12_odd_274 ?_
          refine V_isub 275 dX12_odd_275 ?_
          refine V_iret 276 .int dX12_odd_276 rfl rfl (Nat.le_of_ble_eq_true rfl) (Nat.le_of_ble_eq_true rfl) (RI.mk (I.z [45, 46] [] ((e.sub (by simp) (by simp)).tr (h10.sub (by simp) (by simp))) rfl rfl rfl rfl))
        ·
          refine V_iload_4 263 dX12_odd_263 ?_
          refine V_goto 265 276 dX12_odd_265 (by decide) ?_
          refine V_iret 276 .int dX12_odd_276 rfl rfl (Nat.le_of_ble_eq_true rfl) (Nat.le_of_ble_eq_true rfl) (RI.mk (I.z [45, 46] [] ((e.sub (by simp) (by simp)).tr (h10.sub (by simp) (by simp))) rfl rfl rfl rfl))
      ·
        try have nf19 := mt (nI_leE (shlN (Eq.refl (nI n)) (by omega)) (Eq.refl (nI i7)) (by omega) (by omega)).mpr c16
        try have lt20 := nI_ltC hi9 c16
        refine V_iconst 83 (0) dX12_odd_83 (by decide) ?_
        refine V_istore_4 84 dX12_odd_84 rfl (Nat.le_of_ble_eq_true rfl) ?_
        rw [(show (0 : Int32) = nI 0 from rfl)]
        have p21 : ((fun _ => 1 ≤ i7 ∧ i7 % 2 ^ 0 = 0) S8) := by exact ⟨p15, Nat.mod_one _⟩
        refine V_lvw (by repeat (first | exact trivial | refine ⟨rfl, ?_⟩)) (V_while (α := Nat × PS) (fun z22 => n - z22.1) (fun z22 => z22.1 ≤ n ∧ FZ [m + 46] [] T z22.2 ∧ ((fun _ => 1 ≤ i7 ∧ i7 % 2 ^ z22.1 = 0) z22.2)) (fun z22 => z22.2) (fun z22 => [some (.ref m), some (.int x), some (.int (nI n)), some (.int (nI i7)), some (.int (nI z22.1)), none, none, none]) (0, _) ⟨Nat.zero_le _, h10, p21⟩ (fun z22 hx28 ih27 => ?b29))
        obtain ⟨i23, S24⟩ := z22
        obtain ⟨hi25, h26, p31⟩ := hx28
        dsimp only at hi25 h26 p31 ih27 ⊢
        refine V_iload_3 86 dX12_odd_86 ?_
        have hdv : i7 / 2 ^ i23 ≤ i7 := Nat.div_le_self _ _
        have hin := bitN (n := n) p31.1 (by omega) p31.2 (by omega)
        refine V_iload_4 87 dX12_odd_87 ?_
        refine V_ishr 89 dX12_odd_89 ?_
        refine V_iconst 90 (1) dX12_odd_90 (by decide) ?_
        refine V_iand 91 dX12_odd_91 ?_
        refine V_if_ne 92 101 dX12_odd_92 (by decide) (fun c32 => ?_) (fun c32 => ?_)
        ·
          try have nf33 := mt (nI_eqE (andN (shrN (Eq.refl (nI i7)) (Eq.refl (nI i23)) (by omega) (by omega)) (by omega)) (show (0 : Int32) = nI 0 from rfl) (by omega) (by omega)).mpr c32
          have p34 : ((fun _ => 1 ≤ i7) S24) := by exact p31.1
          refine V_aload_0 101 dX12_odd_101 ?_
          refine V_getR 102 (c := 12) 65 ((FT9.ss h26.1).r 0 65 46 rfl) dX12_odd_102 fl_RX12_156 ((FT9.ss h26.1).m 0 (Nat.le_of_ble_eq_true rfl)) ((FT9.ss h26.1).k 0 12 rfl) (Nat.le_of_ble_eq_true rfl) (Nat.le_of_ble_eq_true rfl) rfl ?_
          refine V_iload_3 105 dX12_odd_105 ?_
          refine V_iconst 106 (1) dX12_odd_106 (by decide) ?_
          refine V_iload_4 107 dX12_odd_107 ?_
          refine V_ishl 109 dX12_odd_109 ?_
          refine V_iconst 110 (-1) dX12_odd_110 (by decide) ?_
          refine V_ixor 111 dX12_odd_111 ?_
          refine V_iand 112 dX12_odd_112 ?_
          refine V_iaload2 113 dX12_odd_113 ((FT9.ss h26.1).m 46 (Nat.le_of_ble_eq_true rfl)) ((FT9.ss h26.1).k 46 14 rfl) ((FT9.ss h26.1).l 46 262144 rfl) ?_ ?_
          · exact vpAnd (by omega) (by decide)
          refine V_istore_5 114 dX12_odd_114 rfl (Nat.le_of_ble_eq_true rfl) ?_
          refine V_iload_4 116 dX12_odd_116 ?_
          refine V_iconst 118 (1) dX12_odd_118 (by decide) ?_
          refine V_iadd 119 dX12_odd_119 ?_
          refine V_istore_6 120 dX12_odd_120 rfl (Nat.le_of_ble_eq_true rfl) ?_
          rw [(eqAdd (Eq.refl (nI i23)) (show (1 : Int32) = nI 1 from rfl))]
          refine V_lvw (by repeat (first | exact trivial | refine ⟨rfl, ?_⟩)) (V_while (α := Nat × PS × Int32) (fun z35 => n - z35.1) (fun z35 => z35.1 ≤ n ∧ FZ [m + 46] [] T z35.2.1 ∧ ((fun _ => 1 ≤ i7) z35.2.1)) (fun z35 => z35.2.1) (fun z35 => [some (.ref m), some (.int x), some (.int (nI n)), some (.int (nI i7)), some (.int (nI i23)), some (.int z35.2.2), some (.int (nI z35.1)), none]) (i23 + 1, _, _) ⟨(by dsimp only; omega), h26, p34⟩ (fun z35 hx42 ih40 => ?b43))
          obtain ⟨i36, S37, w41⟩ := z35
          obtain ⟨hi38, h39, p45⟩ := hx42
          dsimp only at hi38 h39 p45 ih40 ⊢
          have J48 : ∀ (S46 : PS) (x49 : Int32), FZ [m + 46] [] T S46 → ((fun _ => 1 ≤ i7) S46) → i36 < n → V M Γ (8, RX12, "odd", (some .int), RM (2) (0) (0)) cX12_odd (RQ M Γ (RI (fun r S' => MV Γ.2.2.2.2.1 m g tp S')) (0) (0)) 0 0 S46 217 [some (.ref m), some (.int x), some (.int (nI n)), some (.int (nI i7)), some (.int (nI i23)), some (.int x49), some (.int (nI i36)), none] [] := by
            intro S46 x49 h47 p50 lt51
            refine V_iinc_6 217 (1) dX12_odd_217 (by decide) rfl (Nat.le_of_ble_eq_true rfl) ?_
            refine V_goto 220 122 dX12_odd_220 (by decide) ?_
            rw [← nI_succ]
            refine V_lvw (by repeat (first | exact trivial | refine ⟨rfl, ?_⟩)) (ih40 (i36 + 1, _, _) ⟨by dsimp only; omega, h47, p50⟩ (by dsimp only; omega))
          refine V_iload_6 122 dX12_odd_122 ?_
          refine V_iload_2 124 dX12_odd_124 ?_
          refine V_icmp_ge 125 223 dX12_odd_125 (by decide) (fun c52 => ?_) (fun c52 => ?_)
          ·
            try have nf53 := (nI_leE (Eq.refl (nI n)) (Eq.refl (nI i36)) (by omega) (by omega)).mp c52
            refine V_aload_0 223 dX12_odd_223 ?_
            refine V_getR 224 (c := 12) 65 ((FT9.ss h39.1).r 0 65 46 rfl) dX12_odd_224 fl_RX12_156 ((FT9.ss h39.1).m 0 (Nat.le_of_ble_eq_true rfl)) ((FT9.ss h39.1).k 0 12 rfl) (Nat.le_of_ble_eq_true rfl) (Nat.le_of_ble_eq_true rfl) rfl ?_
            refine V_iload_3 227 dX12_odd_227 ?_
            refine V_iload_5 228 dX12_odd_228 ?_
            refine V_iastore2 230 dX12_odd_230 ((FT9.ss h39.1).m 46 (Nat.le_of_ble_eq_true rfl)) ((FT9.ss h39.1).k 46 14 rfl) ((FT9.ss h39.1).l 46 262144 rfl) ?_ ?_
            · exact vp_in_nI (by omega) (by decide)
            refine V_abs (fun T9 => FZ [m + 46] [] T T9 ∧ ((fun _ => 1 ≤ i7) T9)) ⟨h39.uA (by simp), by exact p45⟩ (fun S54 hh57 => ?_)
            obtain ⟨h55, p56⟩ := hh57
            have p58 : ((fun _ => 1 ≤ i7 + 1) S54) := by exact Nat.le_add_left _ _
            refine V_iinc_3 231 (1) dX12_odd_231 (by decide) rfl (Nat.le_of_ble_eq_true rfl) ?_
            refine V_goto 234 76 dX12_odd_234 (by decide) ?_
            rw [← nI_succ]
            refine V_lvw (by repeat (first | exact trivial | refine ⟨rfl, ?_⟩)) (ih11 (i7 + 1, _) ⟨by dsimp only; omega, h55, p58⟩ (by dsimp only; omega))
          ·
            try have nf59 := mt (nI_leE (Eq.refl (nI n)) (Eq.refl (nI i36)) (by omega) (by omega)).mpr c52
            try have lt60 := nI_ltC hi38 c52
            refine V_iload_3 128 dX12_odd_128 ?_
            refine V_iload_6 129 dX12_odd_129 ?_
            refine V_ishr 131 dX12_odd_131 ?_
            refine V_iconst 132 (1) dX12_odd_132 (by decide) ?_
            refine V_iand 133 dX12_odd_133 ?_
            refine V_if_eq 134 217 dX12_odd_134 (by decide) (fun c61 => ?_) (fun c61 => ?_)
            ·
              try have nf62 := (nI_eqE (andN (shrN (Eq.refl (nI i7)) (Eq.refl (nI i36)) (by omega) (by omega)) (by omega)) (show (0 : Int32) = nI 0 from rfl) (by omega) (by omega)).mp c61
              refine V_lvw (by repeat (first | exact trivial | refine ⟨rfl, ?_⟩)) (J48 _ _ h39 p45 (by first | omega | assumption))
            ·
              try have nf64 := mt (nI_eqE (andN (shrN (Eq.refl (nI i7)) (Eq.refl (nI i36)) (by omega) (by omega)) (by omega)) (show (0 : Int32) = nI 0 from rfl) (by omega) (by omega)).mpr c61
              refine V_aload_0 137 dX12_odd_137 ?_
              refine V_aload_0 138 dX12_odd_138 ?_
              refine V_getR 139 (c := 12) 64 ((FT9.ss h39.1).r 0 64 45 rfl) dX12_odd_139 fl_RX12_152 ((FT9.ss h39.1).m 0 (Nat.le_of_ble_eq_true rfl)) ((FT9.ss h39.1).k 0 12 rfl) (Nat.le_of_ble_eq_true rfl) (Nat.le_of_ble_eq_true rfl) rfl ?_
              refine V_iload_4 142 dX12_odd_142 ?_
              refine V_iaload2 144 dX12_odd_144 ((FT9.ss h39.1).m 45 (Nat.le_of_ble_eq_true rfl)) ((FT9.ss h39.1).k 45 14 rfl) ((FT9.ss h39.1).l 45 18 rfl) ?_ ?_
              · exact vp_in_nI (by omega) (by decide)
              rw [clN (Eq.refl (nI i23)) (by omega)]
              rw [((congrFun (h39.2.1 (m + 45) (by simp)) _).trans (hly i23 (by omega)).2)]
              refine V_aload_0 145 dX12_odd_145 ?_
              refine V_getR 146 (c := 12) 64 ((FT9.ss h39.1).r 0 64 45 rfl) dX12_odd_146 fl_RX12_152 ((FT9.ss h39.1).m 0 (Nat.le_of_ble_eq_true rfl)) ((FT9.ss h39.1).k 0 12 rfl) (Nat.le_of_ble_eq_true rfl) (Nat.le_of_ble_eq_true rfl) rfl ?_
              refine V_iload_6 149 dX12_odd_149 ?_
              refine V_iaload2 151 dX12_odd_151 ((FT9.ss h39.1).m 45 (Nat.le_of_ble_eq_true rfl)) ((FT9.ss h39.1).k 45 14 rfl) ((FT9.ss h39.1).l 45 18 rfl) ?_ ?_
              · exact vp_in_nI (by omega) (by decide)
              rw [clN (Eq.refl (nI i36)) (by omega)]
              rw [((congrFun (h39.2.1 (m + 45) (by simp)) _).trans (hly i36 (by omega)).2)]
              refine V_callV 152 (ci := 12) [.int _, .int _] _ (s_mcanPair M.2.1 Γ S37 (FT9.ss h39.1) (hT.z [46] [] h39 rfl rfl rfl rfl) (hly _ (by omega)).1 (hly _ (by omega)).1) dX12_odd_152 cb_X12_canPair ml_RX12_412 im_yX12_canPair se_yX12_canPair ((FT9.ss h39.1).m 0 (Nat.le_of_ble_eq_true rfl)) ((FT9.ss h39.1).k 0 12 rfl) (Nat.le_of_ble_eq_true rfl) ⟨(Nat.le_of_ble_eq_true rfl), (Nat.le_of_ble_eq_true rfl)⟩ rfl rfl (Nat.le_of_ble_eq_true rfl) ⟨(Nat.le_of_ble_eq_true rfl), (Nat.le_of_ble_eq_true rfl)⟩ (RI.go (fun r67 S65 q66 => ?_))
              have h68 : FZ [m + 46] [] T S65 := h39.tr (q66.2.sub (by simp) (by simp))
              have p69 : ((fun _ => 1 ≤ i7) S65) := by exact p45
              refine V_if_ne 155 161 dX12_odd_155 (by decide) (fun c70 => ?_) (fun c70 => ?_)
              ·
                refine V_aload_0 161 dX12_odd_161 ?_
                refine V_getR 162 (c := 12) 65 ((FT9.ss h68.1).r 0 65 46 rfl) dX12_odd_162 fl_RX12_156 ((FT9.ss h68.1).m 0 (Nat.le_of_ble_eq_true rfl)) ((FT9.ss h68.1).k 0 12 rfl) (Nat.le_of_ble_eq_true rfl) (Nat.le_of_ble_eq_true rfl) rfl ?_
                refine V_iload_3 165 dX12_odd_165 ?_
                refine V_iconst 166 (1) dX12_odd_166 (by decide) ?_
                refine V_iload_4 167 dX12_odd_167 ?_
                refine V_ishl 169 dX12_odd_169 ?_
                refine V_iconst 170 (-1) dX12_odd_170 (by decide) ?_
                refine V_ixor 171 dX12_odd_171 ?_
                refine V_iand 172 dX12_odd_172 ?_
                refine V_iconst 173 (1) dX12_odd_173 (by decide) ?_
                refine V_iload_6 174 dX12_odd_174 ?_
                refine V_ishl 176 dX12_odd_176 ?_
                refine V_iconst 177 (-1) dX12_odd_177 (by decide) ?_
                refine V_ixor 178 dX12_odd_178 ?_
                refine V_iand 179 dX12_odd_179 ?_
                refine V_iaload2 180 dX12_odd_180 ((FT9.ss h68.1).m 46 (Nat.le_of_ble_eq_true rfl)) ((FT9.ss h68.1).k 46 14 rfl) ((FT9.ss h68.1).l 46 262144 rfl) ?_ ?_
                · exact vpAnd2 (by omega) (by decide)
                refine V_sipush 181 (10000) dX12_odd_181 (by decide) ?_
                refine V_iadd 184 dX12_odd_184 ?_
                refine V_aload_0 185 dX12_odd_185 ?_
                refine V_aload_0 186 dX12_odd_186 ?_
                refine V_getR 187 (c := 12) 64 ((FT9.ss h68.1).r 0 64 45 rfl) dX12_odd_187 fl_RX12_152 ((FT9.ss h68.1).m 0 (Nat.le_of_ble_eq_true rfl)) ((FT9.ss h68.1).k 0 12 rfl) (Nat.le_of_ble_eq_true rfl) (Nat.le_of_ble_eq_true rfl) rfl ?_
                refine V_iload_4 190 dX12_odd_190 ?_
                refine V_iaload2 192 dX12_odd_192 ((FT9.ss h68.1).m 45 (Nat.le_of_ble_eq_true rfl)) ((FT9.ss h68.1).k 45 14 rfl) ((FT9.ss h68.1).l 45 18 rfl) ?_ ?_
                · exact vp_in_nI (by omega) (by decide)
                rw [clN (Eq.refl (nI i23)) (by omega)]
                rw [((congrFun (h68.2.1 (m + 45) (by simp)) _).trans (hly i23 (by omega)).2)]
                refine V_aload_0 193 dX12_odd_193 ?_
                refine V_getR 194 (c := 12) 64 ((FT9.ss h68.1).r 0 64 45 rfl) dX12_odd_194 fl_RX12_152 ((FT9.ss h68.1).m 0 (Nat.le_of_ble_eq_true rfl)) ((FT9.ss h68.1).k 0 12 rfl) (Nat.le_of_ble_eq_true rfl) (Nat.le_of_ble_eq_true rfl) rfl ?_
                refine V_iload_6 197 dX12_odd_197 ?_
                refine V_iaload2 199 dX12_odd_199 ((FT9.ss h68.1).m 45 (Nat.le_of_ble_eq_true rfl)) ((FT9.ss h68.1).k 45 14 rfl) ((FT9.ss h68.1).l 45 18 rfl) ?_ ?_
                · exact vp_in_nI (by omega) (by decide)
                rw [clN (Eq.refl (nI i36)) (by omega)]
                rw [((congrFun (h68.2.1 (m + 45) (by simp)) _).trans (hly i36 (by omega)).2)]
                refine V_callV 200 (ci := 12) [.int _, .int _] _ (s_munlikeBy M.2.1 Γ S65 (FT9.ss h68.1) (hT.z [46] [] h68 rfl rfl rfl rfl) (hly _ (by omega)).1 (hly _ (by omega)).1) dX12_odd_200 cb_X12_unlikeBy ml_RX12_409 im_yX12_unlikeBy se_yX12_unlikeBy ((FT9.ss h68.1).m 0 (Nat.le_of_ble_eq_true rfl)) ((FT9.ss h68.1).k 0 12 rfl) (Nat.le_of_ble_eq_true rfl) ⟨(Nat.le_of_ble_eq_true rfl), (Nat.le_of_ble_eq_true rfl)⟩ rfl rfl (Nat.le_of_ble_eq_true rfl) ⟨(Nat.le_of_ble_eq_true rfl), (Nat.le_of_ble_eq_true rfl)⟩ (RI.go (fun r73 S71 q72 => ?_))
                rw [q72.2]
                refine V_isub 203 dX12_odd_203 ?_
                refine V_istore_7 204 dX12_odd_204 rfl (Nat.le_of_ble_eq_true rfl) ?_
                refine V_iload_7 206 dX12_odd_206 ?_
                refine V_iload_5 208 dX12_odd_208 ?_
                refine V_icmp_le 210 217 dX12_odd_210 (by decide) (fun c74 => ?_) (fun c74 => ?_)
                ·
                  refine V_lvw (by repeat (first | exact trivial | refine ⟨rfl, ?_⟩)) (J48 _ _ h68 p69 (by first | omega | assumption))
                ·
                  refine V_iload_7 213 dX12_odd_213 ?_
                  refine V_istore_5 215 dX12_odd_215 rfl (Nat.le_of_ble_eq_true rfl) ?_
                  refine V_lvw (by repeat (first | exact trivial | refine ⟨rfl, ?_⟩)) (J48 _ _ h68 p69 (by first | omega | assumption))
              ·
                refine V_goto 158 217 dX12_odd_158 (by decide) ?_
                refine V_lvw (by repeat (first | exact trivial | refine ⟨rfl, ?_⟩)) (J48 _ _ h68 p69 (by first | omega | assumption))
        ·
          try have nf78 := (nI_eqE (andN (shrN (Eq.refl (nI i7)) (Eq.refl (nI i23)) (by omega) (by omega)) (by omega)) (show (0 : Int32) = nI 0 from rfl) (by omega) (by omega)).mp c32
          have p79 : ((fun _ => 1 ≤ i7 ∧ i7 % 2 ^ (i23 + 1) = 0) S24) := by exact ⟨p31.1, modStep p31.2 (by assumption)⟩
          refine V_iinc_4 95 (1) dX12_odd_95 (by decide) rfl (Nat.le_of_ble_eq_true rfl) ?_
          refine V_goto 98 86 dX12_odd_98 (by decide) ?_
          rw [← nI_succ]
          refine V_lvw (by repeat (first | exact trivial | refine ⟨rfl, ?_⟩)) (ih27 (i23 + 1, _) ⟨by dsimp only; omega, h26, p79⟩ (by dsimp only; omega))
    have p1 : ((fun T => ∀ j, j < sumN y0 0 → ∃ k, k < gK g ∧ sA T (m + 45) j = nI k) S) := fun j hj => absurd hj (Nat.not_lt_zero _)
    refine V_iconst 11 (0) dX12_odd_11 (by decide) ?_
    refine V_istore_2 12 dX12_odd_12 rfl (Nat.le_of_ble_eq_true rfl) ?_
    rw [(show (0 : Int32) = nI 0 from rfl)]
    refine V_iconst 13 (0) dX12_odd_13 (by decide) ?_
    refine V_istore_3 14 dX12_odd_14 rfl (Nat.le_of_ble_eq_true rfl) ?_
    refine V_lvw (by repeat (first | exact trivial | refine ⟨rfl, ?_⟩)) (V_while (α := Nat × PS × Nat) (fun z2 => gK g - z2.1) (fun z2 => z2.1 ≤ gK g ∧ FZ [m + 45] [] S z2.2.1 ∧ ((fun T => ∀ j, j < sumN y0 z2.1 → ∃ k, k < gK g ∧ sA T (m + 45) j = nI k) z2.2.1) ∧ z2.2.2 = sumN y0 z2.1) (fun z2 => z2.2.1) (fun z2 => [some (.ref m), some (.int x), some (.int (nI z2.2.2)), some (.int (nI z2.1)), none, none, none, none]) (0, _, _) ⟨Nat.zero_le _, FZ.rf, p1, by first | omega | (dsimp only; first | omega | (simp only [sumN] <;> omega))⟩ (fun z2 hx9 ih7 => ?bb2_10))
    obtain ⟨i3, S4, w8⟩ := z2
    obtain ⟨hi5, h6, p12, hn13⟩ := hx9
    dsimp only at hi5 h6 p12 hn13 ih7 ⊢
    refine V_iload_3 15 dX12_odd_15 ?_
    refine V_aload_0 16 dX12_odd_16 ?_
    refine V_getR 17 (c := 12) 23 ((F.ss h6.1).r 0 23 11 rfl) dX12_odd_17 fl_RX12_49 ((F.ss h6.1).m 0 (Nat.le_of_ble_eq_true rfl)) ((F.ss h6.1).k 0 12 rfl) (Nat.le_of_ble_eq_true rfl) (Nat.le_of_ble_eq_true rfl) rfl ?_
    refine V_aload_0 20 dX12_odd_20 ?_
    refine V_getI 21 (c := 12) 18 dX12_odd_21 fl_RX12_264 ((F.ss h6.1).m 0 (Nat.le_of_ble_eq_true rfl)) ((F.ss h6.1).k 0 12 rfl) (Nat.le_of_ble_eq_true rfl) (Nat.le_of_ble_eq_true rfl) rfl ?_
    rw [(h.z [45] [] h6 rfl rfl rfl rfl).lv]
    refine V_iaload2 24 dX12_odd_24 ((F.ss h6.1).m 11 (Nat.le_of_ble_eq_true rfl)) ((F.ss h6.1).k 11 14 rfl) ((F.ss h6.1).l 11 2 rfl) ?_ ?_
    · exact vpN (Eq.refl (nI (gl g))) (by omega) (by decide)
    rw [clN (Eq.refl (nI (gl g))) (by omega)]
    rw [(h.z [45] [] h6 rfl rfl rfl rfl).ki]
    refine V_icmp_ge 25 67 dX12_odd_25 (by decide) (fun c14 => ?_) (fun c14 => ?_)
    ·
      try have nf15 := (nI_leE (Eq.refl (nI (gK g))) (Eq.refl (nI i3)) (by omega) (by omega)).mp c14
      exact J67 _ _ _ _ (n18 (by assumption) (by omega) (by omega)) h6 (fun j hj => p12 j (by omega))
    ·
      try have nf16 := mt (nI_leE (Eq.refl (nI (gK g))) (Eq.refl (nI i3)) (by omega) (by omega)).mpr c14
      try have lt17 := nI_ltC hi5 c14
      refine V_iconst 28 (0) dX12_odd_28 (by decide) ?_
      refine V_istore_4 29 dX12_odd_29 rfl (Nat.le_of_ble_eq_true rfl) ?_
      have p18 : ((fun T => ∀ j, j < sumN y0 i3 + 0 → ∃ k, k < gK g ∧ sA T (m + 45) j = nI k) S4) := by exact p12
      refine V_lvw (by repeat (first | exact trivial | refine ⟨rfl, ?_⟩)) (V_while (α := Nat × PS × Nat) (fun z19 => y0 i3 - z19.1) (fun z19 => z19.1 ≤ y0 i3 ∧ FZ [m + 45] [] S z19.2.1 ∧ ((fun T => ∀ j, j < sumN y0 i3 + z19.1 → ∃ k, k < gK g ∧ sA T (m + 45) j = nI k) z19.2.1) ∧ z19.2.2 = sumN y0 i3 + z19.1) (fun z19 => z19.2.1) (fun z19 => [some (.ref m), some (.int x), some (.int (nI z19.2.2)), some (.int (nI i3)), some (.int (nI z19.1)), none, none, none]) (0, _, _) ⟨Nat.zero_le _, h6, p18, by first | omega | (dsimp only; first | omega | (simp only [sumN] <;> omega))⟩ (fun z19 hx26 ih24 => ?bb2_27))
      obtain ⟨i20, S21, w25⟩ := z19
      obtain ⟨hi22, h23, p29, hn30⟩ := hx26
      dsimp only at hi22 h23 p29 hn30 ih24 ⊢
      refine V_iload_4 31 dX12_odd_31 ?_
      have hk18 := OKR.k18 h ok (k := i3) (by omega)
      have hup := sumUp ok h (k := i3) (by omega)
      refine V_aload_0 33 dX12_odd_33 ?_
      refine V_getR 34 (c := 12) 53 ((F.ss h23.1).r 0 53 37 rfl) dX12_odd_34 fl_RX12_128 ((F.ss h23.1).m 0 (Nat.le_of_ble_eq_true rfl)) ((F.ss h23.1).k 0 12 rfl) (Nat.le_of_ble_eq_true rfl) (Nat.le_of_ble_eq_true rfl) rfl ?_
      refine V_bipush 37 (8) dX12_odd_37 (by decide) ?_
      refine V_iload_3 39 dX12_odd_39 ?_
      refine V_iadd 40 dX12_odd_40 ?_
      refine V_iaload2 41 dX12_odd_41 ((F.ss h23.1).m 37 (Nat.le_of_ble_eq_true rfl)) ((F.ss h23.1).k 37 14 rfl) ((F.ss h23.1).l 37 30 rfl) ?_ ?_
      · exact vpN (eqAdd (show (8 : Int32) = nI 8 from rfl) (Eq.refl (nI i3))) (by omega) (by decide)
      rw [clN (eqAdd (show (8 : Int32) = nI 8 from rfl) (Eq.refl (nI i3))) (by omega)]
      rw [(hn.fz h23 (by simp)).gy (by omega)]
      refine V_icmp_ge 42 61 dX12_odd_42 (by decide) (fun c31 => ?_) (fun c31 => ?_)
      ·
        try have nf32 := (nI_leE (Eq.refl (nI (y0 i3))) (Eq.refl (nI i20)) (by omega) (by omega)).mp c31
        have p33 : ((fun T => ∀ j, j < sumN y0 (i3 + 1) → ∃ k, k < gK g ∧ sA T (m + 45) j = nI k) S21) := by exact oddOut p29 (by omega)
        refine V_iinc_3 61 (1) dX12_odd_61 (by decide) rfl (Nat.le_of_ble_eq_true rfl) ?_
        refine V_goto 64 15 dX12_odd_64 (by decide) ?_
        rw [← nI_succ]
        refine V_lvw (by repeat (first | exact trivial | refine ⟨rfl, ?_⟩)) (ih7 (i3 + 1, _, _) ⟨by dsimp only; omega, h23, p33, by dsimp only; first | omega | (simp only [sumN] <;> omega)⟩ (by dsimp only; omega))
      ·
        try have nf34 := mt (nI_leE (Eq.refl (nI (y0 i3))) (Eq.refl (nI i20)) (by omega) (by omega)).mpr c31
        try have lt35 := nI_ltC hi22 c31
        refine V_aload_0 45 dX12_odd_45 ?_
        refine V_getR 46 (c := 12) 64 ((F.ss h23.1).r 0 64 45 rfl) dX12_odd_46 fl_RX12_152 ((F.ss h23.1).m 0 (Nat.le_of_ble_eq_true rfl)) ((F.ss h23.1).k 0 12 rfl) (Nat.le_of_ble_eq_true rfl) (Nat.le_of_ble_eq_true rfl) rfl ?_
        refine V_iload_2 49 dX12_odd_49 ?_
        refine V_iload_3 50 dX12_odd_50 ?_
        refine V_iastore2 51 dX12_odd_51 ((F.ss h23.1).m 45 (Nat.le_of_ble_eq_true rfl)) ((F.ss h23.1).k 45 14 rfl) ((F.ss h23.1).l 45 18 rfl) ?_ ?_
        · exact vpN (Eq.refl (nI w25)) (by omega) (by decide)
        refine V_abs (fun T9 => FZ [m + 45] [] S T9 ∧ ((fun T => ∀ j, j < sumN y0 i3 + (i20 + 1) → ∃ k, k < gK g ∧ sA T (m + 45) j = nI k) T9)) ⟨h23.uA (by simp), by exact oddIn p29 (clN (Eq.refl _) (by omega)) (by omega) ⟨_, by omega, rfl⟩⟩ (fun S36 hh39 => ?_)
        obtain ⟨h37, p38⟩ := hh39
        refine V_iinc_2 52 (1) dX12_odd_52 (by decide) rfl (Nat.le_of_ble_eq_true rfl) ?_
        rw [(eqAdd (Eq.refl (nI w25)) (show (1 : Int32) = nI 1 from rfl))]
        refine V_iinc_4 55 (1) dX12_odd_55 (by decide) rfl (Nat.le_of_ble_eq_true rfl) ?_
        refine V_goto 58 31 dX12_odd_58 (by decide) ?_
        rw [← nI_succ]
        refine V_lvw (by repeat (first | exact trivial | refine ⟨rfl, ?_⟩)) (ih24 (i20 + 1, _, _) ⟨by dsimp only; omega, h37, p38, by dsimp only; first | omega | (simp only [sumN] <;> omega)⟩ (by dsimp only; omega))
  ·
    refine V_iconst 9 (-1) dX12_odd_9 (by decide) ?_
    refine V_iret 10 .int dX12_odd_10 rfl rfl (Nat.le_of_ble_eq_true rfl) (Nat.le_of_ble_eq_true rfl) (RI.mk I)

