/-! The reference's rows, span; lost; the line -/
set_option maxRecDepth 100000 in
set_option maxHeartbeats 8000000 in
theorem s_mliesOf (l : Launch) (Γ : GC) (S : PS) {m : Nat} {g : MG} (F : isL lyModel Γ.2.2.2.2.1 S m) (h : TXT m g S) {k : Nat} (hk : k < gK g) : CT l Γ yX12_liesOf cX12_liesOf 3 (some .int) (1) (0) (0) [.ref m, .int (nI k)] S (RI (fun r S' => FZ [] [] S S')) := by
  refine CT.of RX12 "liesOf" [some (.ref m), some (.int (nI k)), none] (by decide +kernel) rfl rfl (Nat.le_of_ble_eq_true rfl) rfl (fun M hM => ?_)
  subst hM
  have hK := h.k8
  have hp := h.paK hk
  refine V_aload_0 0 dX12_liesOf_0 ?_
  refine V_iload_1 1 dX12_liesOf_1 ?_
  refine V_callV 2 (ci := 12) [.int _] _ (s_mpartner M.2.1 Γ S F h hk) dX12_liesOf_2 cb_X12_partner ml_RX12_349 im_yX12_partner se_yX12_partner (F.m 0 (Nat.le_of_ble_eq_true rfl)) (F.k 0 12 rfl) (Nat.le_of_ble_eq_true rfl) ⟨(Nat.le_of_ble_eq_true rfl), (Nat.le_of_ble_eq_true rfl)⟩ rfl rfl (Nat.le_of_ble_eq_true rfl) ⟨(Nat.le_of_ble_eq_true rfl), (Nat.le_of_ble_eq_true rfl)⟩ (RI.go (fun r3 S1 q2 => ?_))
  obtain ⟨e9, s9⟩ := q2
  rw [s9]
  subst e9
  refine V_istore_2 5 dX12_liesOf_5 rfl (Nat.le_of_ble_eq_true rfl) ?_
  refine V_iload_2 6 dX12_liesOf_6 ?_
  refine V_iload_1 7 dX12_liesOf_7 ?_
  refine V_icmp_ne 8 20 dX12_liesOf_8 (by decide) (fun c4 => ?_) (fun c4 => ?_)
  ·
    try have nf5 := mt (nI_eqE (Eq.refl (nI (gP g k))) (Eq.refl (nI k)) (by omega) (by omega)).mpr c4
    refine V_aload_0 20 dX12_liesOf_20 ?_
    refine V_getR 21 (c := 12) 61 (F.r 0 61 42 rfl) dX12_liesOf_21 fl_RX12_143 (F.m 0 (Nat.le_of_ble_eq_true rfl)) (F.k 0 12 rfl) (Nat.le_of_ble_eq_true rfl) (Nat.le_of_ble_eq_true rfl) rfl ?_
    refine V_iload_1 24 dX12_liesOf_24 ?_
    refine V_iaload2 25 dX12_liesOf_25 (F.m 42 (Nat.le_of_ble_eq_true rfl)) (F.k 42 14 rfl) (F.l 42 8 rfl) ?_ ?_
    · exact vpN (Eq.refl (nI k)) (by omega) (by decide)
    refine V_aload_0 26 dX12_liesOf_26 ?_
    refine V_getR 27 (c := 12) 61 (F.r 0 61 42 rfl) dX12_liesOf_27 fl_RX12_143 (F.m 0 (Nat.le_of_ble_eq_true rfl)) (F.k 0 12 rfl) (Nat.le_of_ble_eq_true rfl) (Nat.le_of_ble_eq_true rfl) rfl ?_
    refine V_iload_2 30 dX12_liesOf_30 ?_
    refine V_iaload2 31 dX12_liesOf_31 (F.m 42 (Nat.le_of_ble_eq_true rfl)) (F.k 42 14 rfl) (F.l 42 8 rfl) ?_ ?_
    · exact vpN (Eq.refl (nI (gP g k))) (by omega) (by decide)
    refine V_icmp_le 32 51 dX12_liesOf_32 (by decide) (fun c6 => ?_) (fun c6 => ?_)
    ·
      refine V_iconst 51 (0) dX12_liesOf_51 (by decide) ?_
      refine V_iret 52 .int dX12_liesOf_52 rfl rfl (Nat.le_of_ble_eq_true rfl) (Nat.le_of_ble_eq_true rfl) (RI.mk FZ.rf)
    ·
      refine V_aload_0 35 dX12_liesOf_35 ?_
      refine V_getR 36 (c := 12) 61 (F.r 0 61 42 rfl) dX12_liesOf_36 fl_RX12_143 (F.m 0 (Nat.le_of_ble_eq_true rfl)) (F.k 0 12 rfl) (Nat.le_of_ble_eq_true rfl) (Nat.le_of_ble_eq_true rfl) rfl ?_
      refine V_iload_1 39 dX12_liesOf_39 ?_
      refine V_iaload2 40 dX12_liesOf_40 (F.m 42 (Nat.le_of_ble_eq_true rfl)) (F.k 42 14 rfl) (F.l 42 8 rfl) ?_ ?_
      · exact vpN (Eq.refl (nI k)) (by omega) (by decide)
      refine V_aload_0 41 dX12_liesOf_41 ?_
      refine V_getR 42 (c := 12) 61 (F.r 0 61 42 rfl) dX12_liesOf_42 fl_RX12_143 (F.m 0 (Nat.le_of_ble_eq_true rfl)) (F.k 0 12 rfl) (Nat.le_of_ble_eq_true rfl) (Nat.le_of_ble_eq_true rfl) rfl ?_
      refine V_iload_2 45 dX12_liesOf_45 ?_
      refine V_iaload2 46 dX12_liesOf_46 (F.m 42 (Nat.le_of_ble_eq_true rfl)) (F.k 42 14 rfl) (F.l 42 8 rfl) ?_ ?_
      · exact vpN (Eq.refl (nI (gP g k))) (by omega) (by decide)
      refine V_isub 47 dX12_liesOf_47 ?_
      refine V_goto 48 52 dX12_liesOf_48 (by decide) ?_
      refine V_iret 52 .int dX12_liesOf_52 rfl rfl (Nat.le_of_ble_eq_true rfl) (Nat.le_of_ble_eq_true rfl) (RI.mk FZ.rf)
  ·
    try have nf7 := (nI_eqE (Eq.refl (nI (gP g k))) (Eq.refl (nI k)) (by omega) (by omega)).mp c4
    refine V_aload_0 11 dX12_liesOf_11 ?_
    refine V_getR 12 (c := 12) 61 (F.r 0 61 42 rfl) dX12_liesOf_12 fl_RX12_143 (F.m 0 (Nat.le_of_ble_eq_true rfl)) (F.k 0 12 rfl) (Nat.le_of_ble_eq_true rfl) (Nat.le_of_ble_eq_true rfl) rfl ?_
    refine V_iload_1 15 dX12_liesOf_15 ?_
    refine V_iaload2 16 dX12_liesOf_16 (F.m 42 (Nat.le_of_ble_eq_true rfl)) (F.k 42 14 rfl) (F.l 42 8 rfl) ?_ ?_
    · exact vpN (Eq.refl (nI k)) (by omega) (by decide)
    refine V_iconst 17 (2) dX12_liesOf_17 (by decide) ?_
    refine V_irem 18 dX12_liesOf_18 (by decide) ?_
    refine V_iret 19 .int dX12_liesOf_19 rfl rfl (Nat.le_of_ble_eq_true rfl) (Nat.le_of_ble_eq_true rfl) (RI.mk FZ.rf)
theorem pick_ex {n K : Nat} {f : Nat → Int32} (h : ∀ i, i < n → ∃ k, k < K ∧ f i = nI k) : ∃ sk : Nat → Nat, ∀ i, i < n → sk i < K ∧ f i = nI (sk i) := by
  refine ⟨fun i => if q : i < n then (h i q).choose else 0, fun i hi => ?_⟩
  dsimp only
  rw [dif_pos hi]
  exact (h i hi).choose_spec
theorem limRow {m : Nat} {g : MG} {T : PS} (hK : gK g ≤ 8) (p : ∀ j, j < 30 → sA T (m + 38) j = nI (if j < gK g then gN g j else 0)) : ROW (m + 38) 0 (lim g) (fun _ => 0) T := fun k hk => by
  rw [Nat.zero_add, Nat.zero_add, p k (by omega), p (8 + k) (by omega), if_neg (show ¬ 8 + k < gK g by omega)]
  exact ⟨rfl, rfl⟩
theorem okLim {g : MG} : OKR g (lim g) (fun _ => 0) := fun k _ => Nat.le_refl _
theorem rowStep {m i idx : Nat} {g : MG} {v : Int32} {T : PS} (h : ∀ j, j < i → sA T (m + 38) j = nI (if j < gK g then gN g j else 0)) (ei : idx = i) (ev : v = nI (if i < gK g then gN g i else 0)) : ∀ j, j < i + 1 → sA (uA T (m + 38) idx v) (m + 38) j = nI (if j < gK g then gN g j else 0) := fun j hj => by
  subst ei ev
  exact up2_cases2 (fun _ q => by rw [q]) (fun q => h j (by have : ¬ j = idx := fun z => q ⟨rfl, z⟩; omega))
theorem rowAll {m i : Nat} {g : MG} {T : PS} (p : ∀ j, j < i → sA T (m + 38) j = nI (if j < gK g then gN g j else 0)) (hi : 30 ≤ i) : ∀ j, j < 30 → sA T (m + 38) j = nI (if j < gK g then gN g j else 0) := fun j hj => p j (by omega)
theorem skAt {m i n K : Nat} {sk : Nat → Nat} {S T T2 : PS} {X X2 : List Nat} {Y Y2 : List (Nat × Nat)} (hsk : ∀ i, i < n → sk i < K ∧ sA S (m + 51) i = nI (sk i)) (e : FZ X Y S T) (e2 : FZ X2 Y2 T T2) (h1 : m + 51 ∉ X) (h2 : m + 51 ∉ X2) (hi : i < n) : sA T2 (m + 51) i = nI (sk i) := by
  rw [e2.2.1 _ h2, e.2.1 _ h1]; exact (hsk i hi).2
set_option maxRecDepth 100000 in
set_option maxHeartbeats 8000000 in
theorem s_mfillsRows (l : Launch) (Γ : GC) (S : PS) {m tp : Nat} {g : MG} (I : MV Γ.2.2.2.2.1 m g tp S) {kn n : Nat} (en : sI S m 70 = nI n) (hkn : kn ≤ n) (hn : n ≤ 20) (hh : ∀ i, i < n → ∃ k, k < gK g ∧ sA S (m + 51) i = nI k) (w : Int32) : CT l Γ yX12_fillsRows cX12_fillsRows 7 (some .int) (3) (0) (0) [.ref m, .int (nI kn), .int w] S (RI (fun r S' => FZ [m + 38, m + 40, m + 42, m + 53, m + 54] [] S S')) := by
  refine CT.of RX12 "fillsRows" [some (.ref m), some (.int (nI kn)), some (.int w), none, none, none, none] (by decide +kernel) rfl rfl (Nat.le_of_ble_eq_true rfl) rfl (fun M hM => ?_)
  subst hM
  have F := I.f
  have h := I.t
  have hK := h.k8
  have hl := h.l2
  have hs : sumN (lim g) 8 ≤ 18 := sum_lim h
  have hb8 := stp_lt hs
  have hp8 := stp_pos (lim g) 8
  have hz := okzx (okLim (g := g))
  obtain ⟨sk, hsk⟩ := pick_ex hh
  have J55 : ∀ (T : PS) (w3 : Option Value), FZ [m + 38, m + 40] [] S T → ROW (m + 38) 0 (lim g) (fun _ => 0) T → STP m (lim g) T → V M Γ (7, RX12, "fillsRows", (some .int), RM (3) (0) (0)) cX12_fillsRows (RQ M Γ (RI (fun r S' => FZ [m + 38, m + 40, m + 42, m + 53, m + 54] [] S S')) (0) (0)) 0 0 T 55 [some (.ref m), some (.int (nI kn)), some (.int w), w3, none, none, none] [] := by
    intro T w3 e hr hp
    have FT9 := F.ss e.1
    have hT := h.z [38, 40] [] e rfl rfl rfl rfl
    refine V_iconst 55 (0) dX12_fillsRows_55 (by decide) ?_
    refine V_istore_3 56 dX12_fillsRows_56 rfl (Nat.le_of_ble_eq_true rfl) ?_
    refine V_iconst 57 (0) dX12_fillsRows_57 (by decide) ?_
    refine V_istore_4 58 dX12_fillsRows_58 rfl (Nat.le_of_ble_eq_true rfl) ?_
    refine V_lvw (by repeat (first | exact trivial | refine ⟨rfl, ?_⟩)) (V_while (α := Nat × PS × Int32) (fun z1 => stp (lim g) 8 - z1.1) (fun z1 => z1.1 ≤ stp (lim g) 8 ∧ FZ [m + 42, m + 53, m + 54] [] T z1.2.1) (fun z1 => z1.2.1) (fun z1 => [some (.ref m), some (.int (nI kn)), some (.int w), some (.int z1.2.2), some (.int (nI z1.1)), none, none]) (0, _, _) ⟨Nat.zero_le _, FZ.rf⟩ (fun z1 hx8 ih6 => ?b9))
    obtain ⟨i2, S3, w7⟩ := z1
    obtain ⟨hi4, h5⟩ := hx8
    dsimp only at hi4 h5 ih6 ⊢
    have J13 : ∀ (S11 : PS) (x14 : Int32) (x15 : Int32) (x16 : Int32), FZ [m + 42, m + 53, m + 54] [] T S11 → i2 < stp (lim g) 8 → (x15 = 0 ∨ x15 = 1) → V M Γ (7, RX12, "fillsRows", (some .int), RM (3) (0) (0)) cX12_fillsRows (RQ M Γ (RI (fun r S' => FZ [m + 38, m + 40, m + 42, m + 53, m + 54] [] S S')) (0) (0)) 0 0 S11 238 [some (.ref m), some (.int (nI kn)), some (.int w), some (.int x14), some (.int (nI i2)), some (.int x15), some (.int x16)] [] := by
      intro S11 x14 x15 x16 h12 lt17 hb_x15
      refine V_iinc_4 238 (1) dX12_fillsRows_238 (by decide) rfl (Nat.le_of_ble_eq_true rfl) ?_
      refine V_goto 241 60 dX12_fillsRows_241 (by decide) ?_
      rw [← nI_succ]
      refine V_lvw (by repeat (first | exact trivial | refine ⟨rfl, ?_⟩)) (ih6 (i2 + 1, _, _) ⟨by dsimp only; omega, h12⟩ (by dsimp only; omega))
    have J20 : ∀ (S18 : PS) (x21 : Int32) (x22 : Int32) (x23 : Int32), FZ [m + 42, m + 53, m + 54] [] T S18 → i2 < stp (lim g) 8 → (x22 = 0 ∨ x22 = 1) → V M Γ (7, RX12, "fillsRows", (some .int), RM (3) (0) (0)) cX12_fillsRows (RQ M Γ (RI (fun r S' => FZ [m + 38, m + 40, m + 42, m + 53, m + 54] [] S S')) (0) (0)) 0 0 S18 141 [some (.ref m), some (.int (nI kn)), some (.int w), some (.int x21), some (.int (nI i2)), some (.int x22), some (.int x23)] [] := by
      intro S18 x21 x22 x23 h19 lt24 hb_x22
      refine V_iload_5 141 dX12_fillsRows_141 ?_
      refine V_if_ne 143 149 dX12_fillsRows_143 (by decide) (fun c25 => ?_) (fun c25 => ?_)
      ·
        refine V_iconst 149 (0) dX12_fillsRows_149 (by decide) ?_
        refine V_istore_6 150 dX12_fillsRows_150 rfl (Nat.le_of_ble_eq_true rfl) ?_
        refine V_lvw (by repeat (first | exact trivial | refine ⟨rfl, ?_⟩)) (V_while (α := Nat × PS × Int32 × Int32) (fun z26 => 8 - z26.1) (fun z26 => z26.1 ≤ 8 ∧ FZ [m + 42, m + 53, m + 54] [] T z26.2.1 ∧ (z26.2.2.2 = 0 ∨ z26.2.2.2 = 1)) (fun z26 => z26.2.1) (fun z26 => [some (.ref m), some (.int (nI kn)), some (.int w), some (.int z26.2.2.1), some (.int (nI i2)), some (.int z26.2.2.2), some (.int (nI z26.1))]) (0, _, _, _) ⟨Nat.zero_le _, h19, hb_x22⟩ (fun z26 hx34 ih31 => ?b35))
        obtain ⟨i27, S28, w32, w33⟩ := z26
        obtain ⟨hi29, h30, hb37⟩ := hx34
        dsimp only at hi29 h30 hb37 ih31 ⊢
        have J40 : ∀ (S38 : PS) (x41 : Int32) (x42 : Int32), FZ [m + 42, m + 53, m + 54] [] T S38 → i27 < 8 → (x42 = 0 ∨ x42 = 1) → V M Γ (7, RX12, "fillsRows", (some .int), RM (3) (0) (0)) cX12_fillsRows (RQ M Γ (RI (fun r S' => FZ [m + 38, m + 40, m + 42, m + 53, m + 54] [] S S')) (0) (0)) 0 0 S38 229 [some (.ref m), some (.int (nI kn)), some (.int w), some (.int x41), some (.int (nI i2)), some (.int x42), some (.int (nI i27))] [] := by
          intro S38 x41 x42 h39 lt43 hb_x42
          refine V_iinc_6 229 (1) dX12_fillsRows_229 (by decide) rfl (Nat.le_of_ble_eq_true rfl) ?_
          refine V_goto 232 152 dX12_fillsRows_232 (by decide) ?_
          rw [← nI_succ]
          refine V_lvw (by repeat (first | exact trivial | refine ⟨rfl, ?_⟩)) (ih31 (i27 + 1, _, _, _) ⟨by dsimp only; omega, h39, hb_x42⟩ (by dsimp only; omega))
        have J46 : ∀ (S44 : PS) (x47 : Int32) (x48 : Int32), FZ [m + 42, m + 53, m + 54] [] T S44 → i27 < 8 → (x48 = 0 ∨ x48 = 1) → V M Γ (7, RX12, "fillsRows", (some .int), RM (3) (0) (0)) cX12_fillsRows (RQ M Γ (RI (fun r S' => FZ [m + 38, m + 40, m + 42, m + 53, m + 54] [] S S')) (0) (0)) 0 0 S44 215 [some (.ref m), some (.int (nI kn)), some (.int w), some (.int x47), some (.int (nI i2)), some (.int x48), some (.int (nI i27))] [] := by
          intro S44 x47 x48 h45 lt49 hb_x48
          refine V_aload_0 215 dX12_fillsRows_215 ?_
          refine V_getR 216 (c := 12) 74 ((FT9.ss h45.1).r 0 74 54 rfl) dX12_fillsRows_216 fl_RX12_180 ((FT9.ss h45.1).m 0 (Nat.le_of_ble_eq_true rfl)) ((FT9.ss h45.1).k 0 12 rfl) (Nat.le_of_ble_eq_true rfl) (Nat.le_of_ble_eq_true rfl) rfl ?_
          refine V_iload_6 219 dX12_fillsRows_219 ?_
          refine V_aload_0 221 dX12_fillsRows_221 ?_
          refine V_getR 222 (c := 12) 61 ((FT9.ss h45.1).r 0 61 42 rfl) dX12_fillsRows_222 fl_RX12_143 ((FT9.ss h45.1).m 0 (Nat.le_of_ble_eq_true rfl)) ((FT9.ss h45.1).k 0 12 rfl) (Nat.le_of_ble_eq_true rfl) (Nat.le_of_ble_eq_true rfl) rfl ?_
          refine V_iload_6 225 dX12_fillsRows_225 ?_
          refine V_iaload2 227 dX12_fillsRows_227 ((FT9.ss h45.1).m 42 (Nat.le_of_ble_eq_true rfl)) ((FT9.ss h45.1).k 42 14 rfl) ((FT9.ss h45.1).l 42 8 rfl) ?_ ?_
          · exact vp_in_nI (by omega) (by decide)
          refine V_iastore2 228 dX12_fillsRows_228 ((FT9.ss h45.1).m 54 (Nat.le_of_ble_eq_true rfl)) ((FT9.ss h45.1).k 54 14 rfl) ((FT9.ss h45.1).l 54 8 rfl) ?_ ?_
          · exact vp_in_nI (by omega) (by decide)
          refine V_abs (FZ [m + 42, m + 53, m + 54] [] T) (h45.uA (by simp)) (fun S50 h51 => ?_)
          refine V_lvw (by repeat (first | exact trivial | refine ⟨rfl, ?_⟩)) (J40 _ _ _ h51 (by first | omega | assumption) hb_x48)
        have J55 : ∀ (S53 : PS) (x56 : Int32) (x57 : Int32), FZ [m + 42, m + 53, m + 54] [] T S53 → i27 < 8 → (x57 = 0 ∨ x57 = 1) → V M Γ (7, RX12, "fillsRows", (some .int), RM (3) (0) (0)) cX12_fillsRows (RQ M Γ (RI (fun r S' => FZ [m + 38, m + 40, m + 42, m + 53, m + 54] [] S S')) (0) (0)) 0 0 S53 194 [some (.ref m), some (.int (nI kn)), some (.int w), some (.int x56), some (.int (nI i2)), some (.int x57), some (.int (nI i27))] [] := by
          intro S53 x56 x57 h54 lt58 hb_x57
          refine V_iload_3 194 dX12_fillsRows_194 ?_
          refine V_if_eq 195 215 dX12_fillsRows_195 (by decide) (fun c59 => ?_) (fun c59 => ?_)
          ·
            refine V_lvw (by repeat (first | exact trivial | refine ⟨rfl, ?_⟩)) (J46 _ _ _ h54 (by first | omega | assumption) hb_x57)
          ·
            refine V_aload_0 198 dX12_fillsRows_198 ?_
            refine V_getR 199 (c := 12) 61 ((FT9.ss h54.1).r 0 61 42 rfl) dX12_fillsRows_199 fl_RX12_143 ((FT9.ss h54.1).m 0 (Nat.le_of_ble_eq_true rfl)) ((FT9.ss h54.1).k 0 12 rfl) (Nat.le_of_ble_eq_true rfl) (Nat.le_of_ble_eq_true rfl) rfl ?_
            refine V_iload_6 202 dX12_fillsRows_202 ?_
            refine V_iaload2 204 dX12_fillsRows_204 ((FT9.ss h54.1).m 42 (Nat.le_of_ble_eq_true rfl)) ((FT9.ss h54.1).k 42 14 rfl) ((FT9.ss h54.1).l 42 8 rfl) ?_ ?_
            · exact vp_in_nI (by omega) (by decide)
            refine V_aload_0 205 dX12_fillsRows_205 ?_
            refine V_getR 206 (c := 12) 74 ((FT9.ss h54.1).r 0 74 54 rfl) dX12_fillsRows_206 fl_RX12_180 ((FT9.ss h54.1).m 0 (Nat.le_of_ble_eq_true rfl)) ((FT9.ss h54.1).k 0 12 rfl) (Nat.le_of_ble_eq_true rfl) (Nat.le_of_ble_eq_true rfl) rfl ?_
            refine V_iload_6 209 dX12_fillsRows_209 ?_
            refine V_iaload2 211 dX12_fillsRows_211 ((FT9.ss h54.1).m 54 (Nat.le_of_ble_eq_true rfl)) ((FT9.ss h54.1).k 54 14 rfl) ((FT9.ss h54.1).l 54 8 rfl) ?_ ?_
            · exact vp_in_nI (by omega) (by decide)
            refine V_icmp_le 212 229 dX12_fillsRows_212 (by decide) (fun c61 => ?_) (fun c61 => ?_)
            ·
              refine V_lvw (by repeat (first | exact trivial | refine ⟨rfl, ?_⟩)) (J40 _ _ _ h54 (by first | omega | assumption) hb_x57)
            ·
              refine V_lvw (by repeat (first | exact trivial | refine ⟨rfl, ?_⟩)) (J46 _ _ _ h54 (by first | omega | assumption) hb_x57)
        have J66 : ∀ (S64 : PS) (x67 : Int32) (x68 : Int32), FZ [m + 42, m + 53, m + 54] [] T S64 → i27 < 8 → (x68 = 0 ∨ x68 = 1) → V M Γ (7, RX12, "fillsRows", (some .int), RM (3) (0) (0)) cX12_fillsRows (RQ M Γ (RI (fun r S' => FZ [m + 38, m + 40, m + 42, m + 53, m + 54] [] S S')) (0) (0)) 0 0 S64 180 [some (.ref m), some (.int (nI kn)), some (.int w), some (.int x67), some (.int (nI i2)), some (.int x68), some (.int (nI i27))] [] := by
          intro S64 x67 x68 h65 lt69 hb_x68
          refine V_aload_0 180 dX12_fillsRows_180 ?_
          refine V_getR 181 (c := 12) 73 ((FT9.ss h65.1).r 0 73 53 rfl) dX12_fillsRows_181 fl_RX12_177 ((FT9.ss h65.1).m 0 (Nat.le_of_ble_eq_true rfl)) ((FT9.ss h65.1).k 0 12 rfl) (Nat.le_of_ble_eq_true rfl) (Nat.le_of_ble_eq_true rfl) rfl ?_
          refine V_iload_6 184 dX12_fillsRows_184 ?_
          refine V_aload_0 186 dX12_fillsRows_186 ?_
          refine V_getR 187 (c := 12) 61 ((FT9.ss h65.1).r 0 61 42 rfl) dX12_fillsRows_187 fl_RX12_143 ((FT9.ss h65.1).m 0 (Nat.le_of_ble_eq_true rfl)) ((FT9.ss h65.1).k 0 12 rfl) (Nat.le_of_ble_eq_true rfl) (Nat.le_of_ble_eq_true rfl) rfl ?_
          refine V_iload_6 190 dX12_fillsRows_190 ?_
          refine V_iaload2 192 dX12_fillsRows_192 ((FT9.ss h65.1).m 42 (Nat.le_of_ble_eq_true rfl)) ((FT9.ss h65.1).k 42 14 rfl) ((FT9.ss h65.1).l 42 8 rfl) ?_ ?_
          · exact vp_in_nI (by omega) (by decide)
          refine V_iastore2 193 dX12_fillsRows_193 ((FT9.ss h65.1).m 53 (Nat.le_of_ble_eq_true rfl)) ((FT9.ss h65.1).k 53 14 rfl) ((FT9.ss h65.1).l 53 8 rfl) ?_ ?_
          · exact vp_in_nI (by omega) (by decide)
          refine V_abs (FZ [m + 42, m + 53, m + 54] [] T) (h65.uA (by simp)) (fun S70 h71 => ?_)
          refine V_lvw (by repeat (first | exact trivial | refine ⟨rfl, ?_⟩)) (J55 _ _ _ h71 (by first | omega | assumption) hb_x68)
        refine V_iload_6 152 dX12_fillsRows_152 ?_
        refine V_bipush 154 (8) dX12_fillsRows_154 (by decide) ?_
        refine V_icmp_ge 156 235 dX12_fillsRows_156 (by decide) (fun c73 => ?_) (fun c73 => ?_)
        ·
          try have nf74 := (nI_leE (show (8 : Int32) = nI 8 from rfl) (Eq.refl (nI i27)) (by omega) (by omega)).mp c73
          refine V_iinc_3 235 (1) dX12_fillsRows_235 (by decide) rfl (Nat.le_of_ble_eq_true rfl) ?_
          refine V_lvw (by repeat (first | exact trivial | refine ⟨rfl, ?_⟩)) (J13 _ _ _ _ h30 (by first | omega | assumption) hb37)
        ·
          try have nf76 := mt (nI_leE (show (8 : Int32) = nI 8 from rfl) (Eq.refl (nI i27)) (by omega) (by omega)).mpr c73
          have lt77 := nI_lt8 (by decide) hi29 c73
          refine V_iload_3 159 dX12_fillsRows_159 ?_
          refine V_if_eq 160 180 dX12_fillsRows_160 (by decide) (fun c78 => ?_) (fun c78 => ?_)
          ·
            refine V_lvw (by repeat (first | exact trivial | refine ⟨rfl, ?_⟩)) (J66 _ _ _ h30 (by first | omega | assumption) hb37)
          ·
            refine V_aload_0 163 dX12_fillsRows_163 ?_
            refine V_getR 164 (c := 12) 61 ((FT9.ss h30.1).r 0 61 42 rfl) dX12_fillsRows_164 fl_RX12_143 ((FT9.ss h30.1).m 0 (Nat.le_of_ble_eq_true rfl)) ((FT9.ss h30.1).k 0 12 rfl) (Nat.le_of_ble_eq_true rfl) (Nat.le_of_ble_eq_true rfl) rfl ?_
            refine V_iload_6 167 dX12_fillsRows_167 ?_
            refine V_iaload2 169 dX12_fillsRows_169 ((FT9.ss h30.1).m 42 (Nat.le_of_ble_eq_true rfl)) ((FT9.ss h30.1).k 42 14 rfl) ((FT9.ss h30.1).l 42 8 rfl) ?_ ?_
            · exact vp_in_nI (by omega) (by decide)
            refine V_aload_0 170 dX12_fillsRows_170 ?_
            refine V_getR 171 (c := 12) 73 ((FT9.ss h30.1).r 0 73 53 rfl) dX12_fillsRows_171 fl_RX12_177 ((FT9.ss h30.1).m 0 (Nat.le_of_ble_eq_true rfl)) ((FT9.ss h30.1).k 0 12 rfl) (Nat.le_of_ble_eq_true rfl) (Nat.le_of_ble_eq_true rfl) rfl ?_
            refine V_iload_6 174 dX12_fillsRows_174 ?_
            refine V_iaload2 176 dX12_fillsRows_176 ((FT9.ss h30.1).m 53 (Nat.le_of_ble_eq_true rfl)) ((FT9.ss h30.1).k 53 14 rfl) ((FT9.ss h30.1).l 53 8 rfl) ?_ ?_
            · exact vp_in_nI (by omega) (by decide)
            refine V_icmp_ge 177 194 dX12_fillsRows_177 (by decide) (fun c80 => ?_) (fun c80 => ?_)
            ·
              refine V_lvw (by repeat (first | exact trivial | refine ⟨rfl, ?_⟩)) (J55 _ _ _ h30 (by first | omega | assumption) hb37)
            ·
              refine V_lvw (by repeat (first | exact trivial | refine ⟨rfl, ?_⟩)) (J66 _ _ _ h30 (by first | omega | assumption) hb37)
      ·
        refine V_goto 146 238 dX12_fillsRows_146 (by decide) ?_
        refine V_lvw (by repeat (first | exact trivial | refine ⟨rfl, ?_⟩)) (J13 _ _ _ _ h19 (by first | omega | assumption) hb_x22)
    refine V_iload_4 60 dX12_fillsRows_60 ?_
    refine V_aload_0 62 dX12_fillsRows_62 ?_
    refine V_getR 63 (c := 12) 59 ((FT9.ss h5.1).r 0 59 40 rfl) dX12_fillsRows_63 fl_RX12_137 ((FT9.ss h5.1).m 0 (Nat.le_of_ble_eq_true rfl)) ((FT9.ss h5.1).k 0 12 rfl) (Nat.le_of_ble_eq_true rfl) (Nat.le_of_ble_eq_true rfl) rfl ?_
    refine V_bipush 66 (8) dX12_fillsRows_66 (by decide) ?_
    refine V_iaload2 68 dX12_fillsRows_68 ((FT9.ss h5.1).m 40 (Nat.le_of_ble_eq_true rfl)) ((FT9.ss h5.1).k 40 14 rfl) ((FT9.ss h5.1).l 40 9 rfl) ?_ ?_
    · exact (by unfold vp_in; decide)
    rw [clN (show (8 : Int32) = nI 8 from rfl) (by omega)]
    rw [(stp_at hp h5 (by simp) (k := 8) (by omega))]
    refine V_icmp_ge 69 244 dX12_fillsRows_69 (by decide) (fun c84 => ?_) (fun c84 => ?_)
    ·
      try have nf85 := (nI_leE (Eq.refl (nI (stp (lim g) 8))) (Eq.refl (nI i2)) (by omega) (by omega)).mp c84
      refine V_iload_3 244 dX12_fillsRows_244 ?_
      refine V_iret 245 .int dX12_fillsRows_245 rfl rfl (Nat.le_of_ble_eq_true rfl) (Nat.le_of_ble_eq_true rfl) (RI.mk ((e.sub (by simp) (by simp)).tr (h5.sub (by simp) (by simp))))
    ·
      try have nf86 := mt (nI_leE (Eq.refl (nI (stp (lim g) 8))) (Eq.refl (nI i2)) (by omega) (by omega)).mpr c84
      try have lt87 := nI_ltC hi4 c84
      refine V_aload_0 72 dX12_fillsRows_72 ?_
      refine V_iload_4 73 dX12_fillsRows_73 ?_
      refine V_callV 75 (ci := 12) [.int _] _ (s_mtakes M.2.1 Γ S3 (FT9.ss h5.1) (hT.z [42, 53, 54] [] h5 rfl rfl rfl rfl) (lim g) _ (hr.fz h5 (by simp)) hz hs (stp_all hp h5 (by simp)) (show (i2) < 20000 by omega)) dX12_fillsRows_75 cb_X12_takesNumber ml_RX12_379 im_yX12_takesNumber se_yX12_takesNumber ((FT9.ss h5.1).m 0 (Nat.le_of_ble_eq_true rfl)) ((FT9.ss h5.1).k 0 12 rfl) (Nat.le_of_ble_eq_true rfl) ⟨(Nat.le_of_ble_eq_true rfl), (Nat.le_of_ble_eq_true rfl)⟩ rfl rfl (Nat.le_of_ble_eq_true rfl) ⟨(Nat.le_of_ble_eq_true rfl), (Nat.le_of_ble_eq_true rfl)⟩ (RV.go (fun S88 q89 => ?_))
      have h91 : FZ [m + 42, m + 53, m + 54] [] T S88 := h5.tr (q89.1.sub (by simp) (by simp))
      refine V_aload_0 78 dX12_fillsRows_78 ?_
      refine V_callV 79 (ci := 12) [] _ (s_mdrawnAll M.2.1 Γ S88 (FT9.ss h91.1)) dX12_fillsRows_79 cb_X12_drawnAll ml_RX12_397 im_yX12_drawnAll se_yX12_drawnAll ((FT9.ss h91.1).m 0 (Nat.le_of_ble_eq_true rfl)) ((FT9.ss h91.1).k 0 12 rfl) (Nat.le_of_ble_eq_true rfl) ⟨(Nat.le_of_ble_eq_true rfl), (Nat.le_of_ble_eq_true rfl)⟩ rfl rfl (Nat.le_of_ble_eq_true rfl) ⟨(Nat.le_of_ble_eq_true rfl), (Nat.le_of_ble_eq_true rfl)⟩ (RI.go (fun r94 S92 q93 => ?_))
      have h95 : FZ [m + 42, m + 53, m + 54] [] T S92 := h91.tr (q93.sub (by simp) (by simp))
      refine V_iload_2 82 dX12_fillsRows_82 ?_
      refine V_icmp_ne 83 90 dX12_fillsRows_83 (by decide) (fun c96 => ?_) (fun c96 => ?_)
      ·
        refine V_iconst 90 (0) dX12_fillsRows_90 (by decide) ?_
        refine V_istore_5 91 dX12_fillsRows_91 rfl (Nat.le_of_ble_eq_true rfl) ?_
        refine V_iconst 93 (0) dX12_fillsRows_93 (by decide) ?_
        refine V_istore_6 94 dX12_fillsRows_94 rfl (Nat.le_of_ble_eq_true rfl) ?_
        refine V_lvw (by repeat (first | exact trivial | refine ⟨rfl, ?_⟩)) (V_while (α := Nat × PS × Int32 × Int32) (fun z97 => kn - z97.1) (fun z97 => z97.1 ≤ kn ∧ FZ [m + 42, m + 53, m + 54] [] T z97.2.1 ∧ (z97.2.2.2 = 0 ∨ z97.2.2.2 = 1)) (fun z97 => z97.2.1) (fun z97 => [some (.ref m), some (.int (nI kn)), some (.int w), some (.int z97.2.2.1), some (.int (nI i2)), some (.int z97.2.2.2), some (.int (nI z97.1))]) (0, _, _, _) ⟨Nat.zero_le _, h95, (Or.inl rfl)⟩ (fun z97 hx105 ih102 => ?b106))
        obtain ⟨i98, S99, w103, w104⟩ := z97
        obtain ⟨hi100, h101, hb108⟩ := hx105
        dsimp only at hi100 h101 hb108 ih102 ⊢
        refine V_iload_6 96 dX12_fillsRows_96 ?_
        refine V_iload_1 98 dX12_fillsRows_98 ?_
        refine V_icmp_ge 99 141 dX12_fillsRows_99 (by decide) (fun c109 => ?_) (fun c109 => ?_)
        ·
          try have nf110 := (nI_leE (Eq.refl (nI kn)) (Eq.refl (nI i98)) (by omega) (by omega)).mp c109
          refine V_lvw (by repeat (first | exact trivial | refine ⟨rfl, ?_⟩)) (J20 _ _ _ _ h101 (by first | omega | assumption) hb108)
        ·
          try have nf112 := mt (nI_leE (Eq.refl (nI kn)) (Eq.refl (nI i98)) (by omega) (by omega)).mpr c109
          try have lt113 := nI_ltC hi100 c109
          refine V_iload_5 102 dX12_fillsRows_102 ?_
          refine V_if_eq 104 141 dX12_fillsRows_104 (by decide) (fun c114 => ?_) (fun c114 => ?_)
          ·
            refine V_lvw (by repeat (first | exact trivial | refine ⟨rfl, ?_⟩)) (J20 _ _ _ _ h101 (by first | omega | assumption) hb108)
          ·
            refine V_aload_0 107 dX12_fillsRows_107 ?_
            refine V_aload_0 108 dX12_fillsRows_108 ?_
            refine V_getR 109 (c := 12) 71 ((FT9.ss h101.1).r 0 71 51 rfl) dX12_fillsRows_109 fl_RX12_171 ((FT9.ss h101.1).m 0 (Nat.le_of_ble_eq_true rfl)) ((FT9.ss h101.1).k 0 12 rfl) (Nat.le_of_ble_eq_true rfl) (Nat.le_of_ble_eq_true rfl) rfl ?_
            refine V_iload_6 112 dX12_fillsRows_112 ?_
            refine V_iaload2 114 dX12_fillsRows_114 ((FT9.ss h101.1).m 51 (Nat.le_of_ble_eq_true rfl)) ((FT9.ss h101.1).k 51 14 rfl) ((FT9.ss h101.1).l 51 20 rfl) ?_ ?_
            · exact vp_in_nI (by omega) (by decide)
            rw [clN (Eq.refl (nI i98)) (by omega)]
            rw [(skAt hsk e h101 (by simp) (by simp) (i := i98) (by omega))]
            refine V_callV 115 (ci := 12) [.int _] _ (s_mliesOf M.2.1 Γ S99 (FT9.ss h101.1) (hT.z [42, 53, 54] [] h101 rfl rfl rfl rfl) (hsk _ (by omega)).1) dX12_fillsRows_115 cb_X12_liesOf ml_RX12_434 im_yX12_liesOf se_yX12_liesOf ((FT9.ss h101.1).m 0 (Nat.le_of_ble_eq_true rfl)) ((FT9.ss h101.1).k 0 12 rfl) (Nat.le_of_ble_eq_true rfl) ⟨(Nat.le_of_ble_eq_true rfl), (Nat.le_of_ble_eq_true rfl)⟩ rfl rfl (Nat.le_of_ble_eq_true rfl) ⟨(Nat.le_of_ble_eq_true rfl), (Nat.le_of_ble_eq_true rfl)⟩ (RI.go (fun r118 S116 q117 => ?_))
            have h119 : FZ [m + 42, m + 53, m + 54] [] T S116 := h101.tr (q117.sub (by simp) (by simp))
            refine V_aload_0 118 dX12_fillsRows_118 ?_
            refine V_getR 119 (c := 12) 72 ((FT9.ss h119.1).r 0 72 52 rfl) dX12_fillsRows_119 fl_RX12_174 ((FT9.ss h119.1).m 0 (Nat.le_of_ble_eq_true rfl)) ((FT9.ss h119.1).k 0 12 rfl) (Nat.le_of_ble_eq_true rfl) (Nat.le_of_ble_eq_true rfl) rfl ?_
            refine V_iload_6 122 dX12_fillsRows_122 ?_
            refine V_iaload2 124 dX12_fillsRows_124 ((FT9.ss h119.1).m 52 (Nat.le_of_ble_eq_true rfl)) ((FT9.ss h119.1).k 52 14 rfl) ((FT9.ss h119.1).l 52 20 rfl) ?_ ?_
            · exact vp_in_nI (by omega) (by decide)
            refine V_icmp_ne 125 132 dX12_fillsRows_125 (by decide) (fun c120 => ?_) (fun c120 => ?_)
            ·
              refine V_iconst 132 (0) dX12_fillsRows_132 (by decide) ?_
              refine V_istore_5 133 dX12_fillsRows_133 rfl (Nat.le_of_ble_eq_true rfl) ?_
              refine V_iinc_6 135 (1) dX12_fillsRows_135 (by decide) rfl (Nat.le_of_ble_eq_true rfl) ?_
              refine V_goto 138 96 dX12_fillsRows_138 (by decide) ?_
              rw [← nI_succ]
              refine V_lvw (by repeat (first | exact trivial | refine ⟨rfl, ?_⟩)) (ih102 (i98 + 1, _, _, _) ⟨by dsimp only; omega, h119, (Or.inl rfl)⟩ (by dsimp only; omega))
            ·
              refine V_iconst 128 (1) dX12_fillsRows_128 (by decide) ?_
              refine V_goto 129 133 dX12_fillsRows_129 (by decide) ?_
              refine V_istore_5 133 dX12_fillsRows_133 rfl (Nat.le_of_ble_eq_true rfl) ?_
              refine V_iinc_6 135 (1) dX12_fillsRows_135 (by decide) rfl (Nat.le_of_ble_eq_true rfl) ?_
              refine V_goto 138 96 dX12_fillsRows_138 (by decide) ?_
              rw [← nI_succ]
              refine V_lvw (by repeat (first | exact trivial | refine ⟨rfl, ?_⟩)) (ih102 (i98 + 1, _, _, _) ⟨by dsimp only; omega, h119, (Or.inr rfl)⟩ (by dsimp only; omega))
      ·
        refine V_iconst 86 (1) dX12_fillsRows_86 (by decide) ?_
        refine V_goto 87 91 dX12_fillsRows_87 (by decide) ?_
        refine V_istore_5 91 dX12_fillsRows_91 rfl (Nat.le_of_ble_eq_true rfl) ?_
        refine V_iconst 93 (0) dX12_fillsRows_93 (by decide) ?_
        refine V_istore_6 94 dX12_fillsRows_94 rfl (Nat.le_of_ble_eq_true rfl) ?_
        refine V_lvw (by repeat (first | exact trivial | refine ⟨rfl, ?_⟩)) (V_while (α := Nat × PS × Int32 × Int32) (fun z121 => kn - z121.1) (fun z121 => z121.1 ≤ kn ∧ FZ [m + 42, m + 53, m + 54] [] T z121.2.1 ∧ (z121.2.2.2 = 0 ∨ z121.2.2.2 = 1)) (fun z121 => z121.2.1) (fun z121 => [some (.ref m), some (.int (nI kn)), some (.int w), some (.int z121.2.2.1), some (.int (nI i2)), some (.int z121.2.2.2), some (.int (nI z121.1))]) (0, _, _, _) ⟨Nat.zero_le _, h95, (Or.inr rfl)⟩ (fun z121 hx129 ih126 => ?b130))
        obtain ⟨i122, S123, w127, w128⟩ := z121
        obtain ⟨hi124, h125, hb132⟩ := hx129
        dsimp only at hi124 h125 hb132 ih126 ⊢
        refine V_iload_6 96 dX12_fillsRows_96 ?_
        refine V_iload_1 98 dX12_fillsRows_98 ?_
        refine V_icmp_ge 99 141 dX12_fillsRows_99 (by decide) (fun c133 => ?_) (fun c133 => ?_)
        ·
          try have nf134 := (nI_leE (Eq.refl (nI kn)) (Eq.refl (nI i122)) (by omega) (by omega)).mp c133
          refine V_lvw (by repeat (first | exact trivial | refine ⟨rfl, ?_⟩)) (J20 _ _ _ _ h125 (by first | omega | assumption) hb132)
        ·
          try have nf136 := mt (nI_leE (Eq.refl (nI kn)) (Eq.refl (nI i122)) (by omega) (by omega)).mpr c133
          try have lt137 := nI_ltC hi124 c133
          refine V_iload_5 102 dX12_fillsRows_102 ?_
          refine V_if_eq 104 141 dX12_fillsRows_104 (by decide) (fun c138 => ?_) (fun c138 => ?_)
          ·
            refine V_lvw (by repeat (first | exact trivial | refine ⟨rfl, ?_⟩)) (J20 _ _ _ _ h125 (by first | omega | assumption) hb132)
          ·
            refine V_aload_0 107 dX12_fillsRows_107 ?_
            refine V_aload_0 108 dX12_fillsRows_108 ?_
            refine V_getR 109 (c := 12) 71 ((FT9.ss h125.1).r 0 71 51 rfl) dX12_fillsRows_109 fl_RX12_171 ((FT9.ss h125.1).m 0 (Nat.le_of_ble_eq_true rfl)) ((FT9.ss h125.1).k 0 12 rfl) (Nat.le_of_ble_eq_true rfl) (Nat.le_of_ble_eq_true rfl) rfl ?_
            refine V_iload_6 112 dX12_fillsRows_112 ?_
            refine V_iaload2 114 dX12_fillsRows_114 ((FT9.ss h125.1).m 51 (Nat.le_of_ble_eq_true rfl)) ((FT9.ss h125.1).k 51 14 rfl) ((FT9.ss h125.1).l 51 20 rfl) ?_ ?_
            · exact vp_in_nI (by omega) (by decide)
            rw [clN (Eq.refl (nI i122)) (by omega)]
            rw [(skAt hsk e h125 (by simp) (by simp) (i := i122) (by omega))]
            refine V_callV 115 (ci := 12) [.int _] _ (s_mliesOf M.2.1 Γ S123 (FT9.ss h125.1) (hT.z [42, 53, 54] [] h125 rfl rfl rfl rfl) (hsk _ (by omega)).1) dX12_fillsRows_115 cb_X12_liesOf ml_RX12_434 im_yX12_liesOf se_yX12_liesOf ((FT9.ss h125.1).m 0 (Nat.le_of_ble_eq_true rfl)) ((FT9.ss h125.1).k 0 12 rfl) (Nat.le_of_ble_eq_true rfl) ⟨(Nat.le_of_ble_eq_true rfl), (Nat.le_of_ble_eq_true rfl)⟩ rfl rfl (Nat.le_of_ble_eq_true rfl) ⟨(Nat.le_of_ble_eq_true rfl), (Nat.le_of_ble_eq_true rfl)⟩ (RI.go (fun r142 S140 q141 => ?_))
            have h143 : FZ [m + 42, m + 53, m + 54] [] T S140 := h125.tr (q141.sub (by simp) (by simp))
            refine V_aload_0 118 dX12_fillsRows_118 ?_
            refine V_getR 119 (c := 12) 72 ((FT9.ss h143.1).r 0 72 52 rfl) dX12_fillsRows_119 fl_RX12_174 ((FT9.ss h143.1).m 0 (Nat.le_of_ble_eq_true rfl)) ((FT9.ss h143.1).k 0 12 rfl) (Nat.le_of_ble_eq_true rfl) (Nat.le_of_ble_eq_true rfl) rfl ?_
            refine V_iload_6 122 dX12_fillsRows_122 ?_
            refine V_iaload2 124 dX12_fillsRows_124 ((FT9.ss h143.1).m 52 (Nat.le_of_ble_eq_true rfl)) ((FT9.ss h143.1).k 52 14 rfl) ((FT9.ss h143.1).l 52 20 rfl) ?_ ?_
            · exact vp_in_nI (by omega) (by decide)
            refine V_icmp_ne 125 132 dX12_fillsRows_125 (by decide) (fun c144 => ?_) (fun c144 => ?_)
            ·
              refine V_iconst 132 (0) dX12_fillsRows_132 (by decide) ?_
              refine V_istore_5 133 dX12_fillsRows_133 rfl (Nat.le_of_ble_eq_true rfl) ?_
              refine V_iinc_6 135 (1) dX12_fillsRows_135 (by decide) rfl (Nat.le_of_ble_eq_true rfl) ?_
              refine V_goto 138 96 dX12_fillsRows_138 (by decide) ?_
              rw [← nI_succ]
              refine V_lvw (by repeat (first | exact trivial | refine ⟨rfl, ?_⟩)) (ih126 (i122 + 1, _, _, _) ⟨by dsimp only; omega, h143, (Or.inl rfl)⟩ (by dsimp only; omega))
            ·
              refine V_iconst 128 (1) dX12_fillsRows_128 (by decide) ?_
              refine V_goto 129 133 dX12_fillsRows_129 (by decide) ?_
              refine V_istore_5 133 dX12_fillsRows_133 rfl (Nat.le_of_ble_eq_true rfl) ?_
              refine V_iinc_6 135 (1) dX12_fillsRows_135 (by decide) rfl (Nat.le_of_ble_eq_true rfl) ?_
              refine V_goto 138 96 dX12_fillsRows_138 (by decide) ?_
              rw [← nI_succ]
              refine V_lvw (by repeat (first | exact trivial | refine ⟨rfl, ?_⟩)) (ih126 (i122 + 1, _, _, _) ⟨by dsimp only; omega, h143, (Or.inr rfl)⟩ (by dsimp only; omega))
  have J51 : ∀ (T : PS) (w3 : Option Value), FZ [m + 38] [] S T → ROW (m + 38) 0 (lim g) (fun _ => 0) T → V M Γ (7, RX12, "fillsRows", (some .int), RM (3) (0) (0)) cX12_fillsRows (RQ M Γ (RI (fun r S' => FZ [m + 38, m + 40, m + 42, m + 53, m + 54] [] S S')) (0) (0)) 0 0 T 51 [some (.ref m), some (.int (nI kn)), some (.int w), w3, none, none, none] [] := by
    intro T w3 e hr
    have FT9 := F.ss e.1
    have hT := h.z [38] [] e rfl rfl rfl rfl
    refine V_aload_0 51 dX12_fillsRows_51 ?_
    refine V_callV 52 (ci := 12) [] _ (s_mfillsSteps M.2.1 Γ T FT9 hT (lim g) _ hr hz hs) dX12_fillsRows_52 cb_X12_fillsSteps ml_RX12_376 im_yX12_fillsSteps se_yX12_fillsSteps (FT9.m 0 (Nat.le_of_ble_eq_true rfl)) (FT9.k 0 12 rfl) (Nat.le_of_ble_eq_true rfl) ⟨(Nat.le_of_ble_eq_true rfl), (Nat.le_of_ble_eq_true rfl)⟩ rfl rfl (Nat.le_of_ble_eq_true rfl) ⟨(Nat.le_of_ble_eq_true rfl), (Nat.le_of_ble_eq_true rfl)⟩ (RV.go (fun S2 h2 => ?_))
    exact J55 _ _ ((e.sub (by simp) (by simp)).tr (h2.1.sub (by simp) (by simp))) (hr.fz h2.1 (by simp)) h2.2
  have p1 : ((fun T => ∀ j, j < 0 → sA T (m + 38) j = nI (if j < gK g then gN g j else 0)) S) := fun j hj => absurd hj (Nat.not_lt_zero _)
  refine V_iconst 0 (0) dX12_fillsRows_0 (by decide) ?_
  refine V_istore_3 1 dX12_fillsRows_1 rfl (Nat.le_of_ble_eq_true rfl) ?_
  refine V_lvw (by repeat (first | exact trivial | refine ⟨rfl, ?_⟩)) (V_while (α := Nat × PS) (fun z2 => 30 - z2.1) (fun z2 => z2.1 ≤ 30 ∧ FZ [m + 38] [] S z2.2 ∧ ((fun T => ∀ j, j < z2.1 → sA T (m + 38) j = nI (if j < gK g then gN g j else 0)) z2.2)) (fun z2 => z2.2) (fun z2 => [some (.ref m), some (.int (nI kn)), some (.int w), some (.int (nI z2.1)), none, none, none]) (0, _) ⟨Nat.zero_le _, FZ.rf, p1⟩ (fun z2 hx8 ih7 => ?bb2_9))
  obtain ⟨i3, S4⟩ := z2
  obtain ⟨hi5, h6, p11⟩ := hx8
  dsimp only at hi5 h6 p11 ih7 ⊢
  refine V_iload_3 2 dX12_fillsRows_2 ?_
  refine V_bipush 3 (30) dX12_fillsRows_3 (by decide) ?_
  refine V_icmp_ge 5 51 dX12_fillsRows_5 (by decide) (fun c12 => ?_) (fun c12 => ?_)
  ·
    try have nf13 := (nI_leE (show (30 : Int32) = nI 30 from rfl) (Eq.refl (nI i3)) (by omega) (by omega)).mp c12
    exact J51 _ _ h6 (limRow hK (rowAll p11 (by omega)))
  ·
    try have nf14 := mt (nI_leE (show (30 : Int32) = nI 30 from rfl) (Eq.refl (nI i3)) (by omega) (by omega)).mpr c12
    have lt15 := nI_lt8 (by decide) hi5 c12
    refine V_aload_0 8 dX12_fillsRows_8 ?_
    refine V_getR 9 (c := 12) 54 ((F.ss h6.1).r 0 54 38 rfl) dX12_fillsRows_9 fl_RX12_131 ((F.ss h6.1).m 0 (Nat.le_of_ble_eq_true rfl)) ((F.ss h6.1).k 0 12 rfl) (Nat.le_of_ble_eq_true rfl) (Nat.le_of_ble_eq_true rfl) rfl ?_
    refine V_iload_3 12 dX12_fillsRows_12 ?_
    refine V_iload_3 13 dX12_fillsRows_13 ?_
    refine V_aload_0 14 dX12_fillsRows_14 ?_
    refine V_getR 15 (c := 12) 23 ((F.ss h6.1).r 0 23 11 rfl) dX12_fillsRows_15 fl_RX12_49 ((F.ss h6.1).m 0 (Nat.le_of_ble_eq_true rfl)) ((F.ss h6.1).k 0 12 rfl) (Nat.le_of_ble_eq_true rfl) (Nat.le_of_ble_eq_true rfl) rfl ?_
    refine V_aload_0 18 dX12_fillsRows_18 ?_
    refine V_getI 19 (c := 12) 18 dX12_fillsRows_19 fl_RX12_264 ((F.ss h6.1).m 0 (Nat.le_of_ble_eq_true rfl)) ((F.ss h6.1).k 0 12 rfl) (Nat.le_of_ble_eq_true rfl) (Nat.le_of_ble_eq_true rfl) rfl ?_
    rw [(h.z [38] [] h6 rfl rfl rfl rfl).lv]
    refine V_iaload2 22 dX12_fillsRows_22 ((F.ss h6.1).m 11 (Nat.le_of_ble_eq_true rfl)) ((F.ss h6.1).k 11 14 rfl) ((F.ss h6.1).l 11 2 rfl) ?_ ?_
    · exact vpN (Eq.refl (nI (gl g))) (by omega) (by decide)
    rw [clN (Eq.refl (nI (gl g))) (by omega)]
    rw [(h.z [38] [] h6 rfl rfl rfl rfl).ki]
    refine V_icmp_ge 23 43 dX12_fillsRows_23 (by decide) (fun c16 => ?_) (fun c16 => ?_)
    ·
      try have nf17 := (nI_leE (Eq.refl (nI (gK g))) (Eq.refl (nI i3)) (by omega) (by omega)).mp c16
      refine V_iconst 43 (0) dX12_fillsRows_43 (by decide) ?_
      refine V_iastore2 44 dX12_fillsRows_44 ((F.ss h6.1).m 38 (Nat.le_of_ble_eq_true rfl)) ((F.ss h6.1).k 38 14 rfl) ((F.ss h6.1).l 38 30 rfl) ?_ ?_
      · exact vp_in_nI (by omega) (by decide)
      refine V_abs (fun T9 => FZ [m + 38] [] S T9 ∧ ((fun T => ∀ j, j < i3 + 1 → sA T (m + 38) j = nI (if j < gK g then gN g j else 0)) T9)) ⟨h6.uA (by simp), by first | exact rowStep p11 (nI_clamp (by omega)) (by rw [if_pos (by omega)]) | exact rowStep p11 (nI_clamp (by omega)) (by rw [if_neg (by omega)]; rfl)⟩ (fun S18 hh21 => ?_)
      obtain ⟨h19, p20⟩ := hh21
      refine V_iinc_3 45 (1) dX12_fillsRows_45 (by decide) rfl (Nat.le_of_ble_eq_true rfl) ?_
      refine V_goto 48 2 dX12_fillsRows_48 (by decide) ?_
      rw [← nI_succ]
      refine V_lvw (by repeat (first | exact trivial | refine ⟨rfl, ?_⟩)) (ih7 (i3 + 1, _) ⟨by dsimp only; omega, h19, p20⟩ (by dsimp only; omega))
    ·
      try have nf22 := mt (nI_leE (Eq.refl (nI (gK g))) (Eq.refl (nI i3)) (by omega) (by omega)).mpr c16
      refine V_aload_0 26 dX12_fillsRows_26 ?_
      refine V_getR 27 (c := 12) 25 ((F.ss h6.1).r 0 25 13 rfl) dX12_fillsRows_27 fl_RX12_55 ((F.ss h6.1).m 0 (Nat.le_of_ble_eq_true rfl)) ((F.ss h6.1).k 0 12 rfl) (Nat.le_of_ble_eq_true rfl) (Nat.le_of_ble_eq_true rfl) rfl ?_
      refine V_bipush 30 (8) dX12_fillsRows_30 (by decide) ?_
      refine V_aload_0 32 dX12_fillsRows_32 ?_
      refine V_getI 33 (c := 12) 18 dX12_fillsRows_33 fl_RX12_264 ((F.ss h6.1).m 0 (Nat.le_of_ble_eq_true rfl)) ((F.ss h6.1).k 0 12 rfl) (Nat.le_of_ble_eq_true rfl) (Nat.le_of_ble_eq_true rfl) rfl ?_
      rw [(h.z [38] [] h6 rfl rfl rfl rfl).lv]
      refine V_imul 36 dX12_fillsRows_36 ?_
      refine V_iload_3 37 dX12_fillsRows_37 ?_
      refine V_iadd 38 dX12_fillsRows_38 ?_
      refine V_iaload2 39 dX12_fillsRows_39 ((F.ss h6.1).m 13 (Nat.le_of_ble_eq_true rfl)) ((F.ss h6.1).k 13 14 rfl) ((F.ss h6.1).l 13 16 rfl) ?_ ?_
      · exact vpN (eqAdd (eqMul (show (8 : Int32) = nI 8 from rfl) (Eq.refl (nI (gl g)))) (Eq.refl (nI i3))) (by omega) (by decide)
      rw [clN (eqAdd (eqMul (show (8 : Int32) = nI 8 from rfl) (Eq.refl (nI (gl g)))) (Eq.refl (nI i3))) (by omega)]
      rw [(h.z [38] [] h6 rfl rfl rfl rfl).nu (by omega)]
      refine V_goto 40 44 dX12_fillsRows_40 (by decide) ?_
      refine V_iastore2 44 dX12_fillsRows_44 ((F.ss h6.1).m 38 (Nat.le_of_ble_eq_true rfl)) ((F.ss h6.1).k 38 14 rfl) ((F.ss h6.1).l 38 30 rfl) ?_ ?_
      · exact vp_in_nI (by omega) (by decide)
      refine V_abs (fun T9 => FZ [m + 38] [] S T9 ∧ ((fun T => ∀ j, j < i3 + 1 → sA T (m + 38) j = nI (if j < gK g then gN g j else 0)) T9)) ⟨h6.uA (by simp), by first | exact rowStep p11 (nI_clamp (by omega)) (by rw [if_pos (by omega)]) | exact rowStep p11 (nI_clamp (by omega)) (by rw [if_neg (by omega)]; rfl)⟩ (fun S23 hh26 => ?_)
      obtain ⟨h24, p25⟩ := hh26
      refine V_iinc_3 45 (1) dX12_fillsRows_45 (by decide) rfl (Nat.le_of_ble_eq_true rfl) ?_
      refine V_goto 48 2 dX12_fillsRows_48 (by decide) ?_
      rw [← nI_succ]
      refine V_lvw (by repeat (first | exact trivial | refine ⟨rfl, ?_⟩)) (ih7 (i3 + 1, _) ⟨by dsimp only; omega, h24, p25⟩ (by dsimp only; omega))

