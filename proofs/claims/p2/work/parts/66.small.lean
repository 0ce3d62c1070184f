/-! The reference's kind, unlike, see, forget, count, place, feed, back -/
set_option maxRecDepth 100000 in
set_option maxHeartbeats 8000000 in
theorem s_mplace (l : Launch) (Γ : GC) (S : PS) {m tp : Nat} {g : MG} (I : MV Γ.2.2.2.2.1 m g tp S) : CT l Γ yX12_place cX12_place 1 (some .int) (0) (0) (0) [.ref m] S (RI (fun r S' => MV Γ.2.2.2.2.1 m g tp S')) := by
  refine CT.of RX12 "place" [some (.ref m)] (by decide +kernel) rfl rfl (Nat.le_of_ble_eq_true rfl) rfl (fun M hM => ?_)
  subst hM
  have F := I.f
  refine V_aload_0 0 dX12_place_0 ?_
  refine V_getI 1 (c := 12) 17 dX12_place_1 fl_RX12_37 (F.m 0 (Nat.le_of_ble_eq_true rfl)) (F.k 0 12 rfl) (Nat.le_of_ble_eq_true rfl) (Nat.le_of_ble_eq_true rfl) rfl ?_
  refine V_iret 4 .int dX12_place_4 rfl rfl (Nat.le_of_ble_eq_true rfl) (Nat.le_of_ble_eq_true rfl) (RI.mk I)
set_option maxRecDepth 100000 in
set_option maxHeartbeats 8000000 in
theorem s_mkind (l : Launch) (Γ : GC) (S : PS) {m tp : Nat} {g : MG} (I : MV Γ.2.2.2.2.1 m g tp S) (x y : Int32) : CT l Γ yX12_kind cX12_kind 3 (some .int) (2) (0) (0) [.ref m, .int x, .int y] S (RI (fun r S' => MV Γ.2.2.2.2.1 m g tp S')) := by
  refine CT.of RX12 "kind" [some (.ref m), some (.int x), some (.int y)] (by decide +kernel) rfl rfl (Nat.le_of_ble_eq_true rfl) rfl (fun M hM => ?_)
  subst hM
  have F := I.f
  have hK := I.t.k8
  have hl := I.t.l2
  refine V_aload_0 0 dX12_kind_0 ?_
  refine V_iload_1 1 dX12_kind_1 ?_
  refine V_callV 2 (ci := 12) [.int _] _ (s_misKind M.2.1 Γ S F I.t _) dX12_kind_2 cb_X12_isKind ml_RX12_361 im_yX12_isKind se_yX12_isKind (F.m 0 (Nat.le_of_ble_eq_true rfl)) (F.k 0 12 rfl) (Nat.le_of_ble_eq_true rfl) ⟨(Nat.le_of_ble_eq_true rfl), (Nat.le_of_ble_eq_true rfl)⟩ rfl rfl (Nat.le_of_ble_eq_true rfl) ⟨(Nat.le_of_ble_eq_true rfl), (Nat.le_of_ble_eq_true rfl)⟩ (RI.go (fun r3 S1 q2 => ?_))
  obtain ⟨hk9, s9⟩ := q2
  rw [s9]
  refine V_if_ne 5 10 dX12_kind_5 (by decide) (fun c4 => ?_) (fun c4 => ?_)
  ·
    obtain ⟨k, hk, ek⟩ := (hk9.resolve_left (by assumption)).2
    refine V_iload_2 10 dX12_kind_10 ?_
    refine V_tsw (0) (5) (fun q5 => ?_) (fun q5 => ?_)
    ·
      refine V_tableOut 11 111 dX12_kind_11 q5 (by decide) ?_
      refine V_iconst 111 (-1) dX12_kind_111 (by decide) ?_
      refine V_iret 112 .int dX12_kind_112 rfl rfl (Nat.le_of_ble_eq_true rfl) (Nat.le_of_ble_eq_true rfl) (RI.mk I)
    refine V_teq (0) (fun e6 => ?_) (fun e6 => ?_)
    ·
      refine V_tableIn 11 48 (off := 37) dX12_kind_11 (by omega) (by omega) (by rw [e6]; rfl) (by decide) ?_
      refine V_aload_0 48 dX12_kind_48 ?_
      refine V_getR 49 (c := 12) 53 (F.r 0 53 37 rfl) dX12_kind_49 fl_RX12_128 (F.m 0 (Nat.le_of_ble_eq_true rfl)) (F.k 0 12 rfl) (Nat.le_of_ble_eq_true rfl) (Nat.le_of_ble_eq_true rfl) rfl ?_
      refine V_iload_1 52 dX12_kind_52 ?_
      refine V_iaload2 53 dX12_kind_53 (F.m 37 (Nat.le_of_ble_eq_true rfl)) (F.k 37 14 rfl) (F.l 37 30 rfl) ?_ ?_
      · exact vpN ek (by omega) (by decide)
      refine V_iret 54 .int dX12_kind_54 rfl rfl (Nat.le_of_ble_eq_true rfl) (Nat.le_of_ble_eq_true rfl) (RI.mk I)
    refine V_teq (1) (fun e7 => ?_) (fun e7 => ?_)
    ·
      refine V_tableIn 11 55 (off := 44) dX12_kind_11 (by omega) (by omega) (by rw [e7]; rfl) (by decide) ?_
      refine V_aload_0 55 dX12_kind_55 ?_
      refine V_getR 56 (c := 12) 53 (F.r 0 53 37 rfl) dX12_kind_56 fl_RX12_128 (F.m 0 (Nat.le_of_ble_eq_true rfl)) (F.k 0 12 rfl) (Nat.le_of_ble_eq_true rfl) (Nat.le_of_ble_eq_true rfl) rfl ?_
      refine V_bipush 59 (8) dX12_kind_59 (by decide) ?_
      refine V_iload_1 61 dX12_kind_61 ?_
      refine V_iadd 62 dX12_kind_62 ?_
      refine V_iaload2 63 dX12_kind_63 (F.m 37 (Nat.le_of_ble_eq_true rfl)) (F.k 37 14 rfl) (F.l 37 30 rfl) ?_ ?_
      · exact vpN (eqAdd (show (8 : Int32) = nI 8 from rfl) ek) (by omega) (by decide)
      refine V_iret 64 .int dX12_kind_64 rfl rfl (Nat.le_of_ble_eq_true rfl) (Nat.le_of_ble_eq_true rfl) (RI.mk I)
    refine V_teq (2) (fun e8 => ?_) (fun e8 => ?_)
    ·
      refine V_tableIn 11 65 (off := 54) dX12_kind_11 (by omega) (by omega) (by rw [e8]; rfl) (by decide) ?_
      refine V_aload_0 65 dX12_kind_65 ?_
      refine V_getR 66 (c := 12) 25 (F.r 0 25 13 rfl) dX12_kind_66 fl_RX12_55 (F.m 0 (Nat.le_of_ble_eq_true rfl)) (F.k 0 12 rfl) (Nat.le_of_ble_eq_true rfl) (Nat.le_of_ble_eq_true rfl) rfl ?_
      refine V_bipush 69 (8) dX12_kind_69 (by decide) ?_
      refine V_aload_0 71 dX12_kind_71 ?_
      refine V_getI 72 (c := 12) 18 dX12_kind_72 fl_RX12_264 (F.m 0 (Nat.le_of_ble_eq_true rfl)) (F.k 0 12 rfl) (Nat.le_of_ble_eq_true rfl) (Nat.le_of_ble_eq_true rfl) rfl ?_
      rw [I.t.lv]
      refine V_imul 75 dX12_kind_75 ?_
      refine V_iload_1 76 dX12_kind_76 ?_
      refine V_iadd 77 dX12_kind_77 ?_
      refine V_iaload2 78 dX12_kind_78 (F.m 13 (Nat.le_of_ble_eq_true rfl)) (F.k 13 14 rfl) (F.l 13 16 rfl) ?_ ?_
      · exact vpN (eqAdd (eqMul (show (8 : Int32) = nI 8 from rfl) (Eq.refl (nI (gl g)))) ek) (by omega) (by decide)
      refine V_iret 79 .int dX12_kind_79 rfl rfl (Nat.le_of_ble_eq_true rfl) (Nat.le_of_ble_eq_true rfl) (RI.mk I)
    refine V_teq (3) (fun e9 => ?_) (fun e9 => ?_)
    ·
      refine V_tableIn 11 80 (off := 69) dX12_kind_11 (by omega) (by omega) (by rw [e9]; rfl) (by decide) ?_
      refine V_aload_0 80 dX12_kind_80 ?_
      refine V_iload_1 81 dX12_kind_81 ?_
      rw [ek]
      refine V_callV 82 (ci := 12) [.int _] _ (s_mpartner M.2.1 Γ S F I.t hk) dX12_kind_82 cb_X12_partner ml_RX12_349 im_yX12_partner se_yX12_partner (F.m 0 (Nat.le_of_ble_eq_true rfl)) (F.k 0 12 rfl) (Nat.le_of_ble_eq_true rfl) ⟨(Nat.le_of_ble_eq_true rfl), (Nat.le_of_ble_eq_true rfl)⟩ rfl rfl (Nat.le_of_ble_eq_true rfl) ⟨(Nat.le_of_ble_eq_true rfl), (Nat.le_of_ble_eq_true rfl)⟩ (RI.go (fun r12 S10 q11 => ?_))
      rw [q11.2]
      refine V_iret 85 .int dX12_kind_85 rfl rfl (Nat.le_of_ble_eq_true rfl) (Nat.le_of_ble_eq_true rfl) (RI.mk I)
    refine V_teq (4) (fun e13 => ?_) (fun e13 => ?_)
    ·
      refine V_tableIn 11 86 (off := 75) dX12_kind_11 (by omega) (by omega) (by rw [e13]; rfl) (by decide) ?_
      refine V_aload_0 86 dX12_kind_86 ?_
      refine V_getR 87 (c := 12) 53 (F.r 0 53 37 rfl) dX12_kind_87 fl_RX12_128 (F.m 0 (Nat.le_of_ble_eq_true rfl)) (F.k 0 12 rfl) (Nat.le_of_ble_eq_true rfl) (Nat.le_of_ble_eq_true rfl) rfl ?_
      refine V_bipush 90 (16) dX12_kind_90 (by decide) ?_
      refine V_iload_1 92 dX12_kind_92 ?_
      refine V_iadd 93 dX12_kind_93 ?_
      refine V_iaload2 94 dX12_kind_94 (F.m 37 (Nat.le_of_ble_eq_true rfl)) (F.k 37 14 rfl) (F.l 37 30 rfl) ?_ ?_
      · exact vpN (eqAdd (show (16 : Int32) = nI 16 from rfl) ek) (by omega) (by decide)
      refine V_iret 95 .int dX12_kind_95 rfl rfl (Nat.le_of_ble_eq_true rfl) (Nat.le_of_ble_eq_true rfl) (RI.mk I)
    refine V_teq (5) (fun e14 => ?_) (fun e14 => ?_)
    ·
      refine V_tableIn 11 96 (off := 85) dX12_kind_11 (by omega) (by omega) (by rw [e14]; rfl) (by decide) ?_
      refine V_aload_0 96 dX12_kind_96 ?_
      refine V_getR 97 (c := 12) 26 (F.r 0 26 14 rfl) dX12_kind_97 fl_RX12_58 (F.m 0 (Nat.le_of_ble_eq_true rfl)) (F.k 0 12 rfl) (Nat.le_of_ble_eq_true rfl) (Nat.le_of_ble_eq_true rfl) rfl ?_
      refine V_bipush 100 (8) dX12_kind_100 (by decide) ?_
      refine V_aload_0 102 dX12_kind_102 ?_
      refine V_getI 103 (c := 12) 18 dX12_kind_103 fl_RX12_264 (F.m 0 (Nat.le_of_ble_eq_true rfl)) (F.k 0 12 rfl) (Nat.le_of_ble_eq_true rfl) (Nat.le_of_ble_eq_true rfl) rfl ?_
      rw [I.t.lv]
      refine V_imul 106 dX12_kind_106 ?_
      refine V_iload_1 107 dX12_kind_107 ?_
      refine V_iadd 108 dX12_kind_108 ?_
      refine V_iaload2 109 dX12_kind_109 (F.m 14 (Nat.le_of_ble_eq_true rfl)) (F.k 14 14 rfl) (F.l 14 16 rfl) ?_ ?_
      · exact vpN (eqAdd (eqMul (show (8 : Int32) = nI 8 from rfl) (Eq.refl (nI (gl g)))) ek) (by omega) (by decide)
      refine V_iret 110 .int dX12_kind_110 rfl rfl (Nat.le_of_ble_eq_true rfl) (Nat.le_of_ble_eq_true rfl) (RI.mk I)
    exact absurd (by omega) q5
  ·
    refine V_iconst 8 (-1) dX12_kind_8 (by decide) ?_
    refine V_iret 9 .int dX12_kind_9 rfl rfl (Nat.le_of_ble_eq_true rfl) (Nat.le_of_ble_eq_true rfl) (RI.mk I)
set_option maxRecDepth 100000 in
set_option maxHeartbeats 8000000 in
theorem s_munlike (l : Launch) (Γ : GC) (S : PS) {m tp : Nat} {g : MG} (I : MV Γ.2.2.2.2.1 m g tp S) (x y : Int32) : CT l Γ yX12_unlike cX12_unlike 3 (some .int) (1) (0) (0) [.ref m, .int x, .int y] S (RI (fun r S' => MV Γ.2.2.2.2.1 m g tp S')) := by
  refine CT.of RX12 "unlike" [some (.ref m), some (.int x), some (.int y)] (by decide +kernel) rfl rfl (Nat.le_of_ble_eq_true rfl) rfl (fun M hM => ?_)
  subst hM
  have F := I.f
  have hM := I.t.n8
  have hl := I.t.l2
  have J3 : ∀ (S1 : PS) , FZ [] [] S S1 → V M Γ (3, RX12, "unlike", (some .int), RM (1) (0) (0)) cX12_unlike (RQ M Γ (RI (fun r S' => MV Γ.2.2.2.2.1 m g tp S')) (0) (0)) 0 0 S1 38 [some (.ref m), some (.int x), some (.int y)] [] := by
    intro S1  h2
    refine V_iconst 38 (-1) dX12_unlike_38 (by decide) ?_
    refine V_iret 39 .int dX12_unlike_39 rfl rfl (Nat.le_of_ble_eq_true rfl) (Nat.le_of_ble_eq_true rfl) (RI.mk (MV.z I [] [] h2 rfl rfl rfl rfl))
  refine V_iload_1 0 dX12_unlike_0 ?_
  refine V_iconst 1 (0) dX12_unlike_1 (by decide) ?_
  refine V_aload_0 2 dX12_unlike_2 ?_
  refine V_getR 3 (c := 12) 20 (F.r 0 20 8 rfl) dX12_unlike_3 fl_RX12_40 (F.m 0 (Nat.le_of_ble_eq_true rfl)) (F.k 0 12 rfl) (Nat.le_of_ble_eq_true rfl) (Nat.le_of_ble_eq_true rfl) rfl ?_
  refine V_aload_0 6 dX12_unlike_6 ?_
  refine V_getI 7 (c := 12) 18 dX12_unlike_7 fl_RX12_264 (F.m 0 (Nat.le_of_ble_eq_true rfl)) (F.k 0 12 rfl) (Nat.le_of_ble_eq_true rfl) (Nat.le_of_ble_eq_true rfl) rfl ?_
  rw [I.t.lv]
  refine V_iaload2 10 dX12_unlike_10 (F.m 8 (Nat.le_of_ble_eq_true rfl)) (F.k 8 14 rfl) (F.l 8 2 rfl) ?_ ?_
  · exact vpN (Eq.refl (nI (gl g))) (by omega) (by decide)
  rw [clN (Eq.refl (nI (gl g))) (by omega)]
  rw [I.t.na]
  refine V_iconst 11 (1) dX12_unlike_11 (by decide) ?_
  refine V_isub 12 dX12_unlike_12 ?_
  refine V_callS 13 [.int _, .int _, .int _] _ (s_min M.2.1 Γ S _ _ _) dX12_unlike_13 cb_X12_in ml_RX12_335 sm_yX12_in ⟨(Nat.le_of_ble_eq_true rfl), (Nat.le_of_ble_eq_true rfl)⟩ rfl rfl (Nat.le_of_ble_eq_true rfl) ⟨(Nat.le_of_ble_eq_true rfl), (Nat.le_of_ble_eq_true rfl)⟩ (RI.go (fun r6 S4 q5 => ?_))
  obtain ⟨hk9, s9⟩ := q5
  rw [s9]
  refine V_if_eq 16 38 dX12_unlike_16 (by decide) (fun c7 => ?_) (fun c7 => ?_)
  ·
    refine V_lvw (by repeat (first | exact trivial | refine ⟨rfl, ?_⟩)) (J3 _ FZ.rf)
  ·
    obtain ⟨a, ha, ea⟩ := kindN hM (hk9.resolve_left (by assumption)).2.1 (hk9.resolve_left (by assumption)).2.2
    refine V_iload_2 19 dX12_unlike_19 ?_
    refine V_iconst 20 (0) dX12_unlike_20 (by decide) ?_
    refine V_aload_0 21 dX12_unlike_21 ?_
    refine V_getR 22 (c := 12) 20 (F.r 0 20 8 rfl) dX12_unlike_22 fl_RX12_40 (F.m 0 (Nat.le_of_ble_eq_true rfl)) (F.k 0 12 rfl) (Nat.le_of_ble_eq_true rfl) (Nat.le_of_ble_eq_true rfl) rfl ?_
    refine V_aload_0 25 dX12_unlike_25 ?_
    refine V_getI 26 (c := 12) 18 dX12_unlike_26 fl_RX12_264 (F.m 0 (Nat.le_of_ble_eq_true rfl)) (F.k 0 12 rfl) (Nat.le_of_ble_eq_true rfl) (Nat.le_of_ble_eq_true rfl) rfl ?_
    rw [I.t.lv]
    refine V_iaload2 29 dX12_unlike_29 (F.m 8 (Nat.le_of_ble_eq_true rfl)) (F.k 8 14 rfl) (F.l 8 2 rfl) ?_ ?_
    · exact vpN (Eq.refl (nI (gl g))) (by omega) (by decide)
    rw [clN (Eq.refl (nI (gl g))) (by omega)]
    rw [I.t.na]
    refine V_iconst 30 (1) dX12_unlike_30 (by decide) ?_
    refine V_isub 31 dX12_unlike_31 ?_
    refine V_callS 32 [.int _, .int _, .int _] _ (s_min M.2.1 Γ S _ _ _) dX12_unlike_32 cb_X12_in ml_RX12_335 sm_yX12_in ⟨(Nat.le_of_ble_eq_true rfl), (Nat.le_of_ble_eq_true rfl)⟩ rfl rfl (Nat.le_of_ble_eq_true rfl) ⟨(Nat.le_of_ble_eq_true rfl), (Nat.le_of_ble_eq_true rfl)⟩ (RI.go (fun r11 S9 q10 => ?_))
    obtain ⟨hl9, s9⟩ := q10
    rw [s9]
    refine V_if_ne 35 40 dX12_unlike_35 (by decide) (fun c12 => ?_) (fun c12 => ?_)
    ·
      obtain ⟨b, hb, eb⟩ := kindN hM (hl9.resolve_left (by assumption)).2.1 (hl9.resolve_left (by assumption)).2.2
      refine V_aload_0 40 dX12_unlike_40 ?_
      refine V_getR 41 (c := 12) 29 (F.r 0 29 17 rfl) dX12_unlike_41 fl_RX12_67 (F.m 0 (Nat.le_of_ble_eq_true rfl)) (F.k 0 12 rfl) (Nat.le_of_ble_eq_true rfl) (Nat.le_of_ble_eq_true rfl) rfl ?_
      refine V_bipush 44 (64) dX12_unlike_44 (by decide) ?_
      refine V_aload_0 46 dX12_unlike_46 ?_
      refine V_getI 47 (c := 12) 18 dX12_unlike_47 fl_RX12_264 (F.m 0 (Nat.le_of_ble_eq_true rfl)) (F.k 0 12 rfl) (Nat.le_of_ble_eq_true rfl) (Nat.le_of_ble_eq_true rfl) rfl ?_
      rw [I.t.lv]
      refine V_imul 50 dX12_unlike_50 ?_
      refine V_bipush 51 (8) dX12_unlike_51 (by decide) ?_
      refine V_iload_1 53 dX12_unlike_53 ?_
      refine V_imul 54 dX12_unlike_54 ?_
      refine V_iadd 55 dX12_unlike_55 ?_
      refine V_iload_2 56 dX12_unlike_56 ?_
      refine V_iadd 57 dX12_unlike_57 ?_
      refine V_iaload2 58 dX12_unlike_58 (F.m 17 (Nat.le_of_ble_eq_true rfl)) (F.k 17 14 rfl) (F.l 17 128 rfl) ?_ ?_
      · exact vpN (eqAdd (eqAdd (eqMul (show (64 : Int32) = nI 64 from rfl) (Eq.refl (nI (gl g)))) (eqMul (show (8 : Int32) = nI 8 from rfl) ea)) eb) (by omega) (by decide)
      refine V_iret 59 .int dX12_unlike_59 rfl rfl (Nat.le_of_ble_eq_true rfl) (Nat.le_of_ble_eq_true rfl) (RI.mk (MV.z I [] [] FZ.rf rfl rfl rfl rfl))
    ·
      refine V_lvw (by repeat (first | exact trivial | refine ⟨rfl, ?_⟩)) (J3 _ FZ.rf)
theorem MV.onSeen {lo m tp n : Nat} {g : MG} {S S2 : PS} (I : MV lo m g tp S) (e : FZ [m + 51, m + 52] [(m, 70)] S S2) (hn : n ≤ 20) (en : sI S2 m 70 = nI n) (hh : ∀ i, i < n → ∃ k, k < gK g ∧ sA S2 (m + 51) i = nI k) : MV lo m g tp S2 := by
  refine ⟨I.f.ss e.1, I.t.z [51, 52] [(0, 70)] e rfl rfl rfl rfl, I.now.eq (e.2.1 _ (by simp)), ?_, ⟨n, hn, en, hh⟩, fun s hs q => ?_, (e.2.2 _ _ (by simp)).trans I.tape, I.tpl⟩
  · obtain ⟨u, h1, h2, h3⟩ := I.hist
    exact ⟨u, h1, (e.2.2 _ _ (by simp)).trans h2, fun i hi => (h3 i hi).eq (e.2.1 _ (by simp))⟩
  · rw [e.2.1 _ (by simp)] at q
    exact (I.held s hs q).eq (e.2.1 _ (by simp))
set_option maxRecDepth 100000 in
set_option maxHeartbeats 8000000 in
theorem s_mforget (l : Launch) (Γ : GC) (S : PS) {m tp : Nat} {g : MG} (I : MV Γ.2.2.2.2.1 m g tp S) : CT l Γ yX12_forget cX12_forget 2 (some .int) (0) (0) (0) [.ref m] S (RI (fun r S' => MV Γ.2.2.2.2.1 m g tp S')) := by
  refine CT.of RX12 "forget" [some (.ref m), none] (by decide +kernel) rfl rfl (Nat.le_of_ble_eq_true rfl) rfl (fun M hM => ?_)
  subst hM
  have F := I.f
  refine V_aload_0 0 dX12_forget_0 ?_
  refine V_getI 1 (c := 12) 70 dX12_forget_1 fl_RX12_282 (F.m 0 (Nat.le_of_ble_eq_true rfl)) (F.k 0 12 rfl) (Nat.le_of_ble_eq_true rfl) (Nat.le_of_ble_eq_true rfl) rfl ?_
  refine V_istore_1 4 dX12_forget_4 rfl (Nat.le_of_ble_eq_true rfl) ?_
  refine V_aload_0 5 dX12_forget_5 ?_
  refine V_iconst 6 (0) dX12_forget_6 (by decide) ?_
  refine V_putI 7 (c := 12) 70 dX12_forget_7 fl_RX12_282 (F.m 0 (Nat.le_of_ble_eq_true rfl)) (F.k 0 12 rfl) (Nat.le_of_ble_eq_true rfl) (Nat.le_of_ble_eq_true rfl) rfl (Or.inl rfl) ?_
  refine V_abs (fun T9 => FZ [] [(m, 70)] S T9 ∧ ((fun T => sI T m 70 = nI 0) T9)) ⟨(FZ.rf (X := []) (Y := [(m, 70)]) (S := S)).uI (by simp), by exact up2_s _ _ _ _⟩ (fun S1 hh4 => ?_)
  obtain ⟨h2, p3⟩ := hh4
  refine V_iload_1 10 dX12_forget_10 ?_
  refine V_iret 11 .int dX12_forget_11 rfl rfl (Nat.le_of_ble_eq_true rfl) (Nat.le_of_ble_eq_true rfl) (RI.mk (I.onSeen (h2.sub (by simp) (by simp)) (Nat.zero_le _) p3 (fun _ q => absurd q (Nat.not_lt_zero _))))
theorem seeEnd {lo m tp n k : Nat} {g : MG} {S T9 : PS} (I : MV lo m g tp S) (e : FZ [m + 51, m + 52] [(m, 70)] S T9) (hn : n + 1 ≤ 20) (hk : k < gK g) (p : sI T9 m 70 = nI (n + 1) ∧ (∀ j, j < n → sA T9 (m + 51) j = sA S (m + 51) j) ∧ sA T9 (m + 51) n = nI k) (hh : ∀ i, i < n → ∃ k, k < gK g ∧ sA S (m + 51) i = nI k) : MV lo m g tp T9 :=
  I.onSeen e hn p.1 (fun i hi => by
    by_cases q : i = n
    · subst q; exact ⟨k, hk, p.2.2⟩
    · rw [p.2.1 i (by omega)]; exact hh i (by omega))
set_option maxRecDepth 100000 in
set_option maxHeartbeats 8000000 in
theorem s_msee (l : Launch) (Γ : GC) (S : PS) {m tp : Nat} {g : MG} (I : MV Γ.2.2.2.2.1 m g tp S) (x y : Int32) : CT l Γ yX12_see cX12_see 3 (some .int) (2) (0) (0) [.ref m, .int x, .int y] S (RI (fun r S' => MV Γ.2.2.2.2.1 m g tp S')) := by
  refine CT.of RX12 "see" [some (.ref m), some (.int x), some (.int y)] (by decide +kernel) rfl rfl (Nat.le_of_ble_eq_true rfl) rfl (fun M hM => ?_)
  subst hM
  have F := I.f
  have hK := I.t.k8
  obtain ⟨n, hn, en, hh⟩ := I.seen
  have J27 : V M Γ (3, RX12, "see", (some .int), RM (2) (0) (0)) cX12_see (RQ M Γ (RI (fun r S' => MV Γ.2.2.2.2.1 m g tp S')) (0) (0)) 0 0 S 27 [some (.ref m), some (.int x), some (.int y)] [] := by
    refine V_iconst 27 (-1) dX12_see_27 (by decide) ?_
    refine V_iret 28 .int dX12_see_28 rfl rfl (Nat.le_of_ble_eq_true rfl) (Nat.le_of_ble_eq_true rfl) (RI.mk I)
  refine V_aload_0 0 dX12_see_0 ?_
  refine V_getI 1 (c := 12) 70 dX12_see_1 fl_RX12_282 (F.m 0 (Nat.le_of_ble_eq_true rfl)) (F.k 0 12 rfl) (Nat.le_of_ble_eq_true rfl) (Nat.le_of_ble_eq_true rfl) rfl ?_
  rw [en]
  refine V_bipush 4 (20) dX12_see_4 (by decide) ?_
  refine V_icmp_eq 6 27 dX12_see_6 (by decide) (fun c => ?_) (fun c => ?_)
  · exact J27
  · have c2 := mt (nI_eqE (Eq.refl (nI n)) (show (20 : Int32) = nI 20 from rfl) (by omega) (by omega)).mpr c
    refine V_aload_0 9 dX12_see_9 ?_
    refine V_iload_1 10 dX12_see_10 ?_
    refine V_callV 11 (ci := 12) [.int _] _ (s_misKind M.2.1 Γ S F I.t _) dX12_see_11 cb_X12_isKind ml_RX12_361 im_yX12_isKind se_yX12_isKind (F.m 0 (Nat.le_of_ble_eq_true rfl)) (F.k 0 12 rfl) (Nat.le_of_ble_eq_true rfl) ⟨(Nat.le_of_ble_eq_true rfl), (Nat.le_of_ble_eq_true rfl)⟩ rfl rfl (Nat.le_of_ble_eq_true rfl) ⟨(Nat.le_of_ble_eq_true rfl), (Nat.le_of_ble_eq_true rfl)⟩ (RI.go (fun r1 S1 q1 => ?_))
    rw [q1.2]
    have q1 := q1.1
    refine V_if_eq 14 27 dX12_see_14 (by decide) (fun c3 => ?_) (fun c3 => ?_)
    · exact J27
    · obtain ⟨k, hk, ek⟩ := (q1.resolve_left c3).2
      refine V_iload_2 17 dX12_see_17 ?_
      refine V_iconst 18 (0) dX12_see_18 (by decide) ?_
      refine V_bipush 19 (18) dX12_see_19 (by decide) ?_
      refine V_callS 21 [.int _, .int _, .int _] _ (s_min M.2.1 Γ S _ _ _) dX12_see_21 cb_X12_in ml_RX12_335 sm_yX12_in ⟨(Nat.le_of_ble_eq_true rfl), (Nat.le_of_ble_eq_true rfl)⟩ rfl rfl (Nat.le_of_ble_eq_true rfl) ⟨(Nat.le_of_ble_eq_true rfl), (Nat.le_of_ble_eq_true rfl)⟩ (RI.go (fun r4 S4 q4 => ?_))
      rw [q4.2]
      refine V_if_ne 24 29 dX12_see_24 (by decide) (fun c5 => ?_) (fun c5 => ?_)
      ·
        rw [ek]
        have p1 : ((fun T9 => sI T9 m 70 = nI n ∧ ∀ j, j < n → sA T9 (m + 51) j = sA S (m + 51) j) S) := ⟨en, fun _ _ => rfl⟩
        refine V_aload_0 29 dX12_see_29 ?_
        refine V_getR 30 (c := 12) 71 (F.r 0 71 51 rfl) dX12_see_30 fl_RX12_171 (F.m 0 (Nat.le_of_ble_eq_true rfl)) (F.k 0 12 rfl) (Nat.le_of_ble_eq_true rfl) (Nat.le_of_ble_eq_true rfl) rfl ?_
        refine V_aload_0 33 dX12_see_33 ?_
        refine V_getI 34 (c := 12) 70 dX12_see_34 fl_RX12_282 (F.m 0 (Nat.le_of_ble_eq_true rfl)) (F.k 0 12 rfl) (Nat.le_of_ble_eq_true rfl) (Nat.le_of_ble_eq_true rfl) rfl ?_
        rw [p1.1]
        refine V_iload_1 37 dX12_see_37 ?_
        refine V_iastore2 38 dX12_see_38 (F.m 51 (Nat.le_of_ble_eq_true rfl)) (F.k 51 14 rfl) (F.l 51 20 rfl) ?_ ?_
        · exact vpN (Eq.refl (nI (n))) (by omega) (by decide)
        refine V_abs (fun T9 => FZ [m + 51, m + 52] [(m, 70)] S T9 ∧ ((fun T9 => sI T9 m 70 = nI n ∧ (∀ j, j < n → sA T9 (m + 51) j = sA S (m + 51) j) ∧ sA T9 (m + 51) n = nI k) T9)) ⟨(FZ.rf (X := [m + 51, m + 52]) (Y := [(m, 70)]) (S := S)).uA (by simp), by (rw [nI_clamp (by omega)]; exact ⟨p1.1, fun j hj => up2_cases2 (fun _ q => by omega) (fun _ => p1.2 j hj), up2_s _ _ _ _⟩)⟩ (fun S2 hh5 => ?_)
        obtain ⟨h3, p4⟩ := hh5
        refine V_aload_0 39 dX12_see_39 ?_
        refine V_getR 40 (c := 12) 72 ((F.ss h3.1).r 0 72 52 rfl) dX12_see_40 fl_RX12_174 ((F.ss h3.1).m 0 (Nat.le_of_ble_eq_true rfl)) ((F.ss h3.1).k 0 12 rfl) (Nat.le_of_ble_eq_true rfl) (Nat.le_of_ble_eq_true rfl) rfl ?_
        refine V_aload_0 43 dX12_see_43 ?_
        refine V_getI 44 (c := 12) 70 dX12_see_44 fl_RX12_282 ((F.ss h3.1).m 0 (Nat.le_of_ble_eq_true rfl)) ((F.ss h3.1).k 0 12 rfl) (Nat.le_of_ble_eq_true rfl) (Nat.le_of_ble_eq_true rfl) rfl ?_
        rw [p4.1]
        refine V_iload_2 47 dX12_see_47 ?_
        refine V_iastore2 48 dX12_see_48 ((F.ss h3.1).m 52 (Nat.le_of_ble_eq_true rfl)) ((F.ss h3.1).k 52 14 rfl) ((F.ss h3.1).l 52 20 rfl) ?_ ?_
        · exact vpN (Eq.refl (nI (n))) (by omega) (by decide)
        refine V_abs (fun T9 => FZ [m + 51, m + 52] [(m, 70)] S T9 ∧ ((fun T9 => sI T9 m 70 = nI n ∧ (∀ j, j < n → sA T9 (m + 51) j = sA S (m + 51) j) ∧ sA T9 (m + 51) n = nI k) T9)) ⟨h3.uA (by simp), by (dsimp only; rw [sA_uA, up2_an _ _ (by omega)]; exact p4)⟩ (fun S6 hh9 => ?_)
        obtain ⟨h7, p8⟩ := hh9
        refine V_aload_0 49 dX12_see_49 ?_
        refine V_dup 50 dX12_see_50 rfl ?_
        refine V_getI 51 (c := 12) 70 dX12_see_51 fl_RX12_282 ((F.ss h7.1).m 0 (Nat.le_of_ble_eq_true rfl)) ((F.ss h7.1).k 0 12 rfl) (Nat.le_of_ble_eq_true rfl) (Nat.le_of_ble_eq_true rfl) rfl ?_
        rw [p8.1]
        refine V_iconst 54 (1) dX12_see_54 (by decide) ?_
        refine V_iadd 55 dX12_see_55 ?_
        refine V_putI 56 (c := 12) 70 dX12_see_56 fl_RX12_282 ((F.ss h7.1).m 0 (Nat.le_of_ble_eq_true rfl)) ((F.ss h7.1).k 0 12 rfl) (Nat.le_of_ble_eq_true rfl) (Nat.le_of_ble_eq_true rfl) rfl (Or.inl rfl) ?_
        refine V_abs (fun T9 => FZ [m + 51, m + 52] [(m, 70)] S T9 ∧ ((fun T9 => sI T9 m 70 = nI (n + 1) ∧ (∀ j, j < n → sA T9 (m + 51) j = sA S (m + 51) j) ∧ sA T9 (m + 51) n = nI k) T9)) ⟨h7.uI (by simp), by exact ⟨(up2_s _ _ _ _).trans (nI_1 n), p8.2⟩⟩ (fun S10 hh13 => ?_)
        obtain ⟨h11, p12⟩ := hh13
        refine V_aload_0 59 dX12_see_59 ?_
        refine V_getI 60 (c := 12) 70 dX12_see_60 fl_RX12_282 ((F.ss h11.1).m 0 (Nat.le_of_ble_eq_true rfl)) ((F.ss h11.1).k 0 12 rfl) (Nat.le_of_ble_eq_true rfl) (Nat.le_of_ble_eq_true rfl) rfl ?_
        rw [p12.1]
        refine V_iconst 63 (1) dX12_see_63 (by decide) ?_
        refine V_isub 64 dX12_see_64 ?_
        refine V_iret 65 .int dX12_see_65 rfl rfl (Nat.le_of_ble_eq_true rfl) (Nat.le_of_ble_eq_true rfl) (RI.mk (seeEnd I h11 (by omega) hk p12 hh))
      · exact J27
set_option maxRecDepth 100000 in
set_option maxHeartbeats 8000000 in
theorem s_mrolledAll (l : Launch) (Γ : GC) (S : PS) {m : Nat} {g : MG} (F : isL lyModel Γ.2.2.2.2.1 S m) (h : TXT m g S) : CT l Γ yX12_rolledAll cX12_rolledAll 3 (some .int) (1) (0) (0) [.ref m] S (RI (fun r S' => FZ [] [] S S')) := by
  refine CT.of RX12 "rolledAll" [some (.ref m), none, none] (by decide +kernel) rfl rfl (Nat.le_of_ble_eq_true rfl) rfl (fun M hM => ?_)
  subst hM
  have hK := h.k8
  have hl := h.l2
  refine V_iconst 0 (0) dX12_rolledAll_0 (by decide) ?_
  refine V_istore_1 1 dX12_rolledAll_1 rfl (Nat.le_of_ble_eq_true rfl) ?_
  refine V_iconst 2 (0) dX12_rolledAll_2 (by decide) ?_
  refine V_istore_2 3 dX12_rolledAll_3 rfl (Nat.le_of_ble_eq_true rfl) ?_
  refine V_lvw (by repeat (first | exact trivial | refine ⟨rfl, ?_⟩)) (V_while (α := Nat × PS × Int32) (fun z1 => gK g - z1.1) (fun z1 => z1.1 ≤ gK g ∧ FZ [] [] S z1.2.1) (fun z1 => z1.2.1) (fun z1 => [some (.ref m), some (.int z1.2.2), some (.int (nI z1.1))]) (0, _, _) ⟨Nat.zero_le _, FZ.rf⟩ (fun z1 hx8 ih6 => ?b9))
  obtain ⟨i2, S3, w7⟩ := z1
  obtain ⟨hi4, h5⟩ := hx8
  dsimp only at hi4 h5 ih6 ⊢
  have J13 : ∀ (S11 : PS) (x14 : Int32), FZ [] [] S S11 → i2 < gK g → V M Γ (3, RX12, "rolledAll", (some .int), RM (1) (0) (0)) cX12_rolledAll (RQ M Γ (RI (fun r S' => FZ [] [] S S')) (0) (0)) 0 0 S11 38 [some (.ref m), some (.int x14), some (.int (nI i2))] [] := by
    intro S11 x14 h12 lt15
    refine V_iinc_2 38 (1) dX12_rolledAll_38 (by decide) rfl (Nat.le_of_ble_eq_true rfl) ?_
    refine V_goto 41 4 dX12_rolledAll_41 (by decide) ?_
    rw [← nI_succ]
    refine V_lvw (by repeat (first | exact trivial | refine ⟨rfl, ?_⟩)) (ih6 (i2 + 1, _, _) ⟨by dsimp only; omega, h12⟩ (by dsimp only; omega))
  refine V_iload_2 4 dX12_rolledAll_4 ?_
  refine V_aload_0 5 dX12_rolledAll_5 ?_
  refine V_getR 6 (c := 12) 23 ((F.ss h5.1).r 0 23 11 rfl) dX12_rolledAll_6 fl_RX12_49 ((F.ss h5.1).m 0 (Nat.le_of_ble_eq_true rfl)) ((F.ss h5.1).k 0 12 rfl) (Nat.le_of_ble_eq_true rfl) (Nat.le_of_ble_eq_true rfl) rfl ?_
  refine V_aload_0 9 dX12_rolledAll_9 ?_
  refine V_getI 10 (c := 12) 18 dX12_rolledAll_10 fl_RX12_264 ((F.ss h5.1).m 0 (Nat.le_of_ble_eq_true rfl)) ((F.ss h5.1).k 0 12 rfl) (Nat.le_of_ble_eq_true rfl) (Nat.le_of_ble_eq_true rfl) rfl ?_
  rw [(h.z [] [] h5 rfl rfl rfl rfl).lv]
  refine V_iaload2 13 dX12_rolledAll_13 ((F.ss h5.1).m 11 (Nat.le_of_ble_eq_true rfl)) ((F.ss h5.1).k 11 14 rfl) ((F.ss h5.1).l 11 2 rfl) ?_ ?_
  · exact vpN (Eq.refl (nI (gl g))) (by omega) (by decide)
  rw [clN (Eq.refl (nI (gl g))) (by omega)]
  rw [(h.z [] [] h5 rfl rfl rfl rfl).ki]
  refine V_icmp_ge 14 44 dX12_rolledAll_14 (by decide) (fun c16 => ?_) (fun c16 => ?_)
  ·
    try have nf17 := (nI_leE (Eq.refl (nI (gK g))) (Eq.refl (nI i2)) (by omega) (by omega)).mp c16
    refine V_iload_1 44 dX12_rolledAll_44 ?_
    refine V_iret 45 .int dX12_rolledAll_45 rfl rfl (Nat.le_of_ble_eq_true rfl) (Nat.le_of_ble_eq_true rfl) (RI.mk h5)
  ·
    try have nf18 := mt (nI_leE (Eq.refl (nI (gK g))) (Eq.refl (nI i2)) (by omega) (by omega)).mpr c16
    try have lt19 := nI_ltC hi4 c16
    refine V_aload_0 17 dX12_rolledAll_17 ?_
    refine V_iload_2 18 dX12_rolledAll_18 ?_
    refine V_callV 19 (ci := 12) [.int _] _ (s_mpartner M.2.1 Γ S3 (F.ss h5.1) (h.z [] [] h5 rfl rfl rfl rfl) (show (i2) < gK g by omega)) dX12_rolledAll_19 cb_X12_partner ml_RX12_349 im_yX12_partner se_yX12_partner ((F.ss h5.1).m 0 (Nat.le_of_ble_eq_true rfl)) ((F.ss h5.1).k 0 12 rfl) (Nat.le_of_ble_eq_true rfl) ⟨(Nat.le_of_ble_eq_true rfl), (Nat.le_of_ble_eq_true rfl)⟩ rfl rfl (Nat.le_of_ble_eq_true rfl) ⟨(Nat.le_of_ble_eq_true rfl), (Nat.le_of_ble_eq_true rfl)⟩ (RI.go (fun r22 S20 q21 => ?_))
    obtain ⟨e9, s9⟩ := q21
    rw [s9]
    refine V_iload_2 22 dX12_rolledAll_22 ?_
    refine V_icmp_lt 23 38 dX12_rolledAll_23 (by decide) (fun c23 => ?_) (fun c23 => ?_)
    ·
      refine V_lvw (by repeat (first | exact trivial | refine ⟨rfl, ?_⟩)) (J13 _ _ h5 (by first | omega | assumption))
    ·
      refine V_iload_1 26 dX12_rolledAll_26 ?_
      refine V_aload_0 27 dX12_rolledAll_27 ?_
      refine V_getR 28 (c := 12) 53 ((F.ss h5.1).r 0 53 37 rfl) dX12_rolledAll_28 fl_RX12_128 ((F.ss h5.1).m 0 (Nat.le_of_ble_eq_true rfl)) ((F.ss h5.1).k 0 12 rfl) (Nat.le_of_ble_eq_true rfl) (Nat.le_of_ble_eq_true rfl) rfl ?_
      refine V_bipush 31 (16) dX12_rolledAll_31 (by decide) ?_
      refine V_iload_2 33 dX12_rolledAll_33 ?_
      refine V_iadd 34 dX12_rolledAll_34 ?_
      refine V_iaload2 35 dX12_rolledAll_35 ((F.ss h5.1).m 37 (Nat.le_of_ble_eq_true rfl)) ((F.ss h5.1).k 37 14 rfl) ((F.ss h5.1).l 37 30 rfl) ?_ ?_
      · exact vpN (eqAdd (show (16 : Int32) = nI 16 from rfl) (Eq.refl (nI i2))) (by omega) (by decide)
      rw [clN (eqAdd (show (16 : Int32) = nI 16 from rfl) (Eq.refl (nI i2))) (by omega)]
      refine V_iadd 36 dX12_rolledAll_36 ?_
      refine V_istore_1 37 dX12_rolledAll_37 rfl (Nat.le_of_ble_eq_true rfl) ?_
      refine V_lvw (by repeat (first | exact trivial | refine ⟨rfl, ?_⟩)) (J13 _ _ h5 (by first | omega | assumption))
set_option maxRecDepth 100000 in
set_option maxHeartbeats 8000000 in
theorem s_mcount (l : Launch) (Γ : GC) (S : PS) {m tp : Nat} {g : MG} (I : MV Γ.2.2.2.2.1 m g tp S) (x : Int32) : CT l Γ yX12_count cX12_count 2 (some .int) (2) (0) (0) [.ref m, .int x] S (RI (fun r S' => MV Γ.2.2.2.2.1 m g tp S')) := by
  refine CT.of RX12 "count" [some (.ref m), some (.int x)] (by decide +kernel) rfl rfl (Nat.le_of_ble_eq_true rfl) rfl (fun M hM => ?_)
  subst hM
  have F := I.f
  have hl := I.t.l2
  refine V_aload_0 0 dX12_count_0 ?_
  refine V_callV 1 (ci := 12) [] _ (s_mcopies M.2.1 Γ S F I.t) dX12_count_1 cb_X12_copies ml_RX12_364 im_yX12_copies se_yX12_copies (F.m 0 (Nat.le_of_ble_eq_true rfl)) (F.k 0 12 rfl) (Nat.le_of_ble_eq_true rfl) ⟨(Nat.le_of_ble_eq_true rfl), (Nat.le_of_ble_eq_true rfl)⟩ rfl rfl (Nat.le_of_ble_eq_true rfl) ⟨(Nat.le_of_ble_eq_true rfl), (Nat.le_of_ble_eq_true rfl)⟩ (RV.go (fun S2 h2 => ?_))
  have I2 := MV.z I [38] [(0, 55), (0, 56)] h2.1 rfl rfl rfl rfl
  have F2 := I2.f
  have J3 : ∀ (S1 : PS) (x4 : Int32) (x5 : Int32), FZ [] [] S2 S1 → V M Γ (2, RX12, "count", (some .int), RM (2) (0) (0)) cX12_count (RQ M Γ (RI (fun r S' => MV Γ.2.2.2.2.1 m g tp S')) (0) (0)) 0 0 S1 234 [some (.ref m), some (.int x)] [.int x5, .int x4] := by
    intro S1 x4 x5 h2
    refine V_iadd 234 dX12_count_234 ?_
    refine V_iret 235 .int dX12_count_235 rfl rfl (Nat.le_of_ble_eq_true rfl) (Nat.le_of_ble_eq_true rfl) (RI.mk (I2.z [] [] h2 rfl rfl rfl rfl))
  have J8 : ∀ (S6 : PS) (x9 : Int32) (x10 : Int32), FZ [] [] S2 S6 → V M Γ (2, RX12, "count", (some .int), RM (2) (0) (0)) cX12_count (RQ M Γ (RI (fun r S' => MV Γ.2.2.2.2.1 m g tp S')) (0) (0)) 0 0 S6 219 [some (.ref m), some (.int x)] [.int x10, .int x9] := by
    intro S6 x9 x10 h7
    refine V_iadd 219 dX12_count_219 ?_
    refine V_aload_0 220 dX12_count_220 ?_
    refine V_getR 221 (c := 12) 75 ((F2.ss h7.1).r 0 75 55 rfl) dX12_count_221 fl_RX12_183 ((F2.ss h7.1).m 0 (Nat.le_of_ble_eq_true rfl)) ((F2.ss h7.1).k 0 12 rfl) (Nat.le_of_ble_eq_true rfl) (Nat.le_of_ble_eq_true rfl) rfl ?_
    refine V_iconst 224 (2) dX12_count_224 (by decide) ?_
    refine V_zaload2 225 dX12_count_225 ((F2.ss h7.1).m 55 (Nat.le_of_ble_eq_true rfl)) ((F2.ss h7.1).k 55 16 rfl) ((F2.ss h7.1).l 55 3 rfl) ?_ ?_
    · exact (by unfold vp_in; decide)
    refine V_if_eq 226 233 dX12_count_226 (by decide) (fun c11 => ?_) (fun c11 => ?_)
    ·
      refine V_iconst 233 (0) dX12_count_233 (by decide) ?_
      refine V_lvw (by repeat (first | exact trivial | refine ⟨rfl, ?_⟩)) (J3 _ _ _ h7)
    ·
      refine V_iconst 229 (1) dX12_count_229 (by decide) ?_
      refine V_goto 230 234 dX12_count_230 (by decide) ?_
      refine V_lvw (by repeat (first | exact trivial | refine ⟨rfl, ?_⟩)) (J3 _ _ _ h7)
  have J16 : ∀ (S14 : PS) (x17 : Int32), FZ [] [] S2 S14 → V M Γ (2, RX12, "count", (some .int), RM (2) (0) (0)) cX12_count (RQ M Γ (RI (fun r S' => MV Γ.2.2.2.2.1 m g tp S')) (0) (0)) 0 0 S14 205 [some (.ref m), some (.int x)] [.int x17] := by
    intro S14 x17 h15
    refine V_aload_0 205 dX12_count_205 ?_
    refine V_getR 206 (c := 12) 75 ((F2.ss h15.1).r 0 75 55 rfl) dX12_count_206 fl_RX12_183 ((F2.ss h15.1).m 0 (Nat.le_of_ble_eq_true rfl)) ((F2.ss h15.1).k 0 12 rfl) (Nat.le_of_ble_eq_true rfl) (Nat.le_of_ble_eq_true rfl) rfl ?_
    refine V_iconst 209 (1) dX12_count_209 (by decide) ?_
    refine V_zaload2 210 dX12_count_210 ((F2.ss h15.1).m 55 (Nat.le_of_ble_eq_true rfl)) ((F2.ss h15.1).k 55 16 rfl) ((F2.ss h15.1).l 55 3 rfl) ?_ ?_
    · exact (by unfold vp_in; decide)
    refine V_if_eq 211 218 dX12_count_211 (by decide) (fun c18 => ?_) (fun c18 => ?_)
    ·
      refine V_iconst 218 (0) dX12_count_218 (by decide) ?_
      refine V_lvw (by repeat (first | exact trivial | refine ⟨rfl, ?_⟩)) (J8 _ _ _ h15)
    ·
      refine V_iconst 214 (1) dX12_count_214 (by decide) ?_
      refine V_goto 215 219 dX12_count_215 (by decide) ?_
      refine V_lvw (by repeat (first | exact trivial | refine ⟨rfl, ?_⟩)) (J8 _ _ _ h15)
  refine V_iload_1 4 dX12_count_4 ?_
  refine V_tsw (0) (14) (fun q21 => ?_) (fun q21 => ?_)
  ·
    refine V_tableOut 5 236 dX12_count_5 q21 (by decide) ?_
    refine V_iconst 236 (-1) dX12_count_236 (by decide) ?_
    refine V_iret 237 .int dX12_count_237 rfl rfl (Nat.le_of_ble_eq_true rfl) (Nat.le_of_ble_eq_true rfl) (RI.mk (I2.z [] [] FZ.rf rfl rfl rfl rfl))
  refine V_teq (0) (fun e22 => ?_) (fun e22 => ?_)
  ·
    refine V_tableIn 5 80 (off := 75) dX12_count_5 (by omega) (by omega) (by rw [e22]; rfl) (by decide) ?_
    refine V_aload_0 80 dX12_count_80 ?_
    refine V_getR 81 (c := 12) 23 (F2.r 0 23 11 rfl) dX12_count_81 fl_RX12_49 (F2.m 0 (Nat.le_of_ble_eq_true rfl)) (F2.k 0 12 rfl) (Nat.le_of_ble_eq_true rfl) (Nat.le_of_ble_eq_true rfl) rfl ?_
    refine V_aload_0 84 dX12_count_84 ?_
    refine V_getI 85 (c := 12) 18 dX12_count_85 fl_RX12_264 (F2.m 0 (Nat.le_of_ble_eq_true rfl)) (F2.k 0 12 rfl) (Nat.le_of_ble_eq_true rfl) (Nat.le_of_ble_eq_true rfl) rfl ?_
    rw [(I2.t.z [] [] FZ.rf rfl rfl rfl rfl).lv]
    refine V_iaload2 88 dX12_count_88 (F2.m 11 (Nat.le_of_ble_eq_true rfl)) (F2.k 11 14 rfl) (F2.l 11 2 rfl) ?_ ?_
    · exact vpN (Eq.refl (nI (gl g))) (by omega) (by decide)
    refine V_iret 89 .int dX12_count_89 rfl rfl (Nat.le_of_ble_eq_true rfl) (Nat.le_of_ble_eq_true rfl) (RI.mk (I2.z [] [] FZ.rf rfl rfl rfl rfl))
  refine V_teq (1) (fun e23 => ?_) (fun e23 => ?_)
  ·
    refine V_tableIn 5 90 (off := 85) dX12_count_5 (by omega) (by omega) (by rw [e23]; rfl) (by decide) ?_
    refine V_aload_0 90 dX12_count_90 ?_
    refine V_getR 91 (c := 12) 20 (F2.r 0 20 8 rfl) dX12_count_91 fl_RX12_40 (F2.m 0 (Nat.le_of_ble_eq_true rfl)) (F2.k 0 12 rfl) (Nat.le_of_ble_eq_true rfl) (Nat.le_of_ble_eq_true rfl) rfl ?_
    refine V_aload_0 94 dX12_count_94 ?_
    refine V_getI 95 (c := 12) 18 dX12_count_95 fl_RX12_264 (F2.m 0 (Nat.le_of_ble_eq_true rfl)) (F2.k 0 12 rfl) (Nat.le_of_ble_eq_true rfl) (Nat.le_of_ble_eq_true rfl) rfl ?_
    rw [(I2.t.z [] [] FZ.rf rfl rfl rfl rfl).lv]
    refine V_iaload2 98 dX12_count_98 (F2.m 8 (Nat.le_of_ble_eq_true rfl)) (F2.k 8 14 rfl) (F2.l 8 2 rfl) ?_ ?_
    · exact vpN (Eq.refl (nI (gl g))) (by omega) (by decide)
    refine V_iret 99 .int dX12_count_99 rfl rfl (Nat.le_of_ble_eq_true rfl) (Nat.le_of_ble_eq_true rfl) (RI.mk (I2.z [] [] FZ.rf rfl rfl rfl rfl))
  refine V_teq (2) (fun e24 => ?_) (fun e24 => ?_)
  ·
    refine V_tableIn 5 100 (off := 95) dX12_count_5 (by omega) (by omega) (by rw [e24]; rfl) (by decide) ?_
    refine V_aload_0 100 dX12_count_100 ?_
    refine V_getR 101 (c := 12) 27 (F2.r 0 27 15 rfl) dX12_count_101 fl_RX12_61 (F2.m 0 (Nat.le_of_ble_eq_true rfl)) (F2.k 0 12 rfl) (Nat.le_of_ble_eq_true rfl) (Nat.le_of_ble_eq_true rfl) rfl ?_
    refine V_aload_0 104 dX12_count_104 ?_
    refine V_getI 105 (c := 12) 18 dX12_count_105 fl_RX12_264 (F2.m 0 (Nat.le_of_ble_eq_true rfl)) (F2.k 0 12 rfl) (Nat.le_of_ble_eq_true rfl) (Nat.le_of_ble_eq_true rfl) rfl ?_
    rw [(I2.t.z [] [] FZ.rf rfl rfl rfl rfl).lv]
    refine V_iaload2 108 dX12_count_108 (F2.m 15 (Nat.le_of_ble_eq_true rfl)) (F2.k 15 14 rfl) (F2.l 15 2 rfl) ?_ ?_
    · exact vpN (Eq.refl (nI (gl g))) (by omega) (by decide)
    refine V_iret 109 .int dX12_count_109 rfl rfl (Nat.le_of_ble_eq_true rfl) (Nat.le_of_ble_eq_true rfl) (RI.mk (I2.z [] [] FZ.rf rfl rfl rfl rfl))
  refine V_teq (3) (fun e25 => ?_) (fun e25 => ?_)
  ·
    refine V_tableIn 5 110 (off := 105) dX12_count_5 (by omega) (by omega) (by rw [e25]; rfl) (by decide) ?_
    refine V_aload_0 110 dX12_count_110 ?_
    refine V_iconst 111 (0) dX12_count_111 (by decide) ?_
    refine V_callV 112 (ci := 12) [.int _] _ (s_mtotal M.2.1 Γ S2 F2 0 (by decide)) dX12_count_112 cb_X12_sumOn ml_RX12_352 im_yX12_sumOn se_yX12_sumOn (F2.m 0 (Nat.le_of_ble_eq_true rfl)) (F2.k 0 12 rfl) (Nat.le_of_ble_eq_true rfl) ⟨(Nat.le_of_ble_eq_true rfl), (Nat.le_of_ble_eq_true rfl)⟩ rfl rfl (Nat.le_of_ble_eq_true rfl) ⟨(Nat.le_of_ble_eq_true rfl), (Nat.le_of_ble_eq_true rfl)⟩ (RI.go (fun r28 S26 q27 => ?_))
    rw [q27.2]
    refine V_iret 115 .int dX12_count_115 rfl rfl (Nat.le_of_ble_eq_true rfl) (Nat.le_of_ble_eq_true rfl) (RI.mk (I2.z [] [] FZ.rf rfl rfl rfl rfl))
  refine V_teq (4) (fun e29 => ?_) (fun e29 => ?_)
  ·
    refine V_tableIn 5 116 (off := 111) dX12_count_5 (by omega) (by omega) (by rw [e29]; rfl) (by decide) ?_
    refine V_aload_0 116 dX12_count_116 ?_
    refine V_bipush 117 (8) dX12_count_117 (by decide) ?_
    refine V_callV 119 (ci := 12) [.int _] _ (s_mtotal M.2.1 Γ S2 F2 8 (by decide)) dX12_count_119 cb_X12_sumOn ml_RX12_352 im_yX12_sumOn se_yX12_sumOn (F2.m 0 (Nat.le_of_ble_eq_true rfl)) (F2.k 0 12 rfl) (Nat.le_of_ble_eq_true rfl) ⟨(Nat.le_of_ble_eq_true rfl), (Nat.le_of_ble_eq_true rfl)⟩ rfl rfl (Nat.le_of_ble_eq_true rfl) ⟨(Nat.le_of_ble_eq_true rfl), (Nat.le_of_ble_eq_true rfl)⟩ (RI.go (fun r32 S30 q31 => ?_))
    rw [q31.2]
    refine V_iret 122 .int dX12_count_122 rfl rfl (Nat.le_of_ble_eq_true rfl) (Nat.le_of_ble_eq_true rfl) (RI.mk (I2.z [] [] FZ.rf rfl rfl rfl rfl))
  refine V_teq (5) (fun e33 => ?_) (fun e33 => ?_)
  ·
    refine V_tableIn 5 123 (off := 118) dX12_count_5 (by omega) (by omega) (by rw [e33]; rfl) (by decide) ?_
    refine V_aload_0 123 dX12_count_123 ?_
    refine V_callV 124 (ci := 12) [] _ (s_mrolledAll M.2.1 Γ S2 F2 I2.t) dX12_count_124 cb_X12_rolledAll ml_RX12_440 im_yX12_rolledAll se_yX12_rolledAll (F2.m 0 (Nat.le_of_ble_eq_true rfl)) (F2.k 0 12 rfl) (Nat.le_of_ble_eq_true rfl) ⟨(Nat.le_of_ble_eq_true rfl), (Nat.le_of_ble_eq_true rfl)⟩ rfl rfl (Nat.le_of_ble_eq_true rfl) ⟨(Nat.le_of_ble_eq_true rfl), (Nat.le_of_ble_eq_true rfl)⟩ (RI.go (fun r36 S34 q35 => ?_))
    have h37 : FZ [] [] S2 S34 := (FZ.rf (X := []) (Y := []) (S := S2)).tr (q35.sub (by simp) (by simp))
    refine V_iret 127 .int dX12_count_127 rfl rfl (Nat.le_of_ble_eq_true rfl) (Nat.le_of_ble_eq_true rfl) (RI.mk (I2.z [] [] h37 rfl rfl rfl rfl))
  refine V_teq (6) (fun e38 => ?_) (fun e38 => ?_)
  ·
    refine V_tableIn 5 128 (off := 123) dX12_count_5 (by omega) (by omega) (by rw [e38]; rfl) (by decide) ?_
    refine V_aload_0 128 dX12_count_128 ?_
    refine V_getR 129 (c := 12) 31 (F2.r 0 31 19 rfl) dX12_count_129 fl_RX12_73 (F2.m 0 (Nat.le_of_ble_eq_true rfl)) (F2.k 0 12 rfl) (Nat.le_of_ble_eq_true rfl) (Nat.le_of_ble_eq_true rfl) rfl ?_
    refine V_aload_0 132 dX12_count_132 ?_
    refine V_getI 133 (c := 12) 18 dX12_count_133 fl_RX12_264 (F2.m 0 (Nat.le_of_ble_eq_true rfl)) (F2.k 0 12 rfl) (Nat.le_of_ble_eq_true rfl) (Nat.le_of_ble_eq_true rfl) rfl ?_
    rw [(I2.t.z [] [] FZ.rf rfl rfl rfl rfl).lv]
    refine V_iaload2 136 dX12_count_136 (F2.m 19 (Nat.le_of_ble_eq_true rfl)) (F2.k 19 14 rfl) (F2.l 19 2 rfl) ?_ ?_
    · exact vpN (Eq.refl (nI (gl g))) (by omega) (by decide)
    refine V_iret 137 .int dX12_count_137 rfl rfl (Nat.le_of_ble_eq_true rfl) (Nat.le_of_ble_eq_true rfl) (RI.mk (I2.z [] [] FZ.rf rfl rfl rfl rfl))
  refine V_teq (7) (fun e39 => ?_) (fun e39 => ?_)
  ·
    refine V_tableIn 5 138 (off := 133) dX12_count_5 (by omega) (by omega) (by rw [e39]; rfl) (by decide) ?_
    refine V_aload_0 138 dX12_count_138 ?_
    refine V_getR 139 (c := 12) 32 (F2.r 0 32 20 rfl) dX12_count_139 fl_RX12_76 (F2.m 0 (Nat.le_of_ble_eq_true rfl)) (F2.k 0 12 rfl) (Nat.le_of_ble_eq_true rfl) (Nat.le_of_ble_eq_true rfl) rfl ?_
    refine V_aload_0 142 dX12_count_142 ?_
    refine V_getI 143 (c := 12) 18 dX12_count_143 fl_RX12_264 (F2.m 0 (Nat.le_of_ble_eq_true rfl)) (F2.k 0 12 rfl) (Nat.le_of_ble_eq_true rfl) (Nat.le_of_ble_eq_true rfl) rfl ?_
    rw [(I2.t.z [] [] FZ.rf rfl rfl rfl rfl).lv]
    refine V_iaload2 146 dX12_count_146 (F2.m 20 (Nat.le_of_ble_eq_true rfl)) (F2.k 20 14 rfl) (F2.l 20 2 rfl) ?_ ?_
    · exact vpN (Eq.refl (nI (gl g))) (by omega) (by decide)
    refine V_iret 147 .int dX12_count_147 rfl rfl (Nat.le_of_ble_eq_true rfl) (Nat.le_of_ble_eq_true rfl) (RI.mk (I2.z [] [] FZ.rf rfl rfl rfl rfl))
  refine V_teq (8) (fun e40 => ?_) (fun e40 => ?_)
  ·
    refine V_tableIn 5 148 (off := 143) dX12_count_5 (by omega) (by omega) (by rw [e40]; rfl) (by decide) ?_
    refine V_aload_0 148 dX12_count_148 ?_
    refine V_getR 149 (c := 12) 54 (F2.r 0 54 38 rfl) dX12_count_149 fl_RX12_131 (F2.m 0 (Nat.le_of_ble_eq_true rfl)) (F2.k 0 12 rfl) (Nat.le_of_ble_eq_true rfl) (Nat.le_of_ble_eq_true rfl) rfl ?_
    refine V_bipush 152 (24) dX12_count_152 (by decide) ?_
    refine V_iaload2 154 dX12_count_154 (F2.m 38 (Nat.le_of_ble_eq_true rfl)) (F2.k 38 14 rfl) (F2.l 38 30 rfl) ?_ ?_
    · exact (by unfold vp_in; decide)
    refine V_iret 155 .int dX12_count_155 rfl rfl (Nat.le_of_ble_eq_true rfl) (Nat.le_of_ble_eq_true rfl) (RI.mk (I2.z [] [] FZ.rf rfl rfl rfl rfl))
  refine V_teq (9) (fun e41 => ?_) (fun e41 => ?_)
  ·
    refine V_tableIn 5 156 (off := 151) dX12_count_5 (by omega) (by omega) (by rw [e41]; rfl) (by decide) ?_
    refine V_aload_0 156 dX12_count_156 ?_
    refine V_getR 157 (c := 12) 33 (F2.r 0 33 21 rfl) dX12_count_157 fl_RX12_79 (F2.m 0 (Nat.le_of_ble_eq_true rfl)) (F2.k 0 12 rfl) (Nat.le_of_ble_eq_true rfl) (Nat.le_of_ble_eq_true rfl) rfl ?_
    refine V_aload_0 160 dX12_count_160 ?_
    refine V_getI 161 (c := 12) 18 dX12_count_161 fl_RX12_264 (F2.m 0 (Nat.le_of_ble_eq_true rfl)) (F2.k 0 12 rfl) (Nat.le_of_ble_eq_true rfl) (Nat.le_of_ble_eq_true rfl) rfl ?_
    rw [(I2.t.z [] [] FZ.rf rfl rfl rfl rfl).lv]
    refine V_iaload2 164 dX12_count_164 (F2.m 21 (Nat.le_of_ble_eq_true rfl)) (F2.k 21 14 rfl) (F2.l 21 2 rfl) ?_ ?_
    · exact vpN (Eq.refl (nI (gl g))) (by omega) (by decide)
    refine V_iret 165 .int dX12_count_165 rfl rfl (Nat.le_of_ble_eq_true rfl) (Nat.le_of_ble_eq_true rfl) (RI.mk (I2.z [] [] FZ.rf rfl rfl rfl rfl))
  refine V_teq (10) (fun e42 => ?_) (fun e42 => ?_)
  ·
    refine V_tableIn 5 166 (off := 161) dX12_count_5 (by omega) (by omega) (by rw [e42]; rfl) (by decide) ?_
    refine V_aload_0 166 dX12_count_166 ?_
    refine V_getR 167 (c := 12) 30 (F2.r 0 30 18 rfl) dX12_count_167 fl_RX12_70 (F2.m 0 (Nat.le_of_ble_eq_true rfl)) (F2.k 0 12 rfl) (Nat.le_of_ble_eq_true rfl) (Nat.le_of_ble_eq_true rfl) rfl ?_
    refine V_aload_0 170 dX12_count_170 ?_
    refine V_getI 171 (c := 12) 18 dX12_count_171 fl_RX12_264 (F2.m 0 (Nat.le_of_ble_eq_true rfl)) (F2.k 0 12 rfl) (Nat.le_of_ble_eq_true rfl) (Nat.le_of_ble_eq_true rfl) rfl ?_
    rw [(I2.t.z [] [] FZ.rf rfl rfl rfl rfl).lv]
    refine V_iaload2 174 dX12_count_174 (F2.m 18 (Nat.le_of_ble_eq_true rfl)) (F2.k 18 14 rfl) (F2.l 18 2 rfl) ?_ ?_
    · exact vpN (Eq.refl (nI (gl g))) (by omega) (by decide)
    refine V_iret 175 .int dX12_count_175 rfl rfl (Nat.le_of_ble_eq_true rfl) (Nat.le_of_ble_eq_true rfl) (RI.mk (I2.z [] [] FZ.rf rfl rfl rfl rfl))
  refine V_teq (11) (fun e43 => ?_) (fun e43 => ?_)
  ·
    refine V_tableIn 5 176 (off := 171) dX12_count_5 (by omega) (by omega) (by rw [e43]; rfl) (by decide) ?_
    refine V_aload_0 176 dX12_count_176 ?_
    refine V_getI 177 (c := 12) 2 dX12_count_177 fl_RX12_197 (F2.m 0 (Nat.le_of_ble_eq_true rfl)) (F2.k 0 12 rfl) (Nat.le_of_ble_eq_true rfl) (Nat.le_of_ble_eq_true rfl) rfl ?_
    refine V_iret 180 .int dX12_count_180 rfl rfl (Nat.le_of_ble_eq_true rfl) (Nat.le_of_ble_eq_true rfl) (RI.mk (I2.z [] [] FZ.rf rfl rfl rfl rfl))
  refine V_teq (12) (fun e44 => ?_) (fun e44 => ?_)
  ·
    refine V_tableIn 5 181 (off := 176) dX12_count_5 (by omega) (by omega) (by rw [e44]; rfl) (by decide) ?_
    refine V_aload_0 181 dX12_count_181 ?_
    refine V_getI 182 (c := 12) 57 dX12_count_182 fl_RX12_279 (F2.m 0 (Nat.le_of_ble_eq_true rfl)) (F2.k 0 12 rfl) (Nat.le_of_ble_eq_true rfl) (Nat.le_of_ble_eq_true rfl) rfl ?_
    refine V_iret 185 .int dX12_count_185 rfl rfl (Nat.le_of_ble_eq_true rfl) (Nat.le_of_ble_eq_true rfl) (RI.mk (I2.z [] [] FZ.rf rfl rfl rfl rfl))
  refine V_teq (13) (fun e45 => ?_) (fun e45 => ?_)
  ·
    refine V_tableIn 5 186 (off := 181) dX12_count_5 (by omega) (by omega) (by rw [e45]; rfl) (by decide) ?_
    refine V_aload_0 186 dX12_count_186 ?_
    refine V_getI 187 (c := 12) 70 dX12_count_187 fl_RX12_282 (F2.m 0 (Nat.le_of_ble_eq_true rfl)) (F2.k 0 12 rfl) (Nat.le_of_ble_eq_true rfl) (Nat.le_of_ble_eq_true rfl) rfl ?_
    refine V_iret 190 .int dX12_count_190 rfl rfl (Nat.le_of_ble_eq_true rfl) (Nat.le_of_ble_eq_true rfl) (RI.mk (I2.z [] [] FZ.rf rfl rfl rfl rfl))
  refine V_teq (14) (fun e46 => ?_) (fun e46 => ?_)
  ·
    refine V_tableIn 5 191 (off := 186) dX12_count_5 (by omega) (by omega) (by rw [e46]; rfl) (by decide) ?_
    refine V_aload_0 191 dX12_count_191 ?_
    refine V_getR 192 (c := 12) 75 (F2.r 0 75 55 rfl) dX12_count_192 fl_RX12_183 (F2.m 0 (Nat.le_of_ble_eq_true rfl)) (F2.k 0 12 rfl) (Nat.le_of_ble_eq_true rfl) (Nat.le_of_ble_eq_true rfl) rfl ?_
    refine V_iconst 195 (0) dX12_count_195 (by decide) ?_
    refine V_zaload2 196 dX12_count_196 (F2.m 55 (Nat.le_of_ble_eq_true rfl)) (F2.k 55 16 rfl) (F2.l 55 3 rfl) ?_ ?_
    · exact (by unfold vp_in; decide)
    refine V_if_eq 197 204 dX12_count_197 (by decide) (fun c47 => ?_) (fun c47 => ?_)
    ·
      refine V_iconst 204 (0) dX12_count_204 (by decide) ?_
      refine V_lvw (by repeat (first | exact trivial | refine ⟨rfl, ?_⟩)) (J16 _ _ FZ.rf)
    ·
      refine V_iconst 200 (1) dX12_count_200 (by decide) ?_
      refine V_goto 201 205 dX12_count_201 (by decide) ?_
      refine V_lvw (by repeat (first | exact trivial | refine ⟨rfl, ?_⟩)) (J16 _ _ FZ.rf)
  exact absurd (by omega) q21
set_option maxRecDepth 100000 in
set_option maxHeartbeats 8000000 in
theorem s_mput (l : Launch) (Γ : GC) (S : PS) {m t : Nat} (F : isL lyModel Γ.2.2.2.2.1 S m) (ht : sI S m 2 = nI t) (hb : t + 4 ≤ 2000) (v : Int32) : CT l Γ yX12_put cX12_put 3 none (0) (0) (0) [.ref m, .int v] S (RV (fun S' => FZ [m + 1] [(m, 2)] S S' ∧ sI S' m 2 = nI (t + 4))) := by
  refine CT.of RX12 "put" [some (.ref m), some (.int v), none] (by decide +kernel) rfl rfl (Nat.le_of_ble_eq_true rfl) rfl (fun M hM => ?_)
  subst hM
  refine V_bipush 0 (24) dX12_put_0 (by decide) ?_
  refine V_istore_2 2 dX12_put_2 rfl (Nat.le_of_ble_eq_true rfl) ?_
  rw [show (24 : Int32) = shF 0 by decide]
  refine V_while (α := Nat × PS) (fun x => 4 - x.1) (fun x => x.1 ≤ 4 ∧ FZ [m + 1] [(m, 2)] S x.2 ∧ sI x.2 m 2 = nI (t + x.1)) (fun x => x.2) (fun x => [some (.ref m), some (.int v), some (.int (shF x.1))]) (0, S) ⟨Nat.zero_le _, FZ.rf, ht⟩ (fun x hx ih => ?_)
  obtain ⟨i, S2⟩ := x
  obtain ⟨hi, hR, hv⟩ := hx
  dsimp only at hi hR hv ih ⊢
  have F2 := F.ss hR.1
  refine V_iload_2 3 dX12_put_3 ?_
  refine V_if_lt 4 36 dX12_put_4 (by decide) (fun c => ?_) (fun c => ?_)
  ·
    have hi2 : i = 4 := by
      rcases (show i = 0 ∨ i = 1 ∨ i = 2 ∨ i = 3 ∨ i = 4 by omega) with rfl | rfl | rfl | rfl | rfl
      · exact absurd c (by decide)
      · exact absurd c (by decide)
      · exact absurd c (by decide)
      · exact absurd c (by decide)
      · rfl
    subst hi2
    refine V_vret 36 dX12_put_36 rfl (Nat.le_of_ble_eq_true rfl) (Nat.le_of_ble_eq_true rfl) (RV.mk ⟨hR, hv⟩)
  ·
    have hi2 : i < 4 := by
      rcases Nat.lt_or_ge i 4 with q | q
      · exact q
      · have : i = 4 := by omega
        subst this
        exact absurd (by decide) c
    have hsh : shF i + (-8) = shF (i + 1) := by
      rcases (show i = 0 ∨ i = 1 ∨ i = 2 ∨ i = 3 by omega) with rfl | rfl | rfl | rfl <;> decide
    refine V_aload_0 7 dX12_put_7 ?_
    refine V_getR 8 (c := 12) 1 (F2.r 0 1 1 rfl) dX12_put_8 fl_RX12_13 (F2.m 0 (Nat.le_of_ble_eq_true rfl)) (F2.k 0 12 rfl) (Nat.le_of_ble_eq_true rfl) (Nat.le_of_ble_eq_true rfl) rfl ?_
    refine V_aload_0 11 dX12_put_11 ?_
    refine V_getI 12 (c := 12) 2 dX12_put_12 fl_RX12_197 (F2.m 0 (Nat.le_of_ble_eq_true rfl)) (F2.k 0 12 rfl) (Nat.le_of_ble_eq_true rfl) (Nat.le_of_ble_eq_true rfl) rfl ?_
    rw [hv]
    refine V_iload_1 15 dX12_put_15 ?_
    refine V_iload_2 16 dX12_put_16 ?_
    refine V_ishr 17 dX12_put_17 ?_
    refine V_i2b 18 dX12_put_18 ?_
    refine V_bastore2 19 dX12_put_19 (F2.m 1 (Nat.le_of_ble_eq_true rfl)) (F2.k 1 13 rfl) (F2.l 1 2000 rfl) ?_ ?_
    · exact vp_in_nI (by omega) (by decide)
    refine V_abs (fun T => FZ [m + 1] [(m, 2)] S T ∧ sI T m 2 = nI (t + i)) ⟨hR.uA (by simp), hv⟩ (fun S3 h3 => ?_)
    have F3 := F.ss h3.1.1
    refine V_aload_0 20 dX12_put_20 ?_
    refine V_dup 21 dX12_put_21 rfl ?_
    refine V_getI 22 (c := 12) 2 dX12_put_22 fl_RX12_197 (F3.m 0 (Nat.le_of_ble_eq_true rfl)) (F3.k 0 12 rfl) (Nat.le_of_ble_eq_true rfl) (Nat.le_of_ble_eq_true rfl) rfl ?_
    rw [h3.2]
    refine V_iconst 25 (1) dX12_put_25 (by decide) ?_
    refine V_iadd 26 dX12_put_26 ?_
    refine V_putI 27 (c := 12) 2 dX12_put_27 fl_RX12_197 (F3.m 0 (Nat.le_of_ble_eq_true rfl)) (F3.k 0 12 rfl) (Nat.le_of_ble_eq_true rfl) (Nat.le_of_ble_eq_true rfl) rfl (Or.inl rfl) ?_
    refine V_iinc_2 30 (-8) dX12_put_30 (by decide) rfl (Nat.le_of_ble_eq_true rfl) ?_
    refine V_goto 33 3 dX12_put_33 (by decide) ?_
    rw [hsh]
    refine ih (i + 1, _) ⟨by dsimp only; omega, h3.1.uI (by simp), ?_⟩ (by dsimp only; omega)
    show sI (uI S3 m 2 (nI (t + i) + 1)) m 2 = _
    rw [sI_uI, up2_s, nI_1, Nat.add_assoc]
theorem MV.onTape {lo m tp tp2 : Nat} {g : MG} {S S2 : PS} {X : List Nat} (I : MV lo m g tp S) (e : FZ X [(m, 2)] S S2) (Xo : List Nat) (hX : X = Xo.map (fun o => m + o)) (hx : Xo.all miX = true) (et : sI S2 m 2 = nI tp2) (hb : tp2 ≤ 2000) : MV lo m g tp2 S2 := by
  subst hX
  have a37 := e.2.1 _ (mx_of (m := m) hx (o := 37) rfl)
  have a39 := e.2.1 _ (mx_of (m := m) hx (o := 39) rfl)
  have a51 := e.2.1 _ (mx_of (m := m) hx (o := 51) rfl)
  have a55 := e.2.1 _ (mx_of (m := m) hx (o := 55) rfl)
  have a56 := e.2.1 _ (mx_of (m := m) hx (o := 56) rfl)
  refine ⟨I.f.ss e.1, I.t.eq (e.2.2 _ _ (by simp)) (fun o ho => e.2.1 _ (mx_of hx (by unfold miX; rw [ho]; rfl))), I.now.eq a37, ?_, ?_, fun s hs n => ?_, et, hb⟩
  · obtain ⟨u, h1, h2, h3⟩ := I.hist
    exact ⟨u, h1, (e.2.2 _ _ (by simp)).trans h2, fun i hi => (h3 i hi).eq a39⟩
  · obtain ⟨u, h1, h2, h3⟩ := I.seen
    exact ⟨u, h1, (e.2.2 _ _ (by simp)).trans h2, fun i hi => by rw [a51]; exact h3 i hi⟩
  · rw [a55] at n
    exact (I.held s hs n).eq a56
set_option maxRecDepth 100000 in
set_option maxHeartbeats 8000000 in
theorem s_mfeed (l : Launch) (Γ : GC) (S : PS) {m tp : Nat} {g : MG} (I : MV Γ.2.2.2.2.1 m g tp S) (a b c d e : Int32) : CT l Γ yX12_feed cX12_feed 6 (some .int) (1) (0) (0) [.ref m, .int a, .int b, .int c, .int d, .int e] S (RI (fun r S' => (r = if tp + 20 ≤ 2000 then nI (tp + 20) else -1) ∧ MV Γ.2.2.2.2.1 m g (if tp + 20 ≤ 2000 then tp + 20 else tp) S')) := by
  refine CT.of RX12 "feed" [some (.ref m), some (.int a), some (.int b), some (.int c), some (.int d), some (.int e)] (by decide +kernel) rfl rfl (Nat.le_of_ble_eq_true rfl) rfl (fun M hM => ?_)
  subst hM
  have F := I.f
  have hl := I.tape
  have htp := I.tpl
  refine V_aload_0 0 dX12_feed_0 ?_
  refine V_getI 1 (c := 12) 2 dX12_feed_1 fl_RX12_197 (F.m 0 (Nat.le_of_ble_eq_true rfl)) (F.k 0 12 rfl) (Nat.le_of_ble_eq_true rfl) (Nat.le_of_ble_eq_true rfl) rfl ?_
  rw [hl]
  refine V_bipush 4 (20) dX12_feed_4 (by decide) ?_
  refine V_iadd 6 dX12_feed_6 ?_
  refine V_sipush 7 (2000) dX12_feed_7 (by decide) ?_
  refine V_icmp_le 10 15 dX12_feed_10 (by decide) (fun k => ?_) (fun k => ?_)
  · have k2 := (nI_leE (eqAdd (Eq.refl (nI tp)) (show (20 : Int32) = nI 20 from rfl)) (show (2000 : Int32) = nI 2000 from rfl) (by omega) (by omega)).mp k
    refine V_aload_0 15 dX12_feed_15 ?_
    refine V_iload_1 16 dX12_feed_16 ?_
    refine V_callV 17 (ci := 12) [.int _] _ (s_mput M.2.1 Γ S F hl (by omega) _) dX12_feed_17 cb_X12_put ml_RX12_200 im_yX12_put se_yX12_put (F.m 0 (Nat.le_of_ble_eq_true rfl)) (F.k 0 12 rfl) (Nat.le_of_ble_eq_true rfl) ⟨(Nat.le_of_ble_eq_true rfl), (Nat.le_of_ble_eq_true rfl)⟩ rfl rfl (Nat.le_of_ble_eq_true rfl) ⟨(Nat.le_of_ble_eq_true rfl), (Nat.le_of_ble_eq_true rfl)⟩ (RV.go (fun S1 h1 => ?_))
    have F1 := F.ss h1.1.1
    refine V_aload_0 20 dX12_feed_20 ?_
    refine V_iload_2 21 dX12_feed_21 ?_
    refine V_callV 22 (ci := 12) [.int _] _ (s_mput M.2.1 Γ S1 F1 h1.2 (by omega) _) dX12_feed_22 cb_X12_put ml_RX12_200 im_yX12_put se_yX12_put (F1.m 0 (Nat.le_of_ble_eq_true rfl)) (F1.k 0 12 rfl) (Nat.le_of_ble_eq_true rfl) ⟨(Nat.le_of_ble_eq_true rfl), (Nat.le_of_ble_eq_true rfl)⟩ rfl rfl (Nat.le_of_ble_eq_true rfl) ⟨(Nat.le_of_ble_eq_true rfl), (Nat.le_of_ble_eq_true rfl)⟩ (RV.go (fun S2 h2 => ?_))
    have F2 := F1.ss h2.1.1
    refine V_aload_0 25 dX12_feed_25 ?_
    refine V_iload_3 26 dX12_feed_26 ?_
    refine V_callV 27 (ci := 12) [.int _] _ (s_mput M.2.1 Γ S2 F2 h2.2 (by omega) _) dX12_feed_27 cb_X12_put ml_RX12_200 im_yX12_put se_yX12_put (F2.m 0 (Nat.le_of_ble_eq_true rfl)) (F2.k 0 12 rfl) (Nat.le_of_ble_eq_true rfl) ⟨(Nat.le_of_ble_eq_true rfl), (Nat.le_of_ble_eq_true rfl)⟩ rfl rfl (Nat.le_of_ble_eq_true rfl) ⟨(Nat.le_of_ble_eq_true rfl), (Nat.le_of_ble_eq_true rfl)⟩ (RV.go (fun S3 h3 => ?_))
    have F3 := F2.ss h3.1.1
    refine V_aload_0 30 dX12_feed_30 ?_
    refine V_iload_4 31 dX12_feed_31 ?_
    refine V_callV 33 (ci := 12) [.int _] _ (s_mput M.2.1 Γ S3 F3 h3.2 (by omega) _) dX12_feed_33 cb_X12_put ml_RX12_200 im_yX12_put se_yX12_put (F3.m 0 (Nat.le_of_ble_eq_true rfl)) (F3.k 0 12 rfl) (Nat.le_of_ble_eq_true rfl) ⟨(Nat.le_of_ble_eq_true rfl), (Nat.le_of_ble_eq_true rfl)⟩ rfl rfl (Nat.le_of_ble_eq_true rfl) ⟨(Nat.le_of_ble_eq_true rfl), (Nat.le_of_ble_eq_true rfl)⟩ (RV.go (fun S4 h4 => ?_))
    have F4 := F3.ss h4.1.1
    refine V_aload_0 36 dX12_feed_36 ?_
    refine V_iload_5 37 dX12_feed_37 ?_
    refine V_callV 39 (ci := 12) [.int _] _ (s_mput M.2.1 Γ S4 F4 h4.2 (by omega) _) dX12_feed_39 cb_X12_put ml_RX12_200 im_yX12_put se_yX12_put (F4.m 0 (Nat.le_of_ble_eq_true rfl)) (F4.k 0 12 rfl) (Nat.le_of_ble_eq_true rfl) ⟨(Nat.le_of_ble_eq_true rfl), (Nat.le_of_ble_eq_true rfl)⟩ rfl rfl (Nat.le_of_ble_eq_true rfl) ⟨(Nat.le_of_ble_eq_true rfl), (Nat.le_of_ble_eq_true rfl)⟩ (RV.go (fun S5 h5 => ?_))
    have F5 := F4.ss h5.1.1
    refine V_aload_0 42 dX12_feed_42 ?_
    refine V_getI 43 (c := 12) 2 dX12_feed_43 fl_RX12_197 (F5.m 0 (Nat.le_of_ble_eq_true rfl)) (F5.k 0 12 rfl) (Nat.le_of_ble_eq_true rfl) (Nat.le_of_ble_eq_true rfl) rfl ?_
    refine V_iret 46 .int dX12_feed_46 rfl rfl (Nat.le_of_ble_eq_true rfl) (Nat.le_of_ble_eq_true rfl) (RI.mk ⟨by rw [if_pos k2]; exact h5.2, by rw [if_pos k2]; exact I.onTape ((((h1.1.tr h2.1).tr h3.1).tr h4.1).tr h5.1) [1] rfl rfl h5.2 k2⟩)
  · have k2 := mt (nI_leE (eqAdd (Eq.refl (nI tp)) (show (20 : Int32) = nI 20 from rfl)) (show (2000 : Int32) = nI 2000 from rfl) (by omega) (by omega)).mpr k
    refine V_iconst 13 (-1) dX12_feed_13 (by decide) ?_
    refine V_iret 14 .int dX12_feed_14 rfl rfl (Nat.le_of_ble_eq_true rfl) (Nat.le_of_ble_eq_true rfl) (RI.mk ⟨by rw [if_neg k2], by rw [if_neg k2]; exact I⟩)
set_option maxRecDepth 100000 in
set_option maxHeartbeats 8000000 in
theorem s_mback (l : Launch) (Γ : GC) (S : PS) {m tp : Nat} {g : MG} (I : MV Γ.2.2.2.2.1 m g tp S) (x : Int32) : CT l Γ yX12_back cX12_back 2 (some .int) (0) (0) (0) [.ref m, .int x] S (RI (fun r S' => ∃ tp2, (if x < 0 ∨ nI tp < x then nI tp else nI tp - x) = nI tp2 ∧ (r = if x < 0 ∨ nI tp < x then -1 else nI tp - x) ∧ MV Γ.2.2.2.2.1 m g tp2 S')) := by
  refine CT.of RX12 "back" [some (.ref m), some (.int x)] (by decide +kernel) rfl rfl (Nat.le_of_ble_eq_true rfl) rfl (fun M hM => ?_)
  subst hM
  have F := I.f
  have hl := I.tape
  have htp := I.tpl
  refine V_iload_1 0 dX12_back_0 ?_
  refine V_if_lt 1 12 dX12_back_1 (by decide) (fun k => ?_) (fun k => ?_)
  ·
    refine V_iconst 12 (-1) dX12_back_12 (by decide) ?_
    refine V_iret 13 .int dX12_back_13 rfl rfl (Nat.le_of_ble_eq_true rfl) (Nat.le_of_ble_eq_true rfl) (RI.mk ⟨tp, by rw [if_pos (Or.inl k)], by rw [if_pos (Or.inl k)], I⟩)
  ·
    refine V_iload_1 4 dX12_back_4 ?_
    refine V_aload_0 5 dX12_back_5 ?_
    refine V_getI 6 (c := 12) 2 dX12_back_6 fl_RX12_197 (F.m 0 (Nat.le_of_ble_eq_true rfl)) (F.k 0 12 rfl) (Nat.le_of_ble_eq_true rfl) (Nat.le_of_ble_eq_true rfl) rfl ?_
    rw [hl]
    refine V_icmp_le 9 14 dX12_back_9 (by decide) (fun k2 => ?_) (fun k2 => ?_)
    ·
      obtain ⟨j, hj, ej⟩ := nI_of k
      have hn : ¬ (x < 0 ∨ nI tp < x) := fun q => q.elim k (fun q => absurd k2 (Int32.not_le.mpr q))
      have hj2 : j ≤ tp := by rw [ej] at k2; exact (nI_leI hj (by omega)).mp k2
      have es : nI tp - x = nI (tp - j) := eqSub (Eq.refl (nI tp)) ej hj2
      refine V_aload_0 14 dX12_back_14 ?_
      refine V_dup 15 dX12_back_15 rfl ?_
      refine V_getI 16 (c := 12) 2 dX12_back_16 fl_RX12_197 (F.m 0 (Nat.le_of_ble_eq_true rfl)) (F.k 0 12 rfl) (Nat.le_of_ble_eq_true rfl) (Nat.le_of_ble_eq_true rfl) rfl ?_
      rw [hl]
      refine V_iload_1 19 dX12_back_19 ?_
      refine V_isub 20 dX12_back_20 ?_
      refine V_putI 21 (c := 12) 2 dX12_back_21 fl_RX12_197 (F.m 0 (Nat.le_of_ble_eq_true rfl)) (F.k 0 12 rfl) (Nat.le_of_ble_eq_true rfl) (Nat.le_of_ble_eq_true rfl) rfl (Or.inl rfl) ?_
      refine V_aload_0 24 dX12_back_24 ?_
      refine V_getI 25 (c := 12) 2 dX12_back_25 fl_RX12_197 (F.m 0 (Nat.le_of_ble_eq_true rfl)) (F.k 0 12 rfl) (Nat.le_of_ble_eq_true rfl) (Nat.le_of_ble_eq_true rfl) rfl ?_
      have e5 : sI (uI S m 2 (nI tp - x)) m 2 = nI (tp - j) := by rw [sI_uI, up2_s, es]
      refine V_iret 28 .int dX12_back_28 rfl rfl (Nat.le_of_ble_eq_true rfl) (Nat.le_of_ble_eq_true rfl) (RI.mk ⟨tp - j, by rw [if_neg hn]; exact es, by rw [if_neg hn]; exact up2_s _ _ _ _, I.onTape (X := []) (FZ.rf.uI (by simp)) [] rfl rfl e5 (by omega)⟩)
    ·
      refine V_iconst 12 (-1) dX12_back_12 (by decide) ?_
      refine V_iret 13 .int dX12_back_13 rfl rfl (Nat.le_of_ble_eq_true rfl) (Nat.le_of_ble_eq_true rfl) (RI.mk ⟨tp, by rw [if_pos (Or.inr (Int32.not_le.mp k2))], by rw [if_pos (Or.inr (Int32.not_le.mp k2))], I⟩)

