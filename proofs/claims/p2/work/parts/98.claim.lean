/-! THE LAW: its loop over the script, a row of six ints a time; its body; its entry -/
theorem and31 (x : Int32) : ¬ (x &&& 31) < 0 ∧ (x &&& 31) ≤ 31 := by
  have h1 : (x &&& 31).toBitVec.toNat ≤ 31 := by
    show (x.toBitVec &&& (31 : Int32).toBitVec).toNat ≤ 31
    rw [BitVec.toNat_and]
    exact Nat.and_le_right
  have h2 : (x &&& 31).toInt = ((x &&& 31).toBitVec.toNat : Int) := by
    show (x &&& 31).toBitVec.toInt = _
    exact BitVec.toInt_eq_toNat_of_lt (by omega)
  refine ⟨fun q => ?_, ?_⟩
  · have := Int32.lt_iff_toInt_lt.mp q
    rw [h2] at this
    have h0 : (0 : Int32).toInt = 0 := by decide
    omega
  · rw [Int32.le_iff_toInt_le, h2]
    have h3 : (31 : Int32).toInt = 31 := by decide
    omega
/-- a whole row is left -/
theorem row_left {L r : Nat} (hL : L ≤ 3072) (hr : 6 * r ≤ L) (h : ¬ nI L - 6 < nI (6 * r)) : 6 * r + 6 ≤ L := by
  have h1 := Int32.le_iff_toInt_le.mp (Int32.not_lt.mp h)
  have h6 : (6 : Int32).toInt = 6 := by decide
  have h2 : (nI L - 6).toInt = (L : Int) - 6 := by
    rw [Int32.toInt_sub, nI_toInt (by omega), h6]
    exact Int.bmod_eq_of_le (by omega) (by omega)
  rw [nI_toInt (by omega), h2] at h1
  omega
set_option maxRecDepth 100000 in
set_option maxHeartbeats 8000000 in
theorem law_loop {p : Program} {l : Launch} {e : Env} {s : State} {m : MethodId} {below : List Frame} {meth : Method} {c : Code} {b L : Nat} {cy : Nat → ClassId} {G : va_G} {kS vS : Nat → Nat} {xs : Nat → Int32} {n0 n1 h mm : Nat} (H : LH s meth b L xs) : ∀ (k r : Nat) (S1 S3 : PS) (g : MG) (tp : Nat), L - 6 * r < k → 6 * r ≤ L → IV n0 h (9 + 4 * r) (nI tp) S1 → MV n1 mm g tp S3 → LQ p l e s m below meth c b cy G kS vS n0 n1 h mm (nI (6 * r)) 18 S1 S3 := by
  have hret := H.1
  have hX := H.2.1
  have hbl := H.2.2.1
  have hL := H.2.2.2
  have hbA : ¬ s.heap.size ≤ b := Nat.not_le.mpr hbl
  intro k
  induction k with
  | zero => intro r S1 S3 g tp hk; exact absurd hk (Nat.not_lt_zero _)
  | succ k ih =>
    intro r S1 S3 g tp hk hr I1 I3
    refine V_iload_3 18 dL_law_18 ?_
    refine V_aload_0 19 dL_law_19 ?_
    refine V_slen 20 hX hbl hbA dL_law_20 ?_
    refine V_bipush 21 (6) dL_law_21 (by decide) ?_
    refine V_isub 23 dL_law_23 ?_
    refine V_icmp_gt 24 890 dL_law_24 (by decide) (fun c9 => ?_) (fun c9 => ?_)
    ·
      refine V_iconst 890 (1) dL_law_890 (by decide) ?_
      exact V_lawret 891 (Nat.le_of_ble_eq_true rfl) (Nat.le_of_ble_eq_true rfl) hret rfl dL_law_891
    ·
      have hr6 : 6 * r + 6 ≤ L := row_left hL hr c9
      have hi0 : vp_in (nI (6 * r)) L := vp_in_nI (by omega) (by omega)
      have K : ∀ (S1 S3 : PS) (g : MG) (tp : Nat), IV n0 h (9 + 4 * (r + 1)) (nI tp) S1 → MV n1 mm g tp S3 → LQ p l e s m below meth c b cy G kS vS n0 n1 h mm (nI (6 * r)) 884 S1 S3 := by
        intro S1 S3 g tp I1 I3
        refine V_iinc_3 884 (6) dL_law_884 (by decide) rfl (Nat.le_of_ble_eq_true rfl) ?_
        refine V_goto 887 18 dL_law_887 (by decide) ?_
        rw [eqAdd (a := 6 * r) (b := 6) rfl (show (6 : Int32) = nI 6 from rfl)]
        exact ih (r + 1) S1 S3 g tp (by omega) (by omega) I1 I3
      refine V_aload_0 27 dL_law_27 ?_
      refine V_iload_3 28 dL_law_28 ?_
      refine V_sld 29 hX hbl hbA ?_ dL_law_29 ?_
      · exact hi0
      refine V_bipush 30 (31) dL_law_30 (by decide) ?_
      refine V_iand 32 dL_law_32 ?_
      obtain ⟨a1, a2⟩ := and31 (xs (Int32.toNatClampNeg (nI (6 * r))))
      generalize xs (Int32.toNatClampNeg (nI (6 * r))) &&& 31 = v at a1 a2 ⊢
      obtain ⟨j, hj, rfl⟩ := nI_of2 (M := 31) (n := 31) (by decide) a1 a2
      rcases (show j = 0 ∨ j = 1 ∨ j = 2 ∨ j = 3 ∨ j = 4 ∨ j = 5 ∨ j = 6 ∨ j = 7 ∨ j = 8 ∨ j = 9 ∨ j = 10 ∨ j = 11 ∨ j = 12 ∨ j = 13 ∨ j = 14 ∨ j = 15 ∨ j = 16 ∨ j = 17 ∨ j = 18 ∨ j = 19 ∨ j = 20 ∨ j = 21 ∨ j = 22 ∨ j = 23 ∨ j = 24 ∨ j = 25 ∨ j = 26 ∨ j = 27 ∨ 27 < j by omega) with rfl | rfl | rfl | rfl | rfl | rfl | rfl | rfl | rfl | rfl | rfl | rfl | rfl | rfl | rfl | rfl | rfl | rfl | rfl | rfl | rfl | rfl | rfl | rfl | rfl | rfl | rfl | rfl | hj2
      ·
        refine V_tableIn 33 160 (off := 127) (x := nI 0) dL_law_33 (by decide) (by decide) (by decide) (by decide) ?_
        exact law_feed H hr6 I1 I3 K
      ·
        refine V_tableIn 33 223 (off := 190) (x := nI 1) dL_law_33 (by decide) (by decide) (by decide) (by decide) ?_
        exact law_back H hr6 I1 I3 K
      ·
        refine V_tableIn 33 246 (off := 213) (x := nI 2) dL_law_33 (by decide) (by decide) (by decide) (by decide) ?_
        exact law_read H hr6 I1 I3 K
      ·
        refine V_tableIn 33 259 (off := 226) (x := nI 3) dL_law_33 (by decide) (by decide) (by decide) (by decide) ?_
        exact law_place H hr6 I1 I3 K
      ·
        refine V_tableIn 33 272 (off := 239) (x := nI 4) dL_law_33 (by decide) (by decide) (by decide) (by decide) ?_
        exact law_kind H hr6 I1 I3 K
      ·
        refine V_tableIn 33 305 (off := 272) (x := nI 5) dL_law_33 (by decide) (by decide) (by decide) (by decide) ?_
        exact law_unlike H hr6 I1 I3 K
      ·
        refine V_tableIn 33 338 (off := 305) (x := nI 6) dL_law_33 (by decide) (by decide) (by decide) (by decide) ?_
        exact law_draw H hr6 I1 I3 K
      ·
        refine V_tableIn 33 361 (off := 328) (x := nI 7) dL_law_33 (by decide) (by decide) (by decide) (by decide) ?_
        exact law_lot H hr6 I1 I3 K
      ·
        refine V_tableIn 33 374 (off := 341) (x := nI 8) dL_law_33 (by decide) (by decide) (by decide) (by decide) ?_
        exact law_take H hr6 I1 I3 K
      ·
        refine V_tableIn 33 397 (off := 364) (x := nI 9) dL_law_33 (by decide) (by decide) (by decide) (by decide) ?_
        exact law_undo H hr6 I1 I3 K
      ·
        refine V_tableIn 33 410 (off := 377) (x := nI 10) dL_law_33 (by decide) (by decide) (by decide) (by decide) ?_
        exact law_within H hr6 I1 I3 K
      ·
        refine V_tableIn 33 433 (off := 400) (x := nI 11) dL_law_33 (by decide) (by decide) (by decide) (by decide) ?_
        exact law_lies H hr6 I1 I3 K
      ·
        refine V_tableIn 33 456 (off := 423) (x := nI 12) dL_law_33 (by decide) (by decide) (by decide) (by decide) ?_
        exact law_mosts H hr6 I1 I3 K
      ·
        refine V_tableIn 33 469 (off := 436) (x := nI 13) dL_law_33 (by decide) (by decide) (by decide) (by decide) ?_
        exact law_sure H hr6 I1 I3 K
      ·
        refine V_tableIn 33 502 (off := 469) (x := nI 14) dL_law_33 (by decide) (by decide) (by decide) (by decide) ?_
        exact law_evening H hr6 I1 I3 K
      ·
        refine V_tableIn 33 525 (off := 492) (x := nI 15) dL_law_33 (by decide) (by decide) (by decide) (by decide) ?_
        exact law_soonest H hr6 I1 I3 K
      ·
        refine V_tableIn 33 558 (off := 525) (x := nI 16) dL_law_33 (by decide) (by decide) (by decide) (by decide) ?_
        exact law_line H hr6 I1 I3 K
      ·
        refine V_tableIn 33 571 (off := 538) (x := nI 17) dL_law_33 (by decide) (by decide) (by decide) (by decide) ?_
        exact law_exchange H hr6 I1 I3 K
      ·
        refine V_tableIn 33 594 (off := 561) (x := nI 18) dL_law_33 (by decide) (by decide) (by decide) (by decide) ?_
        exact law_odd H hr6 I1 I3 K
      ·
        refine V_tableIn 33 617 (off := 584) (x := nI 19) dL_law_33 (by decide) (by decide) (by decide) (by decide) ?_
        exact law_lost H hr6 I1 I3 K
      ·
        refine V_tableIn 33 660 (off := 627) (x := nI 20) dL_law_33 (by decide) (by decide) (by decide) (by decide) ?_
        exact law_years H hr6 I1 I3 K
      ·
        refine V_tableIn 33 693 (off := 660) (x := nI 21) dL_law_33 (by decide) (by decide) (by decide) (by decide) ?_
        exact law_see H hr6 I1 I3 K
      ·
        refine V_tableIn 33 726 (off := 693) (x := nI 22) dL_law_33 (by decide) (by decide) (by decide) (by decide) ?_
        exact law_forget H hr6 I1 I3 K
      ·
        refine V_tableIn 33 739 (off := 706) (x := nI 23) dL_law_33 (by decide) (by decide) (by decide) (by decide) ?_
        exact law_rows H hr6 I1 I3 K
      ·
        refine V_tableIn 33 772 (off := 739) (x := nI 24) dL_law_33 (by decide) (by decide) (by decide) (by decide) ?_
        exact law_span H hr6 I1 I3 K
      ·
        refine V_tableIn 33 815 (off := 782) (x := nI 25) dL_law_33 (by decide) (by decide) (by decide) (by decide) ?_
        exact law_hold H hr6 I1 I3 K
      ·
        refine V_tableIn 33 838 (off := 805) (x := nI 26) dL_law_33 (by decide) (by decide) (by decide) (by decide) ?_
        exact law_restore H hr6 I1 I3 K
      ·
        refine V_tableIn 33 861 (off := 828) (x := nI 27) dL_law_33 (by decide) (by decide) (by decide) (by decide) ?_
        exact law_count H hr6 I1 I3 K
      ·
        refine V_tableOut 33 884 dL_law_33 (Or.inr (show (27 : Int) < (nI j).toInt from by rw [nI_toInt (by omega)]; omega)) (by decide) ?_
        exact K S1 S3 g tp (I1.mono (by omega)) I3
def S0 : PS := (0, fun _ => 0, fun _ _ => none, fun _ => 0, fun _ _ => none, fun _ _ => 0, fun _ _ => 0, fun _ _ => 0)
set_option maxRecDepth 100000 in
set_option maxHeartbeats 4000000 in
theorem law_all {p : Program} {l : Launch} {e : Env} {s : State} {m : MethodId} {below : List Frame} {meth : Method} {c : Code} {b L : Nat} {cy : Nat → ClassId} {G : va_G} {kS vS : Nat → Nat} {xs : Nat → Int32} (hL : L ≤ 3072) (hret : meth.sig.returnType = ret) (hX : va_X b L xs s s.heap) (hbl : b < s.heap.size) : LV p l e s m below meth c b (GG s.heap.size [] cy G s.heap.size s.heap.size kS vS) 0 0 S0 0 [some (.ref b), none, none, none] [] := by
  have hbA : ¬ s.heap.size ≤ b := Nat.not_le.mpr hbl
  refine V_new 0 11 dL_law_0 kl_RL_7 ib_RX11 in_RX11 (Nat.le_of_ble_eq_true rfl) rfl (Nat.le_of_ble_eq_true rfl) (Nat.le_of_ble_eq_true rfl) ?_
  refine V_dup 3 dL_law_3 rfl ?_
  generalize hh : s.heap.size + sN S0 = h
  refine V_callI 4 [] _ (c_X11_initZ l _ (nO S0 h 11) (h := h) rfl (by rw [← hh]; rfl) (by rw [← hh]; exact Nat.le_add_right _ _) (va_up_self _ _ _) (va_up_self _ _ _)) dL_law_4 cb_X11_init ml_RL_9 im_yX11_init rfl ⟨(Nat.le_of_ble_eq_true rfl), (Nat.le_of_ble_eq_true rfl)⟩ rfl rfl (Nat.le_of_ble_eq_true rfl) ⟨(Nat.le_of_ble_eq_true rfl), (Nat.le_of_ble_eq_true rfl)⟩ (RV.go (fun S1 h1 => ?_))
  obtain ⟨N1, D1, Z1⟩ := h1
  have I1 := IV.start N1.2.2 D1 Z1
  refine V_astore_1 7 dL_law_7 rfl (Nat.le_of_ble_eq_true rfl) ?_
  refine lv_next (S2 := S0) rfl ?_
  refine V_new 8 12 dL_law_8 kl_RL_10 ib_RX12 in_RX12 (Nat.le_of_ble_eq_true rfl) rfl (Nat.le_of_ble_eq_true rfl) (Nat.le_of_ble_eq_true rfl) ?_
  refine V_dup 11 dL_law_11 rfl ?_
  generalize hm : s.heap.size + sN S1 + sN S0 = mm
  refine V_callI 12 [] _ (c_X12_init l _ (nO S0 mm 12) (h := mm) rfl (by rw [← hm]; rfl) (by rw [← hm]; exact Nat.le_add_right _ _) (va_up_self _ _ _) (va_up_self _ _ _)) dL_law_12 cb_X12_init ml_RL_12 im_yX12_init rfl ⟨(Nat.le_of_ble_eq_true rfl), (Nat.le_of_ble_eq_true rfl)⟩ rfl rfl (Nat.le_of_ble_eq_true rfl) ⟨(Nat.le_of_ble_eq_true rfl), (Nat.le_of_ble_eq_true rfl)⟩ (RV.go (fun S3 h3 => ?_))
  obtain ⟨N3, D3⟩ := h3
  have I3 := MV.start N3.2.2 D3
  refine V_widen (k2 := 400) (sl2 := 400000) (Nat.le_of_ble_eq_true rfl) (Nat.le_of_ble_eq_true rfl) ?_
  refine V_astore_2 15 dL_law_15 rfl (Nat.le_of_ble_eq_true rfl) ?_
  refine V_iconst 16 (0) dL_law_16 (by decide) ?_
  refine V_istore_3 17 dL_law_17 rfl (Nat.le_of_ble_eq_true rfl) ?_
  exact law_loop ⟨hret, hX, hbl, hL⟩ (L + 1) 0 S1 S3 _ 0 (by omega) (by omega) I1 I3
-- ===== YOUR PART BEGINS =====
/-- from the entry, for every script of at most 3072 ints, the law comes to its end with true -/
theorem whole_start {p : Program} {e : Env} {s : State} {m : MethodId} {below : List Frame} {meth : Method} {c : Code} (l : Launch) (hflags : l.flags = flags0) {b L : Nat} {xs : Nat → Int32} (hL : L ≤ 3072) (C0 : lw_At p s m meth c b L xs) : W p l e room_1 s m #[Value.ref b] below meth c s.heap [] 0 0 (lw_Z below #[Value.ref b] s) (entryFrame m ([Value.ref b] : List Value).toArray 4) := by
  obtain ⟨hx, hb, hr, hml, hown, hts, hX, hbl, hlocks, hgv⟩ := C0
  obtain ⟨cy, G, kS, vS, hK⟩ := start_known hgv hts
  obtain ⟨hKK, hKS⟩ := hK [] s.heap.size s.heap.size
  have hl := lv_entry ([.ref b]) (n := 4) (Nat.le_of_ble_eq_true rfl)
  rw [lg_entry_eq]
  generalize (lg_sl ([.ref b]) ++ List.replicate (4 - (lg_sl ([.ref b])).length) Slot.unset).toArray = ls at hl ⊢
  exact law_all (p := p) (l := l) (e := e) (m := m) (below := below) (c := c) (cy := cy) (G := G) (kS := kS) (vS := vS) hL hr hX hbl
    ⟨⟨hx, hb, hml, hown, fun w hw => hts w (lwG_in w hw)⟩, hlocks, hKK, hKS, Nat.le_refl _, rfl, rfl, rfl⟩ s.heap [] ls
    ⟨fun k q h => by simp [WDL, PL, S0, sN, va_pl] at h, ⟨fun i j p q h => by simp [WDL, PL, S0, sN, va_pl] at h, fun k q h => by simp [WDL, PL, S0, sN, va_pl] at h⟩, rfl⟩ va_S.rf (show lv_has ls 4 (lvL 0 [some (.ref b), none, none, none]) from hl)
-- ===== YOUR PART ENDS =====
set_option maxHeartbeats 4000000 in
theorem lw_walk (l : Launch) (hflags : l.flags = flags0) (b : Addr) (xs : List Int32) : MetFree l x (headSpec (Jvm.Cond.code x code maxLocals ret :: tables_1) room_1) (lw_P b xs) (fun _ _ _ _ _ => True) lw_Q := by
  refine MetFree.of_bodyS (code := code) (maxLocals := maxLocals) (ret := ret) (by decide) ?_ ?_
  · intro args s m h hn
    obtain ⟨meth, c, h1, h2, h3, h4, h5, h6, -, -⟩ := Cond.code_spec hn (atoms_spec (ws := Jvm.Cond.code x code maxLocals ret :: tables_1) h _ List.mem_cons_self)
    exact ⟨meth, c, h1, h2, h3, h4, h5, h6⟩
  · intro p e s m args below meth c s₁ B hml0 hP _
    obtain ⟨rfl, hx, hbd, hgv⟩ := hP
    obtain ⟨scr, harrAt, hlist, hof, hsmall⟩ := hx
    obtain ⟨hcb, hkn, -, -⟩ := State.arrayAt?_spec harrAt
    have hown : s.vm.findClass R_law = some m.cls := findClass_of_methodNamed B.named
    have hts0 : ∀ c ∈ (Jvm.Cond.code x code maxLocals ret :: tables_1), c.before #[Value.ref b] s = true := atoms_spec (ws := Jvm.Cond.code x code maxLocals ret :: tables_1) B.pre
    have hts : ∀ w ∈ lw_tbl, w.before #[Value.ref b] s = true := k2_hts_sels lw_privs (fun w hw => hts0 w (List.mem_cons_of_mem _ hw)) lw_privs_ok
    have hml : c.maxLocals = 4 := B.maxLocals_eq (hts0 _ List.mem_cons_self)
    have X₀ : Stand p l e room_1 s m #[Value.ref b] below meth c s₁ [] 0 0 := Stand.of_body B
    have hh0 : s₁.heap = s.heap := by rw [B.state]; rfl
    have hsz : scr.slots.size = xs.length := by rw [← Array.length_toList, hlist, List.length_map]
    have hval : ∀ j : Nat, j < xs.length → scr.slots[j]? = some (.int (xs.getD j 0)) := fun j hj => by
      rw [← Array.getElem?_toList, hlist]
      simp [hj]
    have hbl : b < s.heap.size := (Array.getElem?_eq_some_iff.mp hcb).1
    have hX : va_X b xs.length (fun j => xs.getD j 0) s s.heap := ⟨scr, hcb, hof, hkn, hsz, hval⟩
    have K : W p l e room_1 s m #[Value.ref b] below meth c s₁.heap [] 0 0 (lw_Z below #[Value.ref b] s) (entryFrame m ([Value.ref b] : List Value).toArray 4) := by
      rw [hh0]
      exact whole_start l hflags hbd ⟨B.exec, B.bytes, B.returns, hml, hown, hts, hX, hbl, B.notSynchronized, hgv⟩
    obtain ⟨t, a1, o, b1, b2, b3⟩ := K s₁ rfl X₀
    exact ⟨t, o, a1, b1, b2, b3⟩
theorem lw_pre_spec {args : Array Value} {s : State} (h : (Jvm.Cond.and given_1 narrow_1).before args s = true) (hr : rest_1_c.before args s = true) : ∃ (b : Addr) (xs : List Int32), lw_P b xs args s := by
  have hs := flat_of_before _ h
  have hq := flat_of_before _ hr
  have hc : (Cond.count 1).before args s = true := hs _ (by decide +kernel)
  have harr : (Cond.arrayOf (.arg 0) .int).before args s = true := hs _ (by decide +kernel)
  have hle : (Cond.le (.length (.arg 0)) (.int 3072)).before args s = true := hs _ (by decide +kernel)
  have hlen : (Cond.isInt (.length (.arg 0))).before args s = true := hq _ (by decide +kernel)
  have hall : (Cond.all (.arg 0) (.isInt (.elem (.arg 0) (.index 0)))).before args s = true := hq _ (by decide +kernel)
  obtain ⟨b, xs, hb, hx⟩ := State.ints_of_pre rfl harr hlen hall
  have hsm : xs.length < 2 ^ 31 := hx.choose_spec.2.2.2
  have hev : (Term.length (.arg 0)).eval args s none [] s = some (.int xs.length.toInt32) := hx.length_eval hb
  have hv := Cond.le_ints hev (show (Term.int 3072).eval args s none [] s = some (.int 3072) from rfl)
  have hd : xs.length.toInt32 ≤ 3072 := by
    simpa [Cond.before, Cond.holds, hv] using hle
  have hN : xs.length ≤ 3072 := (Int32.ofNat_le_ofNat hsm (by decide)).mp (show Int32.ofNat xs.length ≤ Int32.ofNat 3072 from hd)
  exact ⟨b, xs, Cond.one_arg hc (show args[0]? = some (.ref b) from hb), hx, hN, h⟩
theorem lw_comes (l : Launch) (hflags : l.flags = flags0) : Comes l x (Jvm.Cond.code x code maxLocals ret :: tables_1) room_1 (fun tb e args s => Calls_1 tb e args s ∧ rest_1 tb e args s ∧ Pre_1 tb e args s)
    (fun _ _ args s o t => lw_Q args s o t) := by
  intro p e ha hc hk s m args below hf hfit hheap happ hpre
  obtain ⟨b, xs, hP⟩ := lw_pre_spec hpre.2.2 hpre.2.1
  obtain ⟨k, o, h1, h2, h3, hQ⟩ := lw_walk l hflags b xs p e ha hc hk s m args below hf ((Spec.applies_iff_loose hf).mp happ).1 hP trivial
  exact ⟨k, o, h1, h2, h3, hQ⟩
theorem lw_frame {s t : State} {o : Outcome} {args : Array Value} (h : Framed s o t [] 600000 7302250) :
    Framed s o t (fieldLocs frame_1_writes args s ++ arrayLocs frame_1_arrays args s ++ staticLocs frame_1_statics s) 600000 7302250 := h
theorem lw_limb (L : Cond) (hL : ∀ (args : Array Value) (s t : State), L.after args s (.returned (some (.int 1))) t = true) :
    ArmFor flags0 classFile x code maxLocals ret World_1 tables_1 room_1 Calls_1 rest_1 Pre_1
      (fun tb e a s o t => postC L tb e a s o t ∧ Framed s o t (fieldLocs frame_1_writes a s ++ arrayLocs frame_1_arrays a s ++ staticLocs frame_1_statics s) 600000 7302250) := by
  intro l hflags _ _ p e ha hc hk s m args below hf hfit hheap happ hpre
  obtain ⟨k, o, h1, h2, h3, rfl, hF⟩ := lw_comes l hflags p e ha hc hk s m args below hf hfit hheap happ hpre
  exact ⟨k, _, h1, h2, h3, hL args s _, lw_frame hF⟩
theorem i_vc : Claimed_1_1 ∧ Claimed_1_2 := ⟨lw_limb limb_1_1 (fun args s t => by simp [limb_1_1, Cond.after, Cond.holds, Cond.value]), lw_limb limb_1_2 (fun args s t => Cond.after_iff.mpr (by
  first | (rw [show limb_1_2 = Cond.eq .result (.int 1) from rfl, Cond.eq_ints (x := 1) (y := 1) rfl rfl]; simp; done) | (simp [limb_1_2, Cond.value, Term.eval]; done)))⟩

