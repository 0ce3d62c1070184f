def FText (t : Nat) (S : PS) : Prop := (sI S t 0 = 0 ∧ sI S t 1 = 0 ∧ sI S t 8 = 0 ∧ sI S t 9 = 18 ∧ sI S t 10 = 1 ∧ sI S t 11 = 0 ∧ sI S t 13 = 0) ∧ (∀ j, j < 8 → sA S (t + 1) j = 0) ∧ (∀ j, j < 8 → sA S (t + 2) j = nI j)
theorem FText.eq {t : Nat} {S S2 : PS} (h : FText t S) (e0 : eqA S S2 t) (e1 : eqA S S2 (t + 1)) (e2 : eqA S S2 (t + 2)) : FText t S2 := by
  unfold FText
  rw [e0.2.2.1, e1.2.2.2.2.2.1, e2.2.2.2.2.2.1]
  exact h
theorem NEWO.clr {lo : Nat} {S : PS} {h : Nat} {S1 S2 : PS} (hN : NEWO lyText lo S h S1) (hc : CLR h S1 S2) : NEWO lyText lo S h S2 := by
  refine ⟨by rw [hc.1.1]; exact hN.1, fun a ha => (hN.2.1 a ha).tr ⟨by rw [hc.1.2.1], by rw [hc.1.2.2.1], hc.2.1 a (by omega) (by omega), by rw [hc.1.2.2.2.1], by rw [hc.1.2.2.2.2], hc.2.2.1 a (by simp; omega), by rw [hc.2.2.2.1]⟩, hN.2.2.ss hc.1⟩
set_option maxRecDepth 100000 in
set_option maxHeartbeats 8000000 in
theorem c_X5_forgetCounts (l : Launch) (Γ : GC) (S : PS) {t : Nat} (F : isL lyOrders Γ.2.2.2.2.1 S t) : CT l Γ yX5_forgetCounts cX5_forgetCounts 2 none (0) (0) (0) [.ref t] S (RV (fun S' => ∃ g, S' = setJ S (t + 9) g ∧ ∀ j, j < 19 → g j = -1)) := by
  refine CT.of RX5 "forgetCounts" [some (.ref t), none] (by decide +kernel) rfl rfl (Nat.le_of_ble_eq_true rfl) rfl (fun M hM => ?_)
  subst hM
  refine V_iconst 0 (0) dX5_forgetCounts_0 (by decide) ?_
  refine V_istore_1 1 dX5_forgetCounts_1 rfl (Nat.le_of_ble_eq_true rfl) ?_
  refine V.to (setJ_id S (t + 9)).symm ?_
  refine V_while (α := Nat × (Nat → Int64)) (fun x => 19 - x.1) (fun x => x.1 ≤ 19 ∧ ∀ j, j < x.1 → x.2 j = -1) (fun x => setJ S (t + 9) x.2) (fun x => [some (.ref t), some (.int (nI x.1))]) (0, _) ⟨Nat.zero_le _, fun j hj => absurd hj (Nat.not_lt_zero _)⟩ (fun x hx ih => ?_)
  obtain ⟨i, g⟩ := x
  obtain ⟨hi, hg⟩ := hx
  dsimp only at hi hg ih ⊢
  refine V_iload_1 2 dX5_forgetCounts_2 ?_
  refine V_aload_0 3 dX5_forgetCounts_3 ?_
  refine V_getR 4 (c := 5) 6 (F.r 0 6 9 rfl) dX5_forgetCounts_4 fl_RX5_32 (F.m 0 (Nat.le_of_ble_eq_true rfl)) (F.k 0 5 rfl) (Nat.le_of_ble_eq_true rfl) (Nat.le_of_ble_eq_true rfl) rfl ?_
  refine V_alen2 7 dX5_forgetCounts_7 (F.m 9 (Nat.le_of_ble_eq_true rfl)) (F.k 9 15 rfl) (Nat.le_of_ble_eq_true rfl) (Nat.le_of_ble_eq_true rfl) (F.l 9 19 rfl) ?_
  refine V_icmp_ge 8 26 dX5_forgetCounts_8 (by decide) (fun c => ?_) (fun c => ?_)
  ·
    have hi2 := nI_ge8 (by decide) hi c
    subst hi2
    refine V_vret 26 dX5_forgetCounts_26 rfl (Nat.le_of_ble_eq_true rfl) (Nat.le_of_ble_eq_true rfl) (RV.mk ⟨g, rfl, hg⟩)
  ·
    have hi2 := nI_lt8 (by decide) hi c
    refine V_aload_0 11 dX5_forgetCounts_11 ?_
    refine V_getR 12 (c := 5) 6 (F.r 0 6 9 rfl) dX5_forgetCounts_12 fl_RX5_32 (F.m 0 (Nat.le_of_ble_eq_true rfl)) (F.k 0 5 rfl) (Nat.le_of_ble_eq_true rfl) (Nat.le_of_ble_eq_true rfl) rfl ?_
    refine V_iload_1 15 dX5_forgetCounts_15 ?_
    refine V_ldc2_w 16 dX5_forgetCounts_16 kL_RX5_61 ?_
    refine V_lastore2 19 dX5_forgetCounts_19 (F.m 9 (Nat.le_of_ble_eq_true rfl)) (F.k 9 15 rfl) (F.l 9 19 rfl) ?_ ?_
    · exact vp_in_nI hi2 (by decide)
    refine V.to (uJ_setJ _ _ _ _ _) ?_
    rw [nI_clamp (by omega)]
    refine V_iinc_1 20 (1) dX5_forgetCounts_20 (by decide) rfl (Nat.le_of_ble_eq_true rfl) ?_
    refine V_goto 23 2 dX5_forgetCounts_23 (by decide) ?_
    rw [← nI_succ]
    refine ih (i + 1, fun j => if j = i then -1 else g j) ⟨by dsimp only; omega, fun j hj => ?_⟩ (by dsimp only; omega)
    show (if j = i then (-1 : Int64) else g j) = -1
    have hj : j < i + 1 := hj
    by_cases q : j = i
    · rw [if_pos q]
    · rw [if_neg q]; exact hg j (by omega)
/-- what a new table holds, of the data -/
def DD (h : Nat) (S : PS) : Prop := sI S h 4 = (-1) ∧ (∀ i, i ≠ 4 → sI S h i = 0) ∧ sI S (h + 3) = (fun _ => 0) ∧ FText (h + 27) S ∧ (sA S (h + 42) = (fun _ => 0) ∧ sA S (h + 43) = (fun _ => 0) ∧ sA S (h + 44) = (fun _ => 0) ∧ sI S (h + 41) = (fun _ => 0)) ∧ sA S (h + 51) = (fun _ => 0) ∧ (sA S (h + 53) = (fun _ => 0) ∧ sA S (h + 54) = (fun _ => 0) ∧ sA S (h + 55) = (fun _ => 0)) ∧ (sA S (h + 71) = (fun _ => 0) ∧ sI S (h + 68) 6 = (-1) ∧ ∀ i, i ≠ 6 → sI S (h + 68) i = 0) ∧ sI S (h + 76) = (fun _ => 0)
theorem DD.eq {h : Nat} {S S2 : PS} (d : DD h S) (e : ∀ a, h ≤ a → a < h + 81 → a ≠ h + 49 → a ≠ h + 50 → eqA S S2 a) : DD h S2 := by
  have f : ∀ r, r < 81 → r ≠ 49 → r ≠ 50 → eqA S S2 (h + r) := fun r h1 h2 h3 => e (h + r) (by omega) (by omega) (by omega) (by omega)
  obtain ⟨d1, d2, d3, d4, ⟨d5, d6, d7, d8⟩, d9, ⟨d10, d11, d12⟩, ⟨d13, d14, d15⟩, d16⟩ := d
  have e0 := e h (by omega) (by omega) (by omega) (by omega)
  refine ⟨by rw [e0.2.2.1]; exact d1, fun i hi => by rw [e0.2.2.1]; exact d2 i hi, ?_, d4.eq (f 27 (by decide) (by decide) (by decide)) (f 28 (by decide) (by decide) (by decide)) (f 29 (by decide) (by decide) (by decide)), ⟨?_, ?_, ?_, ?_⟩, ?_, ⟨?_, ?_, ?_⟩, ⟨?_, ?_, fun i hi => ?_⟩, ?_⟩
  · rw [(f 3 (by decide) (by decide) (by decide)).2.2.1]; exact d3
  · rw [(f 42 (by decide) (by decide) (by decide)).2.2.2.2.2.1]; exact d5
  · rw [(f 43 (by decide) (by decide) (by decide)).2.2.2.2.2.1]; exact d6
  · rw [(f 44 (by decide) (by decide) (by decide)).2.2.2.2.2.1]; exact d7
  · rw [(f 41 (by decide) (by decide) (by decide)).2.2.1]; exact d8
  · rw [(f 51 (by decide) (by decide) (by decide)).2.2.2.2.2.1]; exact d9
  · rw [(f 53 (by decide) (by decide) (by decide)).2.2.2.2.2.1]; exact d10
  · rw [(f 54 (by decide) (by decide) (by decide)).2.2.2.2.2.1]; exact d11
  · rw [(f 55 (by decide) (by decide) (by decide)).2.2.2.2.2.1]; exact d12
  · rw [(f 71 (by decide) (by decide) (by decide)).2.2.2.2.2.1]; exact d13
  · rw [(f 68 (by decide) (by decide) (by decide)).2.2.1]; exact d14
  · rw [(f 68 (by decide) (by decide) (by decide)).2.2.1]; exact d15 i hi
  · rw [(f 76 (by decide) (by decide) (by decide)).2.2.1]; exact d16
def FRESH (h : Nat) (S : PS) : Prop := DD h S ∧ (∀ i, i < 40 → sP S (h + 49) i = some (h + (81 + 4 * i))) ∧ (∀ i, i < 3 → sP S (h + 50) i = some (h + (81 + 4 * (40 + i))))
theorem lySock_st : ∀ i, i < 43 → (lySockTable.drop (81 + 4 * i)).take lyState.length = lyUp (81 + 4 * i) lyState := by decide +kernel
theorem eqA_uP {S : PS} {h j a : Nat} {t : Option Nat} (ha : a ≠ h) : eqA S (uP S h j t) a := ⟨rfl, rfl, rfl, rfl, up2_an _ _ ha, rfl, rfl⟩
/-- one more object behind the fields -/
theorem bld_more {ly : LAY} {m : Nat} {dn : List Nat} {lo : Nat} {S0 : PS} {h : Nat} {S S1 : PS} (B : BLD ly m dn lo S0 h S) (ly2 : LAY) (c : Nat) (hsub : (ly.drop m).take ly2.length = lyUp m ly2) (hN : NEWO ly2 lo (nO S (lo + sN S) c) (lo + sN S) S1) : BLD ly (m + ly2.length) dn lo S0 h S1 ∧ ∀ a, a < h + m → eqA S S1 a := by
  have hq : lo + sN S = h + m := B.1.2.2.1
  have hm : 1 ≤ m := B.1.2.2.2.1
  have e0 : ∀ a, a < h + m → eqA S S1 a := fun a ha => new_e hN (by omega)
  have hb := new_n hN hq
  rw [hq] at hN
  obtain ⟨n1, n2, n3⟩ := hN
  have hkh : sK S1 h = sK S h := (e0 h (by omega)).1
  refine ⟨⟨⟨B.1.1, B.1.2.1, hb, by omega, by rw [hkh]; exact B.1.2.2.2.2.1, by rw [hkh]; exact B.1.2.2.2.2.2⟩, fun a ha => (B.2.1 a ha).tr (e0 a (by omega)), fun r e q1 q2 hr => ?_, fun i x hi hx => by rw [(e0 h (by omega)).2.1]; exact B.2.2.2 i x hi hx⟩, e0⟩
  by_cases hrm : r < m
  · exact (B.2.2.1 r e q1 hrm hr).eq (e0 (h + r) (by omega))
  · obtain ⟨i, rfl⟩ : ∃ i, r = m + i := ⟨r - m, by omega⟩
    have hi : i < ly2.length := by omega
    have h4 : ((ly.drop m).take ly2.length)[i]? = ly[m + i]? := by rw [List.getElem?_take, if_pos hi, List.getElem?_drop]
    rw [← h4, hsub] at hr
    unfold lyUp at hr
    rw [List.getElem?_map] at hr
    cases hy : ly2[i]? with
    | none => rw [hy] at hr; cases hr
    | some y =>
      rw [hy] at hr
      cases hr
      obtain ⟨g1, g2, g3⟩ := n3.2.2 i y hy
      rw [Nat.add_assoc] at g1 g2 g3
      refine ⟨g1, fun i2 x hx => ?_, g3⟩
      dsimp only at hx
      rw [List.getElem?_map] at hx
      cases hz : y.2.1[i2]? with
      | none => rw [hz] at hx; cases hx
      | some z =>
        rw [hz] at hx
        cases z with
        | none => cases hx
        | some z =>
          cases hx
          rw [g2 i2 z hz]
          show some (h + m + z) = some (h + (z + m))
          rw [Nat.add_assoc, Nat.add_comm m z]
theorem BLD.uP {ly : LAY} {m : Nat} {dn : List Nat} {lo : Nat} {S0 : PS} {h : Nat} {S : PS} {a i : Nat} {t : Option Nat} (B : BLD ly m dn lo S0 h S) (ha : h < a) : BLD ly m dn lo S0 h (uP S a i t) := ⟨B.1, fun b hb => (B.2.1 b hb).tr (eqA_uP (by omega)), B.2.2.1, B.2.2.2⟩
/-- the loops that make the States: the first i stand -/
def LPs (h : Nat) (dn : List Nat) (lo : Nat) (S0 : PS) (i : Nat) (S : PS) : Prop := BLD lySockTable (81 + 4 * i) dn lo S0 h S ∧ DD h S ∧ (∀ k, k < i → k < 40 → sP S (h + 49) k = some (h + (81 + 4 * k))) ∧ (∀ k, k < i → 40 ≤ k → sP S (h + 50) (k - 40) = some (h + (81 + 4 * k)))
theorem LPs.step {h : Nat} {dn : List Nat} {lo : Nat} {S0 : PS} {i : Nat} {S Y : PS} (L : LPs h dn lo S0 i S) (hi : i < 43) (hN : NEWO lyState lo (nO S (lo + sN S) 7) (lo + sN S) Y) : LPs h dn lo S0 (i + 1) (if i < 40 then uP Y (h + 49) i (some (lo + sN S)) else uP Y (h + 50) (i - 40) (some (lo + sN S))) := by
  obtain ⟨B, D, P1, P2⟩ := L
  obtain ⟨B2, e0⟩ := bld_more B lyState 7 (lySock_st i hi) hN
  have hq : lo + sN S = h + (81 + 4 * i) := B.1.2.2.1
  have B3 : BLD lySockTable (81 + 4 * (i + 1)) dn lo S0 h Y := B2
  rw [hq]
  by_cases h40 : i < 40
  · rw [if_pos h40]
    refine ⟨B3.uP (by omega), D.eq (fun a h1 h2 h3 h4 => (e0 a (by omega)).tr (eqA_uP h3)), fun k hk hk2 => ?_, fun k hk hk2 => by omega⟩
    show up2 (sP Y) (h + 49) i _ (h + 49) k = _
    by_cases q : k = i
    · subst q; exact up2_s _ _ _ _
    · rw [up2_k _ _ q, (e0 (h + 49) (by omega)).2.2.2.2.1]; exact P1 k (by omega) hk2
  · rw [if_neg h40]
    refine ⟨B3.uP (by omega), D.eq (fun a h1 h2 h3 h4 => (e0 a (by omega)).tr (eqA_uP h4)), fun k hk hk2 => ?_, fun k hk hk2 => ?_⟩
    · show up2 (sP Y) (h + 50) (i - 40) _ (h + 49) k = _
      rw [up2_a _ _ (by omega), (e0 (h + 49) (by omega)).2.2.2.2.1]; exact P1 k (by omega) hk2
    · show up2 (sP Y) (h + 50) (i - 40) _ (h + 50) (k - 40) = _
      by_cases q : k = i
      · subst q; exact up2_s _ _ _ _
      · rw [up2_k _ _ (by omega), (e0 (h + 50) (by omega)).2.2.2.2.1]; exact P2 k (by omega) hk2
theorem V.widen {M : MC} {Γ : GC} {μ : MI} {cc : ByteArray} {Q : State → Prop} {k sl pc : Nat} {S : PS} {lv : List (Option Value)} {st : List Value} (k2 sl2 : Nat) (h1 : k ≤ k2) (h2 : sl ≤ sl2) (h : V M Γ μ cc Q k2 sl2 S pc lv st) : V M Γ μ cc Q k sl S pc lv st := fun C H locs ls hr hs hl => W.widen h1 h2 (h C H locs ls hr hs hl)
theorem V_whileK {α : Type} {M : MC} {Γ : GC} {μ : MI} {cc : ByteArray} {Q : State → Prop} {pc : Nat} {st : List Value} (m : α → Nat) (I : α → Prop) (kx sx : α → Nat) (Sx : α → PS) (lvx : α → List (Option Value)) (x0 : α) (h0 : I x0)
    (step : ∀ x, I x → (∀ y, I y → m y < m x → V M Γ μ cc Q (kx y) (sx y) (Sx y) pc (lvx y) st) → V M Γ μ cc Q (kx x) (sx x) (Sx x) pc (lvx x) st) : V M Γ μ cc Q (kx x0) (sx x0) (Sx x0) pc (lvx x0) st := by
  have key : ∀ (n : Nat) (x : α), m x < n → I x → V M Γ μ cc Q (kx x) (sx x) (Sx x) pc (lvx x) st := by
    intro n
    induction n with
    | zero => intro x h; exact absurd h (Nat.not_lt_zero _)
    | succ n ih => intro x h hx; exact step x hx (fun y hy hm => ih y (by omega) hy)
  exact key (m x0 + 1) x0 (Nat.lt_succ_self _) h0
set_option maxRecDepth 100000 in
set_option maxHeartbeats 8000000 in
theorem c_X10_init (l : Launch) (Γ : GC) (S : PS) {h : Nat} (hw : Γ.2.2.2.2.2.1 = Γ.2.2.2.2.1) (hh : Γ.2.2.2.2.1 + sN S = h + 1) (hlo : Γ.2.2.2.2.1 ≤ h) (hk : sK S h = 10) (h0 : sI S h = fun _ => 0) : CT l Γ yX10_init cX10_init 1 none (2) (13) (970) [.ref h] S (RV (fun S' => NEWO lyText Γ.2.2.2.2.1 S h S' ∧ FText h S')) := by
  refine CT.of RX10 "<init>" [some (.ref h)] (by decide +kernel) rfl rfl (Nat.le_of_ble_eq_true rfl) rfl (fun M hM => ?_)
  subst hM
  have B0 : BLD lyText 1 [] Γ.2.2.2.2.1 S h S := BLD.one hh hlo (by rw [hk]; rfl) (by rw [hk]; decide)
  have hb := hh
  have hI : sI S h = fun _ => 0 := h0
  refine V_aload_0 0 dX10_init_0 ?_
  refine V_objInit 1 dX10_init_1 ml_RX10_3 ⟨(Nat.le_of_ble_eq_true rfl), (Nat.le_of_ble_eq_true rfl)⟩ ?_
  refine V_aload_0 4 dX10_init_4 ?_
  refine V_bipush 5 (8) dX10_init_5 (by decide) ?_
  refine V_newarray 7 14 8 (Or.inr (Or.inl ⟨rfl, rfl⟩)) dX10_init_7 ac_int (by decide) (by decide) (Nat.le_of_ble_eq_true rfl) hw (Nat.le_of_ble_eq_true rfl) (Nat.le_of_ble_eq_true rfl) ?_
  refine V_putF 9 (c := 10) 2 dX10_init_9 fl_RX10_9 (by simp only [PL_mem, sN_uI, sN_uR, sN_uA, sN_uJ, sN_uP, sN_nO, sN_nA]; omega) (by simp (disch := omega) only [sN_uI, sN_uR, sN_uA, sN_uJ, sN_uP, sN_nO, sN_nA, sK_uI, sK_uR, sK_uA, sK_uJ, sK_uP, sK_nO, sK_nA, va_up_ne, hk]) (Nat.le_of_ble_eq_true rfl) (Nat.le_of_ble_eq_true rfl) rfl rfl rfl rfl rfl rfl ?_
  refine V_abs (fun T9 => BLD lyText 2 [2] Γ.2.2.2.2.1 S h T9 ∧ FR h (h + 1) S T9 ∧ sA T9 (h + 1) = (fun _ => 0) ∧ sP T9 (h + 1) = (fun _ => none)) (bld_arr B0 2 14 8 rfl rfl) (fun S1 hx => ?_)
  obtain ⟨B1, E, Z, P⟩ := hx
  have hk := (show sK S1 h = 10 from by have q := B1.1.2.2.2.2.1; exact (Option.some.inj q).symm)
  have hb := B1.1.2.2.1
  have hIe := E.2
  have hI : sI S1 h = fun _ => 0 := hIe.trans hI
  refine V_aload_0 12 dX10_init_12 ?_
  refine V_bipush 13 (8) dX10_init_13 (by decide) ?_
  refine V_newarray 15 14 8 (Or.inr (Or.inl ⟨rfl, rfl⟩)) dX10_init_15 ac_int (by decide) (by decide) (Nat.le_of_ble_eq_true rfl) hw (Nat.le_of_ble_eq_true rfl) (Nat.le_of_ble_eq_true rfl) ?_
  refine V_putF 17 (c := 10) 3 dX10_init_17 fl_RX10_15 (by simp only [PL_mem, sN_uI, sN_uR, sN_uA, sN_uJ, sN_uP, sN_nO, sN_nA]; omega) (by simp (disch := omega) only [sN_uI, sN_uR, sN_uA, sN_uJ, sN_uP, sN_nO, sN_nA, sK_uI, sK_uR, sK_uA, sK_uJ, sK_uP, sK_nO, sK_nA, va_up_ne, hk]) (Nat.le_of_ble_eq_true rfl) (Nat.le_of_ble_eq_true rfl) rfl rfl rfl rfl rfl rfl ?_
  refine V_abs (fun T9 => BLD lyText 3 [3, 2] Γ.2.2.2.2.1 S h T9 ∧ FR h (h + 2) S1 T9 ∧ sA T9 (h + 2) = (fun _ => 0) ∧ sP T9 (h + 2) = (fun _ => none)) (bld_arr B1 3 14 8 rfl rfl) (fun S2 hx => ?_)
  obtain ⟨B2, E, Z, P⟩ := hx
  have hk := (show sK S2 h = 10 from by have q := B2.1.2.2.2.2.1; exact (Option.some.inj q).symm)
  have hb := B2.1.2.2.1
  have hIe := E.2
  have hI : sI S2 h = fun _ => 0 := hIe.trans hI
  refine V_aload_0 20 dX10_init_20 ?_
  refine V_bipush 21 (8) dX10_init_21 (by decide) ?_
  refine V_newarray 23 14 8 (Or.inr (Or.inl ⟨rfl, rfl⟩)) dX10_init_23 ac_int (by decide) (by decide) (Nat.le_of_ble_eq_true rfl) hw (Nat.le_of_ble_eq_true rfl) (Nat.le_of_ble_eq_true rfl) ?_
  refine V_putF 25 (c := 10) 4 dX10_init_25 fl_RX10_18 (by simp only [PL_mem, sN_uI, sN_uR, sN_uA, sN_uJ, sN_uP, sN_nO, sN_nA]; omega) (by simp (disch := omega) only [sN_uI, sN_uR, sN_uA, sN_uJ, sN_uP, sN_nO, sN_nA, sK_uI, sK_uR, sK_uA, sK_uJ, sK_uP, sK_nO, sK_nA, va_up_ne, hk]) (Nat.le_of_ble_eq_true rfl) (Nat.le_of_ble_eq_true rfl) rfl rfl rfl rfl rfl rfl ?_
  refine V_abs (fun T9 => BLD lyText 4 [4, 3, 2] Γ.2.2.2.2.1 S h T9 ∧ FR h (h + 3) S2 T9 ∧ sA T9 (h + 3) = (fun _ => 0) ∧ sP T9 (h + 3) = (fun _ => none)) (bld_arr B2 4 14 8 rfl rfl) (fun S3 hx => ?_)
  obtain ⟨B3, E, Z, P⟩ := hx
  have hk := (show sK S3 h = 10 from by have q := B3.1.2.2.2.2.1; exact (Option.some.inj q).symm)
  have hb := B3.1.2.2.1
  have hIe := E.2
  have hI : sI S3 h = fun _ => 0 := hIe.trans hI
  refine V_aload_0 28 dX10_init_28 ?_
  refine V_bipush 29 (8) dX10_init_29 (by decide) ?_
  refine V_newarray 31 15 8 (Or.inr (Or.inr (Or.inl ⟨rfl, rfl⟩))) dX10_init_31 ac_long (by decide) (by decide) (Nat.le_of_ble_eq_true rfl) hw (Nat.le_of_ble_eq_true rfl) (Nat.le_of_ble_eq_true rfl) ?_
  refine V_putF 33 (c := 10) 5 dX10_init_33 fl_RX10_21 (by simp only [PL_mem, sN_uI, sN_uR, sN_uA, sN_uJ, sN_uP, sN_nO, sN_nA]; omega) (by simp (disch := omega) only [sN_uI, sN_uR, sN_uA, sN_uJ, sN_uP, sN_nO, sN_nA, sK_uI, sK_uR, sK_uA, sK_uJ, sK_uP, sK_nO, sK_nA, va_up_ne, hk]) (Nat.le_of_ble_eq_true rfl) (Nat.le_of_ble_eq_true rfl) rfl rfl rfl rfl rfl rfl ?_
  refine V_abs (fun T9 => BLD lyText 5 [5, 4, 3, 2] Γ.2.2.2.2.1 S h T9 ∧ FR h (h + 4) S3 T9 ∧ sA T9 (h + 4) = (fun _ => 0) ∧ sP T9 (h + 4) = (fun _ => none)) (bld_arr B3 5 15 8 rfl rfl) (fun S4 hx => ?_)
  obtain ⟨B4, E, Z, P⟩ := hx
  have hk := (show sK S4 h = 10 from by have q := B4.1.2.2.2.2.1; exact (Option.some.inj q).symm)
  have hb := B4.1.2.2.1
  have hIe := E.2
  have hI : sI S4 h = fun _ => 0 := hIe.trans hI
  refine V_aload_0 36 dX10_init_36 ?_
  refine V_bipush 37 (8) dX10_init_37 (by decide) ?_
  refine V_newarray 39 14 8 (Or.inr (Or.inl ⟨rfl, rfl⟩)) dX10_init_39 ac_int (by decide) (by decide) (Nat.le_of_ble_eq_true rfl) hw (Nat.le_of_ble_eq_true rfl) (Nat.le_of_ble_eq_true rfl) ?_
  refine V_putF 41 (c := 10) 6 dX10_init_41 fl_RX10_25 (by simp only [PL_mem, sN_uI, sN_uR, sN_uA, sN_uJ, sN_uP, sN_nO, sN_nA]; omega) (by simp (disch := omega) only [sN_uI, sN_uR, sN_uA, sN_uJ, sN_uP, sN_nO, sN_nA, sK_uI, sK_uR, sK_uA, sK_uJ, sK_uP, sK_nO, sK_nA, va_up_ne, hk]) (Nat.le_of_ble_eq_true rfl) (Nat.le_of_ble_eq_true rfl) rfl rfl rfl rfl rfl rfl ?_
  refine V_abs (fun T9 => BLD lyText 6 [6, 5, 4, 3, 2] Γ.2.2.2.2.1 S h T9 ∧ FR h (h + 5) S4 T9 ∧ sA T9 (h + 5) = (fun _ => 0) ∧ sP T9 (h + 5) = (fun _ => none)) (bld_arr B4 6 14 8 rfl rfl) (fun S5 hx => ?_)
  obtain ⟨B5, E, Z, P⟩ := hx
  have hk := (show sK S5 h = 10 from by have q := B5.1.2.2.2.2.1; exact (Option.some.inj q).symm)
  have hb := B5.1.2.2.1
  have hIe := E.2
  have hI : sI S5 h = fun _ => 0 := hIe.trans hI
  refine V_aload_0 44 dX10_init_44 ?_
  refine V_bipush 45 (64) dX10_init_45 (by decide) ?_
  refine V_newarray 47 14 64 (Or.inr (Or.inl ⟨rfl, rfl⟩)) dX10_init_47 ac_int (by decide) (by decide) (Nat.le_of_ble_eq_true rfl) hw (Nat.le_of_ble_eq_true rfl) (Nat.le_of_ble_eq_true rfl) ?_
  refine V_putF 49 (c := 10) 7 dX10_init_49 fl_RX10_28 (by simp only [PL_mem, sN_uI, sN_uR, sN_uA, sN_uJ, sN_uP, sN_nO, sN_nA]; omega) (by simp (disch := omega) only [sN_uI, sN_uR, sN_uA, sN_uJ, sN_uP, sN_nO, sN_nA, sK_uI, sK_uR, sK_uA, sK_uJ, sK_uP, sK_nO, sK_nA, va_up_ne, hk]) (Nat.le_of_ble_eq_true rfl) (Nat.le_of_ble_eq_true rfl) rfl rfl rfl rfl rfl rfl ?_
  refine V_abs (fun T9 => BLD lyText 7 [7, 6, 5, 4, 3, 2] Γ.2.2.2.2.1 S h T9 ∧ FR h (h + 6) S5 T9 ∧ sA T9 (h + 6) = (fun _ => 0) ∧ sP T9 (h + 6) = (fun _ => none)) (bld_arr B5 7 14 64 rfl rfl) (fun S6 hx => ?_)
  obtain ⟨B6, E, Z, P⟩ := hx
  have hk := (show sK S6 h = 10 from by have q := B6.1.2.2.2.2.1; exact (Option.some.inj q).symm)
  have hb := B6.1.2.2.1
  have hIe := E.2
  have hI : sI S6 h = fun _ => 0 := hIe.trans hI
  refine V_aload_0 52 dX10_init_52 ?_
  refine V_bipush 53 (18) dX10_init_53 (by decide) ?_
  refine V_newarray 55 14 18 (Or.inr (Or.inl ⟨rfl, rfl⟩)) dX10_init_55 ac_int (by decide) (by decide) (Nat.le_of_ble_eq_true rfl) hw (Nat.le_of_ble_eq_true rfl) (Nat.le_of_ble_eq_true rfl) ?_
  refine V_putF 57 (c := 10) 12 dX10_init_57 fl_RX10_31 (by simp only [PL_mem, sN_uI, sN_uR, sN_uA, sN_uJ, sN_uP, sN_nO, sN_nA]; omega) (by simp (disch := omega) only [sN_uI, sN_uR, sN_uA, sN_uJ, sN_uP, sN_nO, sN_nA, sK_uI, sK_uR, sK_uA, sK_uJ, sK_uP, sK_nO, sK_nA, va_up_ne, hk]) (Nat.le_of_ble_eq_true rfl) (Nat.le_of_ble_eq_true rfl) rfl rfl rfl rfl rfl rfl ?_
  refine V_abs (fun T9 => BLD lyText 8 [12, 7, 6, 5, 4, 3, 2] Γ.2.2.2.2.1 S h T9 ∧ FR h (h + 7) S6 T9 ∧ sA T9 (h + 7) = (fun _ => 0) ∧ sP T9 (h + 7) = (fun _ => none)) (bld_arr B6 12 14 18 rfl rfl) (fun S7 hx => ?_)
  obtain ⟨B7, E, Z, P⟩ := hx
  have hk := (show sK S7 h = 10 from by have q := B7.1.2.2.2.2.1; exact (Option.some.inj q).symm)
  have hb := B7.1.2.2.1
  have hIe := E.2
  have hI : sI S7 h = fun _ => 0 := hIe.trans hI
  refine V_aload_0 60 dX10_init_60 ?_
  refine V_bipush 61 (8) dX10_init_61 (by decide) ?_
  refine V_newarray 63 14 8 (Or.inr (Or.inl ⟨rfl, rfl⟩)) dX10_init_63 ac_int (by decide) (by decide) (Nat.le_of_ble_eq_true rfl) hw (Nat.le_of_ble_eq_true rfl) (Nat.le_of_ble_eq_true rfl) ?_
  refine V_putF 65 (c := 10) 14 dX10_init_65 fl_RX10_34 (by simp only [PL_mem, sN_uI, sN_uR, sN_uA, sN_uJ, sN_uP, sN_nO, sN_nA]; omega) (by simp (disch := omega) only [sN_uI, sN_uR, sN_uA, sN_uJ, sN_uP, sN_nO, sN_nA, sK_uI, sK_uR, sK_uA, sK_uJ, sK_uP, sK_nO, sK_nA, va_up_ne, hk]) (Nat.le_of_ble_eq_true rfl) (Nat.le_of_ble_eq_true rfl) rfl rfl rfl rfl rfl rfl ?_
  refine V_abs (fun T9 => BLD lyText 9 [14, 12, 7, 6, 5, 4, 3, 2] Γ.2.2.2.2.1 S h T9 ∧ FR h (h + 8) S7 T9 ∧ sA T9 (h + 8) = (fun _ => 0) ∧ sP T9 (h + 8) = (fun _ => none)) (bld_arr B7 14 14 8 rfl rfl) (fun S8 hx => ?_)
  obtain ⟨B8, E, Z, P⟩ := hx
  have hk := (show sK S8 h = 10 from by have q := B8.1.2.2.2.2.1; exact (Option.some.inj q).symm)
  have hb := B8.1.2.2.1
  have hIe := E.2
  have hI : sI S8 h = fun _ => 0 := hIe.trans hI
  refine V_aload_0 68 dX10_init_68 ?_
  refine V_bipush 69 (8) dX10_init_69 (by decide) ?_
  refine V_newarray 71 14 8 (Or.inr (Or.inl ⟨rfl, rfl⟩)) dX10_init_71 ac_int (by decide) (by decide) (Nat.le_of_ble_eq_true rfl) hw (Nat.le_of_ble_eq_true rfl) (Nat.le_of_ble_eq_true rfl) ?_
  refine V_putF 73 (c := 10) 15 dX10_init_73 fl_RX10_37 (by simp only [PL_mem, sN_uI, sN_uR, sN_uA, sN_uJ, sN_uP, sN_nO, sN_nA]; omega) (by simp (disch := omega) only [sN_uI, sN_uR, sN_uA, sN_uJ, sN_uP, sN_nO, sN_nA, sK_uI, sK_uR, sK_uA, sK_uJ, sK_uP, sK_nO, sK_nA, va_up_ne, hk]) (Nat.le_of_ble_eq_true rfl) (Nat.le_of_ble_eq_true rfl) rfl rfl rfl rfl rfl rfl ?_
  refine V_abs (fun T9 => BLD lyText 10 [15, 14, 12, 7, 6, 5, 4, 3, 2] Γ.2.2.2.2.1 S h T9 ∧ FR h (h + 9) S8 T9 ∧ sA T9 (h + 9) = (fun _ => 0) ∧ sP T9 (h + 9) = (fun _ => none)) (bld_arr B8 15 14 8 rfl rfl) (fun S9 hx => ?_)
  obtain ⟨B9, E, Z, P⟩ := hx
  have hk := (show sK S9 h = 10 from by have q := B9.1.2.2.2.2.1; exact (Option.some.inj q).symm)
  have hb := B9.1.2.2.1
  have hIe := E.2
  have hI : sI S9 h = fun _ => 0 := hIe.trans hI
  refine V_aload_0 76 dX10_init_76 ?_
  refine V_new 77 2 dX10_init_77 kl_RX10_40 ib_RX2 in_RX2 (Nat.le_of_ble_eq_true rfl) hw (Nat.le_of_ble_eq_true rfl) (Nat.le_of_ble_eq_true rfl) ?_
  refine V_dup 80 dX10_init_80 rfl ?_
  refine V_callIN 81 [] _ (c_X2_init M.2.1 Γ (nO S9 (Γ.2.2.2.2.1 + sN S9) 2) (h := (Γ.2.2.2.2.1 + sN S9)) hw rfl (Nat.le_add_right _ _) (va_up_self _ _ _) (va_up_self _ _ _)) dX10_init_81 cb_X2_init ne_RX10_42 im_yX2_init rfl ⟨(Nat.le_of_ble_eq_true rfl), (Nat.le_of_ble_eq_true rfl)⟩ rfl rfl (Nat.le_of_ble_eq_true rfl) ⟨(Nat.le_of_ble_eq_true rfl), (Nat.le_of_ble_eq_true rfl)⟩ (RV.go (fun Y1 hq => ?_))
  have hb1 := new_n hq.1 hb
  have hkS := hk
  have hk := ((new_e hq.1 (a := h) (by omega)).1.trans hkS)
  have hbS := hb
  have hb : Γ.2.2.2.2.1 + sN Y1 = h + 14 := hb1
  refine V_putF 84 (c := 10) 16 dX10_init_84 fl_RX10_43 (by simp only [PL_mem, sN_uI, sN_uR, sN_uA, sN_uJ, sN_uP, sN_nO, sN_nA]; omega) (by simp (disch := omega) only [sN_uI, sN_uR, sN_uA, sN_uJ, sN_uP, sN_nO, sN_nA, sK_uI, sK_uR, sK_uA, sK_uJ, sK_uP, sK_nO, sK_nA, va_up_ne, hk]) (Nat.le_of_ble_eq_true rfl) (Nat.le_of_ble_eq_true rfl) rfl rfl rfl rfl rfl rfl ?_
  refine V_abs (fun T9 => BLD lyText 14 [16, 15, 14, 12, 7, 6, 5, 4, 3, 2] Γ.2.2.2.2.1 S h T9 ∧ FR h (h + 10) S9 T9 ∧ ∀ a, a ≠ h → eqA Y1 T9 a) (bld_obj B9 lyLaw 16 2 rfl rfl hq.1) (fun S10 hx => ?_)
  obtain ⟨B10, E, E2⟩ := hx
  have hk := (show sK S10 h = 10 from by have q := B10.1.2.2.2.2.1; exact (Option.some.inj q).symm)
  have hb := B10.1.2.2.1
  have hIe := E.2
  have hI : sI S10 h = fun _ => 0 := hIe.trans hI
  have hN : NEWO lyText Γ.2.2.2.2.1 S h S10 := bld_end B10 rfl (by decide)
  have F := hN.2.2
  refine V_aload_0 87 dX10_init_87 ?_
  refine V_callV 88 (ci := 10) [] _ (c_X10_clear M.2.1 Γ _ (t := h) F) dX10_init_88 cb_X10_clear ml_RX10_47 im_yX10_clear se_yX10_clear (F.m 0 (Nat.le_of_ble_eq_true rfl)) (F.k 0 10 rfl) (Nat.le_of_ble_eq_true rfl) ⟨(Nat.le_of_ble_eq_true rfl), (Nat.le_of_ble_eq_true rfl)⟩ rfl rfl (Nat.le_of_ble_eq_true rfl) ⟨(Nat.le_of_ble_eq_true rfl), (Nat.le_of_ble_eq_true rfl)⟩ (RV.go (fun S9 hq => ?_))
  refine V_vret 91 dX10_init_91 rfl (Nat.le_of_ble_eq_true rfl) (Nat.le_of_ble_eq_true rfl) (RV.mk ⟨NEWO.clr hN hq, hq.2.2.2.2⟩)
set_option maxRecDepth 100000 in
set_option maxHeartbeats 8000000 in
theorem c_X9_init (l : Launch) (Γ : GC) (S : PS) {h : Nat} (hw : Γ.2.2.2.2.2.1 = Γ.2.2.2.2.1) (hh : Γ.2.2.2.2.1 + sN S = h + 1) (hlo : Γ.2.2.2.2.1 ≤ h) (hk : sK S h = 9) (h0 : sI S h = fun _ => 0) : CT l Γ yX9_init cX9_init 1 none (6) (25) (5062) [.ref h] S (RV (fun S' => NEWO lyTeller Γ.2.2.2.2.1 S h S' ∧ sI S' (h + 2) = (fun _ => 0))) := by
  refine CT.of RX9 "<init>" [some (.ref h)] (by decide +kernel) rfl rfl (Nat.le_of_ble_eq_true rfl) rfl (fun M hM => ?_)
  subst hM
  have B0 : BLD lyTeller 1 [] Γ.2.2.2.2.1 S h S := BLD.one hh hlo (by rw [hk]; rfl) (by rw [hk]; decide)
  have hb := hh
  have hI : sI S h = fun _ => 0 := h0
  refine V_aload_0 0 dX9_init_0 ?_
  refine V_objInit 1 dX9_init_1 ml_RX9_3 ⟨(Nat.le_of_ble_eq_true rfl), (Nat.le_of_ble_eq_true rfl)⟩ ?_
  refine V_aload_0 4 dX9_init_4 ?_
  refine V_new 5 0 dX9_init_5 kl_RX9_9 ib_RX0 in_RX0 (Nat.le_of_ble_eq_true rfl) hw (Nat.le_of_ble_eq_true rfl) (Nat.le_of_ble_eq_true rfl) ?_
  refine V_dup 8 dX9_init_8 rfl ?_
  refine V_callIN 9 [] _ (c_X0_init M.2.1 Γ (nO S (Γ.2.2.2.2.1 + sN S) 0) (h := (Γ.2.2.2.2.1 + sN S)) hw rfl (Nat.le_add_right _ _) (va_up_self _ _ _) (va_up_self _ _ _)) dX9_init_9 cb_X0_init ne_RX9_11 im_yX0_init rfl ⟨(Nat.le_of_ble_eq_true rfl), (Nat.le_of_ble_eq_true rfl)⟩ rfl rfl (Nat.le_of_ble_eq_true rfl) ⟨(Nat.le_of_ble_eq_true rfl), (Nat.le_of_ble_eq_true rfl)⟩ (RV.go (fun Y1 hq => ?_))
  have hb1 := new_n hq.1 hb
  have hkS := hk
  have hk := ((new_e hq.1 (a := h) (by omega)).1.trans hkS)
  have hbS := hb
  have hb : Γ.2.2.2.2.1 + sN Y1 = h + 12 := hb1
  refine V_putF 12 (c := 9) 0 dX9_init_12 fl_RX9_12 (by simp only [PL_mem, sN_uI, sN_uR, sN_uA, sN_uJ, sN_uP, sN_nO, sN_nA]; omega) (by simp (disch := omega) only [sN_uI, sN_uR, sN_uA, sN_uJ, sN_uP, sN_nO, sN_nA, sK_uI, sK_uR, sK_uA, sK_uJ, sK_uP, sK_nO, sK_nA, va_up_ne, hk]) (Nat.le_of_ble_eq_true rfl) (Nat.le_of_ble_eq_true rfl) rfl rfl rfl rfl rfl rfl ?_
  refine V_abs (fun T9 => BLD lyTeller 12 [0] Γ.2.2.2.2.1 S h T9 ∧ FR h (h + 1) S T9 ∧ ∀ a, a ≠ h → eqA Y1 T9 a) (bld_obj B0 lyGrammar 0 0 rfl rfl hq.1) (fun S1 hx => ?_)
  obtain ⟨B1, E, E2⟩ := hx
  have hk := (show sK S1 h = 9 from by have q := B1.1.2.2.2.2.1; exact (Option.some.inj q).symm)
  have hb := B1.1.2.2.1
  have d_grammar_0y := hq.2
  rw [hbS] at d_grammar_0y
  have d_grammar_0 : sI S1 (h + 2) = (fun _ => 0) := by rw [(E2 (h + 2) (by omega)).2.2.1]; exact d_grammar_0y
  have hIe := E.2
  have hI : sI S1 h = fun _ => 0 := hIe.trans hI
  have hv1 : sR S1 h 0 = some (h + 1) := B1.2.2.2 0 1 (by decide) rfl
  have en := B1.2.2.1 1 _ (by decide) (by decide) (rfl : lyTeller[1]? = some _)
  have hm2 : h + 1 ∈ PL Γ.2.2.2.2.1 S1 := PL_mem.mpr ⟨by omega, by omega⟩
  have hk2 : sK S1 (h + 1) = 0 := en.1
  have hv2 : sR S1 (h + 1) 0 = some (h + 2) := en.2.1 0 2 rfl
  refine V_aload_0 15 dX9_init_15 ?_
  refine V_aload_0 16 dX9_init_16 ?_
  refine V_getR 17 (c := 9) 0 hv1 dX9_init_17 fl_RX9_12 (by simp only [PL_mem, sN_uI, sN_uR, sN_uA, sN_uJ, sN_uP, sN_nO, sN_nA]; omega) (by simp (disch := omega) only [sN_uI, sN_uR, sN_uA, sN_uJ, sN_uP, sN_nO, sN_nA, sK_uI, sK_uR, sK_uA, sK_uJ, sK_uP, sK_nO, sK_nA, va_up_ne, hk]) (Nat.le_of_ble_eq_true rfl) (Nat.le_of_ble_eq_true rfl) rfl ?_
  refine V_getR 20 (c := 0) 0 hv2 dX9_init_20 fl_RX9_18 hm2 hk2 (Nat.le_of_ble_eq_true rfl) (Nat.le_of_ble_eq_true rfl) rfl ?_
  refine V_putF 23 (c := 9) 1 dX9_init_23 fl_RX9_22 (by simp only [PL_mem, sN_uI, sN_uR, sN_uA, sN_uJ, sN_uP, sN_nO, sN_nA]; omega) (by simp (disch := omega) only [sN_uI, sN_uR, sN_uA, sN_uJ, sN_uP, sN_nO, sN_nA, sK_uI, sK_uR, sK_uA, sK_uJ, sK_uP, sK_nO, sK_nA, va_up_ne, hk]) (Nat.le_of_ble_eq_true rfl) (Nat.le_of_ble_eq_true rfl) rfl rfl rfl rfl rfl rfl ?_
  refine V_abs (fun T9 => BLD lyTeller 12 [1, 0] Γ.2.2.2.2.1 S h T9 ∧ FR h (h + 12) S1 T9) (bld_ali B1 1 2 rfl) (fun S2 hx => ?_)
  obtain ⟨B2, E⟩ := hx
  have hk := (show sK S2 h = 9 from by have q := B2.1.2.2.2.2.1; exact (Option.some.inj q).symm)
  have hb := B2.1.2.2.1
  have d_grammar_0 : sI S2 (h + 2) = (fun _ => 0) := by rw [(E.1 (h + 2) (by omega) (by omega)).2.2.1]; exact d_grammar_0
  have hIe := E.2
  have hI : sI S2 h = fun _ => 0 := hIe.trans hI
  refine V_aload_0 26 dX9_init_26 ?_
  refine V_new 27 10 dX9_init_27 kl_RX9_23 ib_RX10 in_RX10 (Nat.le_of_ble_eq_true rfl) hw (Nat.le_of_ble_eq_true rfl) (Nat.le_of_ble_eq_true rfl) ?_
  refine V_dup 30 dX9_init_30 rfl ?_
  refine V_callI 31 [] _ (c_X10_init M.2.1 Γ (nO S2 (Γ.2.2.2.2.1 + sN S2) 10) (h := (Γ.2.2.2.2.1 + sN S2)) hw rfl (Nat.le_add_right _ _) (va_up_self _ _ _) (va_up_self _ _ _)) dX9_init_31 cb_X10_init ml_RX9_25 im_yX10_init rfl ⟨(Nat.le_of_ble_eq_true rfl), (Nat.le_of_ble_eq_true rfl)⟩ rfl rfl (Nat.le_of_ble_eq_true rfl) ⟨(Nat.le_of_ble_eq_true rfl), (Nat.le_of_ble_eq_true rfl)⟩ (RV.go (fun Y1 hq => ?_))
  have hb1 := new_n hq.1 hb
  have hkS := hk
  have hk := ((new_e hq.1 (a := h) (by omega)).1.trans hkS)
  have hbS := hb
  have hb : Γ.2.2.2.2.1 + sN Y1 = h + 26 := hb1
  refine V_putF 34 (c := 9) 2 dX9_init_34 fl_RX9_26 (by simp only [PL_mem, sN_uI, sN_uR, sN_uA, sN_uJ, sN_uP, sN_nO, sN_nA]; omega) (by simp (disch := omega) only [sN_uI, sN_uR, sN_uA, sN_uJ, sN_uP, sN_nO, sN_nA, sK_uI, sK_uR, sK_uA, sK_uJ, sK_uP, sK_nO, sK_nA, va_up_ne, hk]) (Nat.le_of_ble_eq_true rfl) (Nat.le_of_ble_eq_true rfl) rfl rfl rfl rfl rfl rfl ?_
  refine V_abs (fun T9 => BLD lyTeller 26 [2, 1, 0] Γ.2.2.2.2.1 S h T9 ∧ FR h (h + 12) S2 T9 ∧ ∀ a, a ≠ h → eqA Y1 T9 a) (bld_obj B2 lyText 2 10 rfl rfl hq.1) (fun S3 hx => ?_)
  obtain ⟨B3, E, E2⟩ := hx
  have hk := (show sK S3 h = 9 from by have q := B3.1.2.2.2.2.1; exact (Option.some.inj q).symm)
  have hb := B3.1.2.2.1
  have d_grammar_0 : sI S3 (h + 2) = (fun _ => 0) := by rw [(E.1 (h + 2) (by omega) (by omega)).2.2.1]; exact d_grammar_0
  have hIe := E.2
  have hI : sI S3 h = fun _ => 0 := hIe.trans hI
  have hN : NEWO lyTeller Γ.2.2.2.2.1 S h S3 := bld_end B3 rfl (by decide)
  refine V_vret 37 dX9_init_37 rfl (Nat.le_of_ble_eq_true rfl) (Nat.le_of_ble_eq_true rfl) (RV.mk ⟨hN, d_grammar_0⟩)
set_option maxRecDepth 100000 in
set_option maxHeartbeats 8000000 in
theorem c_X5_init (l : Launch) (Γ : GC) (S : PS) {h : Nat} (hw : Γ.2.2.2.2.2.1 = Γ.2.2.2.2.1) (hh : Γ.2.2.2.2.1 + sN S = h + 1) (hlo : Γ.2.2.2.2.1 ≤ h) (hk : sK S h = 5) (h0 : sI S h = fun _ => 0) : CT l Γ yX5_init cX5_init 1 none (2) (9) (11735) [.ref h] S (RV (fun S' => NEWO lyOrders Γ.2.2.2.2.1 S h S' ∧ sA S' (h + 1) = (fun _ => 0) ∧ sA S' (h + 2) = (fun _ => 0) ∧ sA S' (h + 3) = (fun _ => 0))) := by
  refine CT.of RX5 "<init>" [some (.ref h)] (by decide +kernel) rfl rfl (Nat.le_of_ble_eq_true rfl) rfl (fun M hM => ?_)
  subst hM
  have B0 : BLD lyOrders 1 [] Γ.2.2.2.2.1 S h S := BLD.one hh hlo (by rw [hk]; rfl) (by rw [hk]; decide)
  have hb := hh
  have hI : sI S h = fun _ => 0 := h0
  refine V_aload_0 0 dX5_init_0 ?_
  refine V_objInit 1 dX5_init_1 ml_RX5_3 ⟨(Nat.le_of_ble_eq_true rfl), (Nat.le_of_ble_eq_true rfl)⟩ ?_
  refine V_aload_0 4 dX5_init_4 ?_
  refine V_bipush 5 (8) dX5_init_5 (by decide) ?_
  refine V_newarray 7 14 8 (Or.inr (Or.inl ⟨rfl, rfl⟩)) dX5_init_7 ac_int (by decide) (by decide) (Nat.le_of_ble_eq_true rfl) hw (Nat.le_of_ble_eq_true rfl) (Nat.le_of_ble_eq_true rfl) ?_
  refine V_putF 9 (c := 5) 0 dX5_init_9 fl_RX5_9 (by simp only [PL_mem, sN_uI, sN_uR, sN_uA, sN_uJ, sN_uP, sN_nO, sN_nA]; omega) (by simp (disch := omega) only [sN_uI, sN_uR, sN_uA, sN_uJ, sN_uP, sN_nO, sN_nA, sK_uI, sK_uR, sK_uA, sK_uJ, sK_uP, sK_nO, sK_nA, va_up_ne, hk]) (Nat.le_of_ble_eq_true rfl) (Nat.le_of_ble_eq_true rfl) rfl rfl rfl rfl rfl rfl ?_
  refine V_abs (fun T9 => BLD lyOrders 2 [0] Γ.2.2.2.2.1 S h T9 ∧ FR h (h + 1) S T9 ∧ sA T9 (h + 1) = (fun _ => 0) ∧ sP T9 (h + 1) = (fun _ => none)) (bld_arr B0 0 14 8 rfl rfl) (fun S1 hx => ?_)
  obtain ⟨B1, E, Z, P⟩ := hx
  have hk := (show sK S1 h = 5 from by have q := B1.1.2.2.2.2.1; exact (Option.some.inj q).symm)
  have hb := B1.1.2.2.1
  have z1 : sA S1 (h + 1) = (fun _ => 0) := Z
  have hIe := E.2
  have hI : sI S1 h = fun _ => 0 := hIe.trans hI
  refine V_aload_0 12 dX5_init_12 ?_
  refine V_bipush 13 (8) dX5_init_13 (by decide) ?_
  refine V_newarray 15 14 8 (Or.inr (Or.inl ⟨rfl, rfl⟩)) dX5_init_15 ac_int (by decide) (by decide) (Nat.le_of_ble_eq_true rfl) hw (Nat.le_of_ble_eq_true rfl) (Nat.le_of_ble_eq_true rfl) ?_
  refine V_putF 17 (c := 5) 1 dX5_init_17 fl_RX5_15 (by simp only [PL_mem, sN_uI, sN_uR, sN_uA, sN_uJ, sN_uP, sN_nO, sN_nA]; omega) (by simp (disch := omega) only [sN_uI, sN_uR, sN_uA, sN_uJ, sN_uP, sN_nO, sN_nA, sK_uI, sK_uR, sK_uA, sK_uJ, sK_uP, sK_nO, sK_nA, va_up_ne, hk]) (Nat.le_of_ble_eq_true rfl) (Nat.le_of_ble_eq_true rfl) rfl rfl rfl rfl rfl rfl ?_
  refine V_abs (fun T9 => BLD lyOrders 3 [1, 0] Γ.2.2.2.2.1 S h T9 ∧ FR h (h + 2) S1 T9 ∧ sA T9 (h + 2) = (fun _ => 0) ∧ sP T9 (h + 2) = (fun _ => none)) (bld_arr B1 1 14 8 rfl rfl) (fun S2 hx => ?_)
  obtain ⟨B2, E, Z, P⟩ := hx
  have hk := (show sK S2 h = 5 from by have q := B2.1.2.2.2.2.1; exact (Option.some.inj q).symm)
  have hb := B2.1.2.2.1
  have z1 : sA S2 (h + 1) = (fun _ => 0) := by rw [(E.1 (h + 1) (by omega) (by omega)).2.2.2.2.2.1]; exact z1
  have z2 : sA S2 (h + 2) = (fun _ => 0) := Z
  have hIe := E.2
  have hI : sI S2 h = fun _ => 0 := hIe.trans hI
  refine V_aload_0 20 dX5_init_20 ?_
  refine V_bipush 21 (8) dX5_init_21 (by decide) ?_
  refine V_newarray 23 14 8 (Or.inr (Or.inl ⟨rfl, rfl⟩)) dX5_init_23 ac_int (by decide) (by decide) (Nat.le_of_ble_eq_true rfl) hw (Nat.le_of_ble_eq_true rfl) (Nat.le_of_ble_eq_true rfl) ?_
  refine V_putF 25 (c := 5) 2 dX5_init_25 fl_RX5_18 (by simp only [PL_mem, sN_uI, sN_uR, sN_uA, sN_uJ, sN_uP, sN_nO, sN_nA]; omega) (by simp (disch := omega) only [sN_uI, sN_uR, sN_uA, sN_uJ, sN_uP, sN_nO, sN_nA, sK_uI, sK_uR, sK_uA, sK_uJ, sK_uP, sK_nO, sK_nA, va_up_ne, hk]) (Nat.le_of_ble_eq_true rfl) (Nat.le_of_ble_eq_true rfl) rfl rfl rfl rfl rfl rfl ?_
  refine V_abs (fun T9 => BLD lyOrders 4 [2, 1, 0] Γ.2.2.2.2.1 S h T9 ∧ FR h (h + 3) S2 T9 ∧ sA T9 (h + 3) = (fun _ => 0) ∧ sP T9 (h + 3) = (fun _ => none)) (bld_arr B2 2 14 8 rfl rfl) (fun S3 hx => ?_)
  obtain ⟨B3, E, Z, P⟩ := hx
  have hk := (show sK S3 h = 5 from by have q := B3.1.2.2.2.2.1; exact (Option.some.inj q).symm)
  have hb := B3.1.2.2.1
  have z1 : sA S3 (h + 1) = (fun _ => 0) := by rw [(E.1 (h + 1) (by omega) (by omega)).2.2.2.2.2.1]; exact z1
  have z2 : sA S3 (h + 2) = (fun _ => 0) := by rw [(E.1 (h + 2) (by omega) (by omega)).2.2.2.2.2.1]; exact z2
  have z3 : sA S3 (h + 3) = (fun _ => 0) := Z
  have hIe := E.2
  have hI : sI S3 h = fun _ => 0 := hIe.trans hI
  refine V_aload_0 28 dX5_init_28 ?_
  refine V_new 29 1 dX5_init_29 kl_RX5_21 ib_RX1 in_RX1 (Nat.le_of_ble_eq_true rfl) hw (Nat.le_of_ble_eq_true rfl) (Nat.le_of_ble_eq_true rfl) ?_
  refine V_dup 32 dX5_init_32 rfl ?_
  refine V_callIN 33 [] _ (c_X1_init M.2.1 Γ (nO S3 (Γ.2.2.2.2.1 + sN S3) 1) (h := (Γ.2.2.2.2.1 + sN S3)) hw rfl (Nat.le_add_right _ _) (va_up_self _ _ _) (va_up_self _ _ _)) dX5_init_33 cb_X1_init ne_RX5_23 im_yX1_init rfl ⟨(Nat.le_of_ble_eq_true rfl), (Nat.le_of_ble_eq_true rfl)⟩ rfl rfl (Nat.le_of_ble_eq_true rfl) ⟨(Nat.le_of_ble_eq_true rfl), (Nat.le_of_ble_eq_true rfl)⟩ (RV.go (fun Y1 hq => ?_))
  have hb1 := new_n hq.1 hb
  have hkS := hk
  have hk := ((new_e hq.1 (a := h) (by omega)).1.trans hkS)
  have hbS := hb
  have hb : Γ.2.2.2.2.1 + sN Y1 = h + 8 := hb1
  refine V_putF 36 (c := 5) 4 dX5_init_36 fl_RX5_24 (by simp only [PL_mem, sN_uI, sN_uR, sN_uA, sN_uJ, sN_uP, sN_nO, sN_nA]; omega) (by simp (disch := omega) only [sN_uI, sN_uR, sN_uA, sN_uJ, sN_uP, sN_nO, sN_nA, sK_uI, sK_uR, sK_uA, sK_uJ, sK_uP, sK_nO, sK_nA, va_up_ne, hk]) (Nat.le_of_ble_eq_true rfl) (Nat.le_of_ble_eq_true rfl) rfl rfl rfl rfl rfl rfl ?_
  refine V_abs (fun T9 => BLD lyOrders 8 [4, 2, 1, 0] Γ.2.2.2.2.1 S h T9 ∧ FR h (h + 4) S3 T9 ∧ ∀ a, a ≠ h → eqA Y1 T9 a) (bld_obj B3 lyGrid 4 1 rfl rfl hq.1) (fun S4 hx => ?_)
  obtain ⟨B4, E, E2⟩ := hx
  have hk := (show sK S4 h = 5 from by have q := B4.1.2.2.2.2.1; exact (Option.some.inj q).symm)
  have hb := B4.1.2.2.1
  have z1 : sA S4 (h + 1) = (fun _ => 0) := by rw [(E.1 (h + 1) (by omega) (by omega)).2.2.2.2.2.1]; exact z1
  have z2 : sA S4 (h + 2) = (fun _ => 0) := by rw [(E.1 (h + 2) (by omega) (by omega)).2.2.2.2.2.1]; exact z2
  have z3 : sA S4 (h + 3) = (fun _ => 0) := by rw [(E.1 (h + 3) (by omega) (by omega)).2.2.2.2.2.1]; exact z3
  have hIe := E.2
  have hI : sI S4 h = fun _ => 0 := hIe.trans hI
  refine V_aload_0 39 dX5_init_39 ?_
  refine V_sipush 40 (11664) dX5_init_40 (by decide) ?_
  refine V_newarray 43 15 11664 (Or.inr (Or.inr (Or.inl ⟨rfl, rfl⟩))) dX5_init_43 ac_long (by decide) (by decide) (Nat.le_of_ble_eq_true rfl) hw (Nat.le_of_ble_eq_true rfl) (Nat.le_of_ble_eq_true rfl) ?_
  refine V_putF 45 (c := 5) 5 dX5_init_45 fl_RX5_28 (by simp only [PL_mem, sN_uI, sN_uR, sN_uA, sN_uJ, sN_uP, sN_nO, sN_nA]; omega) (by simp (disch := omega) only [sN_uI, sN_uR, sN_uA, sN_uJ, sN_uP, sN_nO, sN_nA, sK_uI, sK_uR, sK_uA, sK_uJ, sK_uP, sK_nO, sK_nA, va_up_ne, hk]) (Nat.le_of_ble_eq_true rfl) (Nat.le_of_ble_eq_true rfl) rfl rfl rfl rfl rfl rfl ?_
  refine V_abs (fun T9 => BLD lyOrders 9 [5, 4, 2, 1, 0] Γ.2.2.2.2.1 S h T9 ∧ FR h (h + 8) S4 T9 ∧ sA T9 (h + 8) = (fun _ => 0) ∧ sP T9 (h + 8) = (fun _ => none)) (bld_arr B4 5 15 11664 rfl rfl) (fun S5 hx => ?_)
  obtain ⟨B5, E, Z, P⟩ := hx
  have hk := (show sK S5 h = 5 from by have q := B5.1.2.2.2.2.1; exact (Option.some.inj q).symm)
  have hb := B5.1.2.2.1
  have z1 : sA S5 (h + 1) = (fun _ => 0) := by rw [(E.1 (h + 1) (by omega) (by omega)).2.2.2.2.2.1]; exact z1
  have z2 : sA S5 (h + 2) = (fun _ => 0) := by rw [(E.1 (h + 2) (by omega) (by omega)).2.2.2.2.2.1]; exact z2
  have z3 : sA S5 (h + 3) = (fun _ => 0) := by rw [(E.1 (h + 3) (by omega) (by omega)).2.2.2.2.2.1]; exact z3
  have hIe := E.2
  have hI : sI S5 h = fun _ => 0 := hIe.trans hI
  refine V_aload_0 48 dX5_init_48 ?_
  refine V_bipush 49 (19) dX5_init_49 (by decide) ?_
  refine V_newarray 51 15 19 (Or.inr (Or.inr (Or.inl ⟨rfl, rfl⟩))) dX5_init_51 ac_long (by decide) (by decide) (Nat.le_of_ble_eq_true rfl) hw (Nat.le_of_ble_eq_true rfl) (Nat.le_of_ble_eq_true rfl) ?_
  refine V_putF 53 (c := 5) 6 dX5_init_53 fl_RX5_32 (by simp only [PL_mem, sN_uI, sN_uR, sN_uA, sN_uJ, sN_uP, sN_nO, sN_nA]; omega) (by simp (disch := omega) only [sN_uI, sN_uR, sN_uA, sN_uJ, sN_uP, sN_nO, sN_nA, sK_uI, sK_uR, sK_uA, sK_uJ, sK_uP, sK_nO, sK_nA, va_up_ne, hk]) (Nat.le_of_ble_eq_true rfl) (Nat.le_of_ble_eq_true rfl) rfl rfl rfl rfl rfl rfl ?_
  refine V_abs (fun T9 => BLD lyOrders 10 [6, 5, 4, 2, 1, 0] Γ.2.2.2.2.1 S h T9 ∧ FR h (h + 9) S5 T9 ∧ sA T9 (h + 9) = (fun _ => 0) ∧ sP T9 (h + 9) = (fun _ => none)) (bld_arr B5 6 15 19 rfl rfl) (fun S6 hx => ?_)
  obtain ⟨B6, E, Z, P⟩ := hx
  have hk := (show sK S6 h = 5 from by have q := B6.1.2.2.2.2.1; exact (Option.some.inj q).symm)
  have hb := B6.1.2.2.1
  have z1 : sA S6 (h + 1) = (fun _ => 0) := by rw [(E.1 (h + 1) (by omega) (by omega)).2.2.2.2.2.1]; exact z1
  have z2 : sA S6 (h + 2) = (fun _ => 0) := by rw [(E.1 (h + 2) (by omega) (by omega)).2.2.2.2.2.1]; exact z2
  have z3 : sA S6 (h + 3) = (fun _ => 0) := by rw [(E.1 (h + 3) (by omega) (by omega)).2.2.2.2.2.1]; exact z3
  have hIe := E.2
  have hI : sI S6 h = fun _ => 0 := hIe.trans hI
  have hN : NEWO lyOrders Γ.2.2.2.2.1 S h S6 := bld_end B6 rfl (by decide)
  have F := hN.2.2
  refine V_aload_0 56 dX5_init_56 ?_
  refine V_callV 57 (ci := 5) [] _ (c_X5_forgetCounts M.2.1 Γ _ (t := h) F) dX5_init_57 cb_X5_forgetCounts ml_RX5_35 im_yX5_forgetCounts se_yX5_forgetCounts (F.m 0 (Nat.le_of_ble_eq_true rfl)) (F.k 0 5 rfl) (Nat.le_of_ble_eq_true rfl) ⟨(Nat.le_of_ble_eq_true rfl), (Nat.le_of_ble_eq_true rfl)⟩ rfl rfl (Nat.le_of_ble_eq_true rfl) ⟨(Nat.le_of_ble_eq_true rfl), (Nat.le_of_ble_eq_true rfl)⟩ (RV.go (fun S9 hq => ?_))
  obtain ⟨g, rfl, hg⟩ := hq
  refine V_vret 60 dX5_init_60 rfl (Nat.le_of_ble_eq_true rfl) (Nat.le_of_ble_eq_true rfl) (RV.mk ⟨NEWO.setJ hN (by omega) (by omega), z1, z2, z3⟩)

