/-! what every state of the class keeps, told for the object at h: shape, the told numbers, bounded States, weeks, the tape's length -/
def IV (lo h B : Nat) (L : Int32) (S : PS) : Prop :=
  isL lySockTableW lo S h ∧ WR 0 1 1 (h + 68) S ∧ WR 3 4 3 (h + 76) S ∧ NUM (h + 27) S ∧ NB (h + 41) B S ∧ (∀ i, i < 43 → NB (h + 81 + 4 * i) B S) ∧ OB (h + 52) B S ∧ WK (h + 68) S ∧
    (∀ i, i < 40 → sP S (h + 49) i = some (h + 81 + 4 * i)) ∧ (∀ i, i < 3 → sP S (h + 50) i = some (h + 81 + 4 * (40 + i))) ∧ sI S (h + 3) 1 = L
def okX (o : Nat) : Bool := o != 28 && o != 42 && o != 43 && o != 53 && !(decide (82 ≤ o) && ((o - 81) % 4 == 1 || (o - 81) % 4 == 2))
def okY (p : Nat × Nat) : Bool := !(p.1 == 41 && p.2 == 4) && !(decide (81 ≤ p.1) && p.2 == 4) && !(p.1 == 52 && p.2 == 3) && !(p.1 == 68 && p.2 == 5) && !(p.1 == 3 && p.2 == 1)
set_option maxRecDepth 100000 in
theorem st_subs : (List.range 43).all (fun i => decide ((lySockTableW.drop (81 + 4 * i)).take lyState.length = lyUp (81 + 4 * i) lyState)) = true := by decide +kernel
set_option maxRecDepth 100000 in
theorem len_SockW : lySockTableW.length = 253 := by decide +kernel
section IVS
variable {lo h B C : Nat} {L : Int32} {S S2 : PS} {X : List Nat} {Y : List (Nat × Nat)}
theorem IV.f (I : IV lo h B L S) : isL lySockTableW lo S h := I.1
theorem IV.wl (I : IV lo h B L S) : WR 0 1 1 (h + 68) S := I.2.1
theorem IV.ws (I : IV lo h B L S) : WR 3 4 3 (h + 76) S := I.2.2.1
theorem IV.num (I : IV lo h B L S) : NUM (h + 27) S := I.2.2.2.1
theorem IV.now (I : IV lo h B L S) : NB (h + 41) B S := I.2.2.2.2.1
theorem IV.sts (I : IV lo h B L S) : ∀ i, i < 43 → NB (h + 81 + 4 * i) B S := I.2.2.2.2.2.1
theorem IV.ob (I : IV lo h B L S) : OB (h + 52) B S := I.2.2.2.2.2.2.1
theorem IV.wk (I : IV lo h B L S) : WK (h + 68) S := I.2.2.2.2.2.2.2.1
theorem IV.pa (I : IV lo h B L S) : ∀ i, i < 40 → sP S (h + 49) i = some (h + 81 + 4 * i) := I.2.2.2.2.2.2.2.2.1
theorem IV.sl (I : IV lo h B L S) : ∀ i, i < 3 → sP S (h + 50) i = some (h + 81 + 4 * (40 + i)) := I.2.2.2.2.2.2.2.2.2.1
theorem IV.len (I : IV lo h B L S) : sI S (h + 3) 1 = L := I.2.2.2.2.2.2.2.2.2.2
theorem IV.mono (I : IV lo h B L S) (hB : B ≤ C) : IV lo h C L S := ⟨I.f, I.wl, I.ws, I.num, I.now.mono hB, fun i hi => (I.sts i hi).mono hB, I.ob.mono hB, I.wk, I.pa, I.sl, I.len⟩
/-- the rest follows the frame, what is told anew is given -/
theorem IV.up {L2 : Int32} (I : IV lo h B L S) (e : FW X Y S S2) (w1 : WR 0 1 1 (h + 68) S2) (w2 : WR 3 4 3 (h + 76) S2) (n : NUM (h + 27) S2) (n0 : NB (h + 41) C S2) (ns : ∀ i, i < 43 → NB (h + 81 + 4 * i) C S2) (o : OB (h + 52) C S2) (k : WK (h + 68) S2) (l : sI S2 (h + 3) 1 = L2) : IV lo h C L2 S2 :=
  ⟨I.f.w e.1 (by decide +kernel), w1, w2, n, n0, ns, o, k, by rw [e.1.2.2.2.2]; exact I.pa, by rw [e.1.2.2.2.2]; exact I.sl, l⟩
theorem nx_of {Xo : List Nat} {o : Nat} (hx : Xo.all okX = true) (ho : okX o = false) : h + o ∉ Xo.map (fun o => h + o) := fun q => by
  obtain ⟨o2, h1, h2⟩ := List.mem_map.mp q
  have h3 := List.all_eq_true.mp hx o2 h1
  have : o2 = o := by have := h2; omega
  rw [this, ho] at h3
  cases h3
theorem ny_of {Yo : List (Nat × Nat)} {o j : Nat} (hy : Yo.all okY = true) (ho : okY (o, j) = false) : (h + o, j) ∉ Yo.map (fun p => (h + p.1, p.2)) := fun q => by
  obtain ⟨⟨o2, j2⟩, h1, h2⟩ := List.mem_map.mp q
  have h3 := List.all_eq_true.mp hy _ h1
  have e1 : o2 = o := by have := congrArg Prod.fst h2; simp only at this; omega
  have e2 : j2 = j := congrArg Prod.snd h2
  rw [e1, e2, ho] at h3
  cases h3
theorem okX_st1 {i : Nat} : okX (81 + 4 * i + 1) = false := by
  unfold okX
  have : (81 + 4 * i + 1 - 81) % 4 = 1 := by omega
  rw [this, decide_eq_true (show 82 ≤ 81 + 4 * i + 1 by omega)]
  simp
theorem okX_st2 {i : Nat} : okX (81 + 4 * i + 2) = false := by
  unfold okX
  have : (81 + 4 * i + 2 - 81) % 4 = 2 := by omega
  rw [this, decide_eq_true (show 82 ≤ 81 + 4 * i + 2 by omega)]
  simp
theorem okY_st {i : Nat} : okY (81 + 4 * i, 4) = false := by
  unfold okY
  rw [decide_eq_true (show 81 ≤ 81 + 4 * i by omega)]
  simp
theorem nb_st {Xo : List Nat} {Yo : List (Nat × Nat)} (hx : Xo.all okX = true) (hy : Yo.all okY = true) (e : FW (Xo.map (fun o => h + o)) (Yo.map (fun p => (h + p.1, p.2))) S S2) {i : Nat} (b : NB (h + 81 + 4 * i) B S) : NB (h + 81 + 4 * i) B S2 := by
  refine b.fw e ?_ ?_ ?_
  · have q := nx_of (h := h) hx (okX_st1 (i := i)); rw [show h + 81 + 4 * i + 1 = h + (81 + 4 * i + 1) by omega]; exact q
  · have q := nx_of (h := h) hx (okX_st2 (i := i)); rw [show h + 81 + 4 * i + 2 = h + (81 + 4 * i + 2) by omega]; exact q
  · have q := ny_of (h := h) hy (okY_st (i := i)); rw [show h + 81 + 4 * i = h + (81 + 4 * i) by omega]; exact q
/-- all kept places are out of the way -/
theorem IV.zw (I : IV lo h B L S) (Xo : List Nat) (Yo : List (Nat × Nat)) (e : FW X Y S S2) (hX : X = Xo.map (fun o => h + o)) (hY : Y = Yo.map (fun p => (h + p.1, p.2))) (hx : Xo.all okX = true) (hy : Yo.all okY = true) (w1 : WR 0 1 1 (h + 68) S2) (w2 : WR 3 4 3 (h + 76) S2) : IV lo h B L S2 := by
  subst hX hY
  exact I.up e w1 w2 (I.num.fw e (nx_of hx (o := 28) rfl)) (I.now.fw e (nx_of hx (o := 42) rfl) (nx_of hx (o := 43) rfl) (ny_of hy (o := 41) (j := 4) rfl)) (fun i hi => nb_st hx hy e (I.sts i hi)) (I.ob.fw e (nx_of hx (o := 53) rfl) (ny_of hy (o := 52) (j := 3) rfl))
    (by obtain ⟨w, a, b⟩ := I.wk; exact ⟨w, a, (e.2.2 _ _ (ny_of hy (o := 68) (j := 5) rfl)).trans b⟩) ((e.2.2 _ _ (ny_of hy (o := 3) (j := 1) rfl)).trans I.len)
theorem IV.z (I : IV lo h B L S) (Xo : List Nat) (Yo : List (Nat × Nat)) (e : FZ X Y S S2) (hX : X = Xo.map (fun o => h + o)) (hY : Y = Yo.map (fun p => (h + p.1, p.2))) (hx : Xo.all okX = true) (hy : Yo.all okY = true) : IV lo h B L S2 :=
  I.zw Xo Yo (FW.of e) hX hY hx hy (I.wl.ss e.1) (I.ws.ss e.1)
/-- a field that is no kept one is written -/
theorem IV.pI (I : IV lo h B L S) (o j : Nat) (v : Int32) (hy : okY (o, j) = true) : IV lo h B L (uI S (h + o) j v) :=
  I.z [] [(o, j)] (FZ.rf.uI (by simp)) rfl rfl rfl (by rw [List.all_cons, hy]; rfl)
theorem IV.pA (I : IV lo h B L S) (o i : Nat) (v : Int32) (hx : okX o = true) : IV lo h B L (uA S (h + o) i v) :=
  I.z [o] [] (FZ.rf.uA (by simp)) rfl rfl (by rw [List.all_cons, hx]; rfl) rfl
theorem IV.st (I : IV lo h B L S) {i : Nat} (hi : i < 43) : isL lyState lo S (h + 81 + 4 * i) := by
  have q := I.f.sub (81 + 4 * i) lyState (of_decide_eq_true (List.all_eq_true.mp st_subs i (List.mem_range.mpr hi))) (by rw [len_SockW, len_State]; omega)
  rw [← Nat.add_assoc] at q
  exact q
/-- the State of now has changed -/
theorem IV.onNow (I : IV lo h B L S) (e : FZ [h + 41 + 1, h + 41 + 2, h + 41 + 3] [(h + 41, 3), (h + 41, 4)] S S2) (n : NB (h + 41) C S2) (hB : B ≤ C) : IV lo h C L S2 := by
  have J := I.mono hB
  refine J.up (FW.of e) (I.wl.ss e.1) (I.ws.ss e.1) (I.num.fz e (by simp)) n (fun i hi => (J.sts i hi).fz e (by simp <;> omega) (by simp <;> omega) (by simp <;> omega)) (J.ob.fz e (by simp) (by simp)) (I.wk.fz e (by simp)) ((e.2.2 _ _ (by simp)).trans I.len)
/-- one of the States behind has changed -/
theorem IV.onSt (I : IV lo h B L S) {i : Nat} (hi : i < 43) (e : FZ [h + 81 + 4 * i + 1, h + 81 + 4 * i + 2, h + 81 + 4 * i + 3] [(h + 81 + 4 * i, 3), (h + 81 + 4 * i, 4)] S S2) (n : NB (h + 81 + 4 * i) B S2) : IV lo h B L S2 := by
  refine I.up (FW.of e) (I.wl.ss e.1) (I.ws.ss e.1) (I.num.fz e (by simp <;> omega)) (I.now.fz e (by simp <;> omega) (by simp <;> omega) (by simp <;> omega)) (fun j hj => ?_) (I.ob.fz e (by simp <;> omega) (by simp <;> omega)) (I.wk.fz e (by simp <;> omega)) ((e.2.2 _ _ (by simp <;> omega)).trans I.len)
  by_cases q : j = i
  · rw [q]; exact n
  · exact (I.sts j hj).fz e (by simp <;> omega) (by simp <;> omega) (by simp <;> omega)
theorem IV.onOrders (I : IV lo h B L S) (e : FZ [h + 52 + 1, h + 52 + 2, h + 52 + 3] [(h + 52, 3)] S S2) (o : OB (h + 52) B S2) : IV lo h B L S2 :=
  I.up (FW.of e) (I.wl.ss e.1) (I.ws.ss e.1) (I.num.fz e (by simp)) (I.now.fz e (by simp) (by simp) (by simp)) (fun i hi => (I.sts i hi).fz e (by simp <;> omega) (by simp <;> omega) (by simp <;> omega)) o (I.wk.fz e (by simp)) ((e.2.2 _ _ (by simp)).trans I.len)
theorem IV.onWeeks (I : IV lo h B L S) {X : List Nat} {Y : List (Nat × Nat)} (e : FZ X Y S S2) (Xo : List Nat) (hX : X = Xo.map (fun o => h + o)) (hY : Y = [(h + 68, 5), (h + 68, 6)]) (hx : Xo.all okX = true) (k : WK (h + 68) S2) : IV lo h B L S2 := by
  subst hX hY
  have e2 := FW.of e
  refine I.up e2 (I.wl.ss e.1) (I.ws.ss e.1) (I.num.fw e2 (nx_of hx (o := 28) rfl)) (I.now.fw e2 (nx_of hx (o := 42) rfl) (nx_of hx (o := 43) rfl) (by simp)) (fun i hi => (I.sts i hi).fw e2 ?_ ?_ (by simp <;> omega)) (I.ob.fw e2 (nx_of hx (o := 53) rfl) (by simp)) k ((e.2.2 _ _ (by simp)).trans I.len)
  · have q := nx_of (h := h) hx (okX_st1 (i := i)); rw [show h + 81 + 4 * i + 1 = h + (81 + 4 * i + 1) by omega]; exact q
  · have q := nx_of (h := h) hx (okX_st2 (i := i)); rw [show h + 81 + 4 * i + 2 = h + (81 + 4 * i + 2) by omega]; exact q
/-- the tape has another length -/
theorem IV.onLen (I : IV lo h B L S) {X : List Nat} {Y : List (Nat × Nat)} {L2 : Int32} (e : FZ X Y S S2) (Xo : List Nat) (Yo : List (Nat × Nat)) (hX : X = Xo.map (fun o => h + o)) (hY : Y = (h + 3, 1) :: Yo.map (fun p => (h + p.1, p.2))) (hx : Xo.all okX = true) (hy : Yo.all okY = true) (l : sI S2 (h + 3) 1 = L2) : IV lo h B L2 S2 := by
  subst hX hY
  have e2 := FW.of e
  have ny : ∀ o j, okY (o, j) = false → o ≠ 3 → (h + o, j) ∉ (h + 3, 1) :: Yo.map (fun p => (h + p.1, p.2)) := fun o j ho hn q => by
    rcases List.mem_cons.mp q with q | q
    · have := congrArg Prod.fst q; simp only at this; omega
    · exact ny_of hy ho q
  refine I.up e2 (I.wl.ss e.1) (I.ws.ss e.1) (I.num.fw e2 (nx_of hx (o := 28) rfl)) (I.now.fw e2 (nx_of hx (o := 42) rfl) (nx_of hx (o := 43) rfl) (ny 41 4 rfl (by decide))) (fun i hi => (I.sts i hi).fw e2 ?_ ?_ ?_) (I.ob.fw e2 (nx_of hx (o := 53) rfl) (ny 52 3 rfl (by decide))) (I.wk.fz e (ny 68 5 rfl (by decide))) l
  · have q := nx_of (h := h) hx (okX_st1 (i := i)); rw [show h + 81 + 4 * i + 1 = h + (81 + 4 * i + 1) by omega]; exact q
  · have q := nx_of (h := h) hx (okX_st2 (i := i)); rw [show h + 81 + 4 * i + 2 = h + (81 + 4 * i + 2) by omega]; exact q
  · have q := ny (81 + 4 * i) 4 okY_st (by omega); rw [show h + 81 + 4 * i = h + (81 + 4 * i) by omega]; exact q
/-- a text is told anew -/
theorem IV.onTold (I : IV lo h B L S) {X : List Nat} {Y : List (Nat × Nat)} (e : FZ X Y S S2) (Xo : List Nat) (Yo : List (Nat × Nat)) (hX : X = (h + 28) :: Xo.map (fun o => h + o)) (hY : Y = Yo.map (fun p => (h + p.1, p.2))) (hx : Xo.all okX = true) (hy : Yo.all okY = true) (n : NUM (h + 27) S2) : IV lo h B L S2 := by
  subst hX hY
  have e2 := FW.of e
  have nx : ∀ o, okX o = false → o ≠ 28 → h + o ∉ (h + 28) :: Xo.map (fun o => h + o) := fun o ho hn q => by
    rcases List.mem_cons.mp q with q | q
    · omega
    · exact nx_of hx ho q
  refine I.up e2 (I.wl.ss e.1) (I.ws.ss e.1) n (I.now.fw e2 (nx 42 rfl (by decide)) (nx 43 rfl (by decide)) (ny_of hy (o := 41) (j := 4) rfl)) (fun i hi => (I.sts i hi).fw e2 ?_ ?_ ?_) (I.ob.fw e2 (nx 53 rfl (by decide)) (ny_of hy (o := 52) (j := 3) rfl)) (I.wk.fz e (ny_of hy (o := 68) (j := 5) rfl)) ((e.2.2 _ _ (ny_of hy (o := 3) (j := 1) rfl)).trans I.len)
  · have q := nx (81 + 4 * i + 1) okX_st1 (by omega); rw [show h + 81 + 4 * i + 1 = h + (81 + 4 * i + 1) by omega]; exact q
  · have q := nx (81 + 4 * i + 2) okX_st2 (by omega); rw [show h + 81 + 4 * i + 2 = h + (81 + 4 * i + 2) by omega]; exact q
  · have q := ny_of (h := h) hy (okY_st (i := i)); rw [show h + 81 + 4 * i = h + (81 + 4 * i) by omega]; exact q
theorem WR.rx {j k r o p : Nat} (w : WR j k r o S) (e : ROT p S S2) (hn : o ≠ p) : WR j k r o S2 := by
  unfold WR; rw [e o hn, e o hn]; exact w
/-- the rows of longs of Losses, of Seen may have changed places -/
theorem IV.onLost (I : IV lo h B L S) (e : FW [] [] S S2) (w : WR 0 1 1 (h + 68) S2) (x : ROT (h + 68) S S2) : IV lo h B L S2 := I.zw [] [] e rfl rfl rfl rfl w (I.ws.rx x (by omega))
theorem IV.onSeen (I : IV lo h B L S) (e : FW [] [] S S2) (w : WR 3 4 3 (h + 76) S2) (x : ROT (h + 76) S S2) : IV lo h B L S2 := I.zw [] [] e rfl rfl rfl rfl (I.wl.rx x (by omega)) w
end IVS

