/-! THE LAW: its cases, each from what every state keeps to what every state keeps -/
section VP2
variable {M : MC} {Γ : GC} {μ : MI} {cc : ByteArray} {Q : State → Prop} {k sl : Nat} {S : PS} {lv : List (Option Value)} {st : List Value}
theorem V_pop2 (pc : Nat) {a : Value} (d : decode cc pc = .ok (.pop2, 1)) (hc : a.category = 2) (h : V M Γ μ cc Q k sl S (pc + 1) lv st) : V M Γ μ cc Q k sl S pc lv (a :: st) := fun C H locs ls hr hs hl => lv_pop2_2 C.1.1 C.1.2.1 d hc (h C H locs ls hr hs hl)
end VP2
theorem tape_le {n : Nat} (h : n ≤ 2000) : nI n + 20 ≤ 2000 ↔ n + 20 ≤ 2000 := by
  rw [eqAdd (a := n) (b := 20) rfl (show (20 : Int32) = nI 20 from rfl)]
  exact nI_leE (b := 2000) rfl rfl (by omega) (by omega)
theorem tape_len {n : Nat} (h : n ≤ 2000) : (if nI n + 20 ≤ 2000 then nI n + 20 else nI n) = nI (if n + 20 ≤ 2000 then n + 20 else n) := by
  by_cases q : n + 20 ≤ 2000
  · rw [if_pos q, if_pos ((tape_le h).mpr q)]; exact eqAdd rfl rfl
  · rw [if_neg q, if_neg (fun x => q ((tape_le h).mp x))]
theorem tape_ans {n : Nat} (h : n ≤ 2000) : (if nI n + 20 ≤ 2000 then nI n + 20 else -1) = (if n + 20 ≤ 2000 then nI (n + 20) else -1) := by
  by_cases q : n + 20 ≤ 2000
  · rw [if_pos q, if_pos ((tape_le h).mpr q)]; exact eqAdd rfl rfl
  · rw [if_neg q, if_neg (fun x => q ((tape_le h).mp x))]
def LH (s : State) (meth : Method) (b L : Nat) (xs : Nat → Int32) : Prop := meth.sig.returnType = ret ∧ va_X b L xs s s.heap ∧ b < s.heap.size ∧ L ≤ 3072
/-- the law at pc, both sides as every state keeps them -/
abbrev LQ (p : Program) (l : Launch) (e : Env) (s : State) (m : MethodId) (below : List Frame) (meth : Method) (c : Code) (b : Nat) (cy : Nat → ClassId) (G : va_G) (kS vS : Nat → Nat) (n0 n1 h mm : Nat) (i : Int32) (pc : Nat) (S1 S3 : PS) : Prop := LV p l e s m below meth c b (GG s.heap.size (va_pl (PL n0 S1) (EN cy S1)) cy G n1 (n0 + sN S1) kS vS) 400 400000 S3 pc [some (.ref b), some (.ref h), some (.ref mm), some (.int i)] []
section CASES
variable {p : Program} {l : Launch} {e : Env} {s : State} {m : MethodId} {below : List Frame} {meth : Method} {c : Code} {b L : Nat} {cy : Nat → ClassId} {G : va_G} {kS vS : Nat → Nat} {xs : Nat → Int32}
set_option maxRecDepth 100000 in
set_option maxHeartbeats 4000000 in
theorem law_feed {n0 n1 h mm r tp : Nat} {g : MG} {S1 S3 : PS} (H : LH s meth b L xs) (hr : 6 * r + 6 ≤ L) (I1 : IV n0 h (9 + 4 * r) (nI tp) S1) (I3 : MV n1 mm g tp S3) (K : ∀ (S1 S3 : PS) (g : MG) (tp : Nat), IV n0 h (9 + 4 * (r + 1)) (nI tp) S1 → MV n1 mm g tp S3 → LQ p l e s m below meth c b cy G kS vS n0 n1 h mm (nI (6 * r)) 884 S1 S3) : LQ p l e s m below meth c b cy G kS vS n0 n1 h mm (nI (6 * r)) 160 S1 S3 := by
  obtain ⟨hret, hX, hbl, hL⟩ := H
  have hbA : ¬ s.heap.size ≤ b := Nat.not_le.mpr hbl
  have htp := I3.2.2.2.2.2.2.2
  have hi1 : vp_in (nI (6 * r) + 1) L := vpN (eqAdd rfl (show (1 : Int32) = nI 1 from rfl)) (by omega) (by omega)
  have hi2 : vp_in (nI (6 * r) + 2) L := vpN (eqAdd rfl (show (2 : Int32) = nI 2 from rfl)) (by omega) (by omega)
  have hi3 : vp_in (nI (6 * r) + 3) L := vpN (eqAdd rfl (show (3 : Int32) = nI 3 from rfl)) (by omega) (by omega)
  have hi4 : vp_in (nI (6 * r) + 4) L := vpN (eqAdd rfl (show (4 : Int32) = nI 4 from rfl)) (by omega) (by omega)
  have hi5 : vp_in (nI (6 * r) + 5) L := vpN (eqAdd rfl (show (5 : Int32) = nI 5 from rfl)) (by omega) (by omega)
  refine lv_swap (b2 := n0 + sN S3) (by omega) ?_
  have F1 := I1.f
  have F3 := I3.f
  refine V_aload_1 160 dL_law_160 ?_
  refine V_aload_0 161 dL_law_161 ?_
  refine V_iload_3 162 dL_law_162 ?_
  refine V_iconst 163 (1) dL_law_163 (by decide) ?_
  refine V_iadd 164 dL_law_164 ?_
  refine V_sld 165 hX hbl hbA ?_ dL_law_165 ?_
  · exact hi1
  refine V_aload_0 166 dL_law_166 ?_
  refine V_iload_3 167 dL_law_167 ?_
  refine V_iconst 168 (2) dL_law_168 (by decide) ?_
  refine V_iadd 169 dL_law_169 ?_
  refine V_sld 170 hX hbl hbA ?_ dL_law_170 ?_
  · exact hi2
  refine V_aload_0 171 dL_law_171 ?_
  refine V_iload_3 172 dL_law_172 ?_
  refine V_iconst 173 (3) dL_law_173 (by decide) ?_
  refine V_iadd 174 dL_law_174 ?_
  refine V_sld 175 hX hbl hbA ?_ dL_law_175 ?_
  · exact hi3
  refine V_aload_0 176 dL_law_176 ?_
  refine V_iload_3 177 dL_law_177 ?_
  refine V_iconst 178 (4) dL_law_178 (by decide) ?_
  refine V_iadd 179 dL_law_179 ?_
  refine V_sld 180 hX hbl hbA ?_ dL_law_180 ?_
  · exact hi4
  refine V_aload_0 181 dL_law_181 ?_
  refine V_iload_3 182 dL_law_182 ?_
  refine V_iconst 183 (5) dL_law_183 (by decide) ?_
  refine V_iadd 184 dL_law_184 ?_
  refine V_sld 185 hX hbl hbA ?_ dL_law_185 ?_
  · exact hi5
  refine V_callV 186 (ci := 11) [.int _, .int _, .int _, .int _, .int _] _ (s_feed l _ S1 I1 _ _ _ _ _) dL_law_186 cb_X11_feed ml_RL_13 im_yX11_feed se_yX11_feed (F1.m 0 (Nat.le_of_ble_eq_true rfl)) (F1.k 0 11 rfl) (Nat.le_of_ble_eq_true rfl) ⟨(Nat.le_of_ble_eq_true rfl), (Nat.le_of_ble_eq_true rfl)⟩ rfl rfl (Nat.le_of_ble_eq_true rfl) ⟨(Nat.le_of_ble_eq_true rfl), (Nat.le_of_ble_eq_true rfl)⟩ (RI.go (fun r1 S4 h1 => ?_))
  refine V_pop 189 dL_law_189 rfl ?_
  refine lv_swap (b2 := n0 + sN S4) (by omega) ?_
  refine V_aload_2 190 dL_law_190 ?_
  refine V_aload_0 191 dL_law_191 ?_
  refine V_iload_3 192 dL_law_192 ?_
  refine V_iconst 193 (1) dL_law_193 (by decide) ?_
  refine V_iadd 194 dL_law_194 ?_
  refine V_sld 195 hX hbl hbA ?_ dL_law_195 ?_
  · exact hi1
  refine V_aload_0 196 dL_law_196 ?_
  refine V_iload_3 197 dL_law_197 ?_
  refine V_iconst 198 (2) dL_law_198 (by decide) ?_
  refine V_iadd 199 dL_law_199 ?_
  refine V_sld 200 hX hbl hbA ?_ dL_law_200 ?_
  · exact hi2
  refine V_aload_0 201 dL_law_201 ?_
  refine V_iload_3 202 dL_law_202 ?_
  refine V_iconst 203 (3) dL_law_203 (by decide) ?_
  refine V_iadd 204 dL_law_204 ?_
  refine V_sld 205 hX hbl hbA ?_ dL_law_205 ?_
  · exact hi3
  refine V_aload_0 206 dL_law_206 ?_
  refine V_iload_3 207 dL_law_207 ?_
  refine V_iconst 208 (4) dL_law_208 (by decide) ?_
  refine V_iadd 209 dL_law_209 ?_
  refine V_sld 210 hX hbl hbA ?_ dL_law_210 ?_
  · exact hi4
  refine V_aload_0 211 dL_law_211 ?_
  refine V_iload_3 212 dL_law_212 ?_
  refine V_iconst 213 (5) dL_law_213 (by decide) ?_
  refine V_iadd 214 dL_law_214 ?_
  refine V_sld 215 hX hbl hbA ?_ dL_law_215 ?_
  · exact hi5
  refine V_callV 216 (ci := 12) [.int _, .int _, .int _, .int _, .int _] _ (s_mfeed l _ S3 I3 _ _ _ _ _) dL_law_216 cb_X12_feed ml_RL_17 im_yX12_feed se_yX12_feed (F3.m 0 (Nat.le_of_ble_eq_true rfl)) (F3.k 0 12 rfl) (Nat.le_of_ble_eq_true rfl) ⟨(Nat.le_of_ble_eq_true rfl), (Nat.le_of_ble_eq_true rfl)⟩ rfl rfl (Nat.le_of_ble_eq_true rfl) ⟨(Nat.le_of_ble_eq_true rfl), (Nat.le_of_ble_eq_true rfl)⟩ (RI.go (fun r2 S5 h2 => ?_))
  have hr1 := h1.1
  replace h1 := h1.2
  have hr2 := h2.1
  replace h2 := h2.2
  rw [tape_len htp] at h1
  rw [tape_ans htp] at hr1
  refine V_pop 219 dL_law_219 rfl ?_
  refine V_goto 220 884 dL_law_220 (by decide) ?_
  exact K S4 S5 g (if tp + 20 ≤ 2000 then tp + 20 else tp) (h1.mono (by omega)) h2
set_option maxRecDepth 100000 in
set_option maxHeartbeats 4000000 in
theorem law_back {n0 n1 h mm r tp : Nat} {g : MG} {S1 S3 : PS} (H : LH s meth b L xs) (hr : 6 * r + 6 ≤ L) (I1 : IV n0 h (9 + 4 * r) (nI tp) S1) (I3 : MV n1 mm g tp S3) (K : ∀ (S1 S3 : PS) (g : MG) (tp : Nat), IV n0 h (9 + 4 * (r + 1)) (nI tp) S1 → MV n1 mm g tp S3 → LQ p l e s m below meth c b cy G kS vS n0 n1 h mm (nI (6 * r)) 884 S1 S3) : LQ p l e s m below meth c b cy G kS vS n0 n1 h mm (nI (6 * r)) 223 S1 S3 := by
  obtain ⟨hret, hX, hbl, hL⟩ := H
  have hbA : ¬ s.heap.size ≤ b := Nat.not_le.mpr hbl
  have htp := I3.2.2.2.2.2.2.2
  have hi1 : vp_in (nI (6 * r) + 1) L := vpN (eqAdd rfl (show (1 : Int32) = nI 1 from rfl)) (by omega) (by omega)
  refine lv_swap (b2 := n0 + sN S3) (by omega) ?_
  have F1 := I1.f
  have F3 := I3.f
  refine V_aload_1 223 dL_law_223 ?_
  refine V_aload_0 224 dL_law_224 ?_
  refine V_iload_3 225 dL_law_225 ?_
  refine V_iconst 226 (1) dL_law_226 (by decide) ?_
  refine V_iadd 227 dL_law_227 ?_
  refine V_sld 228 hX hbl hbA ?_ dL_law_228 ?_
  · exact hi1
  refine V_callV 229 (ci := 11) [.int _] _ (s_back l _ S1 I1 _) dL_law_229 cb_X11_back ml_RL_18 im_yX11_back se_yX11_back (F1.m 0 (Nat.le_of_ble_eq_true rfl)) (F1.k 0 11 rfl) (Nat.le_of_ble_eq_true rfl) ⟨(Nat.le_of_ble_eq_true rfl), (Nat.le_of_ble_eq_true rfl)⟩ rfl rfl (Nat.le_of_ble_eq_true rfl) ⟨(Nat.le_of_ble_eq_true rfl), (Nat.le_of_ble_eq_true rfl)⟩ (RI.go (fun r1 S4 h1 => ?_))
  refine lv_swap (b2 := n0 + sN S4) (by omega) ?_
  refine V_aload_2 232 dL_law_232 ?_
  refine V_aload_0 233 dL_law_233 ?_
  refine V_iload_3 234 dL_law_234 ?_
  refine V_iconst 235 (1) dL_law_235 (by decide) ?_
  refine V_iadd 236 dL_law_236 ?_
  refine V_sld 237 hX hbl hbA ?_ dL_law_237 ?_
  · exact hi1
  refine V_callV 238 (ci := 12) [.int _] _ (s_mback l _ S3 I3 _) dL_law_238 cb_X12_back ml_RL_22 im_yX12_back se_yX12_back (F3.m 0 (Nat.le_of_ble_eq_true rfl)) (F3.k 0 12 rfl) (Nat.le_of_ble_eq_true rfl) ⟨(Nat.le_of_ble_eq_true rfl), (Nat.le_of_ble_eq_true rfl)⟩ rfl rfl (Nat.le_of_ble_eq_true rfl) ⟨(Nat.le_of_ble_eq_true rfl), (Nat.le_of_ble_eq_true rfl)⟩ (RI.go (fun r2 S5 h2 => ?_))
  obtain ⟨tp2, e2, hr2, h2⟩ := h2
  have hr1 := h1.1
  replace h1 := h1.2
  rw [e2] at h1
  have e0 : r1 = r2 := hr1.trans hr2.symm
  subst e0
  refine V_icmp_eq 241 884 dL_law_241 (by decide) (fun _ => ?_) (fun q => absurd (rfl) q)
  exact K S4 S5 g tp2 (h1.mono (by omega)) h2
set_option maxRecDepth 100000 in
set_option maxHeartbeats 4000000 in
theorem law_read {n0 n1 h mm r tp : Nat} {g : MG} {S1 S3 : PS} (H : LH s meth b L xs) (hr : 6 * r + 6 ≤ L) (I1 : IV n0 h (9 + 4 * r) (nI tp) S1) (I3 : MV n1 mm g tp S3) (K : ∀ (S1 S3 : PS) (g : MG) (tp : Nat), IV n0 h (9 + 4 * (r + 1)) (nI tp) S1 → MV n1 mm g tp S3 → LQ p l e s m below meth c b cy G kS vS n0 n1 h mm (nI (6 * r)) 884 S1 S3) : LQ p l e s m below meth c b cy G kS vS n0 n1 h mm (nI (6 * r)) 246 S1 S3 := by
  obtain ⟨hret, hX, hbl, hL⟩ := H
  have hbA : ¬ s.heap.size ≤ b := Nat.not_le.mpr hbl
  have htp := I3.2.2.2.2.2.2.2
  refine lv_swap (b2 := n0 + sN S3) (by omega) ?_
  have F1 := I1.f
  have F3 := I3.f
  refine V_aload_1 246 dL_law_246 ?_
  refine V_callV 247 (ci := 11) [] _ (s_read l _ S1 I1 (by omega)) dL_law_247 cb_X11_read ml_RL_23 im_yX11_read se_yX11_read (F1.m 0 (Nat.le_of_ble_eq_true rfl)) (F1.k 0 11 rfl) (Nat.le_of_ble_eq_true rfl) ⟨(Nat.le_of_ble_eq_true rfl), (Nat.le_of_ble_eq_true rfl)⟩ rfl rfl (Nat.le_of_ble_eq_true rfl) ⟨(Nat.le_of_ble_eq_true rfl), (Nat.le_of_ble_eq_true rfl)⟩ (RI.go (fun r1 S4 h1 => ?_))
  refine V_pop 250 dL_law_250 rfl ?_
  refine lv_swap (b2 := n0 + sN S4) (by omega) ?_
  refine V_aload_2 251 dL_law_251 ?_
  refine V_callV 252 (ci := 12) [] _ (s_mread l _ S3 I3) dL_law_252 cb_X12_read ml_RL_27 im_yX12_read se_yX12_read (F3.m 0 (Nat.le_of_ble_eq_true rfl)) (F3.k 0 12 rfl) (Nat.le_of_ble_eq_true rfl) ⟨(Nat.le_of_ble_eq_true rfl), (Nat.le_of_ble_eq_true rfl)⟩ rfl rfl (Nat.le_of_ble_eq_true rfl) ⟨(Nat.le_of_ble_eq_true rfl), (Nat.le_of_ble_eq_true rfl)⟩ (RI.go (fun r2 S5 h2 => ?_))
  obtain ⟨g2, h2⟩ := h2
  refine V_pop 255 dL_law_255 rfl ?_
  refine V_goto 256 884 dL_law_256 (by decide) ?_
  exact K S4 S5 g2 0 (h1.mono (by omega)) h2
set_option maxRecDepth 100000 in
set_option maxHeartbeats 4000000 in
theorem law_place {n0 n1 h mm r tp : Nat} {g : MG} {S1 S3 : PS} (H : LH s meth b L xs) (hr : 6 * r + 6 ≤ L) (I1 : IV n0 h (9 + 4 * r) (nI tp) S1) (I3 : MV n1 mm g tp S3) (K : ∀ (S1 S3 : PS) (g : MG) (tp : Nat), IV n0 h (9 + 4 * (r + 1)) (nI tp) S1 → MV n1 mm g tp S3 → LQ p l e s m below meth c b cy G kS vS n0 n1 h mm (nI (6 * r)) 884 S1 S3) : LQ p l e s m below meth c b cy G kS vS n0 n1 h mm (nI (6 * r)) 259 S1 S3 := by
  obtain ⟨hret, hX, hbl, hL⟩ := H
  have hbA : ¬ s.heap.size ≤ b := Nat.not_le.mpr hbl
  have htp := I3.2.2.2.2.2.2.2
  refine lv_swap (b2 := n0 + sN S3) (by omega) ?_
  have F1 := I1.f
  have F3 := I3.f
  refine V_aload_1 259 dL_law_259 ?_
  refine V_callV 260 (ci := 11) [] _ (s_place l _ S1 I1) dL_law_260 cb_X11_place ml_RL_28 im_yX11_place se_yX11_place (F1.m 0 (Nat.le_of_ble_eq_true rfl)) (F1.k 0 11 rfl) (Nat.le_of_ble_eq_true rfl) ⟨(Nat.le_of_ble_eq_true rfl), (Nat.le_of_ble_eq_true rfl)⟩ rfl rfl (Nat.le_of_ble_eq_true rfl) ⟨(Nat.le_of_ble_eq_true rfl), (Nat.le_of_ble_eq_true rfl)⟩ (RI.go (fun r1 S4 h1 => ?_))
  refine V_pop 263 dL_law_263 rfl ?_
  refine lv_swap (b2 := n0 + sN S4) (by omega) ?_
  refine V_aload_2 264 dL_law_264 ?_
  refine V_callV 265 (ci := 12) [] _ (s_mplace l _ S3 I3) dL_law_265 cb_X12_place ml_RL_31 im_yX12_place se_yX12_place (F3.m 0 (Nat.le_of_ble_eq_true rfl)) (F3.k 0 12 rfl) (Nat.le_of_ble_eq_true rfl) ⟨(Nat.le_of_ble_eq_true rfl), (Nat.le_of_ble_eq_true rfl)⟩ rfl rfl (Nat.le_of_ble_eq_true rfl) ⟨(Nat.le_of_ble_eq_true rfl), (Nat.le_of_ble_eq_true rfl)⟩ (RI.go (fun r2 S5 h2 => ?_))
  refine V_pop 268 dL_law_268 rfl ?_
  refine V_goto 269 884 dL_law_269 (by decide) ?_
  exact K S4 S5 g tp (h1.mono (by omega)) h2
set_option maxRecDepth 100000 in
set_option maxHeartbeats 4000000 in
theorem law_kind {n0 n1 h mm r tp : Nat} {g : MG} {S1 S3 : PS} (H : LH s meth b L xs) (hr : 6 * r + 6 ≤ L) (I1 : IV n0 h (9 + 4 * r) (nI tp) S1) (I3 : MV n1 mm g tp S3) (K : ∀ (S1 S3 : PS) (g : MG) (tp : Nat), IV n0 h (9 + 4 * (r + 1)) (nI tp) S1 → MV n1 mm g tp S3 → LQ p l e s m below meth c b cy G kS vS n0 n1 h mm (nI (6 * r)) 884 S1 S3) : LQ p l e s m below meth c b cy G kS vS n0 n1 h mm (nI (6 * r)) 272 S1 S3 := by
  obtain ⟨hret, hX, hbl, hL⟩ := H
  have hbA : ¬ s.heap.size ≤ b := Nat.not_le.mpr hbl
  have htp := I3.2.2.2.2.2.2.2
  have hi1 : vp_in (nI (6 * r) + 1) L := vpN (eqAdd rfl (show (1 : Int32) = nI 1 from rfl)) (by omega) (by omega)
  have hi2 : vp_in (nI (6 * r) + 2) L := vpN (eqAdd rfl (show (2 : Int32) = nI 2 from rfl)) (by omega) (by omega)
  refine lv_swap (b2 := n0 + sN S3) (by omega) ?_
  have F1 := I1.f
  have F3 := I3.f
  refine V_aload_1 272 dL_law_272 ?_
  refine V_aload_0 273 dL_law_273 ?_
  refine V_iload_3 274 dL_law_274 ?_
  refine V_iconst 275 (1) dL_law_275 (by decide) ?_
  refine V_iadd 276 dL_law_276 ?_
  refine V_sld 277 hX hbl hbA ?_ dL_law_277 ?_
  · exact hi1
  refine V_aload_0 278 dL_law_278 ?_
  refine V_iload_3 279 dL_law_279 ?_
  refine V_iconst 280 (2) dL_law_280 (by decide) ?_
  refine V_iadd 281 dL_law_281 ?_
  refine V_sld 282 hX hbl hbA ?_ dL_law_282 ?_
  · exact hi2
  refine V_callV 283 (ci := 11) [.int _, .int _] _ (s_kind l _ S1 I1 _ _) dL_law_283 cb_X11_kind ml_RL_32 im_yX11_kind se_yX11_kind (F1.m 0 (Nat.le_of_ble_eq_true rfl)) (F1.k 0 11 rfl) (Nat.le_of_ble_eq_true rfl) ⟨(Nat.le_of_ble_eq_true rfl), (Nat.le_of_ble_eq_true rfl)⟩ rfl rfl (Nat.le_of_ble_eq_true rfl) ⟨(Nat.le_of_ble_eq_true rfl), (Nat.le_of_ble_eq_true rfl)⟩ (RI.go (fun r1 S4 h1 => ?_))
  refine V_pop 286 dL_law_286 rfl ?_
  refine lv_swap (b2 := n0 + sN S4) (by omega) ?_
  refine V_aload_2 287 dL_law_287 ?_
  refine V_aload_0 288 dL_law_288 ?_
  refine V_iload_3 289 dL_law_289 ?_
  refine V_iconst 290 (1) dL_law_290 (by decide) ?_
  refine V_iadd 291 dL_law_291 ?_
  refine V_sld 292 hX hbl hbA ?_ dL_law_292 ?_
  · exact hi1
  refine V_aload_0 293 dL_law_293 ?_
  refine V_iload_3 294 dL_law_294 ?_
  refine V_iconst 295 (2) dL_law_295 (by decide) ?_
  refine V_iadd 296 dL_law_296 ?_
  refine V_sld 297 hX hbl hbA ?_ dL_law_297 ?_
  · exact hi2
  refine V_callV 298 (ci := 12) [.int _, .int _] _ (s_mkind l _ S3 I3 _ _) dL_law_298 cb_X12_kind ml_RL_36 im_yX12_kind se_yX12_kind (F3.m 0 (Nat.le_of_ble_eq_true rfl)) (F3.k 0 12 rfl) (Nat.le_of_ble_eq_true rfl) ⟨(Nat.le_of_ble_eq_true rfl), (Nat.le_of_ble_eq_true rfl)⟩ rfl rfl (Nat.le_of_ble_eq_true rfl) ⟨(Nat.le_of_ble_eq_true rfl), (Nat.le_of_ble_eq_true rfl)⟩ (RI.go (fun r2 S5 h2 => ?_))
  refine V_pop 301 dL_law_301 rfl ?_
  refine V_goto 302 884 dL_law_302 (by decide) ?_
  exact K S4 S5 g tp (h1.mono (by omega)) h2
set_option maxRecDepth 100000 in
set_option maxHeartbeats 4000000 in
theorem law_unlike {n0 n1 h mm r tp : Nat} {g : MG} {S1 S3 : PS} (H : LH s meth b L xs) (hr : 6 * r + 6 ≤ L) (I1 : IV n0 h (9 + 4 * r) (nI tp) S1) (I3 : MV n1 mm g tp S3) (K : ∀ (S1 S3 : PS) (g : MG) (tp : Nat), IV n0 h (9 + 4 * (r + 1)) (nI tp) S1 → MV n1 mm g tp S3 → LQ p l e s m below meth c b cy G kS vS n0 n1 h mm (nI (6 * r)) 884 S1 S3) : LQ p l e s m below meth c b cy G kS vS n0 n1 h mm (nI (6 * r)) 305 S1 S3 := by
  obtain ⟨hret, hX, hbl, hL⟩ := H
  have hbA : ¬ s.heap.size ≤ b := Nat.not_le.mpr hbl
  have htp := I3.2.2.2.2.2.2.2
  have hi1 : vp_in (nI (6 * r) + 1) L := vpN (eqAdd rfl (show (1 : Int32) = nI 1 from rfl)) (by omega) (by omega)
  have hi2 : vp_in (nI (6 * r) + 2) L := vpN (eqAdd rfl (show (2 : Int32) = nI 2 from rfl)) (by omega) (by omega)
  refine lv_swap (b2 := n0 + sN S3) (by omega) ?_
  have F1 := I1.f
  have F3 := I3.f
  refine V_aload_1 305 dL_law_305 ?_
  refine V_aload_0 306 dL_law_306 ?_
  refine V_iload_3 307 dL_law_307 ?_
  refine V_iconst 308 (1) dL_law_308 (by decide) ?_
  refine V_iadd 309 dL_law_309 ?_
  refine V_sld 310 hX hbl hbA ?_ dL_law_310 ?_
  · exact hi1
  refine V_aload_0 311 dL_law_311 ?_
  refine V_iload_3 312 dL_law_312 ?_
  refine V_iconst 313 (2) dL_law_313 (by decide) ?_
  refine V_iadd 314 dL_law_314 ?_
  refine V_sld 315 hX hbl hbA ?_ dL_law_315 ?_
  · exact hi2
  refine V_callV 316 (ci := 11) [.int _, .int _] _ (s_unlike l _ S1 I1 _ _) dL_law_316 cb_X11_unlike ml_RL_37 im_yX11_unlike se_yX11_unlike (F1.m 0 (Nat.le_of_ble_eq_true rfl)) (F1.k 0 11 rfl) (Nat.le_of_ble_eq_true rfl) ⟨(Nat.le_of_ble_eq_true rfl), (Nat.le_of_ble_eq_true rfl)⟩ rfl rfl (Nat.le_of_ble_eq_true rfl) ⟨(Nat.le_of_ble_eq_true rfl), (Nat.le_of_ble_eq_true rfl)⟩ (RI.go (fun r1 S4 h1 => ?_))
  refine V_pop 319 dL_law_319 rfl ?_
  refine lv_swap (b2 := n0 + sN S4) (by omega) ?_
  refine V_aload_2 320 dL_law_320 ?_
  refine V_aload_0 321 dL_law_321 ?_
  refine V_iload_3 322 dL_law_322 ?_
  refine V_iconst 323 (1) dL_law_323 (by decide) ?_
  refine V_iadd 324 dL_law_324 ?_
  refine V_sld 325 hX hbl hbA ?_ dL_law_325 ?_
  · exact hi1
  refine V_aload_0 326 dL_law_326 ?_
  refine V_iload_3 327 dL_law_327 ?_
  refine V_iconst 328 (2) dL_law_328 (by decide) ?_
  refine V_iadd 329 dL_law_329 ?_
  refine V_sld 330 hX hbl hbA ?_ dL_law_330 ?_
  · exact hi2
  refine V_callV 331 (ci := 12) [.int _, .int _] _ (s_munlike l _ S3 I3 _ _) dL_law_331 cb_X12_unlike ml_RL_40 im_yX12_unlike se_yX12_unlike (F3.m 0 (Nat.le_of_ble_eq_true rfl)) (F3.k 0 12 rfl) (Nat.le_of_ble_eq_true rfl) ⟨(Nat.le_of_ble_eq_true rfl), (Nat.le_of_ble_eq_true rfl)⟩ rfl rfl (Nat.le_of_ble_eq_true rfl) ⟨(Nat.le_of_ble_eq_true rfl), (Nat.le_of_ble_eq_true rfl)⟩ (RI.go (fun r2 S5 h2 => ?_))
  refine V_pop 334 dL_law_334 rfl ?_
  refine V_goto 335 884 dL_law_335 (by decide) ?_
  exact K S4 S5 g tp (h1.mono (by omega)) h2
set_option maxRecDepth 100000 in
set_option maxHeartbeats 4000000 in
theorem law_draw {n0 n1 h mm r tp : Nat} {g : MG} {S1 S3 : PS} (H : LH s meth b L xs) (hr : 6 * r + 6 ≤ L) (I1 : IV n0 h (9 + 4 * r) (nI tp) S1) (I3 : MV n1 mm g tp S3) (K : ∀ (S1 S3 : PS) (g : MG) (tp : Nat), IV n0 h (9 + 4 * (r + 1)) (nI tp) S1 → MV n1 mm g tp S3 → LQ p l e s m below meth c b cy G kS vS n0 n1 h mm (nI (6 * r)) 884 S1 S3) : LQ p l e s m below meth c b cy G kS vS n0 n1 h mm (nI (6 * r)) 338 S1 S3 := by
  obtain ⟨hret, hX, hbl, hL⟩ := H
  have hbA : ¬ s.heap.size ≤ b := Nat.not_le.mpr hbl
  have htp := I3.2.2.2.2.2.2.2
  have hi1 : vp_in (nI (6 * r) + 1) L := vpN (eqAdd rfl (show (1 : Int32) = nI 1 from rfl)) (by omega) (by omega)
  refine lv_swap (b2 := n0 + sN S3) (by omega) ?_
  have F1 := I1.f
  have F3 := I3.f
  refine V_aload_1 338 dL_law_338 ?_
  refine V_aload_0 339 dL_law_339 ?_
  refine V_iload_3 340 dL_law_340 ?_
  refine V_iconst 341 (1) dL_law_341 (by decide) ?_
  refine V_iadd 342 dL_law_342 ?_
  refine V_sld 343 hX hbl hbA ?_ dL_law_343 ?_
  · exact hi1
  refine V_callV 344 (ci := 11) [.int _] _ (s_draw l _ S1 I1 (by omega) _) dL_law_344 cb_X11_draw ml_RL_41 im_yX11_draw se_yX11_draw (F1.m 0 (Nat.le_of_ble_eq_true rfl)) (F1.k 0 11 rfl) (Nat.le_of_ble_eq_true rfl) ⟨(Nat.le_of_ble_eq_true rfl), (Nat.le_of_ble_eq_true rfl)⟩ rfl rfl (Nat.le_of_ble_eq_true rfl) ⟨(Nat.le_of_ble_eq_true rfl), (Nat.le_of_ble_eq_true rfl)⟩ (RI.go (fun r1 S4 h1 => ?_))
  refine V_pop 347 dL_law_347 rfl ?_
  refine lv_swap (b2 := n0 + sN S4) (by omega) ?_
  refine V_aload_2 348 dL_law_348 ?_
  refine V_aload_0 349 dL_law_349 ?_
  refine V_iload_3 350 dL_law_350 ?_
  refine V_iconst 351 (1) dL_law_351 (by decide) ?_
  refine V_iadd 352 dL_law_352 ?_
  refine V_sld 353 hX hbl hbA ?_ dL_law_353 ?_
  · exact hi1
  refine V_callV 354 (ci := 12) [.int _] _ (s_mdraw l _ S3 I3 _) dL_law_354 cb_X12_draw ml_RL_44 im_yX12_draw se_yX12_draw (F3.m 0 (Nat.le_of_ble_eq_true rfl)) (F3.k 0 12 rfl) (Nat.le_of_ble_eq_true rfl) ⟨(Nat.le_of_ble_eq_true rfl), (Nat.le_of_ble_eq_true rfl)⟩ rfl rfl (Nat.le_of_ble_eq_true rfl) ⟨(Nat.le_of_ble_eq_true rfl), (Nat.le_of_ble_eq_true rfl)⟩ (RI.go (fun r2 S5 h2 => ?_))
  refine V_pop 357 dL_law_357 rfl ?_
  refine V_goto 358 884 dL_law_358 (by decide) ?_
  exact K S4 S5 g tp h1 h2
end CASES

