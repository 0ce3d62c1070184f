/-! THE LAW: its cases, each from what every state keeps to what every state keeps -/
section VP2
variable {M : MC} {Γ : GC} {μ : MI} {cc : ByteArray} {Q : State → Prop} {k sl : Nat} {S : PS} {lv : List (Option Value)} {st : List Value}
theorem V_pop2 (pc : Nat) {a : Value} (d : decode cc pc = .ok (.pop2, 1)) (hc : a.category = 2) (h : V M Γ μ cc Q k sl S (pc + 1) lv st) : V M Γ μ cc Q k sl S pc lv (a :: st) := fun C H locs ls hr hs hl => lv_pop2_2 C.1.1 C.1.2.1 d hc (h C H locs ls hr hs hl)
end VP2
section CASES
variable {p : Program} {l : Launch} {e : Env} {s : State} {m : MethodId} {below : List Frame} {meth : Method} {c : Code} {b L : Nat} {cy : Nat → ClassId} {G : va_G} {kS vS : Nat → Nat} {xs : Nat → Int32}
def LH (s : State) (meth : Method) (b L : Nat) (xs : Nat → Int32) : Prop := meth.sig.returnType = ret ∧ va_X b L xs s s.heap ∧ b < s.heap.size ∧ L ≤ 3072
/-- the law at pc, both sides as every state keeps them -/
abbrev LQ (p : Program) (l : Launch) (e : Env) (s : State) (m : MethodId) (below : List Frame) (meth : Method) (c : Code) (b : Nat) (cy : Nat → ClassId) (G : va_G) (kS vS : Nat → Nat) (n0 n1 h mm : Nat) (i : Int32) (pc : Nat) (S1 S3 : PS) : Prop := LV p l e s m below meth c b (GG s.heap.size (va_pl (PL n0 S1) (EN cy S1)) cy G n1 (n0 + sN S1) kS vS) 400 400000 S3 pc [some (.ref b), some (.ref h), some (.ref mm), some (.int i)] []
set_option maxRecDepth 100000 in
set_option maxHeartbeats 4000000 in
theorem law_feed {n0 n1 h mm r tp : Nat} {g : MG} {T : Int32} {S1 S3 : PS} (H : LH s meth b L xs) (hr : 6 * r + 6 ≤ L) (I1 : IV n0 h (9 + 4 * r) T S1) (I3 : MV n1 mm g tp S3) (hn : n1 ≤ n0 + sN S1) (K : ∀ (S1 S3 : PS) (T : Int32) (g : MG) (tp : Nat), IV n0 h (9 + 4 * (r + 1)) T S1 → MV n1 mm g tp S3 → LQ p l e s m below meth c b cy G kS vS n0 n1 h mm (nI (6 * r)) 884 S1 S3) : LQ p l e s m below meth c b cy G kS vS n0 n1 h mm (nI (6 * r)) 160 S1 S3 := by
  obtain ⟨hret, hX, hbl, hL⟩ := H
  have hbA : ¬ s.heap.size ≤ b := Nat.not_le.mpr hbl
  have hi1 : vp_in (nI (6 * r) + 1) L := vpN (eqAdd rfl (show (1 : Int32) = nI 1 from rfl)) (by omega) (by omega)
  have hi2 : vp_in (nI (6 * r) + 2) L := vpN (eqAdd rfl (show (2 : Int32) = nI 2 from rfl)) (by omega) (by omega)
  have hi3 : vp_in (nI (6 * r) + 3) L := vpN (eqAdd rfl (show (3 : Int32) = nI 3 from rfl)) (by omega) (by omega)
  have hi4 : vp_in (nI (6 * r) + 4) L := vpN (eqAdd rfl (show (4 : Int32) = nI 4 from rfl)) (by omega) (by omega)
  have hi5 : vp_in (nI (6 * r) + 5) L := vpN (eqAdd rfl (show (5 : Int32) = nI 5 from rfl)) (by omega) (by omega)
  refine lv_swap (b2 := n0 + sN S3) (by omega) ?_
  have F1 := I1.f
  have F3 := I3.f
  refine V_aload_1 160 dL_law_160 ?_
  refine V_aload_0 161 dL_law_161 ?_
  refine V_iload_3 162 dL_law_162 ?_
  refine V_iconst 163 (1) dL_law_163 (by decide) ?_
  refine V_iadd 164 dL_law_164 ?_
  refine V_sld 165 hX hbl hbA ?_ dL_law_165 ?_
  · exact hi1
  refine V_aload_0 166 dL_law_166 ?_
  refine V_iload_3 167 dL_law_167 ?_
  refine V_iconst 168 (2) dL_law_168 (by decide) ?_
  refine V_iadd 169 dL_law_169 ?_
  refine V_sld 170 hX hbl hbA ?_ dL_law_170 ?_
  · exact hi2
  refine V_aload_0 171 dL_law_171 ?_
  refine V_iload_3 172 dL_law_172 ?_
  refine V_iconst 173 (3) dL_law_173 (by decide) ?_
  refine V_iadd 174 dL_law_174 ?_
  refine V_sld 175 hX hbl hbA ?_ dL_law_175 ?_
  · exact hi3
  refine V_aload_0 176 dL_law_176 ?_
  refine V_iload_3 177 dL_law_177 ?_
  refine V_iconst 178 (4) dL_law_178 (by decide) ?_
  refine V_iadd 179 dL_law_179 ?_
  refine V_sld 180 hX hbl hbA ?_ dL_law_180 ?_
  · exact hi4
  refine V_aload_0 181 dL_law_181 ?_
  refine V_iload_3 182 dL_law_182 ?_
  refine V_iconst 183 (5) dL_law_183 (by decide) ?_
  refine V_iadd 184 dL_law_184 ?_
  refine V_sld 185 hX hbl hbA ?_ dL_law_185 ?_
  · exact hi5
  refine V_callV 186 (ci := 11) [.int _, .int _, .int _, .int _, .int _] _ (s_feed l _ S1 I1 _ _ _ _ _) dL_law_186 cb_X11_feed ml_RL_13 im_yX11_feed se_yX11_feed (F1.m 0 (Nat.le_of_ble_eq_true rfl)) (F1.k 0 11 rfl) (Nat.le_of_ble_eq_true rfl) ⟨(Nat.le_of_ble_eq_true rfl), (Nat.le_of_ble_eq_true rfl)⟩ rfl rfl (Nat.le_of_ble_eq_true rfl) ⟨(Nat.le_of_ble_eq_true rfl), (Nat.le_of_ble_eq_true rfl)⟩ (RI.go (fun r1 S4 h1 => ?_))
  refine V_pop 189 dL_law_189 rfl ?_
  refine lv_swap (b2 := n0 + sN S4) (by omega) ?_
  refine V_aload_2 190 dL_law_190 ?_
  refine V_aload_0 191 dL_law_191 ?_
  refine V_iload_3 192 dL_law_192 ?_
  refine V_iconst 193 (1) dL_law_193 (by decide) ?_
  refine V_iadd 194 dL_law_194 ?_
  refine V_sld 195 hX hbl hbA ?_ dL_law_195 ?_
  · exact hi1
  refine V_aload_0 196 dL_law_196 ?_
  refine V_iload_3 197 dL_law_197 ?_
  refine V_iconst 198 (2) dL_law_198 (by decide) ?_
  refine V_iadd 199 dL_law_199 ?_
  refine V_sld 200 hX hbl hbA ?_ dL_law_200 ?_
  · exact hi2
  refine V_aload_0 201 dL_law_201 ?_
  refine V_iload_3 202 dL_law_202 ?_
  refine V_iconst 203 (3) dL_law_203 (by decide) ?_
  refine V_iadd 204 dL_law_204 ?_
  refine V_sld 205 hX hbl hbA ?_ dL_law_205 ?_
  · exact hi3
  refine V_aload_0 206 dL_law_206 ?_
  refine V_iload_3 207 dL_law_207 ?_
  refine V_iconst 208 (4) dL_law_208 (by decide) ?_
  refine V_iadd 209 dL_law_209 ?_
  refine V_sld 210 hX hbl hbA ?_ dL_law_210 ?_
  · exact hi4
  refine V_aload_0 211 dL_law_211 ?_
  refine V_iload_3 212 dL_law_212 ?_
  refine V_iconst 213 (5) dL_law_213 (by decide) ?_
  refine V_iadd 214 dL_law_214 ?_
  refine V_sld 215 hX hbl hbA ?_ dL_law_215 ?_
  · exact hi5
  refine V_callV 216 (ci := 12) [.int _, .int _, .int _, .int _, .int _] _ (s_mfeed l _ S3 I3 _ _ _ _ _) dL_law_216 cb_X12_feed ml_RL_17 im_yX12_feed se_yX12_feed (F3.m 0 (Nat.le_of_ble_eq_true rfl)) (F3.k 0 12 rfl) (Nat.le_of_ble_eq_true rfl) ⟨(Nat.le_of_ble_eq_true rfl), (Nat.le_of_ble_eq_true rfl)⟩ rfl rfl (Nat.le_of_ble_eq_true rfl) ⟨(Nat.le_of_ble_eq_true rfl), (Nat.le_of_ble_eq_true rfl)⟩ (RI.go (fun r2 S5 h2 => ?_))
  refine V_pop 219 dL_law_219 rfl ?_
  refine V_goto 220 884 dL_law_220 (by decide) ?_
  exact K S4 S5 _ _ _ (h1.2.mono (by omega)) h2.2
set_option maxRecDepth 100000 in
set_option maxHeartbeats 4000000 in
theorem law_back {n0 n1 h mm r tp : Nat} {g : MG} {T : Int32} {S1 S3 : PS} (H : LH s meth b L xs) (hr : 6 * r + 6 ≤ L) (I1 : IV n0 h (9 + 4 * r) T S1) (I3 : MV n1 mm g tp S3) (hn : n1 ≤ n0 + sN S1) (K : ∀ (S1 S3 : PS) (T : Int32) (g : MG) (tp : Nat), IV n0 h (9 + 4 * (r + 1)) T S1 → MV n1 mm g tp S3 → LQ p l e s m below meth c b cy G kS vS n0 n1 h mm (nI (6 * r)) 884 S1 S3) : LQ p l e s m below meth c b cy G kS vS n0 n1 h mm (nI (6 * r)) 223 S1 S3 := by
  obtain ⟨hret, hX, hbl, hL⟩ := H
  have hbA : ¬ s.heap.size ≤ b := Nat.not_le.mpr hbl
  have hi1 : vp_in (nI (6 * r) + 1) L := vpN (eqAdd rfl (show (1 : Int32) = nI 1 from rfl)) (by omega) (by omega)
  refine lv_swap (b2 := n0 + sN S3) (by omega) ?_
  have F1 := I1.f
  have F3 := I3.f
  refine V_aload_1 223 dL_law_223 ?_
  refine V_aload_0 224 dL_law_224 ?_
  refine V_iload_3 225 dL_law_225 ?_
  refine V_iconst 226 (1) dL_law_226 (by decide) ?_
  refine V_iadd 227 dL_law_227 ?_
  refine V_sld 228 hX hbl hbA ?_ dL_law_228 ?_
  · exact hi1
  refine V_callV 229 (ci := 11) [.int _] _ (s_back l _ S1 I1 _) dL_law_229 cb_X11_back ml_RL_18 im_yX11_back se_yX11_back (F1.m 0 (Nat.le_of_ble_eq_true rfl)) (F1.k 0 11 rfl) (Nat.le_of_ble_eq_true rfl) ⟨(Nat.le_of_ble_eq_true rfl), (Nat.le_of_ble_eq_true rfl)⟩ rfl rfl (Nat.le_of_ble_eq_true rfl) ⟨(Nat.le_of_ble_eq_true rfl), (Nat.le_of_ble_eq_true rfl)⟩ (RI.go (fun r1 S4 h1 => ?_))
  refine V_pop 232 dL_law_232 rfl ?_
  refine lv_swap (b2 := n0 + sN S4) (by omega) ?_
  refine V_aload_2 233 dL_law_233 ?_
  refine V_aload_0 234 dL_law_234 ?_
  refine V_iload_3 235 dL_law_235 ?_
  refine V_iconst 236 (1) dL_law_236 (by decide) ?_
  refine V_iadd 237 dL_law_237 ?_
  refine V_sld 238 hX hbl hbA ?_ dL_law_238 ?_
  · exact hi1
  refine V_callV 239 (ci := 12) [.int _] _ (s_mback l _ S3 I3 _) dL_law_239 cb_X12_back ml_RL_22 im_yX12_back se_yX12_back (F3.m 0 (Nat.le_of_ble_eq_true rfl)) (F3.k 0 12 rfl) (Nat.le_of_ble_eq_true rfl) ⟨(Nat.le_of_ble_eq_true rfl), (Nat.le_of_ble_eq_true rfl)⟩ rfl rfl (Nat.le_of_ble_eq_true rfl) ⟨(Nat.le_of_ble_eq_true rfl), (Nat.le_of_ble_eq_true rfl)⟩ (RI.go (fun r2 S5 h2 => ?_))
  refine V_pop 242 dL_law_242 rfl ?_
  refine V_goto 243 884 dL_law_243 (by decide) ?_
  obtain ⟨tp2, -, -, h2⟩ := h2
  exact K S4 S5 _ _ _ (h1.2.mono (by omega)) h2
set_option maxRecDepth 100000 in
set_option maxHeartbeats 4000000 in
theorem law_read {n0 n1 h mm r tp : Nat} {g : MG} {T : Int32} {S1 S3 : PS} (H : LH s meth b L xs) (hr : 6 * r + 6 ≤ L) (I1 : IV n0 h (9 + 4 * r) T S1) (I3 : MV n1 mm g tp S3) (hn : n1 ≤ n0 + sN S1) (K : ∀ (S1 S3 : PS) (T : Int32) (g : MG) (tp : Nat), IV n0 h (9 + 4 * (r + 1)) T S1 → MV n1 mm g tp S3 → LQ p l e s m below meth c b cy G kS vS n0 n1 h mm (nI (6 * r)) 884 S1 S3) : LQ p l e s m below meth c b cy G kS vS n0 n1 h mm (nI (6 * r)) 246 S1 S3 := by
  obtain ⟨hret, hX, hbl, hL⟩ := H
  have hbA : ¬ s.heap.size ≤ b := Nat.not_le.mpr hbl
  refine lv_swap (b2 := n0 + sN S3) (by omega) ?_
  have F1 := I1.f
  have F3 := I3.f
  refine V_aload_1 246 dL_law_246 ?_
  refine V_callV 247 (ci := 11) [] _ (s_read l _ S1 I1 (by omega)) dL_law_247 cb_X11_read ml_RL_23 im_yX11_read se_yX11_read (F1.m 0 (Nat.le_of_ble_eq_true rfl)) (F1.k 0 11 rfl) (Nat.le_of_ble_eq_true rfl) ⟨(Nat.le_of_ble_eq_true rfl), (Nat.le_of_ble_eq_true rfl)⟩ rfl rfl (Nat.le_of_ble_eq_true rfl) ⟨(Nat.le_of_ble_eq_true rfl), (Nat.le_of_ble_eq_true rfl)⟩ (RI.go (fun r1 S4 h1 => ?_))
  refine V_pop 250 dL_law_250 rfl ?_
  refine lv_swap (b2 := n0 + sN S4) (by omega) ?_
  refine V_aload_2 251 dL_law_251 ?_
  refine V_callV 252 (ci := 12) [] _ (s_mread l _ S3 I3) dL_law_252 cb_X12_read ml_RL_27 im_yX12_read se_yX12_read (F3.m 0 (Nat.le_of_ble_eq_true rfl)) (F3.k 0 12 rfl) (Nat.le_of_ble_eq_true rfl) ⟨(Nat.le_of_ble_eq_true rfl), (Nat.le_of_ble_eq_true rfl)⟩ rfl rfl (Nat.le_of_ble_eq_true rfl) ⟨(Nat.le_of_ble_eq_true rfl), (Nat.le_of_ble_eq_true rfl)⟩ (RI.go (fun r2 S5 h2 => ?_))
  refine V_pop 255 dL_law_255 rfl ?_
  refine V_goto 256 884 dL_law_256 (by decide) ?_
  obtain ⟨g2, h2⟩ := h2
  exact K S4 S5 _ _ _ (h1.mono (by omega)) h2
set_option maxRecDepth 100000 in
set_option maxHeartbeats 4000000 in
theorem law_place {n0 n1 h mm r tp : Nat} {g : MG} {T : Int32} {S1 S3 : PS} (H : LH s meth b L xs) (hr : 6 * r + 6 ≤ L) (I1 : IV n0 h (9 + 4 * r) T S1) (I3 : MV n1 mm g tp S3) (hn : n1 ≤ n0 + sN S1) (K : ∀ (S1 S3 : PS) (T : Int32) (g : MG) (tp : Nat), IV n0 h (9 + 4 * (r + 1)) T S1 → MV n1 mm g tp S3 → LQ p l e s m below meth c b cy G kS vS n0 n1 h mm (nI (6 * r)) 884 S1 S3) : LQ p l e s m below meth c b cy G kS vS n0 n1 h mm (nI (6 * r)) 259 S1 S3 := by
  obtain ⟨hret, hX, hbl, hL⟩ := H
  have hbA : ¬ s.heap.size ≤ b := Nat.not_le.mpr hbl
  refine lv_swap (b2 := n0 + sN S3) (by omega) ?_
  have F1 := I1.f
  have F3 := I3.f
  refine V_aload_1 259 dL_law_259 ?_
  refine V_callV 260 (ci := 11) [] _ (s_place l _ S1 I1) dL_law_260 cb_X11_place ml_RL_28 im_yX11_place se_yX11_place (F1.m 0 (Nat.le_of_ble_eq_true rfl)) (F1.k 0 11 rfl) (Nat.le_of_ble_eq_true rfl) ⟨(Nat.le_of_ble_eq_true rfl), (Nat.le_of_ble_eq_true rfl)⟩ rfl rfl (Nat.le_of_ble_eq_true rfl) ⟨(Nat.le_of_ble_eq_true rfl), (Nat.le_of_ble_eq_true rfl)⟩ (RI.go (fun r1 S4 h1 => ?_))
  refine V_pop 263 dL_law_263 rfl ?_
  refine lv_swap (b2 := n0 + sN S4) (by omega) ?_
  refine V_aload_2 264 dL_law_264 ?_
  refine V_callV 265 (ci := 12) [] _ (s_mplace l _ S3 I3) dL_law_265 cb_X12_place ml_RL_31 im_yX12_place se_yX12_place (F3.m 0 (Nat.le_of_ble_eq_true rfl)) (F3.k 0 12 rfl) (Nat.le_of_ble_eq_true rfl) ⟨(Nat.le_of_ble_eq_true rfl), (Nat.le_of_ble_eq_true rfl)⟩ rfl rfl (Nat.le_of_ble_eq_true rfl) ⟨(Nat.le_of_ble_eq_true rfl), (Nat.le_of_ble_eq_true rfl)⟩ (RI.go (fun r2 S5 h2 => ?_))
  refine V_pop 268 dL_law_268 rfl ?_
  refine V_goto 269 884 dL_law_269 (by decide) ?_
  exact K S4 S5 _ _ _ (h1.mono (by omega)) h2
set_option maxRecDepth 100000 in
set_option maxHeartbeats 4000000 in
theorem law_kind {n0 n1 h mm r tp : Nat} {g : MG} {T : Int32} {S1 S3 : PS} (H : LH s meth b L xs) (hr : 6 * r + 6 ≤ L) (I1 : IV n0 h (9 + 4 * r) T S1) (I3 : MV n1 mm g tp S3) (hn : n1 ≤ n0 + sN S1) (K : ∀ (S1 S3 : PS) (T : Int32) (g : MG) (tp : Nat), IV n0 h (9 + 4 * (r + 1)) T S1 → MV n1 mm g tp S3 → LQ p l e s m below meth c b cy G kS vS n0 n1 h mm (nI (6 * r)) 884 S1 S3) : LQ p l e s m below meth c b cy G kS vS n0 n1 h mm (nI (6 * r)) 272 S1 S3 := by
  obtain ⟨hret, hX, hbl, hL⟩ := H
  have hbA : ¬ s.heap.size ≤ b := Nat.not_le.mpr hbl
  have hi1 : vp_in (nI (6 * r) + 1) L := vpN (eqAdd rfl (show (1 : Int32) = nI 1 from rfl)) (by omega) (by omega)
  have hi2 : vp_in (nI (6 * r) + 2) L := vpN (eqAdd rfl (show (2 : Int32) = nI 2 from rfl)) (by omega) (by omega)
  refine lv_swap (b2 := n0 + sN S3) (by omega) ?_
  have F1 := I1.f
  have F3 := I3.f
  refine V_aload_1 272 dL_law_272 ?_
  refine V_aload_0 273 dL_law_273 ?_
  refine V_iload_3 274 dL_law_274 ?_
  refine V_iconst 275 (1) dL_law_275 (by decide) ?_
  refine V_iadd 276 dL_law_276 ?_
  refine V_sld 277 hX hbl hbA ?_ dL_law_277 ?_
  · exact hi1
  refine V_aload_0 278 dL_law_278 ?_
  refine V_iload_3 279 dL_law_279 ?_
  refine V_iconst 280 (2) dL_law_280 (by decide) ?_
  refine V_iadd 281 dL_law_281 ?_
  refine V_sld 282 hX hbl hbA ?_ dL_law_282 ?_
  · exact hi2
  refine V_callV 283 (ci := 11) [.int _, .int _] _ (s_kind l _ S1 I1 _ _) dL_law_283 cb_X11_kind ml_RL_32 im_yX11_kind se_yX11_kind (F1.m 0 (Nat.le_of_ble_eq_true rfl)) (F1.k 0 11 rfl) (Nat.le_of_ble_eq_true rfl) ⟨(Nat.le_of_ble_eq_true rfl), (Nat.le_of_ble_eq_true rfl)⟩ rfl rfl (Nat.le_of_ble_eq_true rfl) ⟨(Nat.le_of_ble_eq_true rfl), (Nat.le_of_ble_eq_true rfl)⟩ (RI.go (fun r1 S4 h1 => ?_))
  refine V_pop 286 dL_law_286 rfl ?_
  refine lv_swap (b2 := n0 + sN S4) (by omega) ?_
  refine V_aload_2 287 dL_law_287 ?_
  refine V_aload_0 288 dL_law_288 ?_
  refine V_iload_3 289 dL_law_289 ?_
  refine V_iconst 290 (1) dL_law_290 (by decide) ?_
  refine V_iadd 291 dL_law_291 ?_
  refine V_sld 292 hX hbl hbA ?_ dL_law_292 ?_
  · exact hi1
  refine V_aload_0 293 dL_law_293 ?_
  refine V_iload_3 294 dL_law_294 ?_
  refine V_iconst 295 (2) dL_law_295 (by decide) ?_
  refine V_iadd 296 dL_law_296 ?_
  refine V_sld 297 hX hbl hbA ?_ dL_law_297 ?_
  · exact hi2
  refine V_callV 298 (ci := 12) [.int _, .int _] _ (s_mkind l _ S3 I3 _ _) dL_law_298 cb_X12_kind ml_RL_36 im_yX12_kind se_yX12_kind (F3.m 0 (Nat.le_of_ble_eq_true rfl)) (F3.k 0 12 rfl) (Nat.le_of_ble_eq_true rfl) ⟨(Nat.le_of_ble_eq_true rfl), (Nat.le_of_ble_eq_true rfl)⟩ rfl rfl (Nat.le_of_ble_eq_true rfl) ⟨(Nat.le_of_ble_eq_true rfl), (Nat.le_of_ble_eq_true rfl)⟩ (RI.go (fun r2 S5 h2 => ?_))
  refine V_pop 301 dL_law_301 rfl ?_
  refine V_goto 302 884 dL_law_302 (by decide) ?_
  exact K S4 S5 _ _ _ (h1.mono (by omega)) h2
set_option maxRecDepth 100000 in
set_option maxHeartbeats 4000000 in
theorem law_unlike {n0 n1 h mm r tp : Nat} {g : MG} {T : Int32} {S1 S3 : PS} (H : LH s meth b L xs) (hr : 6 * r + 6 ≤ L) (I1 : IV n0 h (9 + 4 * r) T S1) (I3 : MV n1 mm g tp S3) (hn : n1 ≤ n0 + sN S1) (K : ∀ (S1 S3 : PS) (T : Int32) (g : MG) (tp : Nat), IV n0 h (9 + 4 * (r + 1)) T S1 → MV n1 mm g tp S3 → LQ p l e s m below meth c b cy G kS vS n0 n1 h mm (nI (6 * r)) 884 S1 S3) : LQ p l e s m below meth c b cy G kS vS n0 n1 h mm (nI (6 * r)) 305 S1 S3 := by
  obtain ⟨hret, hX, hbl, hL⟩ := H
  have hbA : ¬ s.heap.size ≤ b := Nat.not_le.mpr hbl
  have hi1 : vp_in (nI (6 * r) + 1) L := vpN (eqAdd rfl (show (1 : Int32) = nI 1 from rfl)) (by omega) (by omega)
  have hi2 : vp_in (nI (6 * r) + 2) L := vpN (eqAdd rfl (show (2 : Int32) = nI 2 from rfl)) (by omega) (by omega)
  refine lv_swap (b2 := n0 + sN S3) (by omega) ?_
  have F1 := I1.f
  have F3 := I3.f
  refine V_aload_1 305 dL_law_305 ?_
  refine V_aload_0 306 dL_law_306 ?_
  refine V_iload_3 307 dL_law_307 ?_
  refine V_iconst 308 (1) dL_law_308 (by decide) ?_
  refine V_iadd 309 dL_law_309 ?_
  refine V_sld 310 hX hbl hbA ?_ dL_law_310 ?_
  · exact hi1
  refine V_aload_0 311 dL_law_311 ?_
  refine V_iload_3 312 dL_law_312 ?_
  refine V_iconst 313 (2) dL_law_313 (by decide) ?_
  refine V_iadd 314 dL_law_314 ?_
  refine V_sld 315 hX hbl hbA ?_ dL_law_315 ?_
  · exact hi2
  refine V_callV 316 (ci := 11) [.int _, .int _] _ (s_unlike l _ S1 I1 _ _) dL_law_316 cb_X11_unlike ml_RL_37 im_yX11_unlike se_yX11_unlike (F1.m 0 (Nat.le_of_ble_eq_true rfl)) (F1.k 0 11 rfl) (Nat.le_of_ble_eq_true rfl) ⟨(Nat.le_of_ble_eq_true rfl), (Nat.le_of_ble_eq_true rfl)⟩ rfl rfl (Nat.le_of_ble_eq_true rfl) ⟨(Nat.le_of_ble_eq_true rfl), (Nat.le_of_ble_eq_true rfl)⟩ (RI.go (fun r1 S4 h1 => ?_))
  refine V_pop 319 dL_law_319 rfl ?_
  refine lv_swap (b2 := n0 + sN S4) (by omega) ?_
  refine V_aload_2 320 dL_law_320 ?_
  refine V_aload_0 321 dL_law_321 ?_
  refine V_iload_3 322 dL_law_322 ?_
  refine V_iconst 323 (1) dL_law_323 (by decide) ?_
  refine V_iadd 324 dL_law_324 ?_
  refine V_sld 325 hX hbl hbA ?_ dL_law_325 ?_
  · exact hi1
  refine V_aload_0 326 dL_law_326 ?_
  refine V_iload_3 327 dL_law_327 ?_
  refine V_iconst 328 (2) dL_law_328 (by decide) ?_
  refine V_iadd 329 dL_law_329 ?_
  refine V_sld 330 hX hbl hbA ?_ dL_law_330 ?_
  · exact hi2
  refine V_callV 331 (ci := 12) [.int _, .int _] _ (s_munlike l _ S3 I3 _ _) dL_law_331 cb_X12_unlike ml_RL_40 im_yX12_unlike se_yX12_unlike (F3.m 0 (Nat.le_of_ble_eq_true rfl)) (F3.k 0 12 rfl) (Nat.le_of_ble_eq_true rfl) ⟨(Nat.le_of_ble_eq_true rfl), (Nat.le_of_ble_eq_true rfl)⟩ rfl rfl (Nat.le_of_ble_eq_true rfl) ⟨(Nat.le_of_ble_eq_true rfl), (Nat.le_of_ble_eq_true rfl)⟩ (RI.go (fun r2 S5 h2 => ?_))
  refine V_pop 334 dL_law_334 rfl ?_
  refine V_goto 335 884 dL_law_335 (by decide) ?_
  exact K S4 S5 _ _ _ (h1.mono (by omega)) h2
set_option maxRecDepth 100000 in
set_option maxHeartbeats 4000000 in
theorem law_draw {n0 n1 h mm r tp : Nat} {g : MG} {T : Int32} {S1 S3 : PS} (H : LH s meth b L xs) (hr : 6 * r + 6 ≤ L) (I1 : IV n0 h (9 + 4 * r) T S1) (I3 : MV n1 mm g tp S3) (hn : n1 ≤ n0 + sN S1) (K : ∀ (S1 S3 : PS) (T : Int32) (g : MG) (tp : Nat), IV n0 h (9 + 4 * (r + 1)) T S1 → MV n1 mm g tp S3 → LQ p l e s m below meth c b cy G kS vS n0 n1 h mm (nI (6 * r)) 884 S1 S3) : LQ p l e s m below meth c b cy G kS vS n0 n1 h mm (nI (6 * r)) 338 S1 S3 := by
  obtain ⟨hret, hX, hbl, hL⟩ := H
  have hbA : ¬ s.heap.size ≤ b := Nat.not_le.mpr hbl
  have hi1 : vp_in (nI (6 * r) + 1) L := vpN (eqAdd rfl (show (1 : Int32) = nI 1 from rfl)) (by omega) (by omega)
  refine lv_swap (b2 := n0 + sN S3) (by omega) ?_
  have F1 := I1.f
  have F3 := I3.f
  refine V_aload_1 338 dL_law_338 ?_
  refine V_aload_0 339 dL_law_339 ?_
  refine V_iload_3 340 dL_law_340 ?_
  refine V_iconst 341 (1) dL_law_341 (by decide) ?_
  refine V_iadd 342 dL_law_342 ?_
  refine V_sld 343 hX hbl hbA ?_ dL_law_343 ?_
  · exact hi1
  refine V_callV 344 (ci := 11) [.int _] _ (s_draw l _ S1 I1 (by omega) _) dL_law_344 cb_X11_draw ml_RL_41 im_yX11_draw se_yX11_draw (F1.m 0 (Nat.le_of_ble_eq_true rfl)) (F1.k 0 11 rfl) (Nat.le_of_ble_eq_true rfl) ⟨(Nat.le_of_ble_eq_true rfl), (Nat.le_of_ble_eq_true rfl)⟩ rfl rfl (Nat.le_of_ble_eq_true rfl) ⟨(Nat.le_of_ble_eq_true rfl), (Nat.le_of_ble_eq_true rfl)⟩ (RI.go (fun r1 S4 h1 => ?_))
  refine V_pop 347 dL_law_347 rfl ?_
  refine lv_swap (b2 := n0 + sN S4) (by omega) ?_
  refine V_aload_2 348 dL_law_348 ?_
  refine V_aload_0 349 dL_law_349 ?_
  refine V_iload_3 350 dL_law_350 ?_
  refine V_iconst 351 (1) dL_law_351 (by decide) ?_
  refine V_iadd 352 dL_law_352 ?_
  refine V_sld 353 hX hbl hbA ?_ dL_law_353 ?_
  · exact hi1
  refine V_callV 354 (ci := 12) [.int _] _ (s_mdraw l _ S3 I3 _) dL_law_354 cb_X12_draw ml_RL_44 im_yX12_draw se_yX12_draw (F3.m 0 (Nat.le_of_ble_eq_true rfl)) (F3.k 0 12 rfl) (Nat.le_of_ble_eq_true rfl) ⟨(Nat.le_of_ble_eq_true rfl), (Nat.le_of_ble_eq_true rfl)⟩ rfl rfl (Nat.le_of_ble_eq_true rfl) ⟨(Nat.le_of_ble_eq_true rfl), (Nat.le_of_ble_eq_true rfl)⟩ (RI.go (fun r2 S5 h2 => ?_))
  refine V_pop 357 dL_law_357 rfl ?_
  refine V_goto 358 884 dL_law_358 (by decide) ?_
  exact K S4 S5 _ _ _ h1 h2
set_option maxRecDepth 100000 in
set_option maxHeartbeats 4000000 in
theorem law_lot {n0 n1 h mm r tp : Nat} {g : MG} {T : Int32} {S1 S3 : PS} (H : LH s meth b L xs) (hr : 6 * r + 6 ≤ L) (I1 : IV n0 h (9 + 4 * r) T S1) (I3 : MV n1 mm g tp S3) (hn : n1 ≤ n0 + sN S1) (K : ∀ (S1 S3 : PS) (T : Int32) (g : MG) (tp : Nat), IV n0 h (9 + 4 * (r + 1)) T S1 → MV n1 mm g tp S3 → LQ p l e s m below meth c b cy G kS vS n0 n1 h mm (nI (6 * r)) 884 S1 S3) : LQ p l e s m below meth c b cy G kS vS n0 n1 h mm (nI (6 * r)) 361 S1 S3 := by
  obtain ⟨hret, hX, hbl, hL⟩ := H
  have hbA : ¬ s.heap.size ≤ b := Nat.not_le.mpr hbl
  refine lv_swap (b2 := n0 + sN S3) (by omega) ?_
  have F1 := I1.f
  have F3 := I3.f
  refine V_aload_1 361 dL_law_361 ?_
  refine V_callV 362 (ci := 11) [] _ (s_lot l _ S1 I1 (by omega)) dL_law_362 cb_X11_lot ml_RL_45 im_yX11_lot se_yX11_lot (F1.m 0 (Nat.le_of_ble_eq_true rfl)) (F1.k 0 11 rfl) (Nat.le_of_ble_eq_true rfl) ⟨(Nat.le_of_ble_eq_true rfl), (Nat.le_of_ble_eq_true rfl)⟩ rfl rfl (Nat.le_of_ble_eq_true rfl) ⟨(Nat.le_of_ble_eq_true rfl), (Nat.le_of_ble_eq_true rfl)⟩ (RI.go (fun r1 S4 h1 => ?_))
  refine V_pop 365 dL_law_365 rfl ?_
  refine lv_swap (b2 := n0 + sN S4) (by omega) ?_
  refine V_aload_2 366 dL_law_366 ?_
  refine V_callV 367 (ci := 12) [] _ (s_mlot l _ S3 I3) dL_law_367 cb_X12_lot ml_RL_48 im_yX12_lot se_yX12_lot (F3.m 0 (Nat.le_of_ble_eq_true rfl)) (F3.k 0 12 rfl) (Nat.le_of_ble_eq_true rfl) ⟨(Nat.le_of_ble_eq_true rfl), (Nat.le_of_ble_eq_true rfl)⟩ rfl rfl (Nat.le_of_ble_eq_true rfl) ⟨(Nat.le_of_ble_eq_true rfl), (Nat.le_of_ble_eq_true rfl)⟩ (RI.go (fun r2 S5 h2 => ?_))
  refine V_pop 370 dL_law_370 rfl ?_
  refine V_goto 371 884 dL_law_371 (by decide) ?_
  exact K S4 S5 _ _ _ h1 h2
set_option maxRecDepth 100000 in
set_option maxHeartbeats 4000000 in
theorem law_take {n0 n1 h mm r tp : Nat} {g : MG} {T : Int32} {S1 S3 : PS} (H : LH s meth b L xs) (hr : 6 * r + 6 ≤ L) (I1 : IV n0 h (9 + 4 * r) T S1) (I3 : MV n1 mm g tp S3) (hn : n1 ≤ n0 + sN S1) (K : ∀ (S1 S3 : PS) (T : Int32) (g : MG) (tp : Nat), IV n0 h (9 + 4 * (r + 1)) T S1 → MV n1 mm g tp S3 → LQ p l e s m below meth c b cy G kS vS n0 n1 h mm (nI (6 * r)) 884 S1 S3) : LQ p l e s m below meth c b cy G kS vS n0 n1 h mm (nI (6 * r)) 374 S1 S3 := by
  obtain ⟨hret, hX, hbl, hL⟩ := H
  have hbA : ¬ s.heap.size ≤ b := Nat.not_le.mpr hbl
  have hi1 : vp_in (nI (6 * r) + 1) L := vpN (eqAdd rfl (show (1 : Int32) = nI 1 from rfl)) (by omega) (by omega)
  refine lv_swap (b2 := n0 + sN S3) (by omega) ?_
  have F1 := I1.f
  have F3 := I3.f
  refine V_aload_1 374 dL_law_374 ?_
  refine V_aload_0 375 dL_law_375 ?_
  refine V_iload_3 376 dL_law_376 ?_
  refine V_iconst 377 (1) dL_law_377 (by decide) ?_
  refine V_iadd 378 dL_law_378 ?_
  refine V_sld 379 hX hbl hbA ?_ dL_law_379 ?_
  · exact hi1
  refine V_callV 380 (ci := 11) [.int _] _ (s_take l _ S1 I1 (by omega) _) dL_law_380 cb_X11_take ml_RL_49 im_yX11_take se_yX11_take (F1.m 0 (Nat.le_of_ble_eq_true rfl)) (F1.k 0 11 rfl) (Nat.le_of_ble_eq_true rfl) ⟨(Nat.le_of_ble_eq_true rfl), (Nat.le_of_ble_eq_true rfl)⟩ rfl rfl (Nat.le_of_ble_eq_true rfl) ⟨(Nat.le_of_ble_eq_true rfl), (Nat.le_of_ble_eq_true rfl)⟩ (RI.go (fun r1 S4 h1 => ?_))
  refine V_pop 383 dL_law_383 rfl ?_
  refine lv_swap (b2 := n0 + sN S4) (by omega) ?_
  refine V_aload_2 384 dL_law_384 ?_
  refine V_aload_0 385 dL_law_385 ?_
  refine V_iload_3 386 dL_law_386 ?_
  refine V_iconst 387 (1) dL_law_387 (by decide) ?_
  refine V_iadd 388 dL_law_388 ?_
  refine V_sld 389 hX hbl hbA ?_ dL_law_389 ?_
  · exact hi1
  refine V_callV 390 (ci := 12) [.int _] _ (s_mtake l _ S3 I3 _) dL_law_390 cb_X12_take ml_RL_53 im_yX12_take se_yX12_take (F3.m 0 (Nat.le_of_ble_eq_true rfl)) (F3.k 0 12 rfl) (Nat.le_of_ble_eq_true rfl) ⟨(Nat.le_of_ble_eq_true rfl), (Nat.le_of_ble_eq_true rfl)⟩ rfl rfl (Nat.le_of_ble_eq_true rfl) ⟨(Nat.le_of_ble_eq_true rfl), (Nat.le_of_ble_eq_true rfl)⟩ (RI.go (fun r2 S5 h2 => ?_))
  refine V_pop 393 dL_law_393 rfl ?_
  refine V_goto 394 884 dL_law_394 (by decide) ?_
  exact K S4 S5 _ _ _ h1 h2
set_option maxRecDepth 100000 in
set_option maxHeartbeats 4000000 in
theorem law_undo {n0 n1 h mm r tp : Nat} {g : MG} {T : Int32} {S1 S3 : PS} (H : LH s meth b L xs) (hr : 6 * r + 6 ≤ L) (I1 : IV n0 h (9 + 4 * r) T S1) (I3 : MV n1 mm g tp S3) (hn : n1 ≤ n0 + sN S1) (K : ∀ (S1 S3 : PS) (T : Int32) (g : MG) (tp : Nat), IV n0 h (9 + 4 * (r + 1)) T S1 → MV n1 mm g tp S3 → LQ p l e s m below meth c b cy G kS vS n0 n1 h mm (nI (6 * r)) 884 S1 S3) : LQ p l e s m below meth c b cy G kS vS n0 n1 h mm (nI (6 * r)) 397 S1 S3 := by
  obtain ⟨hret, hX, hbl, hL⟩ := H
  have hbA : ¬ s.heap.size ≤ b := Nat.not_le.mpr hbl
  refine lv_swap (b2 := n0 + sN S3) (by omega) ?_
  have F1 := I1.f
  have F3 := I3.f
  refine V_aload_1 397 dL_law_397 ?_
  refine V_callV 398 (ci := 11) [] _ (s_undo l _ S1 I1) dL_law_398 cb_X11_undo ml_RL_54 im_yX11_undo se_yX11_undo (F1.m 0 (Nat.le_of_ble_eq_true rfl)) (F1.k 0 11 rfl) (Nat.le_of_ble_eq_true rfl) ⟨(Nat.le_of_ble_eq_true rfl), (Nat.le_of_ble_eq_true rfl)⟩ rfl rfl (Nat.le_of_ble_eq_true rfl) ⟨(Nat.le_of_ble_eq_true rfl), (Nat.le_of_ble_eq_true rfl)⟩ (RI.go (fun r1 S4 h1 => ?_))
  refine V_pop 401 dL_law_401 rfl ?_
  refine lv_swap (b2 := n0 + sN S4) (by omega) ?_
  refine V_aload_2 402 dL_law_402 ?_
  refine V_callV 403 (ci := 12) [] _ (s_mundo l _ S3 I3) dL_law_403 cb_X12_undo ml_RL_58 im_yX12_undo se_yX12_undo (F3.m 0 (Nat.le_of_ble_eq_true rfl)) (F3.k 0 12 rfl) (Nat.le_of_ble_eq_true rfl) ⟨(Nat.le_of_ble_eq_true rfl), (Nat.le_of_ble_eq_true rfl)⟩ rfl rfl (Nat.le_of_ble_eq_true rfl) ⟨(Nat.le_of_ble_eq_true rfl), (Nat.le_of_ble_eq_true rfl)⟩ (RI.go (fun r2 S5 h2 => ?_))
  refine V_pop 406 dL_law_406 rfl ?_
  refine V_goto 407 884 dL_law_407 (by decide) ?_
  exact K S4 S5 _ _ _ (h1.mono (by omega)) h2
set_option maxRecDepth 100000 in
set_option maxHeartbeats 4000000 in
theorem law_within {n0 n1 h mm r tp : Nat} {g : MG} {T : Int32} {S1 S3 : PS} (H : LH s meth b L xs) (hr : 6 * r + 6 ≤ L) (I1 : IV n0 h (9 + 4 * r) T S1) (I3 : MV n1 mm g tp S3) (hn : n1 ≤ n0 + sN S1) (K : ∀ (S1 S3 : PS) (T : Int32) (g : MG) (tp : Nat), IV n0 h (9 + 4 * (r + 1)) T S1 → MV n1 mm g tp S3 → LQ p l e s m below meth c b cy G kS vS n0 n1 h mm (nI (6 * r)) 884 S1 S3) : LQ p l e s m below meth c b cy G kS vS n0 n1 h mm (nI (6 * r)) 410 S1 S3 := by
  obtain ⟨hret, hX, hbl, hL⟩ := H
  have hbA : ¬ s.heap.size ≤ b := Nat.not_le.mpr hbl
  have hi1 : vp_in (nI (6 * r) + 1) L := vpN (eqAdd rfl (show (1 : Int32) = nI 1 from rfl)) (by omega) (by omega)
  refine lv_swap (b2 := n0 + sN S3) (by omega) ?_
  have F1 := I1.f
  have F3 := I3.f
  refine V_aload_1 410 dL_law_410 ?_
  refine V_aload_0 411 dL_law_411 ?_
  refine V_iload_3 412 dL_law_412 ?_
  refine V_iconst 413 (1) dL_law_413 (by decide) ?_
  refine V_iadd 414 dL_law_414 ?_
  refine V_sld 415 hX hbl hbA ?_ dL_law_415 ?_
  · exact hi1
  refine V_callV 416 (ci := 11) [.int _] _ (s_within l _ S1 I1 (by omega) _) dL_law_416 cb_X11_within ml_RL_59 im_yX11_within se_yX11_within (F1.m 0 (Nat.le_of_ble_eq_true rfl)) (F1.k 0 11 rfl) (Nat.le_of_ble_eq_true rfl) ⟨(Nat.le_of_ble_eq_true rfl), (Nat.le_of_ble_eq_true rfl)⟩ rfl rfl (Nat.le_of_ble_eq_true rfl) ⟨(Nat.le_of_ble_eq_true rfl), (Nat.le_of_ble_eq_true rfl)⟩ (RLg.go (fun r1 S4 h1 => ?_))
  refine V_pop2 419 dL_law_419 rfl ?_
  refine lv_swap (b2 := n0 + sN S4) (by omega) ?_
  refine V_aload_2 420 dL_law_420 ?_
  refine V_aload_0 421 dL_law_421 ?_
  refine V_iload_3 422 dL_law_422 ?_
  refine V_iconst 423 (1) dL_law_423 (by decide) ?_
  refine V_iadd 424 dL_law_424 ?_
  refine V_sld 425 hX hbl hbA ?_ dL_law_425 ?_
  · exact hi1
  refine V_callV 426 (ci := 12) [.int _] _ (s_mwithin l _ S3 I3 _) dL_law_426 cb_X12_within ml_RL_63 im_yX12_within se_yX12_within (F3.m 0 (Nat.le_of_ble_eq_true rfl)) (F3.k 0 12 rfl) (Nat.le_of_ble_eq_true rfl) ⟨(Nat.le_of_ble_eq_true rfl), (Nat.le_of_ble_eq_true rfl)⟩ rfl rfl (Nat.le_of_ble_eq_true rfl) ⟨(Nat.le_of_ble_eq_true rfl), (Nat.le_of_ble_eq_true rfl)⟩ (RLg.go (fun r2 S5 h2 => ?_))
  refine V_pop2 429 dL_law_429 rfl ?_
  refine V_goto 430 884 dL_law_430 (by decide) ?_
  exact K S4 S5 _ _ _ (h1.mono (by omega)) h2
set_option maxRecDepth 100000 in
set_option maxHeartbeats 4000000 in
theorem law_lies {n0 n1 h mm r tp : Nat} {g : MG} {T : Int32} {S1 S3 : PS} (H : LH s meth b L xs) (hr : 6 * r + 6 ≤ L) (I1 : IV n0 h (9 + 4 * r) T S1) (I3 : MV n1 mm g tp S3) (hn : n1 ≤ n0 + sN S1) (K : ∀ (S1 S3 : PS) (T : Int32) (g : MG) (tp : Nat), IV n0 h (9 + 4 * (r + 1)) T S1 → MV n1 mm g tp S3 → LQ p l e s m below meth c b cy G kS vS n0 n1 h mm (nI (6 * r)) 884 S1 S3) : LQ p l e s m below meth c b cy G kS vS n0 n1 h mm (nI (6 * r)) 433 S1 S3 := by
  obtain ⟨hret, hX, hbl, hL⟩ := H
  have hbA : ¬ s.heap.size ≤ b := Nat.not_le.mpr hbl
  have hi1 : vp_in (nI (6 * r) + 1) L := vpN (eqAdd rfl (show (1 : Int32) = nI 1 from rfl)) (by omega) (by omega)
  refine lv_swap (b2 := n0 + sN S3) (by omega) ?_
  have F1 := I1.f
  have F3 := I3.f
  refine V_aload_1 433 dL_law_433 ?_
  refine V_aload_0 434 dL_law_434 ?_
  refine V_iload_3 435 dL_law_435 ?_
  refine V_iconst 436 (1) dL_law_436 (by decide) ?_
  refine V_iadd 437 dL_law_437 ?_
  refine V_sld 438 hX hbl hbA ?_ dL_law_438 ?_
  · exact hi1
  refine V_callV 439 (ci := 11) [.int _] _ (s_lies l _ S1 I1 (by omega) _) dL_law_439 cb_X11_lies ml_RL_64 im_yX11_lies se_yX11_lies (F1.m 0 (Nat.le_of_ble_eq_true rfl)) (F1.k 0 11 rfl) (Nat.le_of_ble_eq_true rfl) ⟨(Nat.le_of_ble_eq_true rfl), (Nat.le_of_ble_eq_true rfl)⟩ rfl rfl (Nat.le_of_ble_eq_true rfl) ⟨(Nat.le_of_ble_eq_true rfl), (Nat.le_of_ble_eq_true rfl)⟩ (RLg.go (fun r1 S4 h1 => ?_))
  refine V_pop2 442 dL_law_442 rfl ?_
  refine lv_swap (b2 := n0 + sN S4) (by omega) ?_
  refine V_aload_2 443 dL_law_443 ?_
  refine V_aload_0 444 dL_law_444 ?_
  refine V_iload_3 445 dL_law_445 ?_
  refine V_iconst 446 (1) dL_law_446 (by decide) ?_
  refine V_iadd 447 dL_law_447 ?_
  refine V_sld 448 hX hbl hbA ?_ dL_law_448 ?_
  · exact hi1
  refine V_callV 449 (ci := 12) [.int _] _ (s_mlies l _ S3 I3 _) dL_law_449 cb_X12_lies ml_RL_67 im_yX12_lies se_yX12_lies (F3.m 0 (Nat.le_of_ble_eq_true rfl)) (F3.k 0 12 rfl) (Nat.le_of_ble_eq_true rfl) ⟨(Nat.le_of_ble_eq_true rfl), (Nat.le_of_ble_eq_true rfl)⟩ rfl rfl (Nat.le_of_ble_eq_true rfl) ⟨(Nat.le_of_ble_eq_true rfl), (Nat.le_of_ble_eq_true rfl)⟩ (RLg.go (fun r2 S5 h2 => ?_))
  refine V_pop2 452 dL_law_452 rfl ?_
  refine V_goto 453 884 dL_law_453 (by decide) ?_
  exact K S4 S5 _ _ _ (h1.mono (by omega)) h2
set_option maxRecDepth 100000 in
set_option maxHeartbeats 4000000 in
theorem law_mosts {n0 n1 h mm r tp : Nat} {g : MG} {T : Int32} {S1 S3 : PS} (H : LH s meth b L xs) (hr : 6 * r + 6 ≤ L) (I1 : IV n0 h (9 + 4 * r) T S1) (I3 : MV n1 mm g tp S3) (hn : n1 ≤ n0 + sN S1) (K : ∀ (S1 S3 : PS) (T : Int32) (g : MG) (tp : Nat), IV n0 h (9 + 4 * (r + 1)) T S1 → MV n1 mm g tp S3 → LQ p l e s m below meth c b cy G kS vS n0 n1 h mm (nI (6 * r)) 884 S1 S3) : LQ p l e s m below meth c b cy G kS vS n0 n1 h mm (nI (6 * r)) 456 S1 S3 := by
  obtain ⟨hret, hX, hbl, hL⟩ := H
  have hbA : ¬ s.heap.size ≤ b := Nat.not_le.mpr hbl
  refine lv_swap (b2 := n0 + sN S3) (by omega) ?_
  have F1 := I1.f
  have F3 := I3.f
  refine V_aload_1 456 dL_law_456 ?_
  refine V_callV 457 (ci := 11) [] _ (s_mosts l _ S1 I1 (by omega)) dL_law_457 cb_X11_mosts ml_RL_68 im_yX11_mosts se_yX11_mosts (F1.m 0 (Nat.le_of_ble_eq_true rfl)) (F1.k 0 11 rfl) (Nat.le_of_ble_eq_true rfl) ⟨(Nat.le_of_ble_eq_true rfl), (Nat.le_of_ble_eq_true rfl)⟩ rfl rfl (Nat.le_of_ble_eq_true rfl) ⟨(Nat.le_of_ble_eq_true rfl), (Nat.le_of_ble_eq_true rfl)⟩ (RLg.go (fun r1 S4 h1 => ?_))
  refine V_pop2 460 dL_law_460 rfl ?_
  refine lv_swap (b2 := n0 + sN S4) (by omega) ?_
  refine V_aload_2 461 dL_law_461 ?_
  refine V_callV 462 (ci := 12) [] _ (s_mmosts l _ S3 I3) dL_law_462 cb_X12_mosts ml_RL_72 im_yX12_mosts se_yX12_mosts (F3.m 0 (Nat.le_of_ble_eq_true rfl)) (F3.k 0 12 rfl) (Nat.le_of_ble_eq_true rfl) ⟨(Nat.le_of_ble_eq_true rfl), (Nat.le_of_ble_eq_true rfl)⟩ rfl rfl (Nat.le_of_ble_eq_true rfl) ⟨(Nat.le_of_ble_eq_true rfl), (Nat.le_of_ble_eq_true rfl)⟩ (RLg.go (fun r2 S5 h2 => ?_))
  refine V_pop2 465 dL_law_465 rfl ?_
  refine V_goto 466 884 dL_law_466 (by decide) ?_
  exact K S4 S5 _ _ _ (h1.mono (by omega)) h2
set_option maxRecDepth 100000 in
set_option maxHeartbeats 4000000 in
theorem law_sure {n0 n1 h mm r tp : Nat} {g : MG} {T : Int32} {S1 S3 : PS} (H : LH s meth b L xs) (hr : 6 * r + 6 ≤ L) (I1 : IV n0 h (9 + 4 * r) T S1) (I3 : MV n1 mm g tp S3) (hn : n1 ≤ n0 + sN S1) (K : ∀ (S1 S3 : PS) (T : Int32) (g : MG) (tp : Nat), IV n0 h (9 + 4 * (r + 1)) T S1 → MV n1 mm g tp S3 → LQ p l e s m below meth c b cy G kS vS n0 n1 h mm (nI (6 * r)) 884 S1 S3) : LQ p l e s m below meth c b cy G kS vS n0 n1 h mm (nI (6 * r)) 469 S1 S3 := by
  obtain ⟨hret, hX, hbl, hL⟩ := H
  have hbA : ¬ s.heap.size ≤ b := Nat.not_le.mpr hbl
  have hi1 : vp_in (nI (6 * r) + 1) L := vpN (eqAdd rfl (show (1 : Int32) = nI 1 from rfl)) (by omega) (by omega)
  have hi2 : vp_in (nI (6 * r) + 2) L := vpN (eqAdd rfl (show (2 : Int32) = nI 2 from rfl)) (by omega) (by omega)
  refine lv_swap (b2 := n0 + sN S3) (by omega) ?_
  have F1 := I1.f
  have F3 := I3.f
  refine V_aload_1 469 dL_law_469 ?_
  refine V_aload_0 470 dL_law_470 ?_
  refine V_iload_3 471 dL_law_471 ?_
  refine V_iconst 472 (1) dL_law_472 (by decide) ?_
  refine V_iadd 473 dL_law_473 ?_
  refine V_sld 474 hX hbl hbA ?_ dL_law_474 ?_
  · exact hi1
  refine V_aload_0 475 dL_law_475 ?_
  refine V_iload_3 476 dL_law_476 ?_
  refine V_iconst 477 (2) dL_law_477 (by decide) ?_
  refine V_iadd 478 dL_law_478 ?_
  refine V_sld 479 hX hbl hbA ?_ dL_law_479 ?_
  · exact hi2
  refine V_callV 480 (ci := 11) [.int _, .int _] _ (s_sure l _ S1 I1 (by omega) _ _) dL_law_480 cb_X11_sure ml_RL_73 im_yX11_sure se_yX11_sure (F1.m 0 (Nat.le_of_ble_eq_true rfl)) (F1.k 0 11 rfl) (Nat.le_of_ble_eq_true rfl) ⟨(Nat.le_of_ble_eq_true rfl), (Nat.le_of_ble_eq_true rfl)⟩ rfl rfl (Nat.le_of_ble_eq_true rfl) ⟨(Nat.le_of_ble_eq_true rfl), (Nat.le_of_ble_eq_true rfl)⟩ (RI.go (fun r1 S4 h1 => ?_))
  refine V_pop 483 dL_law_483 rfl ?_
  refine lv_swap (b2 := n0 + sN S4) (by omega) ?_
  refine V_aload_2 484 dL_law_484 ?_
  refine V_aload_0 485 dL_law_485 ?_
  refine V_iload_3 486 dL_law_486 ?_
  refine V_iconst 487 (1) dL_law_487 (by decide) ?_
  refine V_iadd 488 dL_law_488 ?_
  refine V_sld 489 hX hbl hbA ?_ dL_law_489 ?_
  · exact hi1
  refine V_aload_0 490 dL_law_490 ?_
  refine V_iload_3 491 dL_law_491 ?_
  refine V_iconst 492 (2) dL_law_492 (by decide) ?_
  refine V_iadd 493 dL_law_493 ?_
  refine V_sld 494 hX hbl hbA ?_ dL_law_494 ?_
  · exact hi2
  refine V_callV 495 (ci := 12) [.int _, .int _] _ (s_msure l _ S3 I3 _ _) dL_law_495 cb_X12_sure ml_RL_76 im_yX12_sure se_yX12_sure (F3.m 0 (Nat.le_of_ble_eq_true rfl)) (F3.k 0 12 rfl) (Nat.le_of_ble_eq_true rfl) ⟨(Nat.le_of_ble_eq_true rfl), (Nat.le_of_ble_eq_true rfl)⟩ rfl rfl (Nat.le_of_ble_eq_true rfl) ⟨(Nat.le_of_ble_eq_true rfl), (Nat.le_of_ble_eq_true rfl)⟩ (RI.go (fun r2 S5 h2 => ?_))
  refine V_pop 498 dL_law_498 rfl ?_
  refine V_goto 499 884 dL_law_499 (by decide) ?_
  exact K S4 S5 _ _ _ (h1.mono (by omega)) h2
set_option maxRecDepth 100000 in
set_option maxHeartbeats 4000000 in
theorem law_evening {n0 n1 h mm r tp : Nat} {g : MG} {T : Int32} {S1 S3 : PS} (H : LH s meth b L xs) (hr : 6 * r + 6 ≤ L) (I1 : IV n0 h (9 + 4 * r) T S1) (I3 : MV n1 mm g tp S3) (hn : n1 ≤ n0 + sN S1) (K : ∀ (S1 S3 : PS) (T : Int32) (g : MG) (tp : Nat), IV n0 h (9 + 4 * (r + 1)) T S1 → MV n1 mm g tp S3 → LQ p l e s m below meth c b cy G kS vS n0 n1 h mm (nI (6 * r)) 884 S1 S3) : LQ p l e s m below meth c b cy G kS vS n0 n1 h mm (nI (6 * r)) 502 S1 S3 := by
  obtain ⟨hret, hX, hbl, hL⟩ := H
  have hbA : ¬ s.heap.size ≤ b := Nat.not_le.mpr hbl
  have hi1 : vp_in (nI (6 * r) + 1) L := vpN (eqAdd rfl (show (1 : Int32) = nI 1 from rfl)) (by omega) (by omega)
  refine lv_swap (b2 := n0 + sN S3) (by omega) ?_
  have F1 := I1.f
  have F3 := I3.f
  refine V_aload_1 502 dL_law_502 ?_
  refine V_aload_0 503 dL_law_503 ?_
  refine V_iload_3 504 dL_law_504 ?_
  refine V_iconst 505 (1) dL_law_505 (by decide) ?_
  refine V_iadd 506 dL_law_506 ?_
  refine V_sld 507 hX hbl hbA ?_ dL_law_507 ?_
  · exact hi1
  refine V_callV 508 (ci := 11) [.int _] _ (s_evening l _ S1 I1 _) dL_law_508 cb_X11_evening ml_RL_77 im_yX11_evening se_yX11_evening (F1.m 0 (Nat.le_of_ble_eq_true rfl)) (F1.k 0 11 rfl) (Nat.le_of_ble_eq_true rfl) ⟨(Nat.le_of_ble_eq_true rfl), (Nat.le_of_ble_eq_true rfl)⟩ rfl rfl (Nat.le_of_ble_eq_true rfl) ⟨(Nat.le_of_ble_eq_true rfl), (Nat.le_of_ble_eq_true rfl)⟩ (RI.go (fun r1 S4 h1 => ?_))
  refine V_pop 511 dL_law_511 rfl ?_
  refine lv_swap (b2 := n0 + sN S4) (by omega) ?_
  refine V_aload_2 512 dL_law_512 ?_
  refine V_aload_0 513 dL_law_513 ?_
  refine V_iload_3 514 dL_law_514 ?_
  refine V_iconst 515 (1) dL_law_515 (by decide) ?_
  refine V_iadd 516 dL_law_516 ?_
  refine V_sld 517 hX hbl hbA ?_ dL_law_517 ?_
  · exact hi1
  refine V_callV 518 (ci := 12) [.int _] _ (s_mevening l _ S3 I3 _) dL_law_518 cb_X12_evening ml_RL_80 im_yX12_evening se_yX12_evening (F3.m 0 (Nat.le_of_ble_eq_true rfl)) (F3.k 0 12 rfl) (Nat.le_of_ble_eq_true rfl) ⟨(Nat.le_of_ble_eq_true rfl), (Nat.le_of_ble_eq_true rfl)⟩ rfl rfl (Nat.le_of_ble_eq_true rfl) ⟨(Nat.le_of_ble_eq_true rfl), (Nat.le_of_ble_eq_true rfl)⟩ (RI.go (fun r2 S5 h2 => ?_))
  refine V_pop 521 dL_law_521 rfl ?_
  refine V_goto 522 884 dL_law_522 (by decide) ?_
  exact K S4 S5 _ _ _ (h1.mono (by omega)) h2
set_option maxRecDepth 100000 in
set_option maxHeartbeats 4000000 in
theorem law_soonest {n0 n1 h mm r tp : Nat} {g : MG} {T : Int32} {S1 S3 : PS} (H : LH s meth b L xs) (hr : 6 * r + 6 ≤ L) (I1 : IV n0 h (9 + 4 * r) T S1) (I3 : MV n1 mm g tp S3) (hn : n1 ≤ n0 + sN S1) (K : ∀ (S1 S3 : PS) (T : Int32) (g : MG) (tp : Nat), IV n0 h (9 + 4 * (r + 1)) T S1 → MV n1 mm g tp S3 → LQ p l e s m below meth c b cy G kS vS n0 n1 h mm (nI (6 * r)) 884 S1 S3) : LQ p l e s m below meth c b cy G kS vS n0 n1 h mm (nI (6 * r)) 525 S1 S3 := by
  obtain ⟨hret, hX, hbl, hL⟩ := H
  have hbA : ¬ s.heap.size ≤ b := Nat.not_le.mpr hbl
  have hi1 : vp_in (nI (6 * r) + 1) L := vpN (eqAdd rfl (show (1 : Int32) = nI 1 from rfl)) (by omega) (by omega)
  have hi2 : vp_in (nI (6 * r) + 2) L := vpN (eqAdd rfl (show (2 : Int32) = nI 2 from rfl)) (by omega) (by omega)
  refine lv_swap (b2 := n0 + sN S3) (by omega) ?_
  have F1 := I1.f
  have F3 := I3.f
  refine V_aload_1 525 dL_law_525 ?_
  refine V_aload_0 526 dL_law_526 ?_
  refine V_iload_3 527 dL_law_527 ?_
  refine V_iconst 528 (1) dL_law_528 (by decide) ?_
  refine V_iadd 529 dL_law_529 ?_
  refine V_sld 530 hX hbl hbA ?_ dL_law_530 ?_
  · exact hi1
  refine V_aload_0 531 dL_law_531 ?_
  refine V_iload_3 532 dL_law_532 ?_
  refine V_iconst 533 (2) dL_law_533 (by decide) ?_
  refine V_iadd 534 dL_law_534 ?_
  refine V_sld 535 hX hbl hbA ?_ dL_law_535 ?_
  · exact hi2
  refine V_callV 536 (ci := 11) [.int _, .int _] _ (s_soonest l _ S1 I1 _ _) dL_law_536 cb_X11_soonest ml_RL_81 im_yX11_soonest se_yX11_soonest (F1.m 0 (Nat.le_of_ble_eq_true rfl)) (F1.k 0 11 rfl) (Nat.le_of_ble_eq_true rfl) ⟨(Nat.le_of_ble_eq_true rfl), (Nat.le_of_ble_eq_true rfl)⟩ rfl rfl (Nat.le_of_ble_eq_true rfl) ⟨(Nat.le_of_ble_eq_true rfl), (Nat.le_of_ble_eq_true rfl)⟩ (RI.go (fun r1 S4 h1 => ?_))
  refine V_pop 539 dL_law_539 rfl ?_
  refine lv_swap (b2 := n0 + sN S4) (by omega) ?_
  refine V_aload_2 540 dL_law_540 ?_
  refine V_aload_0 541 dL_law_541 ?_
  refine V_iload_3 542 dL_law_542 ?_
  refine V_iconst 543 (1) dL_law_543 (by decide) ?_
  refine V_iadd 544 dL_law_544 ?_
  refine V_sld 545 hX hbl hbA ?_ dL_law_545 ?_
  · exact hi1
  refine V_aload_0 546 dL_law_546 ?_
  refine V_iload_3 547 dL_law_547 ?_
  refine V_iconst 548 (2) dL_law_548 (by decide) ?_
  refine V_iadd 549 dL_law_549 ?_
  refine V_sld 550 hX hbl hbA ?_ dL_law_550 ?_
  · exact hi2
  refine V_callV 551 (ci := 12) [.int _, .int _] _ (s_msoonest l _ S3 I3 _ _) dL_law_551 cb_X12_soonest ml_RL_84 im_yX12_soonest se_yX12_soonest (F3.m 0 (Nat.le_of_ble_eq_true rfl)) (F3.k 0 12 rfl) (Nat.le_of_ble_eq_true rfl) ⟨(Nat.le_of_ble_eq_true rfl), (Nat.le_of_ble_eq_true rfl)⟩ rfl rfl (Nat.le_of_ble_eq_true rfl) ⟨(Nat.le_of_ble_eq_true rfl), (Nat.le_of_ble_eq_true rfl)⟩ (RI.go (fun r2 S5 h2 => ?_))
  refine V_pop 554 dL_law_554 rfl ?_
  refine V_goto 555 884 dL_law_555 (by decide) ?_
  exact K S4 S5 _ _ _ (h1.mono (by omega)) h2
set_option maxRecDepth 100000 in
set_option maxHeartbeats 4000000 in
theorem law_line {n0 n1 h mm r tp : Nat} {g : MG} {T : Int32} {S1 S3 : PS} (H : LH s meth b L xs) (hr : 6 * r + 6 ≤ L) (I1 : IV n0 h (9 + 4 * r) T S1) (I3 : MV n1 mm g tp S3) (hn : n1 ≤ n0 + sN S1) (K : ∀ (S1 S3 : PS) (T : Int32) (g : MG) (tp : Nat), IV n0 h (9 + 4 * (r + 1)) T S1 → MV n1 mm g tp S3 → LQ p l e s m below meth c b cy G kS vS n0 n1 h mm (nI (6 * r)) 884 S1 S3) : LQ p l e s m below meth c b cy G kS vS n0 n1 h mm (nI (6 * r)) 558 S1 S3 := by
  obtain ⟨hret, hX, hbl, hL⟩ := H
  have hbA : ¬ s.heap.size ≤ b := Nat.not_le.mpr hbl
  refine lv_swap (b2 := n0 + sN S3) (by omega) ?_
  have F1 := I1.f
  have F3 := I3.f
  refine V_aload_1 558 dL_law_558 ?_
  refine V_callV 559 (ci := 11) [] _ (s_line l _ S1 I1) dL_law_559 cb_X11_line ml_RL_85 im_yX11_line se_yX11_line (F1.m 0 (Nat.le_of_ble_eq_true rfl)) (F1.k 0 11 rfl) (Nat.le_of_ble_eq_true rfl) ⟨(Nat.le_of_ble_eq_true rfl), (Nat.le_of_ble_eq_true rfl)⟩ rfl rfl (Nat.le_of_ble_eq_true rfl) ⟨(Nat.le_of_ble_eq_true rfl), (Nat.le_of_ble_eq_true rfl)⟩ (RI.go (fun r1 S4 h1 => ?_))
  refine V_pop 562 dL_law_562 rfl ?_
  refine lv_swap (b2 := n0 + sN S4) (by omega) ?_
  refine V_aload_2 563 dL_law_563 ?_
  refine V_callV 564 (ci := 12) [] _ (s_mline l _ S3 I3) dL_law_564 cb_X12_line ml_RL_88 im_yX12_line se_yX12_line (F3.m 0 (Nat.le_of_ble_eq_true rfl)) (F3.k 0 12 rfl) (Nat.le_of_ble_eq_true rfl) ⟨(Nat.le_of_ble_eq_true rfl), (Nat.le_of_ble_eq_true rfl)⟩ rfl rfl (Nat.le_of_ble_eq_true rfl) ⟨(Nat.le_of_ble_eq_true rfl), (Nat.le_of_ble_eq_true rfl)⟩ (RI.go (fun r2 S5 h2 => ?_))
  refine V_pop 567 dL_law_567 rfl ?_
  refine V_goto 568 884 dL_law_568 (by decide) ?_
  exact K S4 S5 _ _ _ (h1.mono (by omega)) h2
set_option maxRecDepth 100000 in
set_option maxHeartbeats 4000000 in
theorem law_exchange {n0 n1 h mm r tp : Nat} {g : MG} {T : Int32} {S1 S3 : PS} (H : LH s meth b L xs) (hr : 6 * r + 6 ≤ L) (I1 : IV n0 h (9 + 4 * r) T S1) (I3 : MV n1 mm g tp S3) (hn : n1 ≤ n0 + sN S1) (K : ∀ (S1 S3 : PS) (T : Int32) (g : MG) (tp : Nat), IV n0 h (9 + 4 * (r + 1)) T S1 → MV n1 mm g tp S3 → LQ p l e s m below meth c b cy G kS vS n0 n1 h mm (nI (6 * r)) 884 S1 S3) : LQ p l e s m below meth c b cy G kS vS n0 n1 h mm (nI (6 * r)) 571 S1 S3 := by
  obtain ⟨hret, hX, hbl, hL⟩ := H
  have hbA : ¬ s.heap.size ≤ b := Nat.not_le.mpr hbl
  have hi1 : vp_in (nI (6 * r) + 1) L := vpN (eqAdd rfl (show (1 : Int32) = nI 1 from rfl)) (by omega) (by omega)
  refine lv_swap (b2 := n0 + sN S3) (by omega) ?_
  have F1 := I1.f
  have F3 := I3.f
  refine V_aload_1 571 dL_law_571 ?_
  refine V_aload_0 572 dL_law_572 ?_
  refine V_iload_3 573 dL_law_573 ?_
  refine V_iconst 574 (1) dL_law_574 (by decide) ?_
  refine V_iadd 575 dL_law_575 ?_
  refine V_sld 576 hX hbl hbA ?_ dL_law_576 ?_
  · exact hi1
  refine V_callV 577 (ci := 11) [.int _] _ (s_exchange l _ S1 I1 _) dL_law_577 cb_X11_exchange ml_RL_89 im_yX11_exchange se_yX11_exchange (F1.m 0 (Nat.le_of_ble_eq_true rfl)) (F1.k 0 11 rfl) (Nat.le_of_ble_eq_true rfl) ⟨(Nat.le_of_ble_eq_true rfl), (Nat.le_of_ble_eq_true rfl)⟩ rfl rfl (Nat.le_of_ble_eq_true rfl) ⟨(Nat.le_of_ble_eq_true rfl), (Nat.le_of_ble_eq_true rfl)⟩ (RI.go (fun r1 S4 h1 => ?_))
  refine V_pop 580 dL_law_580 rfl ?_
  refine lv_swap (b2 := n0 + sN S4) (by omega) ?_
  refine V_aload_2 581 dL_law_581 ?_
  refine V_aload_0 582 dL_law_582 ?_
  refine V_iload_3 583 dL_law_583 ?_
  refine V_iconst 584 (1) dL_law_584 (by decide) ?_
  refine V_iadd 585 dL_law_585 ?_
  refine V_sld 586 hX hbl hbA ?_ dL_law_586 ?_
  · exact hi1
  refine V_callV 587 (ci := 12) [.int _] _ (s_mexchange l _ S3 I3 _) dL_law_587 cb_X12_exchange ml_RL_92 im_yX12_exchange se_yX12_exchange (F3.m 0 (Nat.le_of_ble_eq_true rfl)) (F3.k 0 12 rfl) (Nat.le_of_ble_eq_true rfl) ⟨(Nat.le_of_ble_eq_true rfl), (Nat.le_of_ble_eq_true rfl)⟩ rfl rfl (Nat.le_of_ble_eq_true rfl) ⟨(Nat.le_of_ble_eq_true rfl), (Nat.le_of_ble_eq_true rfl)⟩ (RI.go (fun r2 S5 h2 => ?_))
  refine V_pop 590 dL_law_590 rfl ?_
  refine V_goto 591 884 dL_law_591 (by decide) ?_
  exact K S4 S5 _ _ _ (h1.mono (by omega)) h2
set_option maxRecDepth 100000 in
set_option maxHeartbeats 4000000 in
theorem law_odd {n0 n1 h mm r tp : Nat} {g : MG} {T : Int32} {S1 S3 : PS} (H : LH s meth b L xs) (hr : 6 * r + 6 ≤ L) (I1 : IV n0 h (9 + 4 * r) T S1) (I3 : MV n1 mm g tp S3) (hn : n1 ≤ n0 + sN S1) (K : ∀ (S1 S3 : PS) (T : Int32) (g : MG) (tp : Nat), IV n0 h (9 + 4 * (r + 1)) T S1 → MV n1 mm g tp S3 → LQ p l e s m below meth c b cy G kS vS n0 n1 h mm (nI (6 * r)) 884 S1 S3) : LQ p l e s m below meth c b cy G kS vS n0 n1 h mm (nI (6 * r)) 594 S1 S3 := by
  obtain ⟨hret, hX, hbl, hL⟩ := H
  have hbA : ¬ s.heap.size ≤ b := Nat.not_le.mpr hbl
  have hi1 : vp_in (nI (6 * r) + 1) L := vpN (eqAdd rfl (show (1 : Int32) = nI 1 from rfl)) (by omega) (by omega)
  refine lv_swap (b2 := n0 + sN S3) (by omega) ?_
  have F1 := I1.f
  have F3 := I3.f
  refine V_aload_1 594 dL_law_594 ?_
  refine V_aload_0 595 dL_law_595 ?_
  refine V_iload_3 596 dL_law_596 ?_
  refine V_iconst 597 (1) dL_law_597 (by decide) ?_
  refine V_iadd 598 dL_law_598 ?_
  refine V_sld 599 hX hbl hbA ?_ dL_law_599 ?_
  · exact hi1
  refine V_callV 600 (ci := 11) [.int _] _ (s_odd l _ S1 I1 _) dL_law_600 cb_X11_odd ml_RL_93 im_yX11_odd se_yX11_odd (F1.m 0 (Nat.le_of_ble_eq_true rfl)) (F1.k 0 11 rfl) (Nat.le_of_ble_eq_true rfl) ⟨(Nat.le_of_ble_eq_true rfl), (Nat.le_of_ble_eq_true rfl)⟩ rfl rfl (Nat.le_of_ble_eq_true rfl) ⟨(Nat.le_of_ble_eq_true rfl), (Nat.le_of_ble_eq_true rfl)⟩ (RI.go (fun r1 S4 h1 => ?_))
  refine V_pop 603 dL_law_603 rfl ?_
  refine lv_swap (b2 := n0 + sN S4) (by omega) ?_
  refine V_aload_2 604 dL_law_604 ?_
  refine V_aload_0 605 dL_law_605 ?_
  refine V_iload_3 606 dL_law_606 ?_
  refine V_iconst 607 (1) dL_law_607 (by decide) ?_
  refine V_iadd 608 dL_law_608 ?_
  refine V_sld 609 hX hbl hbA ?_ dL_law_609 ?_
  · exact hi1
  refine V_callV 610 (ci := 12) [.int _] _ (s_modd l _ S3 I3 _) dL_law_610 cb_X12_odd ml_RL_96 im_yX12_odd se_yX12_odd (F3.m 0 (Nat.le_of_ble_eq_true rfl)) (F3.k 0 12 rfl) (Nat.le_of_ble_eq_true rfl) ⟨(Nat.le_of_ble_eq_true rfl), (Nat.le_of_ble_eq_true rfl)⟩ rfl rfl (Nat.le_of_ble_eq_true rfl) ⟨(Nat.le_of_ble_eq_true rfl), (Nat.le_of_ble_eq_true rfl)⟩ (RI.go (fun r2 S5 h2 => ?_))
  refine V_pop 613 dL_law_613 rfl ?_
  refine V_goto 614 884 dL_law_614 (by decide) ?_
  exact K S4 S5 _ _ _ (h1.mono (by omega)) h2
set_option maxRecDepth 100000 in
set_option maxHeartbeats 4000000 in
theorem law_lost {n0 n1 h mm r tp : Nat} {g : MG} {T : Int32} {S1 S3 : PS} (H : LH s meth b L xs) (hr : 6 * r + 6 ≤ L) (I1 : IV n0 h (9 + 4 * r) T S1) (I3 : MV n1 mm g tp S3) (hn : n1 ≤ n0 + sN S1) (K : ∀ (S1 S3 : PS) (T : Int32) (g : MG) (tp : Nat), IV n0 h (9 + 4 * (r + 1)) T S1 → MV n1 mm g tp S3 → LQ p l e s m below meth c b cy G kS vS n0 n1 h mm (nI (6 * r)) 884 S1 S3) : LQ p l e s m below meth c b cy G kS vS n0 n1 h mm (nI (6 * r)) 617 S1 S3 := by
  obtain ⟨hret, hX, hbl, hL⟩ := H
  have hbA : ¬ s.heap.size ≤ b := Nat.not_le.mpr hbl
  have hi1 : vp_in (nI (6 * r) + 1) L := vpN (eqAdd rfl (show (1 : Int32) = nI 1 from rfl)) (by omega) (by omega)
  have hi2 : vp_in (nI (6 * r) + 2) L := vpN (eqAdd rfl (show (2 : Int32) = nI 2 from rfl)) (by omega) (by omega)
  have hi3 : vp_in (nI (6 * r) + 3) L := vpN (eqAdd rfl (show (3 : Int32) = nI 3 from rfl)) (by omega) (by omega)
  refine lv_swap (b2 := n0 + sN S3) (by omega) ?_
  have F1 := I1.f
  have F3 := I3.f
  refine V_aload_1 617 dL_law_617 ?_
  refine V_aload_0 618 dL_law_618 ?_
  refine V_iload_3 619 dL_law_619 ?_
  refine V_iconst 620 (1) dL_law_620 (by decide) ?_
  refine V_iadd 621 dL_law_621 ?_
  refine V_sld 622 hX hbl hbA ?_ dL_law_622 ?_
  · exact hi1
  refine V_aload_0 623 dL_law_623 ?_
  refine V_iload_3 624 dL_law_624 ?_
  refine V_iconst 625 (2) dL_law_625 (by decide) ?_
  refine V_iadd 626 dL_law_626 ?_
  refine V_sld 627 hX hbl hbA ?_ dL_law_627 ?_
  · exact hi2
  refine V_aload_0 628 dL_law_628 ?_
  refine V_iload_3 629 dL_law_629 ?_
  refine V_iconst 630 (3) dL_law_630 (by decide) ?_
  refine V_iadd 631 dL_law_631 ?_
  refine V_sld 632 hX hbl hbA ?_ dL_law_632 ?_
  · exact hi3
  refine V_callV 633 (ci := 11) [.int _, .int _, .int _] _ (s_lost l _ S1 I1 (by omega) _ _ _) dL_law_633 cb_X11_lost ml_RL_97 im_yX11_lost se_yX11_lost (F1.m 0 (Nat.le_of_ble_eq_true rfl)) (F1.k 0 11 rfl) (Nat.le_of_ble_eq_true rfl) ⟨(Nat.le_of_ble_eq_true rfl), (Nat.le_of_ble_eq_true rfl)⟩ rfl rfl (Nat.le_of_ble_eq_true rfl) ⟨(Nat.le_of_ble_eq_true rfl), (Nat.le_of_ble_eq_true rfl)⟩ (RLg.go (fun r1 S4 h1 => ?_))
  refine V_pop2 636 dL_law_636 rfl ?_
  refine lv_swap (b2 := n0 + sN S4) (by omega) ?_
  refine V_aload_2 637 dL_law_637 ?_
  refine V_aload_0 638 dL_law_638 ?_
  refine V_iload_3 639 dL_law_639 ?_
  refine V_iconst 640 (1) dL_law_640 (by decide) ?_
  refine V_iadd 641 dL_law_641 ?_
  refine V_sld 642 hX hbl hbA ?_ dL_law_642 ?_
  · exact hi1
  refine V_aload_0 643 dL_law_643 ?_
  refine V_iload_3 644 dL_law_644 ?_
  refine V_iconst 645 (2) dL_law_645 (by decide) ?_
  refine V_iadd 646 dL_law_646 ?_
  refine V_sld 647 hX hbl hbA ?_ dL_law_647 ?_
  · exact hi2
  refine V_aload_0 648 dL_law_648 ?_
  refine V_iload_3 649 dL_law_649 ?_
  refine V_iconst 650 (3) dL_law_650 (by decide) ?_
  refine V_iadd 651 dL_law_651 ?_
  refine V_sld 652 hX hbl hbA ?_ dL_law_652 ?_
  · exact hi3
  refine V_callV 653 (ci := 12) [.int _, .int _, .int _] _ (s_mlost l _ S3 I3 _ _ _) dL_law_653 cb_X12_lost ml_RL_101 im_yX12_lost se_yX12_lost (F3.m 0 (Nat.le_of_ble_eq_true rfl)) (F3.k 0 12 rfl) (Nat.le_of_ble_eq_true rfl) ⟨(Nat.le_of_ble_eq_true rfl), (Nat.le_of_ble_eq_true rfl)⟩ rfl rfl (Nat.le_of_ble_eq_true rfl) ⟨(Nat.le_of_ble_eq_true rfl), (Nat.le_of_ble_eq_true rfl)⟩ (RLg.go (fun r2 S5 h2 => ?_))
  refine V_pop2 656 dL_law_656 rfl ?_
  refine V_goto 657 884 dL_law_657 (by decide) ?_
  exact K S4 S5 _ _ _ (h1.mono (by omega)) h2
set_option maxRecDepth 100000 in
set_option maxHeartbeats 4000000 in
theorem law_years {n0 n1 h mm r tp : Nat} {g : MG} {T : Int32} {S1 S3 : PS} (H : LH s meth b L xs) (hr : 6 * r + 6 ≤ L) (I1 : IV n0 h (9 + 4 * r) T S1) (I3 : MV n1 mm g tp S3) (hn : n1 ≤ n0 + sN S1) (K : ∀ (S1 S3 : PS) (T : Int32) (g : MG) (tp : Nat), IV n0 h (9 + 4 * (r + 1)) T S1 → MV n1 mm g tp S3 → LQ p l e s m below meth c b cy G kS vS n0 n1 h mm (nI (6 * r)) 884 S1 S3) : LQ p l e s m below meth c b cy G kS vS n0 n1 h mm (nI (6 * r)) 660 S1 S3 := by
  obtain ⟨hret, hX, hbl, hL⟩ := H
  have hbA : ¬ s.heap.size ≤ b := Nat.not_le.mpr hbl
  have hi1 : vp_in (nI (6 * r) + 1) L := vpN (eqAdd rfl (show (1 : Int32) = nI 1 from rfl)) (by omega) (by omega)
  have hi2 : vp_in (nI (6 * r) + 2) L := vpN (eqAdd rfl (show (2 : Int32) = nI 2 from rfl)) (by omega) (by omega)
  refine lv_swap (b2 := n0 + sN S3) (by omega) ?_
  have F1 := I1.f
  have F3 := I3.f
  refine V_aload_1 660 dL_law_660 ?_
  refine V_aload_0 661 dL_law_661 ?_
  refine V_iload_3 662 dL_law_662 ?_
  refine V_iconst 663 (1) dL_law_663 (by decide) ?_
  refine V_iadd 664 dL_law_664 ?_
  refine V_sld 665 hX hbl hbA ?_ dL_law_665 ?_
  · exact hi1
  refine V_aload_0 666 dL_law_666 ?_
  refine V_iload_3 667 dL_law_667 ?_
  refine V_iconst 668 (2) dL_law_668 (by decide) ?_
  refine V_iadd 669 dL_law_669 ?_
  refine V_sld 670 hX hbl hbA ?_ dL_law_670 ?_
  · exact hi2
  refine V_callV 671 (ci := 11) [.int _, .int _] _ (s_years l _ S1 I1 _ _) dL_law_671 cb_X11_years ml_RL_102 im_yX11_years se_yX11_years (F1.m 0 (Nat.le_of_ble_eq_true rfl)) (F1.k 0 11 rfl) (Nat.le_of_ble_eq_true rfl) ⟨(Nat.le_of_ble_eq_true rfl), (Nat.le_of_ble_eq_true rfl)⟩ rfl rfl (Nat.le_of_ble_eq_true rfl) ⟨(Nat.le_of_ble_eq_true rfl), (Nat.le_of_ble_eq_true rfl)⟩ (RI.go (fun r1 S4 h1 => ?_))
  refine V_pop 674 dL_law_674 rfl ?_
  refine lv_swap (b2 := n0 + sN S4) (by omega) ?_
  refine V_aload_2 675 dL_law_675 ?_
  refine V_aload_0 676 dL_law_676 ?_
  refine V_iload_3 677 dL_law_677 ?_
  refine V_iconst 678 (1) dL_law_678 (by decide) ?_
  refine V_iadd 679 dL_law_679 ?_
  refine V_sld 680 hX hbl hbA ?_ dL_law_680 ?_
  · exact hi1
  refine V_aload_0 681 dL_law_681 ?_
  refine V_iload_3 682 dL_law_682 ?_
  refine V_iconst 683 (2) dL_law_683 (by decide) ?_
  refine V_iadd 684 dL_law_684 ?_
  refine V_sld 685 hX hbl hbA ?_ dL_law_685 ?_
  · exact hi2
  refine V_callV 686 (ci := 12) [.int _, .int _] _ (s_myears l _ S3 I3 _ _) dL_law_686 cb_X12_years ml_RL_105 im_yX12_years se_yX12_years (F3.m 0 (Nat.le_of_ble_eq_true rfl)) (F3.k 0 12 rfl) (Nat.le_of_ble_eq_true rfl) ⟨(Nat.le_of_ble_eq_true rfl), (Nat.le_of_ble_eq_true rfl)⟩ rfl rfl (Nat.le_of_ble_eq_true rfl) ⟨(Nat.le_of_ble_eq_true rfl), (Nat.le_of_ble_eq_true rfl)⟩ (RI.go (fun r2 S5 h2 => ?_))
  refine V_pop 689 dL_law_689 rfl ?_
  refine V_goto 690 884 dL_law_690 (by decide) ?_
  exact K S4 S5 _ _ _ (h1.mono (by omega)) h2
set_option maxRecDepth 100000 in
set_option maxHeartbeats 4000000 in
theorem law_see {n0 n1 h mm r tp : Nat} {g : MG} {T : Int32} {S1 S3 : PS} (H : LH s meth b L xs) (hr : 6 * r + 6 ≤ L) (I1 : IV n0 h (9 + 4 * r) T S1) (I3 : MV n1 mm g tp S3) (hn : n1 ≤ n0 + sN S1) (K : ∀ (S1 S3 : PS) (T : Int32) (g : MG) (tp : Nat), IV n0 h (9 + 4 * (r + 1)) T S1 → MV n1 mm g tp S3 → LQ p l e s m below meth c b cy G kS vS n0 n1 h mm (nI (6 * r)) 884 S1 S3) : LQ p l e s m below meth c b cy G kS vS n0 n1 h mm (nI (6 * r)) 693 S1 S3 := by
  obtain ⟨hret, hX, hbl, hL⟩ := H
  have hbA : ¬ s.heap.size ≤ b := Nat.not_le.mpr hbl
  have hi1 : vp_in (nI (6 * r) + 1) L := vpN (eqAdd rfl (show (1 : Int32) = nI 1 from rfl)) (by omega) (by omega)
  have hi2 : vp_in (nI (6 * r) + 2) L := vpN (eqAdd rfl (show (2 : Int32) = nI 2 from rfl)) (by omega) (by omega)
  refine lv_swap (b2 := n0 + sN S3) (by omega) ?_
  have F1 := I1.f
  have F3 := I3.f
  refine V_aload_1 693 dL_law_693 ?_
  refine V_aload_0 694 dL_law_694 ?_
  refine V_iload_3 695 dL_law_695 ?_
  refine V_iconst 696 (1) dL_law_696 (by decide) ?_
  refine V_iadd 697 dL_law_697 ?_
  refine V_sld 698 hX hbl hbA ?_ dL_law_698 ?_
  · exact hi1
  refine V_aload_0 699 dL_law_699 ?_
  refine V_iload_3 700 dL_law_700 ?_
  refine V_iconst 701 (2) dL_law_701 (by decide) ?_
  refine V_iadd 702 dL_law_702 ?_
  refine V_sld 703 hX hbl hbA ?_ dL_law_703 ?_
  · exact hi2
  refine V_callV 704 (ci := 11) [.int _, .int _] _ (s_see l _ S1 I1 _ _) dL_law_704 cb_X11_see ml_RL_106 im_yX11_see se_yX11_see (F1.m 0 (Nat.le_of_ble_eq_true rfl)) (F1.k 0 11 rfl) (Nat.le_of_ble_eq_true rfl) ⟨(Nat.le_of_ble_eq_true rfl), (Nat.le_of_ble_eq_true rfl)⟩ rfl rfl (Nat.le_of_ble_eq_true rfl) ⟨(Nat.le_of_ble_eq_true rfl), (Nat.le_of_ble_eq_true rfl)⟩ (RI.go (fun r1 S4 h1 => ?_))
  refine V_pop 707 dL_law_707 rfl ?_
  refine lv_swap (b2 := n0 + sN S4) (by omega) ?_
  refine V_aload_2 708 dL_law_708 ?_
  refine V_aload_0 709 dL_law_709 ?_
  refine V_iload_3 710 dL_law_710 ?_
  refine V_iconst 711 (1) dL_law_711 (by decide) ?_
  refine V_iadd 712 dL_law_712 ?_
  refine V_sld 713 hX hbl hbA ?_ dL_law_713 ?_
  · exact hi1
  refine V_aload_0 714 dL_law_714 ?_
  refine V_iload_3 715 dL_law_715 ?_
  refine V_iconst 716 (2) dL_law_716 (by decide) ?_
  refine V_iadd 717 dL_law_717 ?_
  refine V_sld 718 hX hbl hbA ?_ dL_law_718 ?_
  · exact hi2
  refine V_callV 719 (ci := 12) [.int _, .int _] _ (s_msee l _ S3 I3 _ _) dL_law_719 cb_X12_see ml_RL_109 im_yX12_see se_yX12_see (F3.m 0 (Nat.le_of_ble_eq_true rfl)) (F3.k 0 12 rfl) (Nat.le_of_ble_eq_true rfl) ⟨(Nat.le_of_ble_eq_true rfl), (Nat.le_of_ble_eq_true rfl)⟩ rfl rfl (Nat.le_of_ble_eq_true rfl) ⟨(Nat.le_of_ble_eq_true rfl), (Nat.le_of_ble_eq_true rfl)⟩ (RI.go (fun r2 S5 h2 => ?_))
  refine V_pop 722 dL_law_722 rfl ?_
  refine V_goto 723 884 dL_law_723 (by decide) ?_
  exact K S4 S5 _ _ _ (h1.mono (by omega)) h2
set_option maxRecDepth 100000 in
set_option maxHeartbeats 4000000 in
theorem law_forget {n0 n1 h mm r tp : Nat} {g : MG} {T : Int32} {S1 S3 : PS} (H : LH s meth b L xs) (hr : 6 * r + 6 ≤ L) (I1 : IV n0 h (9 + 4 * r) T S1) (I3 : MV n1 mm g tp S3) (hn : n1 ≤ n0 + sN S1) (K : ∀ (S1 S3 : PS) (T : Int32) (g : MG) (tp : Nat), IV n0 h (9 + 4 * (r + 1)) T S1 → MV n1 mm g tp S3 → LQ p l e s m below meth c b cy G kS vS n0 n1 h mm (nI (6 * r)) 884 S1 S3) : LQ p l e s m below meth c b cy G kS vS n0 n1 h mm (nI (6 * r)) 726 S1 S3 := by
  obtain ⟨hret, hX, hbl, hL⟩ := H
  have hbA : ¬ s.heap.size ≤ b := Nat.not_le.mpr hbl
  refine lv_swap (b2 := n0 + sN S3) (by omega) ?_
  have F1 := I1.f
  have F3 := I3.f
  refine V_aload_1 726 dL_law_726 ?_
  refine V_callV 727 (ci := 11) [] _ (s_forgetIt l _ S1 I1) dL_law_727 cb_X11_forget ml_RL_110 im_yX11_forget se_yX11_forget (F1.m 0 (Nat.le_of_ble_eq_true rfl)) (F1.k 0 11 rfl) (Nat.le_of_ble_eq_true rfl) ⟨(Nat.le_of_ble_eq_true rfl), (Nat.le_of_ble_eq_true rfl)⟩ rfl rfl (Nat.le_of_ble_eq_true rfl) ⟨(Nat.le_of_ble_eq_true rfl), (Nat.le_of_ble_eq_true rfl)⟩ (RI.go (fun r1 S4 h1 => ?_))
  refine V_pop 730 dL_law_730 rfl ?_
  refine lv_swap (b2 := n0 + sN S4) (by omega) ?_
  refine V_aload_2 731 dL_law_731 ?_
  refine V_callV 732 (ci := 12) [] _ (s_mforget l _ S3 I3) dL_law_732 cb_X12_forget ml_RL_113 im_yX12_forget se_yX12_forget (F3.m 0 (Nat.le_of_ble_eq_true rfl)) (F3.k 0 12 rfl) (Nat.le_of_ble_eq_true rfl) ⟨(Nat.le_of_ble_eq_true rfl), (Nat.le_of_ble_eq_true rfl)⟩ rfl rfl (Nat.le_of_ble_eq_true rfl) ⟨(Nat.le_of_ble_eq_true rfl), (Nat.le_of_ble_eq_true rfl)⟩ (RI.go (fun r2 S5 h2 => ?_))
  refine V_pop 735 dL_law_735 rfl ?_
  refine V_goto 736 884 dL_law_736 (by decide) ?_
  exact K S4 S5 _ _ _ (h1.mono (by omega)) h2
set_option maxRecDepth 100000 in
set_option maxHeartbeats 4000000 in
theorem law_rows {n0 n1 h mm r tp : Nat} {g : MG} {T : Int32} {S1 S3 : PS} (H : LH s meth b L xs) (hr : 6 * r + 6 ≤ L) (I1 : IV n0 h (9 + 4 * r) T S1) (I3 : MV n1 mm g tp S3) (hn : n1 ≤ n0 + sN S1) (K : ∀ (S1 S3 : PS) (T : Int32) (g : MG) (tp : Nat), IV n0 h (9 + 4 * (r + 1)) T S1 → MV n1 mm g tp S3 → LQ p l e s m below meth c b cy G kS vS n0 n1 h mm (nI (6 * r)) 884 S1 S3) : LQ p l e s m below meth c b cy G kS vS n0 n1 h mm (nI (6 * r)) 739 S1 S3 := by
  obtain ⟨hret, hX, hbl, hL⟩ := H
  have hbA : ¬ s.heap.size ≤ b := Nat.not_le.mpr hbl
  have hi1 : vp_in (nI (6 * r) + 1) L := vpN (eqAdd rfl (show (1 : Int32) = nI 1 from rfl)) (by omega) (by omega)
  have hi2 : vp_in (nI (6 * r) + 2) L := vpN (eqAdd rfl (show (2 : Int32) = nI 2 from rfl)) (by omega) (by omega)
  refine lv_swap (b2 := n0 + sN S3) (by omega) ?_
  have F1 := I1.f
  have F3 := I3.f
  refine V_aload_1 739 dL_law_739 ?_
  refine V_aload_0 740 dL_law_740 ?_
  refine V_iload_3 741 dL_law_741 ?_
  refine V_iconst 742 (1) dL_law_742 (by decide) ?_
  refine V_iadd 743 dL_law_743 ?_
  refine V_sld 744 hX hbl hbA ?_ dL_law_744 ?_
  · exact hi1
  refine V_aload_0 745 dL_law_745 ?_
  refine V_iload_3 746 dL_law_746 ?_
  refine V_iconst 747 (2) dL_law_747 (by decide) ?_
  refine V_iadd 748 dL_law_748 ?_
  refine V_sld 749 hX hbl hbA ?_ dL_law_749 ?_
  · exact hi2
  refine V_callV 750 (ci := 11) [.int _, .int _] _ (s_rows l _ S1 I1 _ _) dL_law_750 cb_X11_rows ml_RL_114 im_yX11_rows se_yX11_rows (F1.m 0 (Nat.le_of_ble_eq_true rfl)) (F1.k 0 11 rfl) (Nat.le_of_ble_eq_true rfl) ⟨(Nat.le_of_ble_eq_true rfl), (Nat.le_of_ble_eq_true rfl)⟩ rfl rfl (Nat.le_of_ble_eq_true rfl) ⟨(Nat.le_of_ble_eq_true rfl), (Nat.le_of_ble_eq_true rfl)⟩ (RLg.go (fun r1 S4 h1 => ?_))
  refine V_pop2 753 dL_law_753 rfl ?_
  refine lv_swap (b2 := n0 + sN S4) (by omega) ?_
  refine V_aload_2 754 dL_law_754 ?_
  refine V_aload_0 755 dL_law_755 ?_
  refine V_iload_3 756 dL_law_756 ?_
  refine V_iconst 757 (1) dL_law_757 (by decide) ?_
  refine V_iadd 758 dL_law_758 ?_
  refine V_sld 759 hX hbl hbA ?_ dL_law_759 ?_
  · exact hi1
  refine V_aload_0 760 dL_law_760 ?_
  refine V_iload_3 761 dL_law_761 ?_
  refine V_iconst 762 (2) dL_law_762 (by decide) ?_
  refine V_iadd 763 dL_law_763 ?_
  refine V_sld 764 hX hbl hbA ?_ dL_law_764 ?_
  · exact hi2
  refine V_callV 765 (ci := 12) [.int _, .int _] _ (s_mrows l _ S3 I3 _ _) dL_law_765 cb_X12_rows ml_RL_118 im_yX12_rows se_yX12_rows (F3.m 0 (Nat.le_of_ble_eq_true rfl)) (F3.k 0 12 rfl) (Nat.le_of_ble_eq_true rfl) ⟨(Nat.le_of_ble_eq_true rfl), (Nat.le_of_ble_eq_true rfl)⟩ rfl rfl (Nat.le_of_ble_eq_true rfl) ⟨(Nat.le_of_ble_eq_true rfl), (Nat.le_of_ble_eq_true rfl)⟩ (RLg.go (fun r2 S5 h2 => ?_))
  refine V_pop2 768 dL_law_768 rfl ?_
  refine V_goto 769 884 dL_law_769 (by decide) ?_
  exact K S4 S5 _ _ _ (h1.mono (by omega)) h2
set_option maxRecDepth 100000 in
set_option maxHeartbeats 4000000 in
theorem law_span {n0 n1 h mm r tp : Nat} {g : MG} {T : Int32} {S1 S3 : PS} (H : LH s meth b L xs) (hr : 6 * r + 6 ≤ L) (I1 : IV n0 h (9 + 4 * r) T S1) (I3 : MV n1 mm g tp S3) (hn : n1 ≤ n0 + sN S1) (K : ∀ (S1 S3 : PS) (T : Int32) (g : MG) (tp : Nat), IV n0 h (9 + 4 * (r + 1)) T S1 → MV n1 mm g tp S3 → LQ p l e s m below meth c b cy G kS vS n0 n1 h mm (nI (6 * r)) 884 S1 S3) : LQ p l e s m below meth c b cy G kS vS n0 n1 h mm (nI (6 * r)) 772 S1 S3 := by
  obtain ⟨hret, hX, hbl, hL⟩ := H
  have hbA : ¬ s.heap.size ≤ b := Nat.not_le.mpr hbl
  have hi1 : vp_in (nI (6 * r) + 1) L := vpN (eqAdd rfl (show (1 : Int32) = nI 1 from rfl)) (by omega) (by omega)
  have hi2 : vp_in (nI (6 * r) + 2) L := vpN (eqAdd rfl (show (2 : Int32) = nI 2 from rfl)) (by omega) (by omega)
  have hi3 : vp_in (nI (6 * r) + 3) L := vpN (eqAdd rfl (show (3 : Int32) = nI 3 from rfl)) (by omega) (by omega)
  refine lv_swap (b2 := n0 + sN S3) (by omega) ?_
  have F1 := I1.f
  have F3 := I3.f
  refine V_aload_1 772 dL_law_772 ?_
  refine V_aload_0 773 dL_law_773 ?_
  refine V_iload_3 774 dL_law_774 ?_
  refine V_iconst 775 (1) dL_law_775 (by decide) ?_
  refine V_iadd 776 dL_law_776 ?_
  refine V_sld 777 hX hbl hbA ?_ dL_law_777 ?_
  · exact hi1
  refine V_aload_0 778 dL_law_778 ?_
  refine V_iload_3 779 dL_law_779 ?_
  refine V_iconst 780 (2) dL_law_780 (by decide) ?_
  refine V_iadd 781 dL_law_781 ?_
  refine V_sld 782 hX hbl hbA ?_ dL_law_782 ?_
  · exact hi2
  refine V_aload_0 783 dL_law_783 ?_
  refine V_iload_3 784 dL_law_784 ?_
  refine V_iconst 785 (3) dL_law_785 (by decide) ?_
  refine V_iadd 786 dL_law_786 ?_
  refine V_sld 787 hX hbl hbA ?_ dL_law_787 ?_
  · exact hi3
  refine V_callV 788 (ci := 11) [.int _, .int _, .int _] _ (s_span l _ S1 I1 _ _ _) dL_law_788 cb_X11_span ml_RL_119 im_yX11_span se_yX11_span (F1.m 0 (Nat.le_of_ble_eq_true rfl)) (F1.k 0 11 rfl) (Nat.le_of_ble_eq_true rfl) ⟨(Nat.le_of_ble_eq_true rfl), (Nat.le_of_ble_eq_true rfl)⟩ rfl rfl (Nat.le_of_ble_eq_true rfl) ⟨(Nat.le_of_ble_eq_true rfl), (Nat.le_of_ble_eq_true rfl)⟩ (RI.go (fun r1 S4 h1 => ?_))
  refine V_pop 791 dL_law_791 rfl ?_
  refine lv_swap (b2 := n0 + sN S4) (by omega) ?_
  refine V_aload_2 792 dL_law_792 ?_
  refine V_aload_0 793 dL_law_793 ?_
  refine V_iload_3 794 dL_law_794 ?_
  refine V_iconst 795 (1) dL_law_795 (by decide) ?_
  refine V_iadd 796 dL_law_796 ?_
  refine V_sld 797 hX hbl hbA ?_ dL_law_797 ?_
  · exact hi1
  refine V_aload_0 798 dL_law_798 ?_
  refine V_iload_3 799 dL_law_799 ?_
  refine V_iconst 800 (2) dL_law_800 (by decide) ?_
  refine V_iadd 801 dL_law_801 ?_
  refine V_sld 802 hX hbl hbA ?_ dL_law_802 ?_
  · exact hi2
  refine V_aload_0 803 dL_law_803 ?_
  refine V_iload_3 804 dL_law_804 ?_
  refine V_iconst 805 (3) dL_law_805 (by decide) ?_
  refine V_iadd 806 dL_law_806 ?_
  refine V_sld 807 hX hbl hbA ?_ dL_law_807 ?_
  · exact hi3
  refine V_callV 808 (ci := 12) [.int _, .int _, .int _] _ (s_mspan l _ S3 I3 _ _ _) dL_law_808 cb_X12_span ml_RL_123 im_yX12_span se_yX12_span (F3.m 0 (Nat.le_of_ble_eq_true rfl)) (F3.k 0 12 rfl) (Nat.le_of_ble_eq_true rfl) ⟨(Nat.le_of_ble_eq_true rfl), (Nat.le_of_ble_eq_true rfl)⟩ rfl rfl (Nat.le_of_ble_eq_true rfl) ⟨(Nat.le_of_ble_eq_true rfl), (Nat.le_of_ble_eq_true rfl)⟩ (RI.go (fun r2 S5 h2 => ?_))
  refine V_pop 811 dL_law_811 rfl ?_
  refine V_goto 812 884 dL_law_812 (by decide) ?_
  exact K S4 S5 _ _ _ (h1.mono (by omega)) h2
set_option maxRecDepth 100000 in
set_option maxHeartbeats 4000000 in
theorem law_hold {n0 n1 h mm r tp : Nat} {g : MG} {T : Int32} {S1 S3 : PS} (H : LH s meth b L xs) (hr : 6 * r + 6 ≤ L) (I1 : IV n0 h (9 + 4 * r) T S1) (I3 : MV n1 mm g tp S3) (hn : n1 ≤ n0 + sN S1) (K : ∀ (S1 S3 : PS) (T : Int32) (g : MG) (tp : Nat), IV n0 h (9 + 4 * (r + 1)) T S1 → MV n1 mm g tp S3 → LQ p l e s m below meth c b cy G kS vS n0 n1 h mm (nI (6 * r)) 884 S1 S3) : LQ p l e s m below meth c b cy G kS vS n0 n1 h mm (nI (6 * r)) 815 S1 S3 := by
  obtain ⟨hret, hX, hbl, hL⟩ := H
  have hbA : ¬ s.heap.size ≤ b := Nat.not_le.mpr hbl
  have hi1 : vp_in (nI (6 * r) + 1) L := vpN (eqAdd rfl (show (1 : Int32) = nI 1 from rfl)) (by omega) (by omega)
  refine lv_swap (b2 := n0 + sN S3) (by omega) ?_
  have F1 := I1.f
  have F3 := I3.f
  refine V_aload_1 815 dL_law_815 ?_
  refine V_aload_0 816 dL_law_816 ?_
  refine V_iload_3 817 dL_law_817 ?_
  refine V_iconst 818 (1) dL_law_818 (by decide) ?_
  refine V_iadd 819 dL_law_819 ?_
  refine V_sld 820 hX hbl hbA ?_ dL_law_820 ?_
  · exact hi1
  refine V_callV 821 (ci := 11) [.int _] _ (s_hold l _ S1 I1 _) dL_law_821 cb_X11_hold ml_RL_124 im_yX11_hold se_yX11_hold (F1.m 0 (Nat.le_of_ble_eq_true rfl)) (F1.k 0 11 rfl) (Nat.le_of_ble_eq_true rfl) ⟨(Nat.le_of_ble_eq_true rfl), (Nat.le_of_ble_eq_true rfl)⟩ rfl rfl (Nat.le_of_ble_eq_true rfl) ⟨(Nat.le_of_ble_eq_true rfl), (Nat.le_of_ble_eq_true rfl)⟩ (RI.go (fun r1 S4 h1 => ?_))
  refine lv_swap (b2 := n0 + sN S4) (by omega) ?_
  sorry
set_option maxRecDepth 100000 in
set_option maxHeartbeats 4000000 in
theorem law_restore {n0 n1 h mm r tp : Nat} {g : MG} {T : Int32} {S1 S3 : PS} (H : LH s meth b L xs) (hr : 6 * r + 6 ≤ L) (I1 : IV n0 h (9 + 4 * r) T S1) (I3 : MV n1 mm g tp S3) (hn : n1 ≤ n0 + sN S1) (K : ∀ (S1 S3 : PS) (T : Int32) (g : MG) (tp : Nat), IV n0 h (9 + 4 * (r + 1)) T S1 → MV n1 mm g tp S3 → LQ p l e s m below meth c b cy G kS vS n0 n1 h mm (nI (6 * r)) 884 S1 S3) : LQ p l e s m below meth c b cy G kS vS n0 n1 h mm (nI (6 * r)) 838 S1 S3 := by
  obtain ⟨hret, hX, hbl, hL⟩ := H
  have hbA : ¬ s.heap.size ≤ b := Nat.not_le.mpr hbl
  have hi1 : vp_in (nI (6 * r) + 1) L := vpN (eqAdd rfl (show (1 : Int32) = nI 1 from rfl)) (by omega) (by omega)
  refine lv_swap (b2 := n0 + sN S3) (by omega) ?_
  have F1 := I1.f
  have F3 := I3.f
  refine V_aload_1 838 dL_law_838 ?_
  refine V_aload_0 839 dL_law_839 ?_
  refine V_iload_3 840 dL_law_840 ?_
  refine V_iconst 841 (1) dL_law_841 (by decide) ?_
  refine V_iadd 842 dL_law_842 ?_
  refine V_sld 843 hX hbl hbA ?_ dL_law_843 ?_
  · exact hi1
  refine V_callV 844 (ci := 11) [.int _] _ (s_restore l _ S1 I1 _) dL_law_844 cb_X11_restore ml_RL_128 im_yX11_restore se_yX11_restore (F1.m 0 (Nat.le_of_ble_eq_true rfl)) (F1.k 0 11 rfl) (Nat.le_of_ble_eq_true rfl) ⟨(Nat.le_of_ble_eq_true rfl), (Nat.le_of_ble_eq_true rfl)⟩ rfl rfl (Nat.le_of_ble_eq_true rfl) ⟨(Nat.le_of_ble_eq_true rfl), (Nat.le_of_ble_eq_true rfl)⟩ (RI.go (fun r1 S4 h1 => ?_))
  refine V_pop 847 dL_law_847 rfl ?_
  refine lv_swap (b2 := n0 + sN S4) (by omega) ?_
  refine V_aload_2 848 dL_law_848 ?_
  refine V_aload_0 849 dL_law_849 ?_
  refine V_iload_3 850 dL_law_850 ?_
  refine V_iconst 851 (1) dL_law_851 (by decide) ?_
  refine V_iadd 852 dL_law_852 ?_
  refine V_sld 853 hX hbl hbA ?_ dL_law_853 ?_
  · exact hi1
  refine V_callV 854 (ci := 12) [.int _] _ (s_mrestore l _ S3 I3 _) dL_law_854 cb_X12_restore ml_RL_131 im_yX12_restore se_yX12_restore (F3.m 0 (Nat.le_of_ble_eq_true rfl)) (F3.k 0 12 rfl) (Nat.le_of_ble_eq_true rfl) ⟨(Nat.le_of_ble_eq_true rfl), (Nat.le_of_ble_eq_true rfl)⟩ rfl rfl (Nat.le_of_ble_eq_true rfl) ⟨(Nat.le_of_ble_eq_true rfl), (Nat.le_of_ble_eq_true rfl)⟩ (RI.go (fun r2 S5 h2 => ?_))
  refine V_pop 857 dL_law_857 rfl ?_
  refine V_goto 858 884 dL_law_858 (by decide) ?_
  exact K S4 S5 _ _ _ (h1.mono (by omega)) h2
set_option maxRecDepth 100000 in
set_option maxHeartbeats 4000000 in
theorem law_count {n0 n1 h mm r tp : Nat} {g : MG} {T : Int32} {S1 S3 : PS} (H : LH s meth b L xs) (hr : 6 * r + 6 ≤ L) (I1 : IV n0 h (9 + 4 * r) T S1) (I3 : MV n1 mm g tp S3) (hn : n1 ≤ n0 + sN S1) (K : ∀ (S1 S3 : PS) (T : Int32) (g : MG) (tp : Nat), IV n0 h (9 + 4 * (r + 1)) T S1 → MV n1 mm g tp S3 → LQ p l e s m below meth c b cy G kS vS n0 n1 h mm (nI (6 * r)) 884 S1 S3) : LQ p l e s m below meth c b cy G kS vS n0 n1 h mm (nI (6 * r)) 861 S1 S3 := by
  obtain ⟨hret, hX, hbl, hL⟩ := H
  have hbA : ¬ s.heap.size ≤ b := Nat.not_le.mpr hbl
  have hi1 : vp_in (nI (6 * r) + 1) L := vpN (eqAdd rfl (show (1 : Int32) = nI 1 from rfl)) (by omega) (by omega)
  refine lv_swap (b2 := n0 + sN S3) (by omega) ?_
  have F1 := I1.f
  have F3 := I3.f
  refine V_aload_1 861 dL_law_861 ?_
  refine V_aload_0 862 dL_law_862 ?_
  refine V_iload_3 863 dL_law_863 ?_
  refine V_iconst 864 (1) dL_law_864 (by decide) ?_
  refine V_iadd 865 dL_law_865 ?_
  refine V_sld 866 hX hbl hbA ?_ dL_law_866 ?_
  · exact hi1
  refine V_callV 867 (ci := 11) [.int _] _ (s_count l _ S1 I1 _) dL_law_867 cb_X11_count ml_RL_132 im_yX11_count se_yX11_count (F1.m 0 (Nat.le_of_ble_eq_true rfl)) (F1.k 0 11 rfl) (Nat.le_of_ble_eq_true rfl) ⟨(Nat.le_of_ble_eq_true rfl), (Nat.le_of_ble_eq_true rfl)⟩ rfl rfl (Nat.le_of_ble_eq_true rfl) ⟨(Nat.le_of_ble_eq_true rfl), (Nat.le_of_ble_eq_true rfl)⟩ (RI.go (fun r1 S4 h1 => ?_))
  refine V_pop 870 dL_law_870 rfl ?_
  refine lv_swap (b2 := n0 + sN S4) (by omega) ?_
  refine V_aload_2 871 dL_law_871 ?_
  refine V_aload_0 872 dL_law_872 ?_
  refine V_iload_3 873 dL_law_873 ?_
  refine V_iconst 874 (1) dL_law_874 (by decide) ?_
  refine V_iadd 875 dL_law_875 ?_
  refine V_sld 876 hX hbl hbA ?_ dL_law_876 ?_
  · exact hi1
  refine V_callV 877 (ci := 12) [.int _] _ (s_mcount l _ S3 I3 _) dL_law_877 cb_X12_count ml_RL_135 im_yX12_count se_yX12_count (F3.m 0 (Nat.le_of_ble_eq_true rfl)) (F3.k 0 12 rfl) (Nat.le_of_ble_eq_true rfl) ⟨(Nat.le_of_ble_eq_true rfl), (Nat.le_of_ble_eq_true rfl)⟩ rfl rfl (Nat.le_of_ble_eq_true rfl) ⟨(Nat.le_of_ble_eq_true rfl), (Nat.le_of_ble_eq_true rfl)⟩ (RI.go (fun r2 S5 h2 => ?_))
  refine V_pop 880 dL_law_880 rfl ?_
  refine V_goto 881 884 dL_law_881 (by decide) ?_
  exact K S4 S5 _ _ _ (h1.mono (by omega)) h2
end CASES

