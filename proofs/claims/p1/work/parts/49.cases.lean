/-! THE LAW: its cases -/
section CASES
variable {p : Program} {l : Launch} {e : Env} {s : State} {m : MethodId} {below : List Frame} {meth : Method} {c : Code} {b : Nat} {cy : Nat → ClassId} {G : va_G} {kS vS : Nat → Nat} {xs : Nat → Int32}
/-- both objects are fresh: the class's in S1 from n0 on, the model's in S3 from n1 on -/
def LH (s : State) (meth : Method) (b : Nat) (xs : Nat → Int32) (n0 n1 h mm : Nat) (S1 S3 : PS) : Prop := meth.sig.returnType = ret ∧ va_X b 6 xs s s.heap ∧ b < s.heap.size ∧ isL lySockTable n0 S1 h ∧ FRESH h S1 ∧ isL lyModel n1 S3 mm ∧ FRM mm S3 ∧ n1 = n0 + sN S1
set_option maxRecDepth 100000 in
set_option maxHeartbeats 4000000 in
theorem law_feed {n0 n1 h mm : Nat} {S1 S3 : PS} (L : LH s meth b xs n0 n1 h mm S1 S3) : LV p l e s m below meth c b (GG s.heap.size (va_pl (PL n0 S1) (EN cy S1)) cy G n1 n1 kS vS) 400 400000 S3 160 [some (.ref b), some (.ref h), some (.ref mm), some (.int 0)] [] := by
  obtain ⟨hret, hX, hbl, Fx, Dx, Fm, Dm, hn⟩ := L
  have hbA : ¬ s.heap.size ≤ b := Nat.not_le.mpr hbl
  refine lv_swap (b2 := n0 + sN S3) (by omega) ?_
  refine V_aload_1 160 dL_law_160 ?_
  refine V_aload_0 161 dL_law_161 ?_
  refine V_iload_3 162 dL_law_162 ?_
  refine V_iconst 163 (1) dL_law_163 (by decide) ?_
  refine V_iadd 164 dL_law_164 ?_
  refine V_sld 165 hX hbl hbA ?_ dL_law_165 ?_
  · exact (by unfold vp_in; decide)
  refine V_aload_0 166 dL_law_166 ?_
  refine V_iload_3 167 dL_law_167 ?_
  refine V_iconst 168 (2) dL_law_168 (by decide) ?_
  refine V_iadd 169 dL_law_169 ?_
  refine V_sld 170 hX hbl hbA ?_ dL_law_170 ?_
  · exact (by unfold vp_in; decide)
  refine V_aload_0 171 dL_law_171 ?_
  refine V_iload_3 172 dL_law_172 ?_
  refine V_iconst 173 (3) dL_law_173 (by decide) ?_
  refine V_iadd 174 dL_law_174 ?_
  refine V_sld 175 hX hbl hbA ?_ dL_law_175 ?_
  · exact (by unfold vp_in; decide)
  refine V_aload_0 176 dL_law_176 ?_
  refine V_iload_3 177 dL_law_177 ?_
  refine V_iconst 178 (4) dL_law_178 (by decide) ?_
  refine V_iadd 179 dL_law_179 ?_
  refine V_sld 180 hX hbl hbA ?_ dL_law_180 ?_
  · exact (by unfold vp_in; decide)
  refine V_aload_0 181 dL_law_181 ?_
  refine V_iload_3 182 dL_law_182 ?_
  refine V_iconst 183 (5) dL_law_183 (by decide) ?_
  refine V_iadd 184 dL_law_184 ?_
  refine V_sld 185 hX hbl hbA ?_ dL_law_185 ?_
  · exact (by unfold vp_in; decide)
  refine V_callV 186 (ci := 11) [.int _, .int _, .int _, .int _, .int _] _ (f_feed l _ S1 Fx Dx _ _ _ _ _) dL_law_186 cb_X11_feed ml_RL_13 im_yX11_feed se_yX11_feed (Fx.m 0 (Nat.le_of_ble_eq_true rfl)) (Fx.k 0 11 rfl) (Nat.le_of_ble_eq_true rfl) ⟨(Nat.le_of_ble_eq_true rfl), (Nat.le_of_ble_eq_true rfl)⟩ rfl rfl (Nat.le_of_ble_eq_true rfl) ⟨(Nat.le_of_ble_eq_true rfl), (Nat.le_of_ble_eq_true rfl)⟩ (RI.go (fun r1 S4 h1 => ?_))
  refine lv_swap (b2 := n0 + sN S4) (by omega) ?_
  refine V_aload_2 189 dL_law_189 ?_
  refine V_aload_0 190 dL_law_190 ?_
  refine V_iload_3 191 dL_law_191 ?_
  refine V_iconst 192 (1) dL_law_192 (by decide) ?_
  refine V_iadd 193 dL_law_193 ?_
  refine V_sld 194 hX hbl hbA ?_ dL_law_194 ?_
  · exact (by unfold vp_in; decide)
  refine V_aload_0 195 dL_law_195 ?_
  refine V_iload_3 196 dL_law_196 ?_
  refine V_iconst 197 (2) dL_law_197 (by decide) ?_
  refine V_iadd 198 dL_law_198 ?_
  refine V_sld 199 hX hbl hbA ?_ dL_law_199 ?_
  · exact (by unfold vp_in; decide)
  refine V_aload_0 200 dL_law_200 ?_
  refine V_iload_3 201 dL_law_201 ?_
  refine V_iconst 202 (3) dL_law_202 (by decide) ?_
  refine V_iadd 203 dL_law_203 ?_
  refine V_sld 204 hX hbl hbA ?_ dL_law_204 ?_
  · exact (by unfold vp_in; decide)
  refine V_aload_0 205 dL_law_205 ?_
  refine V_iload_3 206 dL_law_206 ?_
  refine V_iconst 207 (4) dL_law_207 (by decide) ?_
  refine V_iadd 208 dL_law_208 ?_
  refine V_sld 209 hX hbl hbA ?_ dL_law_209 ?_
  · exact (by unfold vp_in; decide)
  refine V_aload_0 210 dL_law_210 ?_
  refine V_iload_3 211 dL_law_211 ?_
  refine V_iconst 212 (5) dL_law_212 (by decide) ?_
  refine V_iadd 213 dL_law_213 ?_
  refine V_sld 214 hX hbl hbA ?_ dL_law_214 ?_
  · exact (by unfold vp_in; decide)
  refine V_callV 215 (ci := 12) [.int _, .int _, .int _, .int _, .int _] _ (g_feed l _ S3 Fm Dm _ _ _ _ _) dL_law_215 cb_X12_feed ml_RL_17 im_yX12_feed se_yX12_feed (Fm.m 0 (Nat.le_of_ble_eq_true rfl)) (Fm.k 0 12 rfl) (Nat.le_of_ble_eq_true rfl) ⟨(Nat.le_of_ble_eq_true rfl), (Nat.le_of_ble_eq_true rfl)⟩ rfl rfl (Nat.le_of_ble_eq_true rfl) ⟨(Nat.le_of_ble_eq_true rfl), (Nat.le_of_ble_eq_true rfl)⟩ (RI.go (fun r2 S5 h2 => ?_))
  have e0 : r1 = r2 := h1.trans h2.symm
  subst e0
  refine V_icmp_eq 218 889 dL_law_218 (by decide) (fun _ => ?_) (fun q => absurd (rfl) q)
  exact law_tail (xs := xs) (Nat.le_of_ble_eq_true rfl) (Nat.le_of_ble_eq_true rfl) hret rfl hX hbl hbA
set_option maxRecDepth 100000 in
set_option maxHeartbeats 4000000 in
theorem law_back {n0 n1 h mm : Nat} {S1 S3 : PS} (L : LH s meth b xs n0 n1 h mm S1 S3) : LV p l e s m below meth c b (GG s.heap.size (va_pl (PL n0 S1) (EN cy S1)) cy G n1 n1 kS vS) 400 400000 S3 223 [some (.ref b), some (.ref h), some (.ref mm), some (.int 0)] [] := by
  obtain ⟨hret, hX, hbl, Fx, Dx, Fm, Dm, hn⟩ := L
  have hbA : ¬ s.heap.size ≤ b := Nat.not_le.mpr hbl
  refine lv_swap (b2 := n0 + sN S3) (by omega) ?_
  refine V_aload_1 223 dL_law_223 ?_
  refine V_aload_0 224 dL_law_224 ?_
  refine V_iload_3 225 dL_law_225 ?_
  refine V_iconst 226 (1) dL_law_226 (by decide) ?_
  refine V_iadd 227 dL_law_227 ?_
  refine V_sld 228 hX hbl hbA ?_ dL_law_228 ?_
  · exact (by unfold vp_in; decide)
  refine V_callV 229 (ci := 11) [.int _] _ (f_back l _ S1 Fx Dx _) dL_law_229 cb_X11_back ml_RL_18 im_yX11_back se_yX11_back (Fx.m 0 (Nat.le_of_ble_eq_true rfl)) (Fx.k 0 11 rfl) (Nat.le_of_ble_eq_true rfl) ⟨(Nat.le_of_ble_eq_true rfl), (Nat.le_of_ble_eq_true rfl)⟩ rfl rfl (Nat.le_of_ble_eq_true rfl) ⟨(Nat.le_of_ble_eq_true rfl), (Nat.le_of_ble_eq_true rfl)⟩ (RI.go (fun r1 S4 h1 => ?_))
  refine lv_swap (b2 := n0 + sN S4) (by omega) ?_
  refine V_aload_2 232 dL_law_232 ?_
  refine V_aload_0 233 dL_law_233 ?_
  refine V_iload_3 234 dL_law_234 ?_
  refine V_iconst 235 (1) dL_law_235 (by decide) ?_
  refine V_iadd 236 dL_law_236 ?_
  refine V_sld 237 hX hbl hbA ?_ dL_law_237 ?_
  · exact (by unfold vp_in; decide)
  refine V_callV 238 (ci := 12) [.int _] _ (g_back l _ S3 Fm Dm _) dL_law_238 cb_X12_back ml_RL_22 im_yX12_back se_yX12_back (Fm.m 0 (Nat.le_of_ble_eq_true rfl)) (Fm.k 0 12 rfl) (Nat.le_of_ble_eq_true rfl) ⟨(Nat.le_of_ble_eq_true rfl), (Nat.le_of_ble_eq_true rfl)⟩ rfl rfl (Nat.le_of_ble_eq_true rfl) ⟨(Nat.le_of_ble_eq_true rfl), (Nat.le_of_ble_eq_true rfl)⟩ (RI.go (fun r2 S5 h2 => ?_))
  have e0 : r1 = r2 := h1.trans h2.symm
  subst e0
  refine V_icmp_eq 241 889 dL_law_241 (by decide) (fun _ => ?_) (fun q => absurd (rfl) q)
  exact law_tail (xs := xs) (Nat.le_of_ble_eq_true rfl) (Nat.le_of_ble_eq_true rfl) hret rfl hX hbl hbA
set_option maxRecDepth 100000 in
set_option maxHeartbeats 4000000 in
theorem law_read {n0 n1 h mm : Nat} {S1 S3 : PS} (L : LH s meth b xs n0 n1 h mm S1 S3) : LV p l e s m below meth c b (GG s.heap.size (va_pl (PL n0 S1) (EN cy S1)) cy G n1 n1 kS vS) 400 400000 S3 246 [some (.ref b), some (.ref h), some (.ref mm), some (.int 0)] [] := by
  obtain ⟨hret, hX, hbl, Fx, Dx, Fm, Dm, hn⟩ := L
  have hbA : ¬ s.heap.size ≤ b := Nat.not_le.mpr hbl
  refine lv_swap (b2 := n0 + sN S3) (by omega) ?_
  refine V_aload_1 246 dL_law_246 ?_
  refine V_callV 247 (ci := 11) [] _ (f_read l _ S1 Fx Dx) dL_law_247 cb_X11_read ml_RL_23 im_yX11_read se_yX11_read (Fx.m 0 (Nat.le_of_ble_eq_true rfl)) (Fx.k 0 11 rfl) (Nat.le_of_ble_eq_true rfl) ⟨(Nat.le_of_ble_eq_true rfl), (Nat.le_of_ble_eq_true rfl)⟩ rfl rfl (Nat.le_of_ble_eq_true rfl) ⟨(Nat.le_of_ble_eq_true rfl), (Nat.le_of_ble_eq_true rfl)⟩ (RI.go (fun r1 S4 h1 => ?_))
  refine lv_swap (b2 := n0 + sN S4) (by omega) ?_
  refine V_aload_2 250 dL_law_250 ?_
  refine V_callV 251 (ci := 12) [] _ (g_read l _ S3 Fm Dm) dL_law_251 cb_X12_read ml_RL_27 im_yX12_read se_yX12_read (Fm.m 0 (Nat.le_of_ble_eq_true rfl)) (Fm.k 0 12 rfl) (Nat.le_of_ble_eq_true rfl) ⟨(Nat.le_of_ble_eq_true rfl), (Nat.le_of_ble_eq_true rfl)⟩ rfl rfl (Nat.le_of_ble_eq_true rfl) ⟨(Nat.le_of_ble_eq_true rfl), (Nat.le_of_ble_eq_true rfl)⟩ (RI.go (fun r2 S5 h2 => ?_))
  have e0 : r1 = r2 := h1.trans h2.symm
  subst e0
  refine V_icmp_eq 254 889 dL_law_254 (by decide) (fun _ => ?_) (fun q => absurd (rfl) q)
  exact law_tail (xs := xs) (Nat.le_of_ble_eq_true rfl) (Nat.le_of_ble_eq_true rfl) hret rfl hX hbl hbA
set_option maxRecDepth 100000 in
set_option maxHeartbeats 4000000 in
theorem law_place {n0 n1 h mm : Nat} {S1 S3 : PS} (L : LH s meth b xs n0 n1 h mm S1 S3) : LV p l e s m below meth c b (GG s.heap.size (va_pl (PL n0 S1) (EN cy S1)) cy G n1 n1 kS vS) 400 400000 S3 259 [some (.ref b), some (.ref h), some (.ref mm), some (.int 0)] [] := by
  obtain ⟨hret, hX, hbl, Fx, Dx, Fm, Dm, hn⟩ := L
  have hbA : ¬ s.heap.size ≤ b := Nat.not_le.mpr hbl
  refine lv_swap (b2 := n0 + sN S3) (by omega) ?_
  refine V_aload_1 259 dL_law_259 ?_
  refine V_callV 260 (ci := 11) [] _ (f_place l _ S1 Fx Dx) dL_law_260 cb_X11_place ml_RL_28 im_yX11_place se_yX11_place (Fx.m 0 (Nat.le_of_ble_eq_true rfl)) (Fx.k 0 11 rfl) (Nat.le_of_ble_eq_true rfl) ⟨(Nat.le_of_ble_eq_true rfl), (Nat.le_of_ble_eq_true rfl)⟩ rfl rfl (Nat.le_of_ble_eq_true rfl) ⟨(Nat.le_of_ble_eq_true rfl), (Nat.le_of_ble_eq_true rfl)⟩ (RI.go (fun r1 S4 h1 => ?_))
  refine lv_swap (b2 := n0 + sN S4) (by omega) ?_
  refine V_aload_2 263 dL_law_263 ?_
  refine V_callV 264 (ci := 12) [] _ (g_place l _ S3 Fm Dm) dL_law_264 cb_X12_place ml_RL_31 im_yX12_place se_yX12_place (Fm.m 0 (Nat.le_of_ble_eq_true rfl)) (Fm.k 0 12 rfl) (Nat.le_of_ble_eq_true rfl) ⟨(Nat.le_of_ble_eq_true rfl), (Nat.le_of_ble_eq_true rfl)⟩ rfl rfl (Nat.le_of_ble_eq_true rfl) ⟨(Nat.le_of_ble_eq_true rfl), (Nat.le_of_ble_eq_true rfl)⟩ (RI.go (fun r2 S5 h2 => ?_))
  have e0 : r1 = r2 := h1.trans h2.symm
  subst e0
  refine V_icmp_eq 267 889 dL_law_267 (by decide) (fun _ => ?_) (fun q => absurd (rfl) q)
  exact law_tail (xs := xs) (Nat.le_of_ble_eq_true rfl) (Nat.le_of_ble_eq_true rfl) hret rfl hX hbl hbA
set_option maxRecDepth 100000 in
set_option maxHeartbeats 4000000 in
theorem law_kind {n0 n1 h mm : Nat} {S1 S3 : PS} (L : LH s meth b xs n0 n1 h mm S1 S3) : LV p l e s m below meth c b (GG s.heap.size (va_pl (PL n0 S1) (EN cy S1)) cy G n1 n1 kS vS) 400 400000 S3 272 [some (.ref b), some (.ref h), some (.ref mm), some (.int 0)] [] := by
  obtain ⟨hret, hX, hbl, Fx, Dx, Fm, Dm, hn⟩ := L
  have hbA : ¬ s.heap.size ≤ b := Nat.not_le.mpr hbl
  refine lv_swap (b2 := n0 + sN S3) (by omega) ?_
  refine V_aload_1 272 dL_law_272 ?_
  refine V_aload_0 273 dL_law_273 ?_
  refine V_iload_3 274 dL_law_274 ?_
  refine V_iconst 275 (1) dL_law_275 (by decide) ?_
  refine V_iadd 276 dL_law_276 ?_
  refine V_sld 277 hX hbl hbA ?_ dL_law_277 ?_
  · exact (by unfold vp_in; decide)
  refine V_aload_0 278 dL_law_278 ?_
  refine V_iload_3 279 dL_law_279 ?_
  refine V_iconst 280 (2) dL_law_280 (by decide) ?_
  refine V_iadd 281 dL_law_281 ?_
  refine V_sld 282 hX hbl hbA ?_ dL_law_282 ?_
  · exact (by unfold vp_in; decide)
  refine V_callV 283 (ci := 11) [.int _, .int _] _ (f_kind l _ S1 Fx Dx _ _) dL_law_283 cb_X11_kind ml_RL_32 im_yX11_kind se_yX11_kind (Fx.m 0 (Nat.le_of_ble_eq_true rfl)) (Fx.k 0 11 rfl) (Nat.le_of_ble_eq_true rfl) ⟨(Nat.le_of_ble_eq_true rfl), (Nat.le_of_ble_eq_true rfl)⟩ rfl rfl (Nat.le_of_ble_eq_true rfl) ⟨(Nat.le_of_ble_eq_true rfl), (Nat.le_of_ble_eq_true rfl)⟩ (RI.go (fun r1 S4 h1 => ?_))
  refine lv_swap (b2 := n0 + sN S4) (by omega) ?_
  refine V_aload_2 286 dL_law_286 ?_
  refine V_aload_0 287 dL_law_287 ?_
  refine V_iload_3 288 dL_law_288 ?_
  refine V_iconst 289 (1) dL_law_289 (by decide) ?_
  refine V_iadd 290 dL_law_290 ?_
  refine V_sld 291 hX hbl hbA ?_ dL_law_291 ?_
  · exact (by unfold vp_in; decide)
  refine V_aload_0 292 dL_law_292 ?_
  refine V_iload_3 293 dL_law_293 ?_
  refine V_iconst 294 (2) dL_law_294 (by decide) ?_
  refine V_iadd 295 dL_law_295 ?_
  refine V_sld 296 hX hbl hbA ?_ dL_law_296 ?_
  · exact (by unfold vp_in; decide)
  refine V_callV 297 (ci := 12) [.int _, .int _] _ (g_kind l _ S3 Fm Dm _ _) dL_law_297 cb_X12_kind ml_RL_36 im_yX12_kind se_yX12_kind (Fm.m 0 (Nat.le_of_ble_eq_true rfl)) (Fm.k 0 12 rfl) (Nat.le_of_ble_eq_true rfl) ⟨(Nat.le_of_ble_eq_true rfl), (Nat.le_of_ble_eq_true rfl)⟩ rfl rfl (Nat.le_of_ble_eq_true rfl) ⟨(Nat.le_of_ble_eq_true rfl), (Nat.le_of_ble_eq_true rfl)⟩ (RI.go (fun r2 S5 h2 => ?_))
  have e0 : r1 = r2 := h1.trans h2.symm
  subst e0
  refine V_icmp_eq 300 889 dL_law_300 (by decide) (fun _ => ?_) (fun q => absurd (rfl) q)
  exact law_tail (xs := xs) (Nat.le_of_ble_eq_true rfl) (Nat.le_of_ble_eq_true rfl) hret rfl hX hbl hbA
set_option maxRecDepth 100000 in
set_option maxHeartbeats 4000000 in
theorem law_unlike {n0 n1 h mm : Nat} {S1 S3 : PS} (L : LH s meth b xs n0 n1 h mm S1 S3) : LV p l e s m below meth c b (GG s.heap.size (va_pl (PL n0 S1) (EN cy S1)) cy G n1 n1 kS vS) 400 400000 S3 305 [some (.ref b), some (.ref h), some (.ref mm), some (.int 0)] [] := by
  obtain ⟨hret, hX, hbl, Fx, Dx, Fm, Dm, hn⟩ := L
  have hbA : ¬ s.heap.size ≤ b := Nat.not_le.mpr hbl
  refine lv_swap (b2 := n0 + sN S3) (by omega) ?_
  refine V_aload_1 305 dL_law_305 ?_
  refine V_aload_0 306 dL_law_306 ?_
  refine V_iload_3 307 dL_law_307 ?_
  refine V_iconst 308 (1) dL_law_308 (by decide) ?_
  refine V_iadd 309 dL_law_309 ?_
  refine V_sld 310 hX hbl hbA ?_ dL_law_310 ?_
  · exact (by unfold vp_in; decide)
  refine V_aload_0 311 dL_law_311 ?_
  refine V_iload_3 312 dL_law_312 ?_
  refine V_iconst 313 (2) dL_law_313 (by decide) ?_
  refine V_iadd 314 dL_law_314 ?_
  refine V_sld 315 hX hbl hbA ?_ dL_law_315 ?_
  · exact (by unfold vp_in; decide)
  refine V_callV 316 (ci := 11) [.int _, .int _] _ (f_unlike l _ S1 Fx Dx _ _) dL_law_316 cb_X11_unlike ml_RL_37 im_yX11_unlike se_yX11_unlike (Fx.m 0 (Nat.le_of_ble_eq_true rfl)) (Fx.k 0 11 rfl) (Nat.le_of_ble_eq_true rfl) ⟨(Nat.le_of_ble_eq_true rfl), (Nat.le_of_ble_eq_true rfl)⟩ rfl rfl (Nat.le_of_ble_eq_true rfl) ⟨(Nat.le_of_ble_eq_true rfl), (Nat.le_of_ble_eq_true rfl)⟩ (RI.go (fun r1 S4 h1 => ?_))
  refine lv_swap (b2 := n0 + sN S4) (by omega) ?_
  refine V_aload_2 319 dL_law_319 ?_
  refine V_aload_0 320 dL_law_320 ?_
  refine V_iload_3 321 dL_law_321 ?_
  refine V_iconst 322 (1) dL_law_322 (by decide) ?_
  refine V_iadd 323 dL_law_323 ?_
  refine V_sld 324 hX hbl hbA ?_ dL_law_324 ?_
  · exact (by unfold vp_in; decide)
  refine V_aload_0 325 dL_law_325 ?_
  refine V_iload_3 326 dL_law_326 ?_
  refine V_iconst 327 (2) dL_law_327 (by decide) ?_
  refine V_iadd 328 dL_law_328 ?_
  refine V_sld 329 hX hbl hbA ?_ dL_law_329 ?_
  · exact (by unfold vp_in; decide)
  refine V_callV 330 (ci := 12) [.int _, .int _] _ (g_unlike l _ S3 Fm Dm _ _) dL_law_330 cb_X12_unlike ml_RL_40 im_yX12_unlike se_yX12_unlike (Fm.m 0 (Nat.le_of_ble_eq_true rfl)) (Fm.k 0 12 rfl) (Nat.le_of_ble_eq_true rfl) ⟨(Nat.le_of_ble_eq_true rfl), (Nat.le_of_ble_eq_true rfl)⟩ rfl rfl (Nat.le_of_ble_eq_true rfl) ⟨(Nat.le_of_ble_eq_true rfl), (Nat.le_of_ble_eq_true rfl)⟩ (RI.go (fun r2 S5 h2 => ?_))
  have e0 : r1 = r2 := h1.trans h2.symm
  subst e0
  refine V_icmp_eq 333 889 dL_law_333 (by decide) (fun _ => ?_) (fun q => absurd (rfl) q)
  exact law_tail (xs := xs) (Nat.le_of_ble_eq_true rfl) (Nat.le_of_ble_eq_true rfl) hret rfl hX hbl hbA
set_option maxRecDepth 100000 in
set_option maxHeartbeats 4000000 in
theorem law_draw {n0 n1 h mm : Nat} {S1 S3 : PS} (L : LH s meth b xs n0 n1 h mm S1 S3) : LV p l e s m below meth c b (GG s.heap.size (va_pl (PL n0 S1) (EN cy S1)) cy G n1 n1 kS vS) 400 400000 S3 338 [some (.ref b), some (.ref h), some (.ref mm), some (.int 0)] [] := by
  obtain ⟨hret, hX, hbl, Fx, Dx, Fm, Dm, hn⟩ := L
  have hbA : ¬ s.heap.size ≤ b := Nat.not_le.mpr hbl
  refine lv_swap (b2 := n0 + sN S3) (by omega) ?_
  refine V_aload_1 338 dL_law_338 ?_
  refine V_aload_0 339 dL_law_339 ?_
  refine V_iload_3 340 dL_law_340 ?_
  refine V_iconst 341 (1) dL_law_341 (by decide) ?_
  refine V_iadd 342 dL_law_342 ?_
  refine V_sld 343 hX hbl hbA ?_ dL_law_343 ?_
  · exact (by unfold vp_in; decide)
  refine V_callV 344 (ci := 11) [.int _] _ (f_draw l _ S1 Fx Dx _) dL_law_344 cb_X11_draw ml_RL_41 im_yX11_draw se_yX11_draw (Fx.m 0 (Nat.le_of_ble_eq_true rfl)) (Fx.k 0 11 rfl) (Nat.le_of_ble_eq_true rfl) ⟨(Nat.le_of_ble_eq_true rfl), (Nat.le_of_ble_eq_true rfl)⟩ rfl rfl (Nat.le_of_ble_eq_true rfl) ⟨(Nat.le_of_ble_eq_true rfl), (Nat.le_of_ble_eq_true rfl)⟩ (RI.go (fun r1 S4 h1 => ?_))
  refine lv_swap (b2 := n0 + sN S4) (by omega) ?_
  refine V_aload_2 347 dL_law_347 ?_
  refine V_aload_0 348 dL_law_348 ?_
  refine V_iload_3 349 dL_law_349 ?_
  refine V_iconst 350 (1) dL_law_350 (by decide) ?_
  refine V_iadd 351 dL_law_351 ?_
  refine V_sld 352 hX hbl hbA ?_ dL_law_352 ?_
  · exact (by unfold vp_in; decide)
  refine V_callV 353 (ci := 12) [.int _] _ (g_draw l _ S3 Fm Dm _) dL_law_353 cb_X12_draw ml_RL_44 im_yX12_draw se_yX12_draw (Fm.m 0 (Nat.le_of_ble_eq_true rfl)) (Fm.k 0 12 rfl) (Nat.le_of_ble_eq_true rfl) ⟨(Nat.le_of_ble_eq_true rfl), (Nat.le_of_ble_eq_true rfl)⟩ rfl rfl (Nat.le_of_ble_eq_true rfl) ⟨(Nat.le_of_ble_eq_true rfl), (Nat.le_of_ble_eq_true rfl)⟩ (RI.go (fun r2 S5 h2 => ?_))
  have e0 : r1 = r2 := h1.trans h2.symm
  subst e0
  refine V_icmp_eq 356 889 dL_law_356 (by decide) (fun _ => ?_) (fun q => absurd (rfl) q)
  exact law_tail (xs := xs) (Nat.le_of_ble_eq_true rfl) (Nat.le_of_ble_eq_true rfl) hret rfl hX hbl hbA
set_option maxRecDepth 100000 in
set_option maxHeartbeats 4000000 in
theorem law_lot {n0 n1 h mm : Nat} {S1 S3 : PS} (L : LH s meth b xs n0 n1 h mm S1 S3) : LV p l e s m below meth c b (GG s.heap.size (va_pl (PL n0 S1) (EN cy S1)) cy G n1 n1 kS vS) 400 400000 S3 361 [some (.ref b), some (.ref h), some (.ref mm), some (.int 0)] [] := by
  obtain ⟨hret, hX, hbl, Fx, Dx, Fm, Dm, hn⟩ := L
  have hbA : ¬ s.heap.size ≤ b := Nat.not_le.mpr hbl
  refine lv_swap (b2 := n0 + sN S3) (by omega) ?_
  refine V_aload_1 361 dL_law_361 ?_
  refine V_callV 362 (ci := 11) [] _ (f_lot l _ S1 Fx Dx) dL_law_362 cb_X11_lot ml_RL_45 im_yX11_lot se_yX11_lot (Fx.m 0 (Nat.le_of_ble_eq_true rfl)) (Fx.k 0 11 rfl) (Nat.le_of_ble_eq_true rfl) ⟨(Nat.le_of_ble_eq_true rfl), (Nat.le_of_ble_eq_true rfl)⟩ rfl rfl (Nat.le_of_ble_eq_true rfl) ⟨(Nat.le_of_ble_eq_true rfl), (Nat.le_of_ble_eq_true rfl)⟩ (RI.go (fun r1 S4 h1 => ?_))
  refine lv_swap (b2 := n0 + sN S4) (by omega) ?_
  refine V_aload_2 365 dL_law_365 ?_
  refine V_callV 366 (ci := 12) [] _ (g_lot l _ S3 Fm Dm) dL_law_366 cb_X12_lot ml_RL_48 im_yX12_lot se_yX12_lot (Fm.m 0 (Nat.le_of_ble_eq_true rfl)) (Fm.k 0 12 rfl) (Nat.le_of_ble_eq_true rfl) ⟨(Nat.le_of_ble_eq_true rfl), (Nat.le_of_ble_eq_true rfl)⟩ rfl rfl (Nat.le_of_ble_eq_true rfl) ⟨(Nat.le_of_ble_eq_true rfl), (Nat.le_of_ble_eq_true rfl)⟩ (RI.go (fun r2 S5 h2 => ?_))
  have e0 : r1 = r2 := h1.trans h2.symm
  subst e0
  refine V_icmp_eq 369 889 dL_law_369 (by decide) (fun _ => ?_) (fun q => absurd (rfl) q)
  exact law_tail (xs := xs) (Nat.le_of_ble_eq_true rfl) (Nat.le_of_ble_eq_true rfl) hret rfl hX hbl hbA
set_option maxRecDepth 100000 in
set_option maxHeartbeats 4000000 in
theorem law_take {n0 n1 h mm : Nat} {S1 S3 : PS} (L : LH s meth b xs n0 n1 h mm S1 S3) : LV p l e s m below meth c b (GG s.heap.size (va_pl (PL n0 S1) (EN cy S1)) cy G n1 n1 kS vS) 400 400000 S3 374 [some (.ref b), some (.ref h), some (.ref mm), some (.int 0)] [] := by
  obtain ⟨hret, hX, hbl, Fx, Dx, Fm, Dm, hn⟩ := L
  have hbA : ¬ s.heap.size ≤ b := Nat.not_le.mpr hbl
  refine lv_swap (b2 := n0 + sN S3) (by omega) ?_
  refine V_aload_1 374 dL_law_374 ?_
  refine V_aload_0 375 dL_law_375 ?_
  refine V_iload_3 376 dL_law_376 ?_
  refine V_iconst 377 (1) dL_law_377 (by decide) ?_
  refine V_iadd 378 dL_law_378 ?_
  refine V_sld 379 hX hbl hbA ?_ dL_law_379 ?_
  · exact (by unfold vp_in; decide)
  refine V_callV 380 (ci := 11) [.int _] _ (f_take l _ S1 Fx Dx _) dL_law_380 cb_X11_take ml_RL_49 im_yX11_take se_yX11_take (Fx.m 0 (Nat.le_of_ble_eq_true rfl)) (Fx.k 0 11 rfl) (Nat.le_of_ble_eq_true rfl) ⟨(Nat.le_of_ble_eq_true rfl), (Nat.le_of_ble_eq_true rfl)⟩ rfl rfl (Nat.le_of_ble_eq_true rfl) ⟨(Nat.le_of_ble_eq_true rfl), (Nat.le_of_ble_eq_true rfl)⟩ (RI.go (fun r1 S4 h1 => ?_))
  refine lv_swap (b2 := n0 + sN S4) (by omega) ?_
  refine V_aload_2 383 dL_law_383 ?_
  refine V_aload_0 384 dL_law_384 ?_
  refine V_iload_3 385 dL_law_385 ?_
  refine V_iconst 386 (1) dL_law_386 (by decide) ?_
  refine V_iadd 387 dL_law_387 ?_
  refine V_sld 388 hX hbl hbA ?_ dL_law_388 ?_
  · exact (by unfold vp_in; decide)
  refine V_callV 389 (ci := 12) [.int _] _ (g_take l _ S3 Fm Dm _) dL_law_389 cb_X12_take ml_RL_53 im_yX12_take se_yX12_take (Fm.m 0 (Nat.le_of_ble_eq_true rfl)) (Fm.k 0 12 rfl) (Nat.le_of_ble_eq_true rfl) ⟨(Nat.le_of_ble_eq_true rfl), (Nat.le_of_ble_eq_true rfl)⟩ rfl rfl (Nat.le_of_ble_eq_true rfl) ⟨(Nat.le_of_ble_eq_true rfl), (Nat.le_of_ble_eq_true rfl)⟩ (RI.go (fun r2 S5 h2 => ?_))
  have e0 : r1 = r2 := h1.trans h2.symm
  subst e0
  refine V_icmp_eq 392 889 dL_law_392 (by decide) (fun _ => ?_) (fun q => absurd (rfl) q)
  exact law_tail (xs := xs) (Nat.le_of_ble_eq_true rfl) (Nat.le_of_ble_eq_true rfl) hret rfl hX hbl hbA
set_option maxRecDepth 100000 in
set_option maxHeartbeats 4000000 in
theorem law_undo {n0 n1 h mm : Nat} {S1 S3 : PS} (L : LH s meth b xs n0 n1 h mm S1 S3) : LV p l e s m below meth c b (GG s.heap.size (va_pl (PL n0 S1) (EN cy S1)) cy G n1 n1 kS vS) 400 400000 S3 397 [some (.ref b), some (.ref h), some (.ref mm), some (.int 0)] [] := by
  obtain ⟨hret, hX, hbl, Fx, Dx, Fm, Dm, hn⟩ := L
  have hbA : ¬ s.heap.size ≤ b := Nat.not_le.mpr hbl
  refine lv_swap (b2 := n0 + sN S3) (by omega) ?_
  refine V_aload_1 397 dL_law_397 ?_
  refine V_callV 398 (ci := 11) [] _ (f_undo l _ S1 Fx Dx) dL_law_398 cb_X11_undo ml_RL_54 im_yX11_undo se_yX11_undo (Fx.m 0 (Nat.le_of_ble_eq_true rfl)) (Fx.k 0 11 rfl) (Nat.le_of_ble_eq_true rfl) ⟨(Nat.le_of_ble_eq_true rfl), (Nat.le_of_ble_eq_true rfl)⟩ rfl rfl (Nat.le_of_ble_eq_true rfl) ⟨(Nat.le_of_ble_eq_true rfl), (Nat.le_of_ble_eq_true rfl)⟩ (RI.go (fun r1 S4 h1 => ?_))
  refine lv_swap (b2 := n0 + sN S4) (by omega) ?_
  refine V_aload_2 401 dL_law_401 ?_
  refine V_callV 402 (ci := 12) [] _ (g_undo l _ S3 Fm Dm) dL_law_402 cb_X12_undo ml_RL_58 im_yX12_undo se_yX12_undo (Fm.m 0 (Nat.le_of_ble_eq_true rfl)) (Fm.k 0 12 rfl) (Nat.le_of_ble_eq_true rfl) ⟨(Nat.le_of_ble_eq_true rfl), (Nat.le_of_ble_eq_true rfl)⟩ rfl rfl (Nat.le_of_ble_eq_true rfl) ⟨(Nat.le_of_ble_eq_true rfl), (Nat.le_of_ble_eq_true rfl)⟩ (RI.go (fun r2 S5 h2 => ?_))
  have e0 : r1 = r2 := h1.trans h2.symm
  subst e0
  refine V_icmp_eq 405 889 dL_law_405 (by decide) (fun _ => ?_) (fun q => absurd (rfl) q)
  exact law_tail (xs := xs) (Nat.le_of_ble_eq_true rfl) (Nat.le_of_ble_eq_true rfl) hret rfl hX hbl hbA
set_option maxRecDepth 100000 in
set_option maxHeartbeats 4000000 in
theorem law_within {n0 n1 h mm : Nat} {S1 S3 : PS} (L : LH s meth b xs n0 n1 h mm S1 S3) : LV p l e s m below meth c b (GG s.heap.size (va_pl (PL n0 S1) (EN cy S1)) cy G n1 n1 kS vS) 400 400000 S3 410 [some (.ref b), some (.ref h), some (.ref mm), some (.int 0)] [] := by
  obtain ⟨hret, hX, hbl, Fx, Dx, Fm, Dm, hn⟩ := L
  have hbA : ¬ s.heap.size ≤ b := Nat.not_le.mpr hbl
  refine lv_swap (b2 := n0 + sN S3) (by omega) ?_
  refine V_aload_1 410 dL_law_410 ?_
  refine V_aload_0 411 dL_law_411 ?_
  refine V_iload_3 412 dL_law_412 ?_
  refine V_iconst 413 (1) dL_law_413 (by decide) ?_
  refine V_iadd 414 dL_law_414 ?_
  refine V_sld 415 hX hbl hbA ?_ dL_law_415 ?_
  · exact (by unfold vp_in; decide)
  refine V_callV 416 (ci := 11) [.int _] _ (f_within l _ S1 Fx Dx _) dL_law_416 cb_X11_within ml_RL_59 im_yX11_within se_yX11_within (Fx.m 0 (Nat.le_of_ble_eq_true rfl)) (Fx.k 0 11 rfl) (Nat.le_of_ble_eq_true rfl) ⟨(Nat.le_of_ble_eq_true rfl), (Nat.le_of_ble_eq_true rfl)⟩ rfl rfl (Nat.le_of_ble_eq_true rfl) ⟨(Nat.le_of_ble_eq_true rfl), (Nat.le_of_ble_eq_true rfl)⟩ (RLg.go (fun r1 S4 h1 => ?_))
  refine lv_swap (b2 := n0 + sN S4) (by omega) ?_
  refine V_aload_2 419 dL_law_419 ?_
  refine V_aload_0 420 dL_law_420 ?_
  refine V_iload_3 421 dL_law_421 ?_
  refine V_iconst 422 (1) dL_law_422 (by decide) ?_
  refine V_iadd 423 dL_law_423 ?_
  refine V_sld 424 hX hbl hbA ?_ dL_law_424 ?_
  · exact (by unfold vp_in; decide)
  refine V_callV 425 (ci := 12) [.int _] _ (g_within l _ S3 Fm Dm _) dL_law_425 cb_X12_within ml_RL_63 im_yX12_within se_yX12_within (Fm.m 0 (Nat.le_of_ble_eq_true rfl)) (Fm.k 0 12 rfl) (Nat.le_of_ble_eq_true rfl) ⟨(Nat.le_of_ble_eq_true rfl), (Nat.le_of_ble_eq_true rfl)⟩ rfl rfl (Nat.le_of_ble_eq_true rfl) ⟨(Nat.le_of_ble_eq_true rfl), (Nat.le_of_ble_eq_true rfl)⟩ (RLg.go (fun r2 S5 h2 => ?_))
  have e0 : r1 = r2 := h1.trans h2.symm
  subst e0
  refine V_lcmp 428 dL_law_428 ?_
  rw [lg_cmp_self]
  refine V_if_eq 429 889 dL_law_429 (by decide) (fun _ => ?_) (fun q => absurd (rfl) q)
  exact law_tail (xs := xs) (Nat.le_of_ble_eq_true rfl) (Nat.le_of_ble_eq_true rfl) hret rfl hX hbl hbA
set_option maxRecDepth 100000 in
set_option maxHeartbeats 4000000 in
theorem law_lies {n0 n1 h mm : Nat} {S1 S3 : PS} (L : LH s meth b xs n0 n1 h mm S1 S3) : LV p l e s m below meth c b (GG s.heap.size (va_pl (PL n0 S1) (EN cy S1)) cy G n1 n1 kS vS) 400 400000 S3 434 [some (.ref b), some (.ref h), some (.ref mm), some (.int 0)] [] := by
  obtain ⟨hret, hX, hbl, Fx, Dx, Fm, Dm, hn⟩ := L
  have hbA : ¬ s.heap.size ≤ b := Nat.not_le.mpr hbl
  refine lv_swap (b2 := n0 + sN S3) (by omega) ?_
  refine V_aload_1 434 dL_law_434 ?_
  refine V_aload_0 435 dL_law_435 ?_
  refine V_iload_3 436 dL_law_436 ?_
  refine V_iconst 437 (1) dL_law_437 (by decide) ?_
  refine V_iadd 438 dL_law_438 ?_
  refine V_sld 439 hX hbl hbA ?_ dL_law_439 ?_
  · exact (by unfold vp_in; decide)
  refine V_callV 440 (ci := 11) [.int _] _ (f_lies l _ S1 Fx Dx _) dL_law_440 cb_X11_lies ml_RL_64 im_yX11_lies se_yX11_lies (Fx.m 0 (Nat.le_of_ble_eq_true rfl)) (Fx.k 0 11 rfl) (Nat.le_of_ble_eq_true rfl) ⟨(Nat.le_of_ble_eq_true rfl), (Nat.le_of_ble_eq_true rfl)⟩ rfl rfl (Nat.le_of_ble_eq_true rfl) ⟨(Nat.le_of_ble_eq_true rfl), (Nat.le_of_ble_eq_true rfl)⟩ (RLg.go (fun r1 S4 h1 => ?_))
  refine lv_swap (b2 := n0 + sN S4) (by omega) ?_
  refine V_aload_2 443 dL_law_443 ?_
  refine V_aload_0 444 dL_law_444 ?_
  refine V_iload_3 445 dL_law_445 ?_
  refine V_iconst 446 (1) dL_law_446 (by decide) ?_
  refine V_iadd 447 dL_law_447 ?_
  refine V_sld 448 hX hbl hbA ?_ dL_law_448 ?_
  · exact (by unfold vp_in; decide)
  refine V_callV 449 (ci := 12) [.int _] _ (g_lies l _ S3 Fm Dm _) dL_law_449 cb_X12_lies ml_RL_67 im_yX12_lies se_yX12_lies (Fm.m 0 (Nat.le_of_ble_eq_true rfl)) (Fm.k 0 12 rfl) (Nat.le_of_ble_eq_true rfl) ⟨(Nat.le_of_ble_eq_true rfl), (Nat.le_of_ble_eq_true rfl)⟩ rfl rfl (Nat.le_of_ble_eq_true rfl) ⟨(Nat.le_of_ble_eq_true rfl), (Nat.le_of_ble_eq_true rfl)⟩ (RLg.go (fun r2 S5 h2 => ?_))
  have e0 : r1 = r2 := h1.trans h2.symm
  subst e0
  refine V_lcmp 452 dL_law_452 ?_
  rw [lg_cmp_self]
  refine V_if_eq 453 889 dL_law_453 (by decide) (fun _ => ?_) (fun q => absurd (rfl) q)
  exact law_tail (xs := xs) (Nat.le_of_ble_eq_true rfl) (Nat.le_of_ble_eq_true rfl) hret rfl hX hbl hbA
set_option maxRecDepth 100000 in
set_option maxHeartbeats 4000000 in
theorem law_mosts {n0 n1 h mm : Nat} {S1 S3 : PS} (L : LH s meth b xs n0 n1 h mm S1 S3) : LV p l e s m below meth c b (GG s.heap.size (va_pl (PL n0 S1) (EN cy S1)) cy G n1 n1 kS vS) 400 400000 S3 458 [some (.ref b), some (.ref h), some (.ref mm), some (.int 0)] [] := by
  obtain ⟨hret, hX, hbl, Fx, Dx, Fm, Dm, hn⟩ := L
  have hbA : ¬ s.heap.size ≤ b := Nat.not_le.mpr hbl
  refine lv_swap (b2 := n0 + sN S3) (by omega) ?_
  refine V_aload_1 458 dL_law_458 ?_
  refine V_callV 459 (ci := 11) [] _ (f_mosts l _ S1 Fx Dx) dL_law_459 cb_X11_mosts ml_RL_68 im_yX11_mosts se_yX11_mosts (Fx.m 0 (Nat.le_of_ble_eq_true rfl)) (Fx.k 0 11 rfl) (Nat.le_of_ble_eq_true rfl) ⟨(Nat.le_of_ble_eq_true rfl), (Nat.le_of_ble_eq_true rfl)⟩ rfl rfl (Nat.le_of_ble_eq_true rfl) ⟨(Nat.le_of_ble_eq_true rfl), (Nat.le_of_ble_eq_true rfl)⟩ (RLg.go (fun r1 S4 h1 => ?_))
  refine lv_swap (b2 := n0 + sN S4) (by omega) ?_
  refine V_aload_2 462 dL_law_462 ?_
  refine V_callV 463 (ci := 12) [] _ (g_mosts l _ S3 Fm Dm) dL_law_463 cb_X12_mosts ml_RL_72 im_yX12_mosts se_yX12_mosts (Fm.m 0 (Nat.le_of_ble_eq_true rfl)) (Fm.k 0 12 rfl) (Nat.le_of_ble_eq_true rfl) ⟨(Nat.le_of_ble_eq_true rfl), (Nat.le_of_ble_eq_true rfl)⟩ rfl rfl (Nat.le_of_ble_eq_true rfl) ⟨(Nat.le_of_ble_eq_true rfl), (Nat.le_of_ble_eq_true rfl)⟩ (RLg.go (fun r2 S5 h2 => ?_))
  have e0 : r1 = r2 := h1.trans h2.symm
  subst e0
  refine V_lcmp 466 dL_law_466 ?_
  rw [lg_cmp_self]
  refine V_if_eq 467 889 dL_law_467 (by decide) (fun _ => ?_) (fun q => absurd (rfl) q)
  exact law_tail (xs := xs) (Nat.le_of_ble_eq_true rfl) (Nat.le_of_ble_eq_true rfl) hret rfl hX hbl hbA
set_option maxRecDepth 100000 in
set_option maxHeartbeats 4000000 in
theorem law_sure {n0 n1 h mm : Nat} {S1 S3 : PS} (L : LH s meth b xs n0 n1 h mm S1 S3) : LV p l e s m below meth c b (GG s.heap.size (va_pl (PL n0 S1) (EN cy S1)) cy G n1 n1 kS vS) 400 400000 S3 472 [some (.ref b), some (.ref h), some (.ref mm), some (.int 0)] [] := by
  obtain ⟨hret, hX, hbl, Fx, Dx, Fm, Dm, hn⟩ := L
  have hbA : ¬ s.heap.size ≤ b := Nat.not_le.mpr hbl
  refine lv_swap (b2 := n0 + sN S3) (by omega) ?_
  refine V_aload_1 472 dL_law_472 ?_
  refine V_aload_0 473 dL_law_473 ?_
  refine V_iload_3 474 dL_law_474 ?_
  refine V_iconst 475 (1) dL_law_475 (by decide) ?_
  refine V_iadd 476 dL_law_476 ?_
  refine V_sld 477 hX hbl hbA ?_ dL_law_477 ?_
  · exact (by unfold vp_in; decide)
  refine V_aload_0 478 dL_law_478 ?_
  refine V_iload_3 479 dL_law_479 ?_
  refine V_iconst 480 (2) dL_law_480 (by decide) ?_
  refine V_iadd 481 dL_law_481 ?_
  refine V_sld 482 hX hbl hbA ?_ dL_law_482 ?_
  · exact (by unfold vp_in; decide)
  refine V_callV 483 (ci := 11) [.int _, .int _] _ (f_sure l _ S1 Fx Dx _ _) dL_law_483 cb_X11_sure ml_RL_73 im_yX11_sure se_yX11_sure (Fx.m 0 (Nat.le_of_ble_eq_true rfl)) (Fx.k 0 11 rfl) (Nat.le_of_ble_eq_true rfl) ⟨(Nat.le_of_ble_eq_true rfl), (Nat.le_of_ble_eq_true rfl)⟩ rfl rfl (Nat.le_of_ble_eq_true rfl) ⟨(Nat.le_of_ble_eq_true rfl), (Nat.le_of_ble_eq_true rfl)⟩ (RI.go (fun r1 S4 h1 => ?_))
  refine lv_swap (b2 := n0 + sN S4) (by omega) ?_
  refine V_aload_2 486 dL_law_486 ?_
  refine V_aload_0 487 dL_law_487 ?_
  refine V_iload_3 488 dL_law_488 ?_
  refine V_iconst 489 (1) dL_law_489 (by decide) ?_
  refine V_iadd 490 dL_law_490 ?_
  refine V_sld 491 hX hbl hbA ?_ dL_law_491 ?_
  · exact (by unfold vp_in; decide)
  refine V_aload_0 492 dL_law_492 ?_
  refine V_iload_3 493 dL_law_493 ?_
  refine V_iconst 494 (2) dL_law_494 (by decide) ?_
  refine V_iadd 495 dL_law_495 ?_
  refine V_sld 496 hX hbl hbA ?_ dL_law_496 ?_
  · exact (by unfold vp_in; decide)
  refine V_callV 497 (ci := 12) [.int _, .int _] _ (g_sure l _ S3 Fm Dm _ _) dL_law_497 cb_X12_sure ml_RL_76 im_yX12_sure se_yX12_sure (Fm.m 0 (Nat.le_of_ble_eq_true rfl)) (Fm.k 0 12 rfl) (Nat.le_of_ble_eq_true rfl) ⟨(Nat.le_of_ble_eq_true rfl), (Nat.le_of_ble_eq_true rfl)⟩ rfl rfl (Nat.le_of_ble_eq_true rfl) ⟨(Nat.le_of_ble_eq_true rfl), (Nat.le_of_ble_eq_true rfl)⟩ (RI.go (fun r2 S5 h2 => ?_))
  have e0 : r1 = r2 := h1.trans h2.symm
  subst e0
  refine V_icmp_eq 500 889 dL_law_500 (by decide) (fun _ => ?_) (fun q => absurd (rfl) q)
  exact law_tail (xs := xs) (Nat.le_of_ble_eq_true rfl) (Nat.le_of_ble_eq_true rfl) hret rfl hX hbl hbA
set_option maxRecDepth 100000 in
set_option maxHeartbeats 4000000 in
theorem law_evening {n0 n1 h mm : Nat} {S1 S3 : PS} (L : LH s meth b xs n0 n1 h mm S1 S3) : LV p l e s m below meth c b (GG s.heap.size (va_pl (PL n0 S1) (EN cy S1)) cy G n1 n1 kS vS) 400 400000 S3 505 [some (.ref b), some (.ref h), some (.ref mm), some (.int 0)] [] := by
  obtain ⟨hret, hX, hbl, Fx, Dx, Fm, Dm, hn⟩ := L
  have hbA : ¬ s.heap.size ≤ b := Nat.not_le.mpr hbl
  refine lv_swap (b2 := n0 + sN S3) (by omega) ?_
  refine V_aload_1 505 dL_law_505 ?_
  refine V_aload_0 506 dL_law_506 ?_
  refine V_iload_3 507 dL_law_507 ?_
  refine V_iconst 508 (1) dL_law_508 (by decide) ?_
  refine V_iadd 509 dL_law_509 ?_
  refine V_sld 510 hX hbl hbA ?_ dL_law_510 ?_
  · exact (by unfold vp_in; decide)
  refine V_callV 511 (ci := 11) [.int _] _ (f_evening l _ S1 Fx Dx _) dL_law_511 cb_X11_evening ml_RL_77 im_yX11_evening se_yX11_evening (Fx.m 0 (Nat.le_of_ble_eq_true rfl)) (Fx.k 0 11 rfl) (Nat.le_of_ble_eq_true rfl) ⟨(Nat.le_of_ble_eq_true rfl), (Nat.le_of_ble_eq_true rfl)⟩ rfl rfl (Nat.le_of_ble_eq_true rfl) ⟨(Nat.le_of_ble_eq_true rfl), (Nat.le_of_ble_eq_true rfl)⟩ (RI.go (fun r1 S4 h1 => ?_))
  refine lv_swap (b2 := n0 + sN S4) (by omega) ?_
  refine V_aload_2 514 dL_law_514 ?_
  refine V_aload_0 515 dL_law_515 ?_
  refine V_iload_3 516 dL_law_516 ?_
  refine V_iconst 517 (1) dL_law_517 (by decide) ?_
  refine V_iadd 518 dL_law_518 ?_
  refine V_sld 519 hX hbl hbA ?_ dL_law_519 ?_
  · exact (by unfold vp_in; decide)
  refine V_callV 520 (ci := 12) [.int _] _ (g_evening l _ S3 Fm Dm _) dL_law_520 cb_X12_evening ml_RL_80 im_yX12_evening se_yX12_evening (Fm.m 0 (Nat.le_of_ble_eq_true rfl)) (Fm.k 0 12 rfl) (Nat.le_of_ble_eq_true rfl) ⟨(Nat.le_of_ble_eq_true rfl), (Nat.le_of_ble_eq_true rfl)⟩ rfl rfl (Nat.le_of_ble_eq_true rfl) ⟨(Nat.le_of_ble_eq_true rfl), (Nat.le_of_ble_eq_true rfl)⟩ (RI.go (fun r2 S5 h2 => ?_))
  have e0 : r1 = r2 := h1.trans h2.symm
  subst e0
  refine V_icmp_eq 523 889 dL_law_523 (by decide) (fun _ => ?_) (fun q => absurd (rfl) q)
  exact law_tail (xs := xs) (Nat.le_of_ble_eq_true rfl) (Nat.le_of_ble_eq_true rfl) hret rfl hX hbl hbA
set_option maxRecDepth 100000 in
set_option maxHeartbeats 4000000 in
theorem law_soonest {n0 n1 h mm : Nat} {S1 S3 : PS} (L : LH s meth b xs n0 n1 h mm S1 S3) : LV p l e s m below meth c b (GG s.heap.size (va_pl (PL n0 S1) (EN cy S1)) cy G n1 n1 kS vS) 400 400000 S3 528 [some (.ref b), some (.ref h), some (.ref mm), some (.int 0)] [] := by
  obtain ⟨hret, hX, hbl, Fx, Dx, Fm, Dm, hn⟩ := L
  have hbA : ¬ s.heap.size ≤ b := Nat.not_le.mpr hbl
  refine lv_swap (b2 := n0 + sN S3) (by omega) ?_
  refine V_aload_1 528 dL_law_528 ?_
  refine V_aload_0 529 dL_law_529 ?_
  refine V_iload_3 530 dL_law_530 ?_
  refine V_iconst 531 (1) dL_law_531 (by decide) ?_
  refine V_iadd 532 dL_law_532 ?_
  refine V_sld 533 hX hbl hbA ?_ dL_law_533 ?_
  · exact (by unfold vp_in; decide)
  refine V_aload_0 534 dL_law_534 ?_
  refine V_iload_3 535 dL_law_535 ?_
  refine V_iconst 536 (2) dL_law_536 (by decide) ?_
  refine V_iadd 537 dL_law_537 ?_
  refine V_sld 538 hX hbl hbA ?_ dL_law_538 ?_
  · exact (by unfold vp_in; decide)
  refine V_callV 539 (ci := 11) [.int _, .int _] _ (f_soonest l _ S1 Fx Dx _ _) dL_law_539 cb_X11_soonest ml_RL_81 im_yX11_soonest se_yX11_soonest (Fx.m 0 (Nat.le_of_ble_eq_true rfl)) (Fx.k 0 11 rfl) (Nat.le_of_ble_eq_true rfl) ⟨(Nat.le_of_ble_eq_true rfl), (Nat.le_of_ble_eq_true rfl)⟩ rfl rfl (Nat.le_of_ble_eq_true rfl) ⟨(Nat.le_of_ble_eq_true rfl), (Nat.le_of_ble_eq_true rfl)⟩ (RI.go (fun r1 S4 h1 => ?_))
  refine lv_swap (b2 := n0 + sN S4) (by omega) ?_
  refine V_aload_2 542 dL_law_542 ?_
  refine V_aload_0 543 dL_law_543 ?_
  refine V_iload_3 544 dL_law_544 ?_
  refine V_iconst 545 (1) dL_law_545 (by decide) ?_
  refine V_iadd 546 dL_law_546 ?_
  refine V_sld 547 hX hbl hbA ?_ dL_law_547 ?_
  · exact (by unfold vp_in; decide)
  refine V_aload_0 548 dL_law_548 ?_
  refine V_iload_3 549 dL_law_549 ?_
  refine V_iconst 550 (2) dL_law_550 (by decide) ?_
  refine V_iadd 551 dL_law_551 ?_
  refine V_sld 552 hX hbl hbA ?_ dL_law_552 ?_
  · exact (by unfold vp_in; decide)
  refine V_callV 553 (ci := 12) [.int _, .int _] _ (g_soonest l _ S3 Fm Dm _ _) dL_law_553 cb_X12_soonest ml_RL_84 im_yX12_soonest se_yX12_soonest (Fm.m 0 (Nat.le_of_ble_eq_true rfl)) (Fm.k 0 12 rfl) (Nat.le_of_ble_eq_true rfl) ⟨(Nat.le_of_ble_eq_true rfl), (Nat.le_of_ble_eq_true rfl)⟩ rfl rfl (Nat.le_of_ble_eq_true rfl) ⟨(Nat.le_of_ble_eq_true rfl), (Nat.le_of_ble_eq_true rfl)⟩ (RI.go (fun r2 S5 h2 => ?_))
  have e0 : r1 = r2 := h1.trans h2.symm
  subst e0
  refine V_icmp_eq 556 889 dL_law_556 (by decide) (fun _ => ?_) (fun q => absurd (rfl) q)
  exact law_tail (xs := xs) (Nat.le_of_ble_eq_true rfl) (Nat.le_of_ble_eq_true rfl) hret rfl hX hbl hbA
set_option maxRecDepth 100000 in
set_option maxHeartbeats 4000000 in
theorem law_line {n0 n1 h mm : Nat} {S1 S3 : PS} (L : LH s meth b xs n0 n1 h mm S1 S3) : LV p l e s m below meth c b (GG s.heap.size (va_pl (PL n0 S1) (EN cy S1)) cy G n1 n1 kS vS) 400 400000 S3 561 [some (.ref b), some (.ref h), some (.ref mm), some (.int 0)] [] := by
  obtain ⟨hret, hX, hbl, Fx, Dx, Fm, Dm, hn⟩ := L
  have hbA : ¬ s.heap.size ≤ b := Nat.not_le.mpr hbl
  refine lv_swap (b2 := n0 + sN S3) (by omega) ?_
  refine V_aload_1 561 dL_law_561 ?_
  refine V_callV 562 (ci := 11) [] _ (f_line l _ S1 Fx Dx) dL_law_562 cb_X11_line ml_RL_85 im_yX11_line se_yX11_line (Fx.m 0 (Nat.le_of_ble_eq_true rfl)) (Fx.k 0 11 rfl) (Nat.le_of_ble_eq_true rfl) ⟨(Nat.le_of_ble_eq_true rfl), (Nat.le_of_ble_eq_true rfl)⟩ rfl rfl (Nat.le_of_ble_eq_true rfl) ⟨(Nat.le_of_ble_eq_true rfl), (Nat.le_of_ble_eq_true rfl)⟩ (RI.go (fun r1 S4 h1 => ?_))
  refine lv_swap (b2 := n0 + sN S4) (by omega) ?_
  refine V_aload_2 565 dL_law_565 ?_
  refine V_callV 566 (ci := 12) [] _ (g_line l _ S3 Fm Dm) dL_law_566 cb_X12_line ml_RL_88 im_yX12_line se_yX12_line (Fm.m 0 (Nat.le_of_ble_eq_true rfl)) (Fm.k 0 12 rfl) (Nat.le_of_ble_eq_true rfl) ⟨(Nat.le_of_ble_eq_true rfl), (Nat.le_of_ble_eq_true rfl)⟩ rfl rfl (Nat.le_of_ble_eq_true rfl) ⟨(Nat.le_of_ble_eq_true rfl), (Nat.le_of_ble_eq_true rfl)⟩ (RI.go (fun r2 S5 h2 => ?_))
  have e0 : r1 = r2 := h1.trans h2.symm
  subst e0
  refine V_icmp_eq 569 889 dL_law_569 (by decide) (fun _ => ?_) (fun q => absurd (rfl) q)
  exact law_tail (xs := xs) (Nat.le_of_ble_eq_true rfl) (Nat.le_of_ble_eq_true rfl) hret rfl hX hbl hbA
set_option maxRecDepth 100000 in
set_option maxHeartbeats 4000000 in
theorem law_exchange {n0 n1 h mm : Nat} {S1 S3 : PS} (L : LH s meth b xs n0 n1 h mm S1 S3) : LV p l e s m below meth c b (GG s.heap.size (va_pl (PL n0 S1) (EN cy S1)) cy G n1 n1 kS vS) 400 400000 S3 574 [some (.ref b), some (.ref h), some (.ref mm), some (.int 0)] [] := by
  obtain ⟨hret, hX, hbl, Fx, Dx, Fm, Dm, hn⟩ := L
  have hbA : ¬ s.heap.size ≤ b := Nat.not_le.mpr hbl
  refine lv_swap (b2 := n0 + sN S3) (by omega) ?_
  refine V_aload_1 574 dL_law_574 ?_
  refine V_aload_0 575 dL_law_575 ?_
  refine V_iload_3 576 dL_law_576 ?_
  refine V_iconst 577 (1) dL_law_577 (by decide) ?_
  refine V_iadd 578 dL_law_578 ?_
  refine V_sld 579 hX hbl hbA ?_ dL_law_579 ?_
  · exact (by unfold vp_in; decide)
  refine V_callV 580 (ci := 11) [.int _] _ (f_exchange l _ S1 Fx Dx _) dL_law_580 cb_X11_exchange ml_RL_89 im_yX11_exchange se_yX11_exchange (Fx.m 0 (Nat.le_of_ble_eq_true rfl)) (Fx.k 0 11 rfl) (Nat.le_of_ble_eq_true rfl) ⟨(Nat.le_of_ble_eq_true rfl), (Nat.le_of_ble_eq_true rfl)⟩ rfl rfl (Nat.le_of_ble_eq_true rfl) ⟨(Nat.le_of_ble_eq_true rfl), (Nat.le_of_ble_eq_true rfl)⟩ (RI.go (fun r1 S4 h1 => ?_))
  refine lv_swap (b2 := n0 + sN S4) (by omega) ?_
  refine V_aload_2 583 dL_law_583 ?_
  refine V_aload_0 584 dL_law_584 ?_
  refine V_iload_3 585 dL_law_585 ?_
  refine V_iconst 586 (1) dL_law_586 (by decide) ?_
  refine V_iadd 587 dL_law_587 ?_
  refine V_sld 588 hX hbl hbA ?_ dL_law_588 ?_
  · exact (by unfold vp_in; decide)
  refine V_callV 589 (ci := 12) [.int _] _ (g_exchange l _ S3 Fm Dm _) dL_law_589 cb_X12_exchange ml_RL_92 im_yX12_exchange se_yX12_exchange (Fm.m 0 (Nat.le_of_ble_eq_true rfl)) (Fm.k 0 12 rfl) (Nat.le_of_ble_eq_true rfl) ⟨(Nat.le_of_ble_eq_true rfl), (Nat.le_of_ble_eq_true rfl)⟩ rfl rfl (Nat.le_of_ble_eq_true rfl) ⟨(Nat.le_of_ble_eq_true rfl), (Nat.le_of_ble_eq_true rfl)⟩ (RI.go (fun r2 S5 h2 => ?_))
  have e0 : r1 = r2 := h1.trans h2.symm
  subst e0
  refine V_icmp_eq 592 889 dL_law_592 (by decide) (fun _ => ?_) (fun q => absurd (rfl) q)
  exact law_tail (xs := xs) (Nat.le_of_ble_eq_true rfl) (Nat.le_of_ble_eq_true rfl) hret rfl hX hbl hbA
set_option maxRecDepth 100000 in
set_option maxHeartbeats 4000000 in
theorem law_odd {n0 n1 h mm : Nat} {S1 S3 : PS} (L : LH s meth b xs n0 n1 h mm S1 S3) : LV p l e s m below meth c b (GG s.heap.size (va_pl (PL n0 S1) (EN cy S1)) cy G n1 n1 kS vS) 400 400000 S3 597 [some (.ref b), some (.ref h), some (.ref mm), some (.int 0)] [] := by
  obtain ⟨hret, hX, hbl, Fx, Dx, Fm, Dm, hn⟩ := L
  have hbA : ¬ s.heap.size ≤ b := Nat.not_le.mpr hbl
  refine lv_swap (b2 := n0 + sN S3) (by omega) ?_
  refine V_aload_1 597 dL_law_597 ?_
  refine V_aload_0 598 dL_law_598 ?_
  refine V_iload_3 599 dL_law_599 ?_
  refine V_iconst 600 (1) dL_law_600 (by decide) ?_
  refine V_iadd 601 dL_law_601 ?_
  refine V_sld 602 hX hbl hbA ?_ dL_law_602 ?_
  · exact (by unfold vp_in; decide)
  refine V_callV 603 (ci := 11) [.int _] _ (f_odd l _ S1 Fx Dx _) dL_law_603 cb_X11_odd ml_RL_93 im_yX11_odd se_yX11_odd (Fx.m 0 (Nat.le_of_ble_eq_true rfl)) (Fx.k 0 11 rfl) (Nat.le_of_ble_eq_true rfl) ⟨(Nat.le_of_ble_eq_true rfl), (Nat.le_of_ble_eq_true rfl)⟩ rfl rfl (Nat.le_of_ble_eq_true rfl) ⟨(Nat.le_of_ble_eq_true rfl), (Nat.le_of_ble_eq_true rfl)⟩ (RI.go (fun r1 S4 h1 => ?_))
  refine lv_swap (b2 := n0 + sN S4) (by omega) ?_
  refine V_aload_2 606 dL_law_606 ?_
  refine V_aload_0 607 dL_law_607 ?_
  refine V_iload_3 608 dL_law_608 ?_
  refine V_iconst 609 (1) dL_law_609 (by decide) ?_
  refine V_iadd 610 dL_law_610 ?_
  refine V_sld 611 hX hbl hbA ?_ dL_law_611 ?_
  · exact (by unfold vp_in; decide)
  refine V_callV 612 (ci := 12) [.int _] _ (g_odd l _ S3 Fm Dm _) dL_law_612 cb_X12_odd ml_RL_96 im_yX12_odd se_yX12_odd (Fm.m 0 (Nat.le_of_ble_eq_true rfl)) (Fm.k 0 12 rfl) (Nat.le_of_ble_eq_true rfl) ⟨(Nat.le_of_ble_eq_true rfl), (Nat.le_of_ble_eq_true rfl)⟩ rfl rfl (Nat.le_of_ble_eq_true rfl) ⟨(Nat.le_of_ble_eq_true rfl), (Nat.le_of_ble_eq_true rfl)⟩ (RI.go (fun r2 S5 h2 => ?_))
  have e0 : r1 = r2 := h1.trans h2.symm
  subst e0
  refine V_icmp_eq 615 889 dL_law_615 (by decide) (fun _ => ?_) (fun q => absurd (rfl) q)
  exact law_tail (xs := xs) (Nat.le_of_ble_eq_true rfl) (Nat.le_of_ble_eq_true rfl) hret rfl hX hbl hbA
set_option maxRecDepth 100000 in
set_option maxHeartbeats 4000000 in
theorem law_lost {n0 n1 h mm : Nat} {S1 S3 : PS} (L : LH s meth b xs n0 n1 h mm S1 S3) : LV p l e s m below meth c b (GG s.heap.size (va_pl (PL n0 S1) (EN cy S1)) cy G n1 n1 kS vS) 400 400000 S3 620 [some (.ref b), some (.ref h), some (.ref mm), some (.int 0)] [] := by
  obtain ⟨hret, hX, hbl, Fx, Dx, Fm, Dm, hn⟩ := L
  have hbA : ¬ s.heap.size ≤ b := Nat.not_le.mpr hbl
  refine lv_swap (b2 := n0 + sN S3) (by omega) ?_
  refine V_aload_1 620 dL_law_620 ?_
  refine V_aload_0 621 dL_law_621 ?_
  refine V_iload_3 622 dL_law_622 ?_
  refine V_iconst 623 (1) dL_law_623 (by decide) ?_
  refine V_iadd 624 dL_law_624 ?_
  refine V_sld 625 hX hbl hbA ?_ dL_law_625 ?_
  · exact (by unfold vp_in; decide)
  refine V_aload_0 626 dL_law_626 ?_
  refine V_iload_3 627 dL_law_627 ?_
  refine V_iconst 628 (2) dL_law_628 (by decide) ?_
  refine V_iadd 629 dL_law_629 ?_
  refine V_sld 630 hX hbl hbA ?_ dL_law_630 ?_
  · exact (by unfold vp_in; decide)
  refine V_aload_0 631 dL_law_631 ?_
  refine V_iload_3 632 dL_law_632 ?_
  refine V_iconst 633 (3) dL_law_633 (by decide) ?_
  refine V_iadd 634 dL_law_634 ?_
  refine V_sld 635 hX hbl hbA ?_ dL_law_635 ?_
  · exact (by unfold vp_in; decide)
  refine V_callV 636 (ci := 11) [.int _, .int _, .int _] _ (f_lost l _ S1 Fx Dx _ _ _) dL_law_636 cb_X11_lost ml_RL_97 im_yX11_lost se_yX11_lost (Fx.m 0 (Nat.le_of_ble_eq_true rfl)) (Fx.k 0 11 rfl) (Nat.le_of_ble_eq_true rfl) ⟨(Nat.le_of_ble_eq_true rfl), (Nat.le_of_ble_eq_true rfl)⟩ rfl rfl (Nat.le_of_ble_eq_true rfl) ⟨(Nat.le_of_ble_eq_true rfl), (Nat.le_of_ble_eq_true rfl)⟩ (RLg.go (fun r1 S4 h1 => ?_))
  refine lv_swap (b2 := n0 + sN S4) (by omega) ?_
  refine V_aload_2 639 dL_law_639 ?_
  refine V_aload_0 640 dL_law_640 ?_
  refine V_iload_3 641 dL_law_641 ?_
  refine V_iconst 642 (1) dL_law_642 (by decide) ?_
  refine V_iadd 643 dL_law_643 ?_
  refine V_sld 644 hX hbl hbA ?_ dL_law_644 ?_
  · exact (by unfold vp_in; decide)
  refine V_aload_0 645 dL_law_645 ?_
  refine V_iload_3 646 dL_law_646 ?_
  refine V_iconst 647 (2) dL_law_647 (by decide) ?_
  refine V_iadd 648 dL_law_648 ?_
  refine V_sld 649 hX hbl hbA ?_ dL_law_649 ?_
  · exact (by unfold vp_in; decide)
  refine V_aload_0 650 dL_law_650 ?_
  refine V_iload_3 651 dL_law_651 ?_
  refine V_iconst 652 (3) dL_law_652 (by decide) ?_
  refine V_iadd 653 dL_law_653 ?_
  refine V_sld 654 hX hbl hbA ?_ dL_law_654 ?_
  · exact (by unfold vp_in; decide)
  refine V_callV 655 (ci := 12) [.int _, .int _, .int _] _ (g_lost l _ S3 Fm Dm _ _ _) dL_law_655 cb_X12_lost ml_RL_101 im_yX12_lost se_yX12_lost (Fm.m 0 (Nat.le_of_ble_eq_true rfl)) (Fm.k 0 12 rfl) (Nat.le_of_ble_eq_true rfl) ⟨(Nat.le_of_ble_eq_true rfl), (Nat.le_of_ble_eq_true rfl)⟩ rfl rfl (Nat.le_of_ble_eq_true rfl) ⟨(Nat.le_of_ble_eq_true rfl), (Nat.le_of_ble_eq_true rfl)⟩ (RLg.go (fun r2 S5 h2 => ?_))
  have e0 : r1 = r2 := h1.trans h2.symm
  subst e0
  refine V_lcmp 658 dL_law_658 ?_
  rw [lg_cmp_self]
  refine V_if_eq 659 889 dL_law_659 (by decide) (fun _ => ?_) (fun q => absurd (rfl) q)
  exact law_tail (xs := xs) (Nat.le_of_ble_eq_true rfl) (Nat.le_of_ble_eq_true rfl) hret rfl hX hbl hbA
set_option maxRecDepth 100000 in
set_option maxHeartbeats 4000000 in
theorem law_years {n0 n1 h mm : Nat} {S1 S3 : PS} (L : LH s meth b xs n0 n1 h mm S1 S3) : LV p l e s m below meth c b (GG s.heap.size (va_pl (PL n0 S1) (EN cy S1)) cy G n1 n1 kS vS) 400 400000 S3 664 [some (.ref b), some (.ref h), some (.ref mm), some (.int 0)] [] := by
  obtain ⟨hret, hX, hbl, Fx, Dx, Fm, Dm, hn⟩ := L
  have hbA : ¬ s.heap.size ≤ b := Nat.not_le.mpr hbl
  refine lv_swap (b2 := n0 + sN S3) (by omega) ?_
  refine V_aload_1 664 dL_law_664 ?_
  refine V_aload_0 665 dL_law_665 ?_
  refine V_iload_3 666 dL_law_666 ?_
  refine V_iconst 667 (1) dL_law_667 (by decide) ?_
  refine V_iadd 668 dL_law_668 ?_
  refine V_sld 669 hX hbl hbA ?_ dL_law_669 ?_
  · exact (by unfold vp_in; decide)
  refine V_aload_0 670 dL_law_670 ?_
  refine V_iload_3 671 dL_law_671 ?_
  refine V_iconst 672 (2) dL_law_672 (by decide) ?_
  refine V_iadd 673 dL_law_673 ?_
  refine V_sld 674 hX hbl hbA ?_ dL_law_674 ?_
  · exact (by unfold vp_in; decide)
  refine V_callV 675 (ci := 11) [.int _, .int _] _ (f_years l _ S1 Fx Dx _ _) dL_law_675 cb_X11_years ml_RL_102 im_yX11_years se_yX11_years (Fx.m 0 (Nat.le_of_ble_eq_true rfl)) (Fx.k 0 11 rfl) (Nat.le_of_ble_eq_true rfl) ⟨(Nat.le_of_ble_eq_true rfl), (Nat.le_of_ble_eq_true rfl)⟩ rfl rfl (Nat.le_of_ble_eq_true rfl) ⟨(Nat.le_of_ble_eq_true rfl), (Nat.le_of_ble_eq_true rfl)⟩ (RI.go (fun r1 S4 h1 => ?_))
  refine lv_swap (b2 := n0 + sN S4) (by omega) ?_
  refine V_aload_2 678 dL_law_678 ?_
  refine V_aload_0 679 dL_law_679 ?_
  refine V_iload_3 680 dL_law_680 ?_
  refine V_iconst 681 (1) dL_law_681 (by decide) ?_
  refine V_iadd 682 dL_law_682 ?_
  refine V_sld 683 hX hbl hbA ?_ dL_law_683 ?_
  · exact (by unfold vp_in; decide)
  refine V_aload_0 684 dL_law_684 ?_
  refine V_iload_3 685 dL_law_685 ?_
  refine V_iconst 686 (2) dL_law_686 (by decide) ?_
  refine V_iadd 687 dL_law_687 ?_
  refine V_sld 688 hX hbl hbA ?_ dL_law_688 ?_
  · exact (by unfold vp_in; decide)
  refine V_callV 689 (ci := 12) [.int _, .int _] _ (g_years l _ S3 Fm Dm _ _) dL_law_689 cb_X12_years ml_RL_105 im_yX12_years se_yX12_years (Fm.m 0 (Nat.le_of_ble_eq_true rfl)) (Fm.k 0 12 rfl) (Nat.le_of_ble_eq_true rfl) ⟨(Nat.le_of_ble_eq_true rfl), (Nat.le_of_ble_eq_true rfl)⟩ rfl rfl (Nat.le_of_ble_eq_true rfl) ⟨(Nat.le_of_ble_eq_true rfl), (Nat.le_of_ble_eq_true rfl)⟩ (RI.go (fun r2 S5 h2 => ?_))
  have e0 : r1 = r2 := h1.trans h2.symm
  subst e0
  refine V_icmp_eq 692 889 dL_law_692 (by decide) (fun _ => ?_) (fun q => absurd (rfl) q)
  exact law_tail (xs := xs) (Nat.le_of_ble_eq_true rfl) (Nat.le_of_ble_eq_true rfl) hret rfl hX hbl hbA
set_option maxRecDepth 100000 in
set_option maxHeartbeats 4000000 in
theorem law_see {n0 n1 h mm : Nat} {S1 S3 : PS} (L : LH s meth b xs n0 n1 h mm S1 S3) : LV p l e s m below meth c b (GG s.heap.size (va_pl (PL n0 S1) (EN cy S1)) cy G n1 n1 kS vS) 400 400000 S3 697 [some (.ref b), some (.ref h), some (.ref mm), some (.int 0)] [] := by
  obtain ⟨hret, hX, hbl, Fx, Dx, Fm, Dm, hn⟩ := L
  have hbA : ¬ s.heap.size ≤ b := Nat.not_le.mpr hbl
  refine lv_swap (b2 := n0 + sN S3) (by omega) ?_
  refine V_aload_1 697 dL_law_697 ?_
  refine V_aload_0 698 dL_law_698 ?_
  refine V_iload_3 699 dL_law_699 ?_
  refine V_iconst 700 (1) dL_law_700 (by decide) ?_
  refine V_iadd 701 dL_law_701 ?_
  refine V_sld 702 hX hbl hbA ?_ dL_law_702 ?_
  · exact (by unfold vp_in; decide)
  refine V_aload_0 703 dL_law_703 ?_
  refine V_iload_3 704 dL_law_704 ?_
  refine V_iconst 705 (2) dL_law_705 (by decide) ?_
  refine V_iadd 706 dL_law_706 ?_
  refine V_sld 707 hX hbl hbA ?_ dL_law_707 ?_
  · exact (by unfold vp_in; decide)
  refine V_callV 708 (ci := 11) [.int _, .int _] _ (f_see l _ S1 Fx Dx _ _) dL_law_708 cb_X11_see ml_RL_106 im_yX11_see se_yX11_see (Fx.m 0 (Nat.le_of_ble_eq_true rfl)) (Fx.k 0 11 rfl) (Nat.le_of_ble_eq_true rfl) ⟨(Nat.le_of_ble_eq_true rfl), (Nat.le_of_ble_eq_true rfl)⟩ rfl rfl (Nat.le_of_ble_eq_true rfl) ⟨(Nat.le_of_ble_eq_true rfl), (Nat.le_of_ble_eq_true rfl)⟩ (RI.go (fun r1 S4 h1 => ?_))
  refine lv_swap (b2 := n0 + sN S4) (by omega) ?_
  refine V_aload_2 711 dL_law_711 ?_
  refine V_aload_0 712 dL_law_712 ?_
  refine V_iload_3 713 dL_law_713 ?_
  refine V_iconst 714 (1) dL_law_714 (by decide) ?_
  refine V_iadd 715 dL_law_715 ?_
  refine V_sld 716 hX hbl hbA ?_ dL_law_716 ?_
  · exact (by unfold vp_in; decide)
  refine V_aload_0 717 dL_law_717 ?_
  refine V_iload_3 718 dL_law_718 ?_
  refine V_iconst 719 (2) dL_law_719 (by decide) ?_
  refine V_iadd 720 dL_law_720 ?_
  refine V_sld 721 hX hbl hbA ?_ dL_law_721 ?_
  · exact (by unfold vp_in; decide)
  refine V_callV 722 (ci := 12) [.int _, .int _] _ (g_see l _ S3 Fm Dm _ _) dL_law_722 cb_X12_see ml_RL_109 im_yX12_see se_yX12_see (Fm.m 0 (Nat.le_of_ble_eq_true rfl)) (Fm.k 0 12 rfl) (Nat.le_of_ble_eq_true rfl) ⟨(Nat.le_of_ble_eq_true rfl), (Nat.le_of_ble_eq_true rfl)⟩ rfl rfl (Nat.le_of_ble_eq_true rfl) ⟨(Nat.le_of_ble_eq_true rfl), (Nat.le_of_ble_eq_true rfl)⟩ (RI.go (fun r2 S5 h2 => ?_))
  have e0 : r1 = r2 := h1.trans h2.symm
  subst e0
  refine V_icmp_eq 725 889 dL_law_725 (by decide) (fun _ => ?_) (fun q => absurd (rfl) q)
  exact law_tail (xs := xs) (Nat.le_of_ble_eq_true rfl) (Nat.le_of_ble_eq_true rfl) hret rfl hX hbl hbA
set_option maxRecDepth 100000 in
set_option maxHeartbeats 4000000 in
theorem law_forget {n0 n1 h mm : Nat} {S1 S3 : PS} (L : LH s meth b xs n0 n1 h mm S1 S3) : LV p l e s m below meth c b (GG s.heap.size (va_pl (PL n0 S1) (EN cy S1)) cy G n1 n1 kS vS) 400 400000 S3 730 [some (.ref b), some (.ref h), some (.ref mm), some (.int 0)] [] := by
  obtain ⟨hret, hX, hbl, Fx, Dx, Fm, Dm, hn⟩ := L
  have hbA : ¬ s.heap.size ≤ b := Nat.not_le.mpr hbl
  refine lv_swap (b2 := n0 + sN S3) (by omega) ?_
  refine V_aload_1 730 dL_law_730 ?_
  refine V_callV 731 (ci := 11) [] _ (f_forget l _ S1 Fx Dx) dL_law_731 cb_X11_forget ml_RL_110 im_yX11_forget se_yX11_forget (Fx.m 0 (Nat.le_of_ble_eq_true rfl)) (Fx.k 0 11 rfl) (Nat.le_of_ble_eq_true rfl) ⟨(Nat.le_of_ble_eq_true rfl), (Nat.le_of_ble_eq_true rfl)⟩ rfl rfl (Nat.le_of_ble_eq_true rfl) ⟨(Nat.le_of_ble_eq_true rfl), (Nat.le_of_ble_eq_true rfl)⟩ (RI.go (fun r1 S4 h1 => ?_))
  refine lv_swap (b2 := n0 + sN S4) (by omega) ?_
  refine V_aload_2 734 dL_law_734 ?_
  refine V_callV 735 (ci := 12) [] _ (g_forget l _ S3 Fm Dm) dL_law_735 cb_X12_forget ml_RL_113 im_yX12_forget se_yX12_forget (Fm.m 0 (Nat.le_of_ble_eq_true rfl)) (Fm.k 0 12 rfl) (Nat.le_of_ble_eq_true rfl) ⟨(Nat.le_of_ble_eq_true rfl), (Nat.le_of_ble_eq_true rfl)⟩ rfl rfl (Nat.le_of_ble_eq_true rfl) ⟨(Nat.le_of_ble_eq_true rfl), (Nat.le_of_ble_eq_true rfl)⟩ (RI.go (fun r2 S5 h2 => ?_))
  have e0 : r1 = r2 := h1.trans h2.symm
  subst e0
  refine V_icmp_eq 738 889 dL_law_738 (by decide) (fun _ => ?_) (fun q => absurd (rfl) q)
  exact law_tail (xs := xs) (Nat.le_of_ble_eq_true rfl) (Nat.le_of_ble_eq_true rfl) hret rfl hX hbl hbA
set_option maxRecDepth 100000 in
set_option maxHeartbeats 4000000 in
theorem law_rows {n0 n1 h mm : Nat} {S1 S3 : PS} (L : LH s meth b xs n0 n1 h mm S1 S3) : LV p l e s m below meth c b (GG s.heap.size (va_pl (PL n0 S1) (EN cy S1)) cy G n1 n1 kS vS) 400 400000 S3 743 [some (.ref b), some (.ref h), some (.ref mm), some (.int 0)] [] := by
  obtain ⟨hret, hX, hbl, Fx, Dx, Fm, Dm, hn⟩ := L
  have hbA : ¬ s.heap.size ≤ b := Nat.not_le.mpr hbl
  refine lv_swap (b2 := n0 + sN S3) (by omega) ?_
  refine V_aload_1 743 dL_law_743 ?_
  refine V_aload_0 744 dL_law_744 ?_
  refine V_iload_3 745 dL_law_745 ?_
  refine V_iconst 746 (1) dL_law_746 (by decide) ?_
  refine V_iadd 747 dL_law_747 ?_
  refine V_sld 748 hX hbl hbA ?_ dL_law_748 ?_
  · exact (by unfold vp_in; decide)
  refine V_aload_0 749 dL_law_749 ?_
  refine V_iload_3 750 dL_law_750 ?_
  refine V_iconst 751 (2) dL_law_751 (by decide) ?_
  refine V_iadd 752 dL_law_752 ?_
  refine V_sld 753 hX hbl hbA ?_ dL_law_753 ?_
  · exact (by unfold vp_in; decide)
  refine V_callV 754 (ci := 11) [.int _, .int _] _ (f_rows l _ S1 Fx Dx _ _) dL_law_754 cb_X11_rows ml_RL_114 im_yX11_rows se_yX11_rows (Fx.m 0 (Nat.le_of_ble_eq_true rfl)) (Fx.k 0 11 rfl) (Nat.le_of_ble_eq_true rfl) ⟨(Nat.le_of_ble_eq_true rfl), (Nat.le_of_ble_eq_true rfl)⟩ rfl rfl (Nat.le_of_ble_eq_true rfl) ⟨(Nat.le_of_ble_eq_true rfl), (Nat.le_of_ble_eq_true rfl)⟩ (RLg.go (fun r1 S4 h1 => ?_))
  refine lv_swap (b2 := n0 + sN S4) (by omega) ?_
  refine V_aload_2 757 dL_law_757 ?_
  refine V_aload_0 758 dL_law_758 ?_
  refine V_iload_3 759 dL_law_759 ?_
  refine V_iconst 760 (1) dL_law_760 (by decide) ?_
  refine V_iadd 761 dL_law_761 ?_
  refine V_sld 762 hX hbl hbA ?_ dL_law_762 ?_
  · exact (by unfold vp_in; decide)
  refine V_aload_0 763 dL_law_763 ?_
  refine V_iload_3 764 dL_law_764 ?_
  refine V_iconst 765 (2) dL_law_765 (by decide) ?_
  refine V_iadd 766 dL_law_766 ?_
  refine V_sld 767 hX hbl hbA ?_ dL_law_767 ?_
  · exact (by unfold vp_in; decide)
  refine V_callV 768 (ci := 12) [.int _, .int _] _ (g_rows l _ S3 Fm Dm _ _) dL_law_768 cb_X12_rows ml_RL_118 im_yX12_rows se_yX12_rows (Fm.m 0 (Nat.le_of_ble_eq_true rfl)) (Fm.k 0 12 rfl) (Nat.le_of_ble_eq_true rfl) ⟨(Nat.le_of_ble_eq_true rfl), (Nat.le_of_ble_eq_true rfl)⟩ rfl rfl (Nat.le_of_ble_eq_true rfl) ⟨(Nat.le_of_ble_eq_true rfl), (Nat.le_of_ble_eq_true rfl)⟩ (RLg.go (fun r2 S5 h2 => ?_))
  have e0 : r1 = r2 := h1.trans h2.symm
  subst e0
  refine V_lcmp 771 dL_law_771 ?_
  rw [lg_cmp_self]
  refine V_if_eq 772 889 dL_law_772 (by decide) (fun _ => ?_) (fun q => absurd (rfl) q)
  exact law_tail (xs := xs) (Nat.le_of_ble_eq_true rfl) (Nat.le_of_ble_eq_true rfl) hret rfl hX hbl hbA
set_option maxRecDepth 100000 in
set_option maxHeartbeats 4000000 in
theorem law_span {n0 n1 h mm : Nat} {S1 S3 : PS} (L : LH s meth b xs n0 n1 h mm S1 S3) : LV p l e s m below meth c b (GG s.heap.size (va_pl (PL n0 S1) (EN cy S1)) cy G n1 n1 kS vS) 400 400000 S3 777 [some (.ref b), some (.ref h), some (.ref mm), some (.int 0)] [] := by
  obtain ⟨hret, hX, hbl, Fx, Dx, Fm, Dm, hn⟩ := L
  have hbA : ¬ s.heap.size ≤ b := Nat.not_le.mpr hbl
  refine lv_swap (b2 := n0 + sN S3) (by omega) ?_
  refine V_aload_1 777 dL_law_777 ?_
  refine V_aload_0 778 dL_law_778 ?_
  refine V_iload_3 779 dL_law_779 ?_
  refine V_iconst 780 (1) dL_law_780 (by decide) ?_
  refine V_iadd 781 dL_law_781 ?_
  refine V_sld 782 hX hbl hbA ?_ dL_law_782 ?_
  · exact (by unfold vp_in; decide)
  refine V_aload_0 783 dL_law_783 ?_
  refine V_iload_3 784 dL_law_784 ?_
  refine V_iconst 785 (2) dL_law_785 (by decide) ?_
  refine V_iadd 786 dL_law_786 ?_
  refine V_sld 787 hX hbl hbA ?_ dL_law_787 ?_
  · exact (by unfold vp_in; decide)
  refine V_aload_0 788 dL_law_788 ?_
  refine V_iload_3 789 dL_law_789 ?_
  refine V_iconst 790 (3) dL_law_790 (by decide) ?_
  refine V_iadd 791 dL_law_791 ?_
  refine V_sld 792 hX hbl hbA ?_ dL_law_792 ?_
  · exact (by unfold vp_in; decide)
  refine V_callV 793 (ci := 11) [.int _, .int _, .int _] _ (f_span l _ S1 Fx Dx _ _ _) dL_law_793 cb_X11_span ml_RL_119 im_yX11_span se_yX11_span (Fx.m 0 (Nat.le_of_ble_eq_true rfl)) (Fx.k 0 11 rfl) (Nat.le_of_ble_eq_true rfl) ⟨(Nat.le_of_ble_eq_true rfl), (Nat.le_of_ble_eq_true rfl)⟩ rfl rfl (Nat.le_of_ble_eq_true rfl) ⟨(Nat.le_of_ble_eq_true rfl), (Nat.le_of_ble_eq_true rfl)⟩ (RI.go (fun r1 S4 h1 => ?_))
  refine lv_swap (b2 := n0 + sN S4) (by omega) ?_
  refine V_aload_2 796 dL_law_796 ?_
  refine V_aload_0 797 dL_law_797 ?_
  refine V_iload_3 798 dL_law_798 ?_
  refine V_iconst 799 (1) dL_law_799 (by decide) ?_
  refine V_iadd 800 dL_law_800 ?_
  refine V_sld 801 hX hbl hbA ?_ dL_law_801 ?_
  · exact (by unfold vp_in; decide)
  refine V_aload_0 802 dL_law_802 ?_
  refine V_iload_3 803 dL_law_803 ?_
  refine V_iconst 804 (2) dL_law_804 (by decide) ?_
  refine V_iadd 805 dL_law_805 ?_
  refine V_sld 806 hX hbl hbA ?_ dL_law_806 ?_
  · exact (by unfold vp_in; decide)
  refine V_aload_0 807 dL_law_807 ?_
  refine V_iload_3 808 dL_law_808 ?_
  refine V_iconst 809 (3) dL_law_809 (by decide) ?_
  refine V_iadd 810 dL_law_810 ?_
  refine V_sld 811 hX hbl hbA ?_ dL_law_811 ?_
  · exact (by unfold vp_in; decide)
  refine V_callV 812 (ci := 12) [.int _, .int _, .int _] _ (g_span l _ S3 Fm Dm _ _ _) dL_law_812 cb_X12_span ml_RL_123 im_yX12_span se_yX12_span (Fm.m 0 (Nat.le_of_ble_eq_true rfl)) (Fm.k 0 12 rfl) (Nat.le_of_ble_eq_true rfl) ⟨(Nat.le_of_ble_eq_true rfl), (Nat.le_of_ble_eq_true rfl)⟩ rfl rfl (Nat.le_of_ble_eq_true rfl) ⟨(Nat.le_of_ble_eq_true rfl), (Nat.le_of_ble_eq_true rfl)⟩ (RI.go (fun r2 S5 h2 => ?_))
  have e0 : r1 = r2 := h1.trans h2.symm
  subst e0
  refine V_icmp_eq 815 889 dL_law_815 (by decide) (fun _ => ?_) (fun q => absurd (rfl) q)
  exact law_tail (xs := xs) (Nat.le_of_ble_eq_true rfl) (Nat.le_of_ble_eq_true rfl) hret rfl hX hbl hbA
set_option maxRecDepth 100000 in
set_option maxHeartbeats 4000000 in
theorem law_hold {n0 n1 h mm : Nat} {S1 S3 : PS} (L : LH s meth b xs n0 n1 h mm S1 S3) : LV p l e s m below meth c b (GG s.heap.size (va_pl (PL n0 S1) (EN cy S1)) cy G n1 n1 kS vS) 400 400000 S3 820 [some (.ref b), some (.ref h), some (.ref mm), some (.int 0)] [] := by
  obtain ⟨hret, hX, hbl, Fx, Dx, Fm, Dm, hn⟩ := L
  have hbA : ¬ s.heap.size ≤ b := Nat.not_le.mpr hbl
  refine lv_swap (b2 := n0 + sN S3) (by omega) ?_
  refine V_aload_1 820 dL_law_820 ?_
  refine V_aload_0 821 dL_law_821 ?_
  refine V_iload_3 822 dL_law_822 ?_
  refine V_iconst 823 (1) dL_law_823 (by decide) ?_
  refine V_iadd 824 dL_law_824 ?_
  refine V_sld 825 hX hbl hbA ?_ dL_law_825 ?_
  · exact (by unfold vp_in; decide)
  refine V_callV 826 (ci := 11) [.int _] _ (f_hold l _ S1 Fx Dx _) dL_law_826 cb_X11_hold ml_RL_124 im_yX11_hold se_yX11_hold (Fx.m 0 (Nat.le_of_ble_eq_true rfl)) (Fx.k 0 11 rfl) (Nat.le_of_ble_eq_true rfl) ⟨(Nat.le_of_ble_eq_true rfl), (Nat.le_of_ble_eq_true rfl)⟩ rfl rfl (Nat.le_of_ble_eq_true rfl) ⟨(Nat.le_of_ble_eq_true rfl), (Nat.le_of_ble_eq_true rfl)⟩ (RI.go (fun r1 S4 h1 => ?_))
  refine lv_swap (b2 := n0 + sN S4) (by omega) ?_
  refine V_aload_2 829 dL_law_829 ?_
  refine V_aload_0 830 dL_law_830 ?_
  refine V_iload_3 831 dL_law_831 ?_
  refine V_iconst 832 (1) dL_law_832 (by decide) ?_
  refine V_iadd 833 dL_law_833 ?_
  refine V_sld 834 hX hbl hbA ?_ dL_law_834 ?_
  · exact (by unfold vp_in; decide)
  refine V_callV 835 (ci := 12) [.int _] _ (g_hold l _ S3 Fm Dm _) dL_law_835 cb_X12_hold ml_RL_127 im_yX12_hold se_yX12_hold (Fm.m 0 (Nat.le_of_ble_eq_true rfl)) (Fm.k 0 12 rfl) (Nat.le_of_ble_eq_true rfl) ⟨(Nat.le_of_ble_eq_true rfl), (Nat.le_of_ble_eq_true rfl)⟩ rfl rfl (Nat.le_of_ble_eq_true rfl) ⟨(Nat.le_of_ble_eq_true rfl), (Nat.le_of_ble_eq_true rfl)⟩ (RI.go (fun r2 S5 h2 => ?_))
  have e0 : r1 = r2 := h1.trans h2.symm
  subst e0
  refine V_icmp_eq 838 889 dL_law_838 (by decide) (fun _ => ?_) (fun q => absurd (rfl) q)
  exact law_tail (xs := xs) (Nat.le_of_ble_eq_true rfl) (Nat.le_of_ble_eq_true rfl) hret rfl hX hbl hbA
set_option maxRecDepth 100000 in
set_option maxHeartbeats 4000000 in
theorem law_restore {n0 n1 h mm : Nat} {S1 S3 : PS} (L : LH s meth b xs n0 n1 h mm S1 S3) : LV p l e s m below meth c b (GG s.heap.size (va_pl (PL n0 S1) (EN cy S1)) cy G n1 n1 kS vS) 400 400000 S3 843 [some (.ref b), some (.ref h), some (.ref mm), some (.int 0)] [] := by
  obtain ⟨hret, hX, hbl, Fx, Dx, Fm, Dm, hn⟩ := L
  have hbA : ¬ s.heap.size ≤ b := Nat.not_le.mpr hbl
  refine lv_swap (b2 := n0 + sN S3) (by omega) ?_
  refine V_aload_1 843 dL_law_843 ?_
  refine V_aload_0 844 dL_law_844 ?_
  refine V_iload_3 845 dL_law_845 ?_
  refine V_iconst 846 (1) dL_law_846 (by decide) ?_
  refine V_iadd 847 dL_law_847 ?_
  refine V_sld 848 hX hbl hbA ?_ dL_law_848 ?_
  · exact (by unfold vp_in; decide)
  refine V_callV 849 (ci := 11) [.int _] _ (f_restore l _ S1 Fx Dx _) dL_law_849 cb_X11_restore ml_RL_128 im_yX11_restore se_yX11_restore (Fx.m 0 (Nat.le_of_ble_eq_true rfl)) (Fx.k 0 11 rfl) (Nat.le_of_ble_eq_true rfl) ⟨(Nat.le_of_ble_eq_true rfl), (Nat.le_of_ble_eq_true rfl)⟩ rfl rfl (Nat.le_of_ble_eq_true rfl) ⟨(Nat.le_of_ble_eq_true rfl), (Nat.le_of_ble_eq_true rfl)⟩ (RI.go (fun r1 S4 h1 => ?_))
  refine lv_swap (b2 := n0 + sN S4) (by omega) ?_
  refine V_aload_2 852 dL_law_852 ?_
  refine V_aload_0 853 dL_law_853 ?_
  refine V_iload_3 854 dL_law_854 ?_
  refine V_iconst 855 (1) dL_law_855 (by decide) ?_
  refine V_iadd 856 dL_law_856 ?_
  refine V_sld 857 hX hbl hbA ?_ dL_law_857 ?_
  · exact (by unfold vp_in; decide)
  refine V_callV 858 (ci := 12) [.int _] _ (g_restore l _ S3 Fm Dm _) dL_law_858 cb_X12_restore ml_RL_131 im_yX12_restore se_yX12_restore (Fm.m 0 (Nat.le_of_ble_eq_true rfl)) (Fm.k 0 12 rfl) (Nat.le_of_ble_eq_true rfl) ⟨(Nat.le_of_ble_eq_true rfl), (Nat.le_of_ble_eq_true rfl)⟩ rfl rfl (Nat.le_of_ble_eq_true rfl) ⟨(Nat.le_of_ble_eq_true rfl), (Nat.le_of_ble_eq_true rfl)⟩ (RI.go (fun r2 S5 h2 => ?_))
  have e0 : r1 = r2 := h1.trans h2.symm
  subst e0
  refine V_icmp_eq 861 889 dL_law_861 (by decide) (fun _ => ?_) (fun q => absurd (rfl) q)
  exact law_tail (xs := xs) (Nat.le_of_ble_eq_true rfl) (Nat.le_of_ble_eq_true rfl) hret rfl hX hbl hbA
set_option maxRecDepth 100000 in
set_option maxHeartbeats 4000000 in
theorem law_count {n0 n1 h mm : Nat} {S1 S3 : PS} (L : LH s meth b xs n0 n1 h mm S1 S3) : LV p l e s m below meth c b (GG s.heap.size (va_pl (PL n0 S1) (EN cy S1)) cy G n1 n1 kS vS) 400 400000 S3 866 [some (.ref b), some (.ref h), some (.ref mm), some (.int 0)] [] := by
  obtain ⟨hret, hX, hbl, Fx, Dx, Fm, Dm, hn⟩ := L
  have hbA : ¬ s.heap.size ≤ b := Nat.not_le.mpr hbl
  refine lv_swap (b2 := n0 + sN S3) (by omega) ?_
  refine V_aload_1 866 dL_law_866 ?_
  refine V_aload_0 867 dL_law_867 ?_
  refine V_iload_3 868 dL_law_868 ?_
  refine V_iconst 869 (1) dL_law_869 (by decide) ?_
  refine V_iadd 870 dL_law_870 ?_
  refine V_sld 871 hX hbl hbA ?_ dL_law_871 ?_
  · exact (by unfold vp_in; decide)
  refine V_callV 872 (ci := 11) [.int _] _ (f_count l _ S1 Fx Dx _) dL_law_872 cb_X11_count ml_RL_132 im_yX11_count se_yX11_count (Fx.m 0 (Nat.le_of_ble_eq_true rfl)) (Fx.k 0 11 rfl) (Nat.le_of_ble_eq_true rfl) ⟨(Nat.le_of_ble_eq_true rfl), (Nat.le_of_ble_eq_true rfl)⟩ rfl rfl (Nat.le_of_ble_eq_true rfl) ⟨(Nat.le_of_ble_eq_true rfl), (Nat.le_of_ble_eq_true rfl)⟩ (RI.go (fun r1 S4 h1 => ?_))
  refine lv_swap (b2 := n0 + sN S4) (by omega) ?_
  refine V_aload_2 875 dL_law_875 ?_
  refine V_aload_0 876 dL_law_876 ?_
  refine V_iload_3 877 dL_law_877 ?_
  refine V_iconst 878 (1) dL_law_878 (by decide) ?_
  refine V_iadd 879 dL_law_879 ?_
  refine V_sld 880 hX hbl hbA ?_ dL_law_880 ?_
  · exact (by unfold vp_in; decide)
  refine V_callV 881 (ci := 12) [.int _] _ (g_count l _ S3 Fm Dm _) dL_law_881 cb_X12_count ml_RL_135 im_yX12_count se_yX12_count (Fm.m 0 (Nat.le_of_ble_eq_true rfl)) (Fm.k 0 12 rfl) (Nat.le_of_ble_eq_true rfl) ⟨(Nat.le_of_ble_eq_true rfl), (Nat.le_of_ble_eq_true rfl)⟩ rfl rfl (Nat.le_of_ble_eq_true rfl) ⟨(Nat.le_of_ble_eq_true rfl), (Nat.le_of_ble_eq_true rfl)⟩ (RI.go (fun r2 S5 h2 => ?_))
  have e0 : r1 = r2 := h1.trans h2.symm
  subst e0
  refine V_icmp_eq 884 889 dL_law_884 (by decide) (fun _ => ?_) (fun q => absurd (rfl) q)
  exact law_tail (xs := xs) (Nat.le_of_ble_eq_true rfl) (Nat.le_of_ble_eq_true rfl) hret rfl hX hbl hbA
end CASES

