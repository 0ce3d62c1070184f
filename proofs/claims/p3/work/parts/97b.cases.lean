section CASES
variable {p : Program} {l : Launch} {e : Env} {s : State} {m : MethodId} {below : List Frame} {meth : Method} {c : Code} {b L : Nat} {cy : Nat → ClassId} {G : va_G} {kS vS : Nat → Nat} {xs : Nat → Int32}
set_option maxRecDepth 100000 in
set_option maxHeartbeats 4000000 in
theorem law_lot {n0 n1 h mm r tp : Nat} {g : MG} {S1 S3 : PS} (H : LH s meth b L xs) (hr : 6 * r + 6 ≤ L) (I1 : IV n0 h (9 + 4 * r) (nI tp) S1) (I3 : MV n1 mm g tp S3) (K : ∀ (S1 S3 : PS) (g : MG) (tp : Nat), IV n0 h (9 + 4 * (r + 1)) (nI tp) S1 → MV n1 mm g tp S3 → LQ p l e s m below meth c b cy G kS vS n0 n1 h mm (nI (6 * r)) 884 S1 S3) : LQ p l e s m below meth c b cy G kS vS n0 n1 h mm (nI (6 * r)) 361 S1 S3 := by
  obtain ⟨hret, hX, hbl, hL⟩ := H
  have hbA : ¬ s.heap.size ≤ b := Nat.not_le.mpr hbl
  have htp := I3.2.2.2.2.2.2.2
  refine lv_swap (b2 := n0 + sN S3) (by omega) ?_
  have F1 := I1.f
  have F3 := I3.f
  refine V_aload_1 361 dL_law_361 ?_
  refine V_callV 362 (ci := 11) [] _ (s_lot l _ S1 I1 (by omega)) dL_law_362 cb_X11_lot ml_RL_45 im_yX11_lot se_yX11_lot (F1.m 0 (Nat.le_of_ble_eq_true rfl)) (F1.k 0 11 rfl) (Nat.le_of_ble_eq_true rfl) ⟨(Nat.le_of_ble_eq_true rfl), (Nat.le_of_ble_eq_true rfl)⟩ rfl rfl (Nat.le_of_ble_eq_true rfl) ⟨(Nat.le_of_ble_eq_true rfl), (Nat.le_of_ble_eq_true rfl)⟩ (RI.go (fun r1 S4 h1 => ?_))
  refine V_pop 365 dL_law_365 rfl ?_
  refine lv_swap (b2 := n0 + sN S4) (by omega) ?_
  refine V_aload_2 366 dL_law_366 ?_
  refine V_callV 367 (ci := 12) [] _ (s_mlot l _ S3 I3) dL_law_367 cb_X12_lot ml_RL_48 im_yX12_lot se_yX12_lot (F3.m 0 (Nat.le_of_ble_eq_true rfl)) (F3.k 0 12 rfl) (Nat.le_of_ble_eq_true rfl) ⟨(Nat.le_of_ble_eq_true rfl), (Nat.le_of_ble_eq_true rfl)⟩ rfl rfl (Nat.le_of_ble_eq_true rfl) ⟨(Nat.le_of_ble_eq_true rfl), (Nat.le_of_ble_eq_true rfl)⟩ (RI.go (fun r2 S5 h2 => ?_))
  refine V_pop 370 dL_law_370 rfl ?_
  refine V_goto 371 884 dL_law_371 (by decide) ?_
  exact K S4 S5 g tp h1 h2
set_option maxRecDepth 100000 in
set_option maxHeartbeats 4000000 in
theorem law_take {n0 n1 h mm r tp : Nat} {g : MG} {S1 S3 : PS} (H : LH s meth b L xs) (hr : 6 * r + 6 ≤ L) (I1 : IV n0 h (9 + 4 * r) (nI tp) S1) (I3 : MV n1 mm g tp S3) (K : ∀ (S1 S3 : PS) (g : MG) (tp : Nat), IV n0 h (9 + 4 * (r + 1)) (nI tp) S1 → MV n1 mm g tp S3 → LQ p l e s m below meth c b cy G kS vS n0 n1 h mm (nI (6 * r)) 884 S1 S3) : LQ p l e s m below meth c b cy G kS vS n0 n1 h mm (nI (6 * r)) 374 S1 S3 := by
  obtain ⟨hret, hX, hbl, hL⟩ := H
  have hbA : ¬ s.heap.size ≤ b := Nat.not_le.mpr hbl
  have htp := I3.2.2.2.2.2.2.2
  have hi1 : vp_in (nI (6 * r) + 1) L := vpN (eqAdd rfl (show (1 : Int32) = nI 1 from rfl)) (by omega) (by omega)
  refine lv_swap (b2 := n0 + sN S3) (by omega) ?_
  have F1 := I1.f
  have F3 := I3.f
  refine V_aload_1 374 dL_law_374 ?_
  refine V_aload_0 375 dL_law_375 ?_
  refine V_iload_3 376 dL_law_376 ?_
  refine V_iconst 377 (1) dL_law_377 (by decide) ?_
  refine V_iadd 378 dL_law_378 ?_
  refine V_sld 379 hX hbl hbA ?_ dL_law_379 ?_
  · exact hi1
  refine V_callV 380 (ci := 11) [.int _] _ (s_take l _ S1 I1 (by omega) _) dL_law_380 cb_X11_take ml_RL_49 im_yX11_take se_yX11_take (F1.m 0 (Nat.le_of_ble_eq_true rfl)) (F1.k 0 11 rfl) (Nat.le_of_ble_eq_true rfl) ⟨(Nat.le_of_ble_eq_true rfl), (Nat.le_of_ble_eq_true rfl)⟩ rfl rfl (Nat.le_of_ble_eq_true rfl) ⟨(Nat.le_of_ble_eq_true rfl), (Nat.le_of_ble_eq_true rfl)⟩ (RI.go (fun r1 S4 h1 => ?_))
  refine V_pop 383 dL_law_383 rfl ?_
  refine lv_swap (b2 := n0 + sN S4) (by omega) ?_
  refine V_aload_2 384 dL_law_384 ?_
  refine V_aload_0 385 dL_law_385 ?_
  refine V_iload_3 386 dL_law_386 ?_
  refine V_iconst 387 (1) dL_law_387 (by decide) ?_
  refine V_iadd 388 dL_law_388 ?_
  refine V_sld 389 hX hbl hbA ?_ dL_law_389 ?_
  · exact hi1
  refine V_callV 390 (ci := 12) [.int _] _ (s_mtake l _ S3 I3 _) dL_law_390 cb_X12_take ml_RL_53 im_yX12_take se_yX12_take (F3.m 0 (Nat.le_of_ble_eq_true rfl)) (F3.k 0 12 rfl) (Nat.le_of_ble_eq_true rfl) ⟨(Nat.le_of_ble_eq_true rfl), (Nat.le_of_ble_eq_true rfl)⟩ rfl rfl (Nat.le_of_ble_eq_true rfl) ⟨(Nat.le_of_ble_eq_true rfl), (Nat.le_of_ble_eq_true rfl)⟩ (RI.go (fun r2 S5 h2 => ?_))
  refine V_pop 393 dL_law_393 rfl ?_
  refine V_goto 394 884 dL_law_394 (by decide) ?_
  exact K S4 S5 g tp h1 h2
set_option maxRecDepth 100000 in
set_option maxHeartbeats 4000000 in
theorem law_undo {n0 n1 h mm r tp : Nat} {g : MG} {S1 S3 : PS} (H : LH s meth b L xs) (hr : 6 * r + 6 ≤ L) (I1 : IV n0 h (9 + 4 * r) (nI tp) S1) (I3 : MV n1 mm g tp S3) (K : ∀ (S1 S3 : PS) (g : MG) (tp : Nat), IV n0 h (9 + 4 * (r + 1)) (nI tp) S1 → MV n1 mm g tp S3 → LQ p l e s m below meth c b cy G kS vS n0 n1 h mm (nI (6 * r)) 884 S1 S3) : LQ p l e s m below meth c b cy G kS vS n0 n1 h mm (nI (6 * r)) 397 S1 S3 := by
  obtain ⟨hret, hX, hbl, hL⟩ := H
  have hbA : ¬ s.heap.size ≤ b := Nat.not_le.mpr hbl
  have htp := I3.2.2.2.2.2.2.2
  refine lv_swap (b2 := n0 + sN S3) (by omega) ?_
  have F1 := I1.f
  have F3 := I3.f
  refine V_aload_1 397 dL_law_397 ?_
  refine V_callV 398 (ci := 11) [] _ (s_undo l _ S1 I1) dL_law_398 cb_X11_undo ml_RL_54 im_yX11_undo se_yX11_undo (F1.m 0 (Nat.le_of_ble_eq_true rfl)) (F1.k 0 11 rfl) (Nat.le_of_ble_eq_true rfl) ⟨(Nat.le_of_ble_eq_true rfl), (Nat.le_of_ble_eq_true rfl)⟩ rfl rfl (Nat.le_of_ble_eq_true rfl) ⟨(Nat.le_of_ble_eq_true rfl), (Nat.le_of_ble_eq_true rfl)⟩ (RI.go (fun r1 S4 h1 => ?_))
  refine V_pop 401 dL_law_401 rfl ?_
  refine lv_swap (b2 := n0 + sN S4) (by omega) ?_
  refine V_aload_2 402 dL_law_402 ?_
  refine V_callV 403 (ci := 12) [] _ (s_mundo l _ S3 I3) dL_law_403 cb_X12_undo ml_RL_58 im_yX12_undo se_yX12_undo (F3.m 0 (Nat.le_of_ble_eq_true rfl)) (F3.k 0 12 rfl) (Nat.le_of_ble_eq_true rfl) ⟨(Nat.le_of_ble_eq_true rfl), (Nat.le_of_ble_eq_true rfl)⟩ rfl rfl (Nat.le_of_ble_eq_true rfl) ⟨(Nat.le_of_ble_eq_true rfl), (Nat.le_of_ble_eq_true rfl)⟩ (RI.go (fun r2 S5 h2 => ?_))
  refine V_pop 406 dL_law_406 rfl ?_
  refine V_goto 407 884 dL_law_407 (by decide) ?_
  exact K S4 S5 g tp (h1.mono (by omega)) h2
set_option maxRecDepth 100000 in
set_option maxHeartbeats 4000000 in
theorem law_within {n0 n1 h mm r tp : Nat} {g : MG} {S1 S3 : PS} (H : LH s meth b L xs) (hr : 6 * r + 6 ≤ L) (I1 : IV n0 h (9 + 4 * r) (nI tp) S1) (I3 : MV n1 mm g tp S3) (K : ∀ (S1 S3 : PS) (g : MG) (tp : Nat), IV n0 h (9 + 4 * (r + 1)) (nI tp) S1 → MV n1 mm g tp S3 → LQ p l e s m below meth c b cy G kS vS n0 n1 h mm (nI (6 * r)) 884 S1 S3) : LQ p l e s m below meth c b cy G kS vS n0 n1 h mm (nI (6 * r)) 410 S1 S3 := by
  obtain ⟨hret, hX, hbl, hL⟩ := H
  have hbA : ¬ s.heap.size ≤ b := Nat.not_le.mpr hbl
  have htp := I3.2.2.2.2.2.2.2
  have hi1 : vp_in (nI (6 * r) + 1) L := vpN (eqAdd rfl (show (1 : Int32) = nI 1 from rfl)) (by omega) (by omega)
  refine lv_swap (b2 := n0 + sN S3) (by omega) ?_
  have F1 := I1.f
  have F3 := I3.f
  refine V_aload_1 410 dL_law_410 ?_
  refine V_aload_0 411 dL_law_411 ?_
  refine V_iload_3 412 dL_law_412 ?_
  refine V_iconst 413 (1) dL_law_413 (by decide) ?_
  refine V_iadd 414 dL_law_414 ?_
  refine V_sld 415 hX hbl hbA ?_ dL_law_415 ?_
  · exact hi1
  refine V_callV 416 (ci := 11) [.int _] _ (s_within l _ S1 I1 (by omega) _) dL_law_416 cb_X11_within ml_RL_59 im_yX11_within se_yX11_within (F1.m 0 (Nat.le_of_ble_eq_true rfl)) (F1.k 0 11 rfl) (Nat.le_of_ble_eq_true rfl) ⟨(Nat.le_of_ble_eq_true rfl), (Nat.le_of_ble_eq_true rfl)⟩ rfl rfl (Nat.le_of_ble_eq_true rfl) ⟨(Nat.le_of_ble_eq_true rfl), (Nat.le_of_ble_eq_true rfl)⟩ (RLg.go (fun r1 S4 h1 => ?_))
  refine V_pop2 419 dL_law_419 rfl ?_
  refine lv_swap (b2 := n0 + sN S4) (by omega) ?_
  refine V_aload_2 420 dL_law_420 ?_
  refine V_aload_0 421 dL_law_421 ?_
  refine V_iload_3 422 dL_law_422 ?_
  refine V_iconst 423 (1) dL_law_423 (by decide) ?_
  refine V_iadd 424 dL_law_424 ?_
  refine V_sld 425 hX hbl hbA ?_ dL_law_425 ?_
  · exact hi1
  refine V_callV 426 (ci := 12) [.int _] _ (s_mwithin l _ S3 I3 _) dL_law_426 cb_X12_within ml_RL_63 im_yX12_within se_yX12_within (F3.m 0 (Nat.le_of_ble_eq_true rfl)) (F3.k 0 12 rfl) (Nat.le_of_ble_eq_true rfl) ⟨(Nat.le_of_ble_eq_true rfl), (Nat.le_of_ble_eq_true rfl)⟩ rfl rfl (Nat.le_of_ble_eq_true rfl) ⟨(Nat.le_of_ble_eq_true rfl), (Nat.le_of_ble_eq_true rfl)⟩ (RLg.go (fun r2 S5 h2 => ?_))
  refine V_pop2 429 dL_law_429 rfl ?_
  refine V_goto 430 884 dL_law_430 (by decide) ?_
  exact K S4 S5 g tp (h1.mono (by omega)) h2
set_option maxRecDepth 100000 in
set_option maxHeartbeats 4000000 in
theorem law_lies {n0 n1 h mm r tp : Nat} {g : MG} {S1 S3 : PS} (H : LH s meth b L xs) (hr : 6 * r + 6 ≤ L) (I1 : IV n0 h (9 + 4 * r) (nI tp) S1) (I3 : MV n1 mm g tp S3) (K : ∀ (S1 S3 : PS) (g : MG) (tp : Nat), IV n0 h (9 + 4 * (r + 1)) (nI tp) S1 → MV n1 mm g tp S3 → LQ p l e s m below meth c b cy G kS vS n0 n1 h mm (nI (6 * r)) 884 S1 S3) : LQ p l e s m below meth c b cy G kS vS n0 n1 h mm (nI (6 * r)) 433 S1 S3 := by
  obtain ⟨hret, hX, hbl, hL⟩ := H
  have hbA : ¬ s.heap.size ≤ b := Nat.not_le.mpr hbl
  have htp := I3.2.2.2.2.2.2.2
  have hi1 : vp_in (nI (6 * r) + 1) L := vpN (eqAdd rfl (show (1 : Int32) = nI 1 from rfl)) (by omega) (by omega)
  refine lv_swap (b2 := n0 + sN S3) (by omega) ?_
  have F1 := I1.f
  have F3 := I3.f
  refine V_aload_1 433 dL_law_433 ?_
  refine V_aload_0 434 dL_law_434 ?_
  refine V_iload_3 435 dL_law_435 ?_
  refine V_iconst 436 (1) dL_law_436 (by decide) ?_
  refine V_iadd 437 dL_law_437 ?_
  refine V_sld 438 hX hbl hbA ?_ dL_law_438 ?_
  · exact hi1
  refine V_callV 439 (ci := 11) [.int _] _ (s_lies l _ S1 I1 (by omega) _) dL_law_439 cb_X11_lies ml_RL_64 im_yX11_lies se_yX11_lies (F1.m 0 (Nat.le_of_ble_eq_true rfl)) (F1.k 0 11 rfl) (Nat.le_of_ble_eq_true rfl) ⟨(Nat.le_of_ble_eq_true rfl), (Nat.le_of_ble_eq_true rfl)⟩ rfl rfl (Nat.le_of_ble_eq_true rfl) ⟨(Nat.le_of_ble_eq_true rfl), (Nat.le_of_ble_eq_true rfl)⟩ (RLg.go (fun r1 S4 h1 => ?_))
  refine V_pop2 442 dL_law_442 rfl ?_
  refine lv_swap (b2 := n0 + sN S4) (by omega) ?_
  refine V_aload_2 443 dL_law_443 ?_
  refine V_aload_0 444 dL_law_444 ?_
  refine V_iload_3 445 dL_law_445 ?_
  refine V_iconst 446 (1) dL_law_446 (by decide) ?_
  refine V_iadd 447 dL_law_447 ?_
  refine V_sld 448 hX hbl hbA ?_ dL_law_448 ?_
  · exact hi1
  refine V_callV 449 (ci := 12) [.int _] _ (s_mlies l _ S3 I3 _) dL_law_449 cb_X12_lies ml_RL_67 im_yX12_lies se_yX12_lies (F3.m 0 (Nat.le_of_ble_eq_true rfl)) (F3.k 0 12 rfl) (Nat.le_of_ble_eq_true rfl) ⟨(Nat.le_of_ble_eq_true rfl), (Nat.le_of_ble_eq_true rfl)⟩ rfl rfl (Nat.le_of_ble_eq_true rfl) ⟨(Nat.le_of_ble_eq_true rfl), (Nat.le_of_ble_eq_true rfl)⟩ (RLg.go (fun r2 S5 h2 => ?_))
  refine V_pop2 452 dL_law_452 rfl ?_
  refine V_goto 453 884 dL_law_453 (by decide) ?_
  exact K S4 S5 g tp (h1.mono (by omega)) h2
set_option maxRecDepth 100000 in
set_option maxHeartbeats 4000000 in
theorem law_mosts {n0 n1 h mm r tp : Nat} {g : MG} {S1 S3 : PS} (H : LH s meth b L xs) (hr : 6 * r + 6 ≤ L) (I1 : IV n0 h (9 + 4 * r) (nI tp) S1) (I3 : MV n1 mm g tp S3) (K : ∀ (S1 S3 : PS) (g : MG) (tp : Nat), IV n0 h (9 + 4 * (r + 1)) (nI tp) S1 → MV n1 mm g tp S3 → LQ p l e s m below meth c b cy G kS vS n0 n1 h mm (nI (6 * r)) 884 S1 S3) : LQ p l e s m below meth c b cy G kS vS n0 n1 h mm (nI (6 * r)) 456 S1 S3 := by
  obtain ⟨hret, hX, hbl, hL⟩ := H
  have hbA : ¬ s.heap.size ≤ b := Nat.not_le.mpr hbl
  have htp := I3.2.2.2.2.2.2.2
  refine lv_swap (b2 := n0 + sN S3) (by omega) ?_
  have F1 := I1.f
  have F3 := I3.f
  refine V_aload_1 456 dL_law_456 ?_
  refine V_callV 457 (ci := 11) [] _ (s_mosts l _ S1 I1 (by omega)) dL_law_457 cb_X11_mosts ml_RL_68 im_yX11_mosts se_yX11_mosts (F1.m 0 (Nat.le_of_ble_eq_true rfl)) (F1.k 0 11 rfl) (Nat.le_of_ble_eq_true rfl) ⟨(Nat.le_of_ble_eq_true rfl), (Nat.le_of_ble_eq_true rfl)⟩ rfl rfl (Nat.le_of_ble_eq_true rfl) ⟨(Nat.le_of_ble_eq_true rfl), (Nat.le_of_ble_eq_true rfl)⟩ (RLg.go (fun r1 S4 h1 => ?_))
  refine V_pop2 460 dL_law_460 rfl ?_
  refine lv_swap (b2 := n0 + sN S4) (by omega) ?_
  refine V_aload_2 461 dL_law_461 ?_
  refine V_callV 462 (ci := 12) [] _ (s_mmosts l _ S3 I3) dL_law_462 cb_X12_mosts ml_RL_72 im_yX12_mosts se_yX12_mosts (F3.m 0 (Nat.le_of_ble_eq_true rfl)) (F3.k 0 12 rfl) (Nat.le_of_ble_eq_true rfl) ⟨(Nat.le_of_ble_eq_true rfl), (Nat.le_of_ble_eq_true rfl)⟩ rfl rfl (Nat.le_of_ble_eq_true rfl) ⟨(Nat.le_of_ble_eq_true rfl), (Nat.le_of_ble_eq_true rfl)⟩ (RLg.go (fun r2 S5 h2 => ?_))
  refine V_pop2 465 dL_law_465 rfl ?_
  refine V_goto 466 884 dL_law_466 (by decide) ?_
  exact K S4 S5 g tp (h1.mono (by omega)) h2
set_option maxRecDepth 100000 in
set_option maxHeartbeats 4000000 in
theorem law_sure {n0 n1 h mm r tp : Nat} {g : MG} {S1 S3 : PS} (H : LH s meth b L xs) (hr : 6 * r + 6 ≤ L) (I1 : IV n0 h (9 + 4 * r) (nI tp) S1) (I3 : MV n1 mm g tp S3) (K : ∀ (S1 S3 : PS) (g : MG) (tp : Nat), IV n0 h (9 + 4 * (r + 1)) (nI tp) S1 → MV n1 mm g tp S3 → LQ p l e s m below meth c b cy G kS vS n0 n1 h mm (nI (6 * r)) 884 S1 S3) : LQ p l e s m below meth c b cy G kS vS n0 n1 h mm (nI (6 * r)) 469 S1 S3 := by
  obtain ⟨hret, hX, hbl, hL⟩ := H
  have hbA : ¬ s.heap.size ≤ b := Nat.not_le.mpr hbl
  have htp := I3.2.2.2.2.2.2.2
  have hi1 : vp_in (nI (6 * r) + 1) L := vpN (eqAdd rfl (show (1 : Int32) = nI 1 from rfl)) (by omega) (by omega)
  have hi2 : vp_in (nI (6 * r) + 2) L := vpN (eqAdd rfl (show (2 : Int32) = nI 2 from rfl)) (by omega) (by omega)
  refine lv_swap (b2 := n0 + sN S3) (by omega) ?_
  have F1 := I1.f
  have F3 := I3.f
  refine V_aload_1 469 dL_law_469 ?_
  refine V_aload_0 470 dL_law_470 ?_
  refine V_iload_3 471 dL_law_471 ?_
  refine V_iconst 472 (1) dL_law_472 (by decide) ?_
  refine V_iadd 473 dL_law_473 ?_
  refine V_sld 474 hX hbl hbA ?_ dL_law_474 ?_
  · exact hi1
  refine V_aload_0 475 dL_law_475 ?_
  refine V_iload_3 476 dL_law_476 ?_
  refine V_iconst 477 (2) dL_law_477 (by decide) ?_
  refine V_iadd 478 dL_law_478 ?_
  refine V_sld 479 hX hbl hbA ?_ dL_law_479 ?_
  · exact hi2
  refine V_callV 480 (ci := 11) [.int _, .int _] _ (s_sure l _ S1 I1 (by omega) _ _) dL_law_480 cb_X11_sure ml_RL_73 im_yX11_sure se_yX11_sure (F1.m 0 (Nat.le_of_ble_eq_true rfl)) (F1.k 0 11 rfl) (Nat.le_of_ble_eq_true rfl) ⟨(Nat.le_of_ble_eq_true rfl), (Nat.le_of_ble_eq_true rfl)⟩ rfl rfl (Nat.le_of_ble_eq_true rfl) ⟨(Nat.le_of_ble_eq_true rfl), (Nat.le_of_ble_eq_true rfl)⟩ (RI.go (fun r1 S4 h1 => ?_))
  refine V_pop 483 dL_law_483 rfl ?_
  refine lv_swap (b2 := n0 + sN S4) (by omega) ?_
  refine V_aload_2 484 dL_law_484 ?_
  refine V_aload_0 485 dL_law_485 ?_
  refine V_iload_3 486 dL_law_486 ?_
  refine V_iconst 487 (1) dL_law_487 (by decide) ?_
  refine V_iadd 488 dL_law_488 ?_
  refine V_sld 489 hX hbl hbA ?_ dL_law_489 ?_
  · exact hi1
  refine V_aload_0 490 dL_law_490 ?_
  refine V_iload_3 491 dL_law_491 ?_
  refine V_iconst 492 (2) dL_law_492 (by decide) ?_
  refine V_iadd 493 dL_law_493 ?_
  refine V_sld 494 hX hbl hbA ?_ dL_law_494 ?_
  · exact hi2
  refine V_callV 495 (ci := 12) [.int _, .int _] _ (s_msure l _ S3 I3 _ _) dL_law_495 cb_X12_sure ml_RL_76 im_yX12_sure se_yX12_sure (F3.m 0 (Nat.le_of_ble_eq_true rfl)) (F3.k 0 12 rfl) (Nat.le_of_ble_eq_true rfl) ⟨(Nat.le_of_ble_eq_true rfl), (Nat.le_of_ble_eq_true rfl)⟩ rfl rfl (Nat.le_of_ble_eq_true rfl) ⟨(Nat.le_of_ble_eq_true rfl), (Nat.le_of_ble_eq_true rfl)⟩ (RI.go (fun r2 S5 h2 => ?_))
  refine V_pop 498 dL_law_498 rfl ?_
  refine V_goto 499 884 dL_law_499 (by decide) ?_
  exact K S4 S5 g tp (h1.mono (by omega)) h2
end CASES

