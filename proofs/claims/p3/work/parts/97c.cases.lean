section CASES
variable {p : Program} {l : Launch} {e : Env} {s : State} {m : MethodId} {below : List Frame} {meth : Method} {c : Code} {b L : Nat} {cy : Nat → ClassId} {G : va_G} {kS vS : Nat → Nat} {xs : Nat → Int32}
set_option maxRecDepth 100000 in
set_option maxHeartbeats 4000000 in
theorem law_evening {n0 n1 h mm r tp : Nat} {g : MG} {S1 S3 : PS} (H : LH s meth b L xs) (hr : 6 * r + 6 ≤ L) (I1 : IV n0 h (9 + 4 * r) (nI tp) S1) (I3 : MV n1 mm g tp S3) (K : ∀ (S1 S3 : PS) (g : MG) (tp : Nat), IV n0 h (9 + 4 * (r + 1)) (nI tp) S1 → MV n1 mm g tp S3 → LQ p l e s m below meth c b cy G kS vS n0 n1 h mm (nI (6 * r)) 884 S1 S3) : LQ p l e s m below meth c b cy G kS vS n0 n1 h mm (nI (6 * r)) 502 S1 S3 := by
  obtain ⟨hret, hX, hbl, hL⟩ := H
  have hbA : ¬ s.heap.size ≤ b := Nat.not_le.mpr hbl
  have htp := I3.2.2.2.2.2.2.2
  have hi1 : vp_in (nI (6 * r) + 1) L := vpN (eqAdd rfl (show (1 : Int32) = nI 1 from rfl)) (by omega) (by omega)
  refine lv_swap (b2 := n0 + sN S3) (by omega) ?_
  have F1 := I1.f
  have F3 := I3.f
  refine V_aload_1 502 dL_law_502 ?_
  refine V_aload_0 503 dL_law_503 ?_
  refine V_iload_3 504 dL_law_504 ?_
  refine V_iconst 505 (1) dL_law_505 (by decide) ?_
  refine V_iadd 506 dL_law_506 ?_
  refine V_sld 507 hX hbl hbA ?_ dL_law_507 ?_
  · exact hi1
  refine V_callV 508 (ci := 11) [.int _] _ (s_evening l _ S1 I1 _) dL_law_508 cb_X11_evening ml_RL_77 im_yX11_evening se_yX11_evening (F1.m 0 (Nat.le_of_ble_eq_true rfl)) (F1.k 0 11 rfl) (Nat.le_of_ble_eq_true rfl) ⟨(Nat.le_of_ble_eq_true rfl), (Nat.le_of_ble_eq_true rfl)⟩ rfl rfl (Nat.le_of_ble_eq_true rfl) ⟨(Nat.le_of_ble_eq_true rfl), (Nat.le_of_ble_eq_true rfl)⟩ (RI.go (fun r1 S4 h1 => ?_))
  refine V_pop 511 dL_law_511 rfl ?_
  refine lv_swap (b2 := n0 + sN S4) (by omega) ?_
  refine V_aload_2 512 dL_law_512 ?_
  refine V_aload_0 513 dL_law_513 ?_
  refine V_iload_3 514 dL_law_514 ?_
  refine V_iconst 515 (1) dL_law_515 (by decide) ?_
  refine V_iadd 516 dL_law_516 ?_
  refine V_sld 517 hX hbl hbA ?_ dL_law_517 ?_
  · exact hi1
  refine V_callV 518 (ci := 12) [.int _] _ (s_mevening l _ S3 I3 _) dL_law_518 cb_X12_evening ml_RL_80 im_yX12_evening se_yX12_evening (F3.m 0 (Nat.le_of_ble_eq_true rfl)) (F3.k 0 12 rfl) (Nat.le_of_ble_eq_true rfl) ⟨(Nat.le_of_ble_eq_true rfl), (Nat.le_of_ble_eq_true rfl)⟩ rfl rfl (Nat.le_of_ble_eq_true rfl) ⟨(Nat.le_of_ble_eq_true rfl), (Nat.le_of_ble_eq_true rfl)⟩ (RI.go (fun r2 S5 h2 => ?_))
  refine V_pop 521 dL_law_521 rfl ?_
  refine V_goto 522 884 dL_law_522 (by decide) ?_
  exact K S4 S5 g tp (h1.mono (by omega)) h2
set_option maxRecDepth 100000 in
set_option maxHeartbeats 4000000 in
theorem law_soonest {n0 n1 h mm r tp : Nat} {g : MG} {S1 S3 : PS} (H : LH s meth b L xs) (hr : 6 * r + 6 ≤ L) (I1 : IV n0 h (9 + 4 * r) (nI tp) S1) (I3 : MV n1 mm g tp S3) (K : ∀ (S1 S3 : PS) (g : MG) (tp : Nat), IV n0 h (9 + 4 * (r + 1)) (nI tp) S1 → MV n1 mm g tp S3 → LQ p l e s m below meth c b cy G kS vS n0 n1 h mm (nI (6 * r)) 884 S1 S3) : LQ p l e s m below meth c b cy G kS vS n0 n1 h mm (nI (6 * r)) 525 S1 S3 := by
  obtain ⟨hret, hX, hbl, hL⟩ := H
  have hbA : ¬ s.heap.size ≤ b := Nat.not_le.mpr hbl
  have htp := I3.2.2.2.2.2.2.2
  have hi1 : vp_in (nI (6 * r) + 1) L := vpN (eqAdd rfl (show (1 : Int32) = nI 1 from rfl)) (by omega) (by omega)
  have hi2 : vp_in (nI (6 * r) + 2) L := vpN (eqAdd rfl (show (2 : Int32) = nI 2 from rfl)) (by omega) (by omega)
  refine lv_swap (b2 := n0 + sN S3) (by omega) ?_
  have F1 := I1.f
  have F3 := I3.f
  refine V_aload_1 525 dL_law_525 ?_
  refine V_aload_0 526 dL_law_526 ?_
  refine V_iload_3 527 dL_law_527 ?_
  refine V_iconst 528 (1) dL_law_528 (by decide) ?_
  refine V_iadd 529 dL_law_529 ?_
  refine V_sld 530 hX hbl hbA ?_ dL_law_530 ?_
  · exact hi1
  refine V_aload_0 531 dL_law_531 ?_
  refine V_iload_3 532 dL_law_532 ?_
  refine V_iconst 533 (2) dL_law_533 (by decide) ?_
  refine V_iadd 534 dL_law_534 ?_
  refine V_sld 535 hX hbl hbA ?_ dL_law_535 ?_
  · exact hi2
  refine V_callV 536 (ci := 11) [.int _, .int _] _ (s_soonest l _ S1 I1 _ _) dL_law_536 cb_X11_soonest ml_RL_81 im_yX11_soonest se_yX11_soonest (F1.m 0 (Nat.le_of_ble_eq_true rfl)) (F1.k 0 11 rfl) (Nat.le_of_ble_eq_true rfl) ⟨(Nat.le_of_ble_eq_true rfl), (Nat.le_of_ble_eq_true rfl)⟩ rfl rfl (Nat.le_of_ble_eq_true rfl) ⟨(Nat.le_of_ble_eq_true rfl), (Nat.le_of_ble_eq_true rfl)⟩ (RI.go (fun r1 S4 h1 => ?_))
  refine V_pop 539 dL_law_539 rfl ?_
  refine lv_swap (b2 := n0 + sN S4) (by omega) ?_
  refine V_aload_2 540 dL_law_540 ?_
  refine V_aload_0 541 dL_law_541 ?_
  refine V_iload_3 542 dL_law_542 ?_
  refine V_iconst 543 (1) dL_law_543 (by decide) ?_
  refine V_iadd 544 dL_law_544 ?_
  refine V_sld 545 hX hbl hbA ?_ dL_law_545 ?_
  · exact hi1
  refine V_aload_0 546 dL_law_546 ?_
  refine V_iload_3 547 dL_law_547 ?_
  refine V_iconst 548 (2) dL_law_548 (by decide) ?_
  refine V_iadd 549 dL_law_549 ?_
  refine V_sld 550 hX hbl hbA ?_ dL_law_550 ?_
  · exact hi2
  refine V_callV 551 (ci := 12) [.int _, .int _] _ (s_msoonest l _ S3 I3 _ _) dL_law_551 cb_X12_soonest ml_RL_84 im_yX12_soonest se_yX12_soonest (F3.m 0 (Nat.le_of_ble_eq_true rfl)) (F3.k 0 12 rfl) (Nat.le_of_ble_eq_true rfl) ⟨(Nat.le_of_ble_eq_true rfl), (Nat.le_of_ble_eq_true rfl)⟩ rfl rfl (Nat.le_of_ble_eq_true rfl) ⟨(Nat.le_of_ble_eq_true rfl), (Nat.le_of_ble_eq_true rfl)⟩ (RI.go (fun r2 S5 h2 => ?_))
  refine V_pop 554 dL_law_554 rfl ?_
  refine V_goto 555 884 dL_law_555 (by decide) ?_
  exact K S4 S5 g tp (h1.mono (by omega)) h2
set_option maxRecDepth 100000 in
set_option maxHeartbeats 4000000 in
theorem law_line {n0 n1 h mm r tp : Nat} {g : MG} {S1 S3 : PS} (H : LH s meth b L xs) (hr : 6 * r + 6 ≤ L) (I1 : IV n0 h (9 + 4 * r) (nI tp) S1) (I3 : MV n1 mm g tp S3) (K : ∀ (S1 S3 : PS) (g : MG) (tp : Nat), IV n0 h (9 + 4 * (r + 1)) (nI tp) S1 → MV n1 mm g tp S3 → LQ p l e s m below meth c b cy G kS vS n0 n1 h mm (nI (6 * r)) 884 S1 S3) : LQ p l e s m below meth c b cy G kS vS n0 n1 h mm (nI (6 * r)) 558 S1 S3 := by
  obtain ⟨hret, hX, hbl, hL⟩ := H
  have hbA : ¬ s.heap.size ≤ b := Nat.not_le.mpr hbl
  have htp := I3.2.2.2.2.2.2.2
  refine lv_swap (b2 := n0 + sN S3) (by omega) ?_
  have F1 := I1.f
  have F3 := I3.f
  refine V_aload_1 558 dL_law_558 ?_
  refine V_callV 559 (ci := 11) [] _ (s_line l _ S1 I1) dL_law_559 cb_X11_line ml_RL_85 im_yX11_line se_yX11_line (F1.m 0 (Nat.le_of_ble_eq_true rfl)) (F1.k 0 11 rfl) (Nat.le_of_ble_eq_true rfl) ⟨(Nat.le_of_ble_eq_true rfl), (Nat.le_of_ble_eq_true rfl)⟩ rfl rfl (Nat.le_of_ble_eq_true rfl) ⟨(Nat.le_of_ble_eq_true rfl), (Nat.le_of_ble_eq_true rfl)⟩ (RI.go (fun r1 S4 h1 => ?_))
  refine V_pop 562 dL_law_562 rfl ?_
  refine lv_swap (b2 := n0 + sN S4) (by omega) ?_
  refine V_aload_2 563 dL_law_563 ?_
  refine V_callV 564 (ci := 12) [] _ (s_mline l _ S3 I3) dL_law_564 cb_X12_line ml_RL_88 im_yX12_line se_yX12_line (F3.m 0 (Nat.le_of_ble_eq_true rfl)) (F3.k 0 12 rfl) (Nat.le_of_ble_eq_true rfl) ⟨(Nat.le_of_ble_eq_true rfl), (Nat.le_of_ble_eq_true rfl)⟩ rfl rfl (Nat.le_of_ble_eq_true rfl) ⟨(Nat.le_of_ble_eq_true rfl), (Nat.le_of_ble_eq_true rfl)⟩ (RI.go (fun r2 S5 h2 => ?_))
  refine V_pop 567 dL_law_567 rfl ?_
  refine V_goto 568 884 dL_law_568 (by decide) ?_
  exact K S4 S5 g tp (h1.mono (by omega)) h2
set_option maxRecDepth 100000 in
set_option maxHeartbeats 4000000 in
theorem law_exchange {n0 n1 h mm r tp : Nat} {g : MG} {S1 S3 : PS} (H : LH s meth b L xs) (hr : 6 * r + 6 ≤ L) (I1 : IV n0 h (9 + 4 * r) (nI tp) S1) (I3 : MV n1 mm g tp S3) (K : ∀ (S1 S3 : PS) (g : MG) (tp : Nat), IV n0 h (9 + 4 * (r + 1)) (nI tp) S1 → MV n1 mm g tp S3 → LQ p l e s m below meth c b cy G kS vS n0 n1 h mm (nI (6 * r)) 884 S1 S3) : LQ p l e s m below meth c b cy G kS vS n0 n1 h mm (nI (6 * r)) 571 S1 S3 := by
  obtain ⟨hret, hX, hbl, hL⟩ := H
  have hbA : ¬ s.heap.size ≤ b := Nat.not_le.mpr hbl
  have htp := I3.2.2.2.2.2.2.2
  have hi1 : vp_in (nI (6 * r) + 1) L := vpN (eqAdd rfl (show (1 : Int32) = nI 1 from rfl)) (by omega) (by omega)
  refine lv_swap (b2 := n0 + sN S3) (by omega) ?_
  have F1 := I1.f
  have F3 := I3.f
  refine V_aload_1 571 dL_law_571 ?_
  refine V_aload_0 572 dL_law_572 ?_
  refine V_iload_3 573 dL_law_573 ?_
  refine V_iconst 574 (1) dL_law_574 (by decide) ?_
  refine V_iadd 575 dL_law_575 ?_
  refine V_sld 576 hX hbl hbA ?_ dL_law_576 ?_
  · exact hi1
  refine V_callV 577 (ci := 11) [.int _] _ (s_exchange l _ S1 I1 _) dL_law_577 cb_X11_exchange ml_RL_89 im_yX11_exchange se_yX11_exchange (F1.m 0 (Nat.le_of_ble_eq_true rfl)) (F1.k 0 11 rfl) (Nat.le_of_ble_eq_true rfl) ⟨(Nat.le_of_ble_eq_true rfl), (Nat.le_of_ble_eq_true rfl)⟩ rfl rfl (Nat.le_of_ble_eq_true rfl) ⟨(Nat.le_of_ble_eq_true rfl), (Nat.le_of_ble_eq_true rfl)⟩ (RI.go (fun r1 S4 h1 => ?_))
  refine V_pop 580 dL_law_580 rfl ?_
  refine lv_swap (b2 := n0 + sN S4) (by omega) ?_
  refine V_aload_2 581 dL_law_581 ?_
  refine V_aload_0 582 dL_law_582 ?_
  refine V_iload_3 583 dL_law_583 ?_
  refine V_iconst 584 (1) dL_law_584 (by decide) ?_
  refine V_iadd 585 dL_law_585 ?_
  refine V_sld 586 hX hbl hbA ?_ dL_law_586 ?_
  · exact hi1
  refine V_callV 587 (ci := 12) [.int _] _ (s_mexchange l _ S3 I3 _) dL_law_587 cb_X12_exchange ml_RL_92 im_yX12_exchange se_yX12_exchange (F3.m 0 (Nat.le_of_ble_eq_true rfl)) (F3.k 0 12 rfl) (Nat.le_of_ble_eq_true rfl) ⟨(Nat.le_of_ble_eq_true rfl), (Nat.le_of_ble_eq_true rfl)⟩ rfl rfl (Nat.le_of_ble_eq_true rfl) ⟨(Nat.le_of_ble_eq_true rfl), (Nat.le_of_ble_eq_true rfl)⟩ (RI.go (fun r2 S5 h2 => ?_))
  refine V_pop 590 dL_law_590 rfl ?_
  refine V_goto 591 884 dL_law_591 (by decide) ?_
  exact K S4 S5 g tp (h1.mono (by omega)) h2
set_option maxRecDepth 100000 in
set_option maxHeartbeats 4000000 in
theorem law_odd {n0 n1 h mm r tp : Nat} {g : MG} {S1 S3 : PS} (H : LH s meth b L xs) (hr : 6 * r + 6 ≤ L) (I1 : IV n0 h (9 + 4 * r) (nI tp) S1) (I3 : MV n1 mm g tp S3) (K : ∀ (S1 S3 : PS) (g : MG) (tp : Nat), IV n0 h (9 + 4 * (r + 1)) (nI tp) S1 → MV n1 mm g tp S3 → LQ p l e s m below meth c b cy G kS vS n0 n1 h mm (nI (6 * r)) 884 S1 S3) : LQ p l e s m below meth c b cy G kS vS n0 n1 h mm (nI (6 * r)) 594 S1 S3 := by
  obtain ⟨hret, hX, hbl, hL⟩ := H
  have hbA : ¬ s.heap.size ≤ b := Nat.not_le.mpr hbl
  have htp := I3.2.2.2.2.2.2.2
  have hi1 : vp_in (nI (6 * r) + 1) L := vpN (eqAdd rfl (show (1 : Int32) = nI 1 from rfl)) (by omega) (by omega)
  refine lv_swap (b2 := n0 + sN S3) (by omega) ?_
  have F1 := I1.f
  have F3 := I3.f
  refine V_aload_1 594 dL_law_594 ?_
  refine V_aload_0 595 dL_law_595 ?_
  refine V_iload_3 596 dL_law_596 ?_
  refine V_iconst 597 (1) dL_law_597 (by decide) ?_
  refine V_iadd 598 dL_law_598 ?_
  refine V_sld 599 hX hbl hbA ?_ dL_law_599 ?_
  · exact hi1
  refine V_callV 600 (ci := 11) [.int _] _ (s_odd l _ S1 I1 _) dL_law_600 cb_X11_odd ml_RL_93 im_yX11_odd se_yX11_odd (F1.m 0 (Nat.le_of_ble_eq_true rfl)) (F1.k 0 11 rfl) (Nat.le_of_ble_eq_true rfl) ⟨(Nat.le_of_ble_eq_true rfl), (Nat.le_of_ble_eq_true rfl)⟩ rfl rfl (Nat.le_of_ble_eq_true rfl) ⟨(Nat.le_of_ble_eq_true rfl), (Nat.le_of_ble_eq_true rfl)⟩ (RI.go (fun r1 S4 h1 => ?_))
  refine V_pop 603 dL_law_603 rfl ?_
  refine lv_swap (b2 := n0 + sN S4) (by omega) ?_
  refine V_aload_2 604 dL_law_604 ?_
  refine V_aload_0 605 dL_law_605 ?_
  refine V_iload_3 606 dL_law_606 ?_
  refine V_iconst 607 (1) dL_law_607 (by decide) ?_
  refine V_iadd 608 dL_law_608 ?_
  refine V_sld 609 hX hbl hbA ?_ dL_law_609 ?_
  · exact hi1
  refine V_callV 610 (ci := 12) [.int _] _ (s_modd l _ S3 I3 _) dL_law_610 cb_X12_odd ml_RL_96 im_yX12_odd se_yX12_odd (F3.m 0 (Nat.le_of_ble_eq_true rfl)) (F3.k 0 12 rfl) (Nat.le_of_ble_eq_true rfl) ⟨(Nat.le_of_ble_eq_true rfl), (Nat.le_of_ble_eq_true rfl)⟩ rfl rfl (Nat.le_of_ble_eq_true rfl) ⟨(Nat.le_of_ble_eq_true rfl), (Nat.le_of_ble_eq_true rfl)⟩ (RI.go (fun r2 S5 h2 => ?_))
  refine V_pop 613 dL_law_613 rfl ?_
  refine V_goto 614 884 dL_law_614 (by decide) ?_
  exact K S4 S5 g tp (h1.mono (by omega)) h2
set_option maxRecDepth 100000 in
set_option maxHeartbeats 4000000 in
theorem law_lost {n0 n1 h mm r tp : Nat} {g : MG} {S1 S3 : PS} (H : LH s meth b L xs) (hr : 6 * r + 6 ≤ L) (I1 : IV n0 h (9 + 4 * r) (nI tp) S1) (I3 : MV n1 mm g tp S3) (K : ∀ (S1 S3 : PS) (g : MG) (tp : Nat), IV n0 h (9 + 4 * (r + 1)) (nI tp) S1 → MV n1 mm g tp S3 → LQ p l e s m below meth c b cy G kS vS n0 n1 h mm (nI (6 * r)) 884 S1 S3) : LQ p l e s m below meth c b cy G kS vS n0 n1 h mm (nI (6 * r)) 617 S1 S3 := by
  obtain ⟨hret, hX, hbl, hL⟩ := H
  have hbA : ¬ s.heap.size ≤ b := Nat.not_le.mpr hbl
  have htp := I3.2.2.2.2.2.2.2
  have hi1 : vp_in (nI (6 * r) + 1) L := vpN (eqAdd rfl (show (1 : Int32) = nI 1 from rfl)) (by omega) (by omega)
  have hi2 : vp_in (nI (6 * r) + 2) L := vpN (eqAdd rfl (show (2 : Int32) = nI 2 from rfl)) (by omega) (by omega)
  have hi3 : vp_in (nI (6 * r) + 3) L := vpN (eqAdd rfl (show (3 : Int32) = nI 3 from rfl)) (by omega) (by omega)
  refine lv_swap (b2 := n0 + sN S3) (by omega) ?_
  have F1 := I1.f
  have F3 := I3.f
  refine V_aload_1 617 dL_law_617 ?_
  refine V_aload_0 618 dL_law_618 ?_
  refine V_iload_3 619 dL_law_619 ?_
  refine V_iconst 620 (1) dL_law_620 (by decide) ?_
  refine V_iadd 621 dL_law_621 ?_
  refine V_sld 622 hX hbl hbA ?_ dL_law_622 ?_
  · exact hi1
  refine V_aload_0 623 dL_law_623 ?_
  refine V_iload_3 624 dL_law_624 ?_
  refine V_iconst 625 (2) dL_law_625 (by decide) ?_
  refine V_iadd 626 dL_law_626 ?_
  refine V_sld 627 hX hbl hbA ?_ dL_law_627 ?_
  · exact hi2
  refine V_aload_0 628 dL_law_628 ?_
  refine V_iload_3 629 dL_law_629 ?_
  refine V_iconst 630 (3) dL_law_630 (by decide) ?_
  refine V_iadd 631 dL_law_631 ?_
  refine V_sld 632 hX hbl hbA ?_ dL_law_632 ?_
  · exact hi3
  refine V_callV 633 (ci := 11) [.int _, .int _, .int _] _ (s_lost l _ S1 I1 (by omega) _ _ _) dL_law_633 cb_X11_lost ml_RL_97 im_yX11_lost se_yX11_lost (F1.m 0 (Nat.le_of_ble_eq_true rfl)) (F1.k 0 11 rfl) (Nat.le_of_ble_eq_true rfl) ⟨(Nat.le_of_ble_eq_true rfl), (Nat.le_of_ble_eq_true rfl)⟩ rfl rfl (Nat.le_of_ble_eq_true rfl) ⟨(Nat.le_of_ble_eq_true rfl), (Nat.le_of_ble_eq_true rfl)⟩ (RLg.go (fun r1 S4 h1 => ?_))
  refine V_pop2 636 dL_law_636 rfl ?_
  refine lv_swap (b2 := n0 + sN S4) (by omega) ?_
  refine V_aload_2 637 dL_law_637 ?_
  refine V_aload_0 638 dL_law_638 ?_
  refine V_iload_3 639 dL_law_639 ?_
  refine V_iconst 640 (1) dL_law_640 (by decide) ?_
  refine V_iadd 641 dL_law_641 ?_
  refine V_sld 642 hX hbl hbA ?_ dL_law_642 ?_
  · exact hi1
  refine V_aload_0 643 dL_law_643 ?_
  refine V_iload_3 644 dL_law_644 ?_
  refine V_iconst 645 (2) dL_law_645 (by decide) ?_
  refine V_iadd 646 dL_law_646 ?_
  refine V_sld 647 hX hbl hbA ?_ dL_law_647 ?_
  · exact hi2
  refine V_aload_0 648 dL_law_648 ?_
  refine V_iload_3 649 dL_law_649 ?_
  refine V_iconst 650 (3) dL_law_650 (by decide) ?_
  refine V_iadd 651 dL_law_651 ?_
  refine V_sld 652 hX hbl hbA ?_ dL_law_652 ?_
  · exact hi3
  refine V_callV 653 (ci := 12) [.int _, .int _, .int _] _ (s_mlost l _ S3 I3 _ _ _) dL_law_653 cb_X12_lost ml_RL_101 im_yX12_lost se_yX12_lost (F3.m 0 (Nat.le_of_ble_eq_true rfl)) (F3.k 0 12 rfl) (Nat.le_of_ble_eq_true rfl) ⟨(Nat.le_of_ble_eq_true rfl), (Nat.le_of_ble_eq_true rfl)⟩ rfl rfl (Nat.le_of_ble_eq_true rfl) ⟨(Nat.le_of_ble_eq_true rfl), (Nat.le_of_ble_eq_true rfl)⟩ (RLg.go (fun r2 S5 h2 => ?_))
  refine V_pop2 656 dL_law_656 rfl ?_
  refine V_goto 657 884 dL_law_657 (by decide) ?_
  exact K S4 S5 g tp (h1.mono (by omega)) h2
set_option maxRecDepth 100000 in
set_option maxHeartbeats 4000000 in
theorem law_years {n0 n1 h mm r tp : Nat} {g : MG} {S1 S3 : PS} (H : LH s meth b L xs) (hr : 6 * r + 6 ≤ L) (I1 : IV n0 h (9 + 4 * r) (nI tp) S1) (I3 : MV n1 mm g tp S3) (K : ∀ (S1 S3 : PS) (g : MG) (tp : Nat), IV n0 h (9 + 4 * (r + 1)) (nI tp) S1 → MV n1 mm g tp S3 → LQ p l e s m below meth c b cy G kS vS n0 n1 h mm (nI (6 * r)) 884 S1 S3) : LQ p l e s m below meth c b cy G kS vS n0 n1 h mm (nI (6 * r)) 660 S1 S3 := by
  obtain ⟨hret, hX, hbl, hL⟩ := H
  have hbA : ¬ s.heap.size ≤ b := Nat.not_le.mpr hbl
  have htp := I3.2.2.2.2.2.2.2
  have hi1 : vp_in (nI (6 * r) + 1) L := vpN (eqAdd rfl (show (1 : Int32) = nI 1 from rfl)) (by omega) (by omega)
  have hi2 : vp_in (nI (6 * r) + 2) L := vpN (eqAdd rfl (show (2 : Int32) = nI 2 from rfl)) (by omega) (by omega)
  refine lv_swap (b2 := n0 + sN S3) (by omega) ?_
  have F1 := I1.f
  have F3 := I3.f
  refine V_aload_1 660 dL_law_660 ?_
  refine V_aload_0 661 dL_law_661 ?_
  refine V_iload_3 662 dL_law_662 ?_
  refine V_iconst 663 (1) dL_law_663 (by decide) ?_
  refine V_iadd 664 dL_law_664 ?_
  refine V_sld 665 hX hbl hbA ?_ dL_law_665 ?_
  · exact hi1
  refine V_aload_0 666 dL_law_666 ?_
  refine V_iload_3 667 dL_law_667 ?_
  refine V_iconst 668 (2) dL_law_668 (by decide) ?_
  refine V_iadd 669 dL_law_669 ?_
  refine V_sld 670 hX hbl hbA ?_ dL_law_670 ?_
  · exact hi2
  refine V_callV 671 (ci := 11) [.int _, .int _] _ (s_years l _ S1 I1 _ _) dL_law_671 cb_X11_years ml_RL_102 im_yX11_years se_yX11_years (F1.m 0 (Nat.le_of_ble_eq_true rfl)) (F1.k 0 11 rfl) (Nat.le_of_ble_eq_true rfl) ⟨(Nat.le_of_ble_eq_true rfl), (Nat.le_of_ble_eq_true rfl)⟩ rfl rfl (Nat.le_of_ble_eq_true rfl) ⟨(Nat.le_of_ble_eq_true rfl), (Nat.le_of_ble_eq_true rfl)⟩ (RI.go (fun r1 S4 h1 => ?_))
  refine V_pop 674 dL_law_674 rfl ?_
  refine lv_swap (b2 := n0 + sN S4) (by omega) ?_
  refine V_aload_2 675 dL_law_675 ?_
  refine V_aload_0 676 dL_law_676 ?_
  refine V_iload_3 677 dL_law_677 ?_
  refine V_iconst 678 (1) dL_law_678 (by decide) ?_
  refine V_iadd 679 dL_law_679 ?_
  refine V_sld 680 hX hbl hbA ?_ dL_law_680 ?_
  · exact hi1
  refine V_aload_0 681 dL_law_681 ?_
  refine V_iload_3 682 dL_law_682 ?_
  refine V_iconst 683 (2) dL_law_683 (by decide) ?_
  refine V_iadd 684 dL_law_684 ?_
  refine V_sld 685 hX hbl hbA ?_ dL_law_685 ?_
  · exact hi2
  refine V_callV 686 (ci := 12) [.int _, .int _] _ (s_myears l _ S3 I3 _ _) dL_law_686 cb_X12_years ml_RL_105 im_yX12_years se_yX12_years (F3.m 0 (Nat.le_of_ble_eq_true rfl)) (F3.k 0 12 rfl) (Nat.le_of_ble_eq_true rfl) ⟨(Nat.le_of_ble_eq_true rfl), (Nat.le_of_ble_eq_true rfl)⟩ rfl rfl (Nat.le_of_ble_eq_true rfl) ⟨(Nat.le_of_ble_eq_true rfl), (Nat.le_of_ble_eq_true rfl)⟩ (RI.go (fun r2 S5 h2 => ?_))
  refine V_pop 689 dL_law_689 rfl ?_
  refine V_goto 690 884 dL_law_690 (by decide) ?_
  exact K S4 S5 g tp (h1.mono (by omega)) h2
end CASES

