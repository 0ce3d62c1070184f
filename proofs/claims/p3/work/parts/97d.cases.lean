section CASES
variable {p : Program} {l : Launch} {e : Env} {s : State} {m : MethodId} {below : List Frame} {meth : Method} {c : Code} {b L : Nat} {cy : Nat → ClassId} {G : va_G} {kS vS : Nat → Nat} {xs : Nat → Int32}
set_option maxRecDepth 100000 in
set_option maxHeartbeats 4000000 in
theorem law_see {n0 n1 h mm r tp : Nat} {g : MG} {S1 S3 : PS} (H : LH s meth b L xs) (hr : 6 * r + 6 ≤ L) (I1 : IV n0 h (9 + 4 * r) (nI tp) S1) (I3 : MV n1 mm g tp S3) (K : ∀ (S1 S3 : PS) (g : MG) (tp : Nat), IV n0 h (9 + 4 * (r + 1)) (nI tp) S1 → MV n1 mm g tp S3 → LQ p l e s m below meth c b cy G kS vS n0 n1 h mm (nI (6 * r)) 884 S1 S3) : LQ p l e s m below meth c b cy G kS vS n0 n1 h mm (nI (6 * r)) 693 S1 S3 := by
  obtain ⟨hret, hX, hbl, hL⟩ := H
  have hbA : ¬ s.heap.size ≤ b := Nat.not_le.mpr hbl
  have htp := I3.2.2.2.2.2.2.2
  have hi1 : vp_in (nI (6 * r) + 1) L := vpN (eqAdd rfl (show (1 : Int32) = nI 1 from rfl)) (by omega) (by omega)
  have hi2 : vp_in (nI (6 * r) + 2) L := vpN (eqAdd rfl (show (2 : Int32) = nI 2 from rfl)) (by omega) (by omega)
  refine lv_swap (b2 := n0 + sN S3) (by omega) ?_
  have F1 := I1.f
  have F3 := I3.f
  refine V_aload_1 693 dL_law_693 ?_
  refine V_aload_0 694 dL_law_694 ?_
  refine V_iload_3 695 dL_law_695 ?_
  refine V_iconst 696 (1) dL_law_696 (by decide) ?_
  refine V_iadd 697 dL_law_697 ?_
  refine V_sld 698 hX hbl hbA ?_ dL_law_698 ?_
  · exact hi1
  refine V_aload_0 699 dL_law_699 ?_
  refine V_iload_3 700 dL_law_700 ?_
  refine V_iconst 701 (2) dL_law_701 (by decide) ?_
  refine V_iadd 702 dL_law_702 ?_
  refine V_sld 703 hX hbl hbA ?_ dL_law_703 ?_
  · exact hi2
  refine V_callV 704 (ci := 11) [.int _, .int _] _ (s_see l _ S1 I1 _ _) dL_law_704 cb_X11_see ml_RL_106 im_yX11_see se_yX11_see (F1.m 0 (Nat.le_of_ble_eq_true rfl)) (F1.k 0 11 rfl) (Nat.le_of_ble_eq_true rfl) ⟨(Nat.le_of_ble_eq_true rfl), (Nat.le_of_ble_eq_true rfl)⟩ rfl rfl (Nat.le_of_ble_eq_true rfl) ⟨(Nat.le_of_ble_eq_true rfl), (Nat.le_of_ble_eq_true rfl)⟩ (RI.go (fun r1 S4 h1 => ?_))
  refine V_pop 707 dL_law_707 rfl ?_
  refine lv_swap (b2 := n0 + sN S4) (by omega) ?_
  refine V_aload_2 708 dL_law_708 ?_
  refine V_aload_0 709 dL_law_709 ?_
  refine V_iload_3 710 dL_law_710 ?_
  refine V_iconst 711 (1) dL_law_711 (by decide) ?_
  refine V_iadd 712 dL_law_712 ?_
  refine V_sld 713 hX hbl hbA ?_ dL_law_713 ?_
  · exact hi1
  refine V_aload_0 714 dL_law_714 ?_
  refine V_iload_3 715 dL_law_715 ?_
  refine V_iconst 716 (2) dL_law_716 (by decide) ?_
  refine V_iadd 717 dL_law_717 ?_
  refine V_sld 718 hX hbl hbA ?_ dL_law_718 ?_
  · exact hi2
  refine V_callV 719 (ci := 12) [.int _, .int _] _ (s_msee l _ S3 I3 _ _) dL_law_719 cb_X12_see ml_RL_109 im_yX12_see se_yX12_see (F3.m 0 (Nat.le_of_ble_eq_true rfl)) (F3.k 0 12 rfl) (Nat.le_of_ble_eq_true rfl) ⟨(Nat.le_of_ble_eq_true rfl), (Nat.le_of_ble_eq_true rfl)⟩ rfl rfl (Nat.le_of_ble_eq_true rfl) ⟨(Nat.le_of_ble_eq_true rfl), (Nat.le_of_ble_eq_true rfl)⟩ (RI.go (fun r2 S5 h2 => ?_))
  refine V_pop 722 dL_law_722 rfl ?_
  refine V_goto 723 884 dL_law_723 (by decide) ?_
  exact K S4 S5 g tp (h1.mono (by omega)) h2
set_option maxRecDepth 100000 in
set_option maxHeartbeats 4000000 in
theorem law_forget {n0 n1 h mm r tp : Nat} {g : MG} {S1 S3 : PS} (H : LH s meth b L xs) (hr : 6 * r + 6 ≤ L) (I1 : IV n0 h (9 + 4 * r) (nI tp) S1) (I3 : MV n1 mm g tp S3) (K : ∀ (S1 S3 : PS) (g : MG) (tp : Nat), IV n0 h (9 + 4 * (r + 1)) (nI tp) S1 → MV n1 mm g tp S3 → LQ p l e s m below meth c b cy G kS vS n0 n1 h mm (nI (6 * r)) 884 S1 S3) : LQ p l e s m below meth c b cy G kS vS n0 n1 h mm (nI (6 * r)) 726 S1 S3 := by
  obtain ⟨hret, hX, hbl, hL⟩ := H
  have hbA : ¬ s.heap.size ≤ b := Nat.not_le.mpr hbl
  have htp := I3.2.2.2.2.2.2.2
  refine lv_swap (b2 := n0 + sN S3) (by omega) ?_
  have F1 := I1.f
  have F3 := I3.f
  refine V_aload_1 726 dL_law_726 ?_
  refine V_callV 727 (ci := 11) [] _ (s_forgetIt l _ S1 I1) dL_law_727 cb_X11_forget ml_RL_110 im_yX11_forget se_yX11_forget (F1.m 0 (Nat.le_of_ble_eq_true rfl)) (F1.k 0 11 rfl) (Nat.le_of_ble_eq_true rfl) ⟨(Nat.le_of_ble_eq_true rfl), (Nat.le_of_ble_eq_true rfl)⟩ rfl rfl (Nat.le_of_ble_eq_true rfl) ⟨(Nat.le_of_ble_eq_true rfl), (Nat.le_of_ble_eq_true rfl)⟩ (RI.go (fun r1 S4 h1 => ?_))
  refine V_pop 730 dL_law_730 rfl ?_
  refine lv_swap (b2 := n0 + sN S4) (by omega) ?_
  refine V_aload_2 731 dL_law_731 ?_
  refine V_callV 732 (ci := 12) [] _ (s_mforget l _ S3 I3) dL_law_732 cb_X12_forget ml_RL_113 im_yX12_forget se_yX12_forget (F3.m 0 (Nat.le_of_ble_eq_true rfl)) (F3.k 0 12 rfl) (Nat.le_of_ble_eq_true rfl) ⟨(Nat.le_of_ble_eq_true rfl), (Nat.le_of_ble_eq_true rfl)⟩ rfl rfl (Nat.le_of_ble_eq_true rfl) ⟨(Nat.le_of_ble_eq_true rfl), (Nat.le_of_ble_eq_true rfl)⟩ (RI.go (fun r2 S5 h2 => ?_))
  refine V_pop 735 dL_law_735 rfl ?_
  refine V_goto 736 884 dL_law_736 (by decide) ?_
  exact K S4 S5 g tp (h1.mono (by omega)) h2
set_option maxRecDepth 100000 in
set_option maxHeartbeats 4000000 in
theorem law_rows {n0 n1 h mm r tp : Nat} {g : MG} {S1 S3 : PS} (H : LH s meth b L xs) (hr : 6 * r + 6 ≤ L) (I1 : IV n0 h (9 + 4 * r) (nI tp) S1) (I3 : MV n1 mm g tp S3) (K : ∀ (S1 S3 : PS) (g : MG) (tp : Nat), IV n0 h (9 + 4 * (r + 1)) (nI tp) S1 → MV n1 mm g tp S3 → LQ p l e s m below meth c b cy G kS vS n0 n1 h mm (nI (6 * r)) 884 S1 S3) : LQ p l e s m below meth c b cy G kS vS n0 n1 h mm (nI (6 * r)) 739 S1 S3 := by
  obtain ⟨hret, hX, hbl, hL⟩ := H
  have hbA : ¬ s.heap.size ≤ b := Nat.not_le.mpr hbl
  have htp := I3.2.2.2.2.2.2.2
  have hi1 : vp_in (nI (6 * r) + 1) L := vpN (eqAdd rfl (show (1 : Int32) = nI 1 from rfl)) (by omega) (by omega)
  have hi2 : vp_in (nI (6 * r) + 2) L := vpN (eqAdd rfl (show (2 : Int32) = nI 2 from rfl)) (by omega) (by omega)
  refine lv_swap (b2 := n0 + sN S3) (by omega) ?_
  have F1 := I1.f
  have F3 := I3.f
  refine V_aload_1 739 dL_law_739 ?_
  refine V_aload_0 740 dL_law_740 ?_
  refine V_iload_3 741 dL_law_741 ?_
  refine V_iconst 742 (1) dL_law_742 (by decide) ?_
  refine V_iadd 743 dL_law_743 ?_
  refine V_sld 744 hX hbl hbA ?_ dL_law_744 ?_
  · exact hi1
  refine V_aload_0 745 dL_law_745 ?_
  refine V_iload_3 746 dL_law_746 ?_
  refine V_iconst 747 (2) dL_law_747 (by decide) ?_
  refine V_iadd 748 dL_law_748 ?_
  refine V_sld 749 hX hbl hbA ?_ dL_law_749 ?_
  · exact hi2
  refine V_callV 750 (ci := 11) [.int _, .int _] _ (s_rows l _ S1 I1 _ _) dL_law_750 cb_X11_rows ml_RL_114 im_yX11_rows se_yX11_rows (F1.m 0 (Nat.le_of_ble_eq_true rfl)) (F1.k 0 11 rfl) (Nat.le_of_ble_eq_true rfl) ⟨(Nat.le_of_ble_eq_true rfl), (Nat.le_of_ble_eq_true rfl)⟩ rfl rfl (Nat.le_of_ble_eq_true rfl) ⟨(Nat.le_of_ble_eq_true rfl), (Nat.le_of_ble_eq_true rfl)⟩ (RLg.go (fun r1 S4 h1 => ?_))
  refine V_pop2 753 dL_law_753 rfl ?_
  refine lv_swap (b2 := n0 + sN S4) (by omega) ?_
  refine V_aload_2 754 dL_law_754 ?_
  refine V_aload_0 755 dL_law_755 ?_
  refine V_iload_3 756 dL_law_756 ?_
  refine V_iconst 757 (1) dL_law_757 (by decide) ?_
  refine V_iadd 758 dL_law_758 ?_
  refine V_sld 759 hX hbl hbA ?_ dL_law_759 ?_
  · exact hi1
  refine V_aload_0 760 dL_law_760 ?_
  refine V_iload_3 761 dL_law_761 ?_
  refine V_iconst 762 (2) dL_law_762 (by decide) ?_
  refine V_iadd 763 dL_law_763 ?_
  refine V_sld 764 hX hbl hbA ?_ dL_law_764 ?_
  · exact hi2
  refine V_callV 765 (ci := 12) [.int _, .int _] _ (s_mrows l _ S3 I3 _ _) dL_law_765 cb_X12_rows ml_RL_118 im_yX12_rows se_yX12_rows (F3.m 0 (Nat.le_of_ble_eq_true rfl)) (F3.k 0 12 rfl) (Nat.le_of_ble_eq_true rfl) ⟨(Nat.le_of_ble_eq_true rfl), (Nat.le_of_ble_eq_true rfl)⟩ rfl rfl (Nat.le_of_ble_eq_true rfl) ⟨(Nat.le_of_ble_eq_true rfl), (Nat.le_of_ble_eq_true rfl)⟩ (RLg.go (fun r2 S5 h2 => ?_))
  refine V_pop2 768 dL_law_768 rfl ?_
  refine V_goto 769 884 dL_law_769 (by decide) ?_
  exact K S4 S5 g tp (h1.mono (by omega)) h2
set_option maxRecDepth 100000 in
set_option maxHeartbeats 4000000 in
theorem law_span {n0 n1 h mm r tp : Nat} {g : MG} {S1 S3 : PS} (H : LH s meth b L xs) (hr : 6 * r + 6 ≤ L) (I1 : IV n0 h (9 + 4 * r) (nI tp) S1) (I3 : MV n1 mm g tp S3) (K : ∀ (S1 S3 : PS) (g : MG) (tp : Nat), IV n0 h (9 + 4 * (r + 1)) (nI tp) S1 → MV n1 mm g tp S3 → LQ p l e s m below meth c b cy G kS vS n0 n1 h mm (nI (6 * r)) 884 S1 S3) : LQ p l e s m below meth c b cy G kS vS n0 n1 h mm (nI (6 * r)) 772 S1 S3 := by
  obtain ⟨hret, hX, hbl, hL⟩ := H
  have hbA : ¬ s.heap.size ≤ b := Nat.not_le.mpr hbl
  have htp := I3.2.2.2.2.2.2.2
  have hi1 : vp_in (nI (6 * r) + 1) L := vpN (eqAdd rfl (show (1 : Int32) = nI 1 from rfl)) (by omega) (by omega)
  have hi2 : vp_in (nI (6 * r) + 2) L := vpN (eqAdd rfl (show (2 : Int32) = nI 2 from rfl)) (by omega) (by omega)
  have hi3 : vp_in (nI (6 * r) + 3) L := vpN (eqAdd rfl (show (3 : Int32) = nI 3 from rfl)) (by omega) (by omega)
  refine lv_swap (b2 := n0 + sN S3) (by omega) ?_
  have F1 := I1.f
  have F3 := I3.f
  refine V_aload_1 772 dL_law_772 ?_
  refine V_aload_0 773 dL_law_773 ?_
  refine V_iload_3 774 dL_law_774 ?_
  refine V_iconst 775 (1) dL_law_775 (by decide) ?_
  refine V_iadd 776 dL_law_776 ?_
  refine V_sld 777 hX hbl hbA ?_ dL_law_777 ?_
  · exact hi1
  refine V_aload_0 778 dL_law_778 ?_
  refine V_iload_3 779 dL_law_779 ?_
  refine V_iconst 780 (2) dL_law_780 (by decide) ?_
  refine V_iadd 781 dL_law_781 ?_
  refine V_sld 782 hX hbl hbA ?_ dL_law_782 ?_
  · exact hi2
  refine V_aload_0 783 dL_law_783 ?_
  refine V_iload_3 784 dL_law_784 ?_
  refine V_iconst 785 (3) dL_law_785 (by decide) ?_
  refine V_iadd 786 dL_law_786 ?_
  refine V_sld 787 hX hbl hbA ?_ dL_law_787 ?_
  · exact hi3
  refine V_callV 788 (ci := 11) [.int _, .int _, .int _] _ (s_span l _ S1 I1 _ _ _) dL_law_788 cb_X11_span ml_RL_119 im_yX11_span se_yX11_span (F1.m 0 (Nat.le_of_ble_eq_true rfl)) (F1.k 0 11 rfl) (Nat.le_of_ble_eq_true rfl) ⟨(Nat.le_of_ble_eq_true rfl), (Nat.le_of_ble_eq_true rfl)⟩ rfl rfl (Nat.le_of_ble_eq_true rfl) ⟨(Nat.le_of_ble_eq_true rfl), (Nat.le_of_ble_eq_true rfl)⟩ (RI.go (fun r1 S4 h1 => ?_))
  refine V_pop 791 dL_law_791 rfl ?_
  refine lv_swap (b2 := n0 + sN S4) (by omega) ?_
  refine V_aload_2 792 dL_law_792 ?_
  refine V_aload_0 793 dL_law_793 ?_
  refine V_iload_3 794 dL_law_794 ?_
  refine V_iconst 795 (1) dL_law_795 (by decide) ?_
  refine V_iadd 796 dL_law_796 ?_
  refine V_sld 797 hX hbl hbA ?_ dL_law_797 ?_
  · exact hi1
  refine V_aload_0 798 dL_law_798 ?_
  refine V_iload_3 799 dL_law_799 ?_
  refine V_iconst 800 (2) dL_law_800 (by decide) ?_
  refine V_iadd 801 dL_law_801 ?_
  refine V_sld 802 hX hbl hbA ?_ dL_law_802 ?_
  · exact hi2
  refine V_aload_0 803 dL_law_803 ?_
  refine V_iload_3 804 dL_law_804 ?_
  refine V_iconst 805 (3) dL_law_805 (by decide) ?_
  refine V_iadd 806 dL_law_806 ?_
  refine V_sld 807 hX hbl hbA ?_ dL_law_807 ?_
  · exact hi3
  refine V_callV 808 (ci := 12) [.int _, .int _, .int _] _ (s_mspan l _ S3 I3 _ _ _) dL_law_808 cb_X12_span ml_RL_123 im_yX12_span se_yX12_span (F3.m 0 (Nat.le_of_ble_eq_true rfl)) (F3.k 0 12 rfl) (Nat.le_of_ble_eq_true rfl) ⟨(Nat.le_of_ble_eq_true rfl), (Nat.le_of_ble_eq_true rfl)⟩ rfl rfl (Nat.le_of_ble_eq_true rfl) ⟨(Nat.le_of_ble_eq_true rfl), (Nat.le_of_ble_eq_true rfl)⟩ (RI.go (fun r2 S5 h2 => ?_))
  refine V_pop 811 dL_law_811 rfl ?_
  refine V_goto 812 884 dL_law_812 (by decide) ?_
  exact K S4 S5 g tp (h1.mono (by omega)) h2
set_option maxRecDepth 100000 in
set_option maxHeartbeats 4000000 in
theorem law_hold {n0 n1 h mm r tp : Nat} {g : MG} {S1 S3 : PS} (H : LH s meth b L xs) (hr : 6 * r + 6 ≤ L) (I1 : IV n0 h (9 + 4 * r) (nI tp) S1) (I3 : MV n1 mm g tp S3) (K : ∀ (S1 S3 : PS) (g : MG) (tp : Nat), IV n0 h (9 + 4 * (r + 1)) (nI tp) S1 → MV n1 mm g tp S3 → LQ p l e s m below meth c b cy G kS vS n0 n1 h mm (nI (6 * r)) 884 S1 S3) : LQ p l e s m below meth c b cy G kS vS n0 n1 h mm (nI (6 * r)) 815 S1 S3 := by
  obtain ⟨hret, hX, hbl, hL⟩ := H
  have hbA : ¬ s.heap.size ≤ b := Nat.not_le.mpr hbl
  have htp := I3.2.2.2.2.2.2.2
  have hi1 : vp_in (nI (6 * r) + 1) L := vpN (eqAdd rfl (show (1 : Int32) = nI 1 from rfl)) (by omega) (by omega)
  refine lv_swap (b2 := n0 + sN S3) (by omega) ?_
  have F1 := I1.f
  have F3 := I3.f
  refine V_aload_1 815 dL_law_815 ?_
  refine V_aload_0 816 dL_law_816 ?_
  refine V_iload_3 817 dL_law_817 ?_
  refine V_iconst 818 (1) dL_law_818 (by decide) ?_
  refine V_iadd 819 dL_law_819 ?_
  refine V_sld 820 hX hbl hbA ?_ dL_law_820 ?_
  · exact hi1
  refine V_callV 821 (ci := 11) [.int _] _ (s_hold l _ S1 I1 _) dL_law_821 cb_X11_hold ml_RL_124 im_yX11_hold se_yX11_hold (F1.m 0 (Nat.le_of_ble_eq_true rfl)) (F1.k 0 11 rfl) (Nat.le_of_ble_eq_true rfl) ⟨(Nat.le_of_ble_eq_true rfl), (Nat.le_of_ble_eq_true rfl)⟩ rfl rfl (Nat.le_of_ble_eq_true rfl) ⟨(Nat.le_of_ble_eq_true rfl), (Nat.le_of_ble_eq_true rfl)⟩ (RI.go (fun r1 S4 h1 => ?_))
  refine V_pop 824 dL_law_824 rfl ?_
  refine lv_swap (b2 := n0 + sN S4) (by omega) ?_
  refine V_aload_2 825 dL_law_825 ?_
  refine V_aload_0 826 dL_law_826 ?_
  refine V_iload_3 827 dL_law_827 ?_
  refine V_iconst 828 (1) dL_law_828 (by decide) ?_
  refine V_iadd 829 dL_law_829 ?_
  refine V_sld 830 hX hbl hbA ?_ dL_law_830 ?_
  · exact hi1
  refine V_callV 831 (ci := 12) [.int _] _ (s_mhold l _ S3 I3 _) dL_law_831 cb_X12_hold ml_RL_127 im_yX12_hold se_yX12_hold (F3.m 0 (Nat.le_of_ble_eq_true rfl)) (F3.k 0 12 rfl) (Nat.le_of_ble_eq_true rfl) ⟨(Nat.le_of_ble_eq_true rfl), (Nat.le_of_ble_eq_true rfl)⟩ rfl rfl (Nat.le_of_ble_eq_true rfl) ⟨(Nat.le_of_ble_eq_true rfl), (Nat.le_of_ble_eq_true rfl)⟩ (RI.go (fun r2 S5 h2 => ?_))
  have hr1 := h1.1
  replace h1 := h1.2
  have hr2 := h2.1
  replace h2 := h2.2
  refine V_pop 834 dL_law_834 rfl ?_
  refine V_goto 835 884 dL_law_835 (by decide) ?_
  exact K S4 S5 g tp (h1.mono (by omega)) h2
set_option maxRecDepth 100000 in
set_option maxHeartbeats 4000000 in
theorem law_restore {n0 n1 h mm r tp : Nat} {g : MG} {S1 S3 : PS} (H : LH s meth b L xs) (hr : 6 * r + 6 ≤ L) (I1 : IV n0 h (9 + 4 * r) (nI tp) S1) (I3 : MV n1 mm g tp S3) (K : ∀ (S1 S3 : PS) (g : MG) (tp : Nat), IV n0 h (9 + 4 * (r + 1)) (nI tp) S1 → MV n1 mm g tp S3 → LQ p l e s m below meth c b cy G kS vS n0 n1 h mm (nI (6 * r)) 884 S1 S3) : LQ p l e s m below meth c b cy G kS vS n0 n1 h mm (nI (6 * r)) 838 S1 S3 := by
  obtain ⟨hret, hX, hbl, hL⟩ := H
  have hbA : ¬ s.heap.size ≤ b := Nat.not_le.mpr hbl
  have htp := I3.2.2.2.2.2.2.2
  have hi1 : vp_in (nI (6 * r) + 1) L := vpN (eqAdd rfl (show (1 : Int32) = nI 1 from rfl)) (by omega) (by omega)
  refine lv_swap (b2 := n0 + sN S3) (by omega) ?_
  have F1 := I1.f
  have F3 := I3.f
  refine V_aload_1 838 dL_law_838 ?_
  refine V_aload_0 839 dL_law_839 ?_
  refine V_iload_3 840 dL_law_840 ?_
  refine V_iconst 841 (1) dL_law_841 (by decide) ?_
  refine V_iadd 842 dL_law_842 ?_
  refine V_sld 843 hX hbl hbA ?_ dL_law_843 ?_
  · exact hi1
  refine V_callV 844 (ci := 11) [.int _] _ (s_restore l _ S1 I1 _) dL_law_844 cb_X11_restore ml_RL_128 im_yX11_restore se_yX11_restore (F1.m 0 (Nat.le_of_ble_eq_true rfl)) (F1.k 0 11 rfl) (Nat.le_of_ble_eq_true rfl) ⟨(Nat.le_of_ble_eq_true rfl), (Nat.le_of_ble_eq_true rfl)⟩ rfl rfl (Nat.le_of_ble_eq_true rfl) ⟨(Nat.le_of_ble_eq_true rfl), (Nat.le_of_ble_eq_true rfl)⟩ (RI.go (fun r1 S4 h1 => ?_))
  refine V_pop 847 dL_law_847 rfl ?_
  refine lv_swap (b2 := n0 + sN S4) (by omega) ?_
  refine V_aload_2 848 dL_law_848 ?_
  refine V_aload_0 849 dL_law_849 ?_
  refine V_iload_3 850 dL_law_850 ?_
  refine V_iconst 851 (1) dL_law_851 (by decide) ?_
  refine V_iadd 852 dL_law_852 ?_
  refine V_sld 853 hX hbl hbA ?_ dL_law_853 ?_
  · exact hi1
  refine V_callV 854 (ci := 12) [.int _] _ (s_mrestore l _ S3 I3 _) dL_law_854 cb_X12_restore ml_RL_131 im_yX12_restore se_yX12_restore (F3.m 0 (Nat.le_of_ble_eq_true rfl)) (F3.k 0 12 rfl) (Nat.le_of_ble_eq_true rfl) ⟨(Nat.le_of_ble_eq_true rfl), (Nat.le_of_ble_eq_true rfl)⟩ rfl rfl (Nat.le_of_ble_eq_true rfl) ⟨(Nat.le_of_ble_eq_true rfl), (Nat.le_of_ble_eq_true rfl)⟩ (RI.go (fun r2 S5 h2 => ?_))
  refine V_pop 857 dL_law_857 rfl ?_
  refine V_goto 858 884 dL_law_858 (by decide) ?_
  exact K S4 S5 g tp (h1.mono (by omega)) h2
set_option maxRecDepth 100000 in
set_option maxHeartbeats 4000000 in
theorem law_count {n0 n1 h mm r tp : Nat} {g : MG} {S1 S3 : PS} (H : LH s meth b L xs) (hr : 6 * r + 6 ≤ L) (I1 : IV n0 h (9 + 4 * r) (nI tp) S1) (I3 : MV n1 mm g tp S3) (K : ∀ (S1 S3 : PS) (g : MG) (tp : Nat), IV n0 h (9 + 4 * (r + 1)) (nI tp) S1 → MV n1 mm g tp S3 → LQ p l e s m below meth c b cy G kS vS n0 n1 h mm (nI (6 * r)) 884 S1 S3) : LQ p l e s m below meth c b cy G kS vS n0 n1 h mm (nI (6 * r)) 861 S1 S3 := by
  obtain ⟨hret, hX, hbl, hL⟩ := H
  have hbA : ¬ s.heap.size ≤ b := Nat.not_le.mpr hbl
  have htp := I3.2.2.2.2.2.2.2
  have hi1 : vp_in (nI (6 * r) + 1) L := vpN (eqAdd rfl (show (1 : Int32) = nI 1 from rfl)) (by omega) (by omega)
  refine lv_swap (b2 := n0 + sN S3) (by omega) ?_
  have F1 := I1.f
  have F3 := I3.f
  refine V_aload_1 861 dL_law_861 ?_
  refine V_aload_0 862 dL_law_862 ?_
  refine V_iload_3 863 dL_law_863 ?_
  refine V_iconst 864 (1) dL_law_864 (by decide) ?_
  refine V_iadd 865 dL_law_865 ?_
  refine V_sld 866 hX hbl hbA ?_ dL_law_866 ?_
  · exact hi1
  refine V_callV 867 (ci := 11) [.int _] _ (s_count l _ S1 I1 _) dL_law_867 cb_X11_count ml_RL_132 im_yX11_count se_yX11_count (F1.m 0 (Nat.le_of_ble_eq_true rfl)) (F1.k 0 11 rfl) (Nat.le_of_ble_eq_true rfl) ⟨(Nat.le_of_ble_eq_true rfl), (Nat.le_of_ble_eq_true rfl)⟩ rfl rfl (Nat.le_of_ble_eq_true rfl) ⟨(Nat.le_of_ble_eq_true rfl), (Nat.le_of_ble_eq_true rfl)⟩ (RI.go (fun r1 S4 h1 => ?_))
  refine V_pop 870 dL_law_870 rfl ?_
  refine lv_swap (b2 := n0 + sN S4) (by omega) ?_
  refine V_aload_2 871 dL_law_871 ?_
  refine V_aload_0 872 dL_law_872 ?_
  refine V_iload_3 873 dL_law_873 ?_
  refine V_iconst 874 (1) dL_law_874 (by decide) ?_
  refine V_iadd 875 dL_law_875 ?_
  refine V_sld 876 hX hbl hbA ?_ dL_law_876 ?_
  · exact hi1
  refine V_callV 877 (ci := 12) [.int _] _ (s_mcount l _ S3 I3 _) dL_law_877 cb_X12_count ml_RL_135 im_yX12_count se_yX12_count (F3.m 0 (Nat.le_of_ble_eq_true rfl)) (F3.k 0 12 rfl) (Nat.le_of_ble_eq_true rfl) ⟨(Nat.le_of_ble_eq_true rfl), (Nat.le_of_ble_eq_true rfl)⟩ rfl rfl (Nat.le_of_ble_eq_true rfl) ⟨(Nat.le_of_ble_eq_true rfl), (Nat.le_of_ble_eq_true rfl)⟩ (RI.go (fun r2 S5 h2 => ?_))
  refine V_pop 880 dL_law_880 rfl ?_
  refine V_goto 881 884 dL_law_881 (by decide) ?_
  exact K S4 S5 g tp (h1.mono (by omega)) h2
end CASES

