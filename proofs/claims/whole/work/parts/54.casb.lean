/-! THE LAW: its calls, 18 to 34 -/
set_option maxRecDepth 20000 in
theorem lw_c18 {κ : gC} {nm : String} {Ls : Int} {xs : Nat → Int32} {X : XT} {ℓ : Int → Int} {s : YT} {n : Int} {M : gM} {i : Int} {c0 s0 : Nat} (C : gF κ (yLw nm) cL_law 4 room_1) (S : gScr κ Ls xs) (hi : 0 ≤ i ∧ i + 6 ≤ Ls ∧ Ls ≤ 3072) (hr : c0 + 13 ≤ 600000 ∧ s0 + 87 ≤ 7302250) (hI : LI X ℓ s n M) (K : ∀ X' ℓ' s' n' M', LI X' ℓ' s' n' M' → G κ M' n' [some (vr (-3)), some (vr 0), some (vr 152), some (vi i)] 1174 [] (c0 + 13) (s0 + 87)) : G κ M n [some (vr (-3)), some (vr 0), some (vr 152), some (vi i)] 692 [] c0 s0 := by
  have hX := hI.1
  have hO := hI.2.2.1
  refine s_n1_aload C dL_law_692 ?_
  refine s_n0_aload C dL_law_693 ?_
  refine s_n3_iload C dL_law_694 ?_
  refine g_iconst C dL_law_695 ?_
  refine g_iadd C dL_law_696 ?_
  refine g_sld C S dL_law_697 (by omega) ?_
  refine g_invV C ((ct_X11_enough hX hO (scR xs (i + 1))).mono (fun _ _ _ h => h.R (xEnough_ok hO _))) hX.o cv_L_90_11 (rml (by decide) (by decide) (by show c0 + 0 ≤ 600000; omega) (by show s0 + 0 ≤ 7302250; omega)) (Nat.le_of_ble_eq_true rfl) rfl dL_law_698 rfl (q_x (fun ℓ1 X1 M1 n1 hX1 he1 hs1 => ?_))
  have hY1 := hI.2.1.of hX1.rf
  refine s_n2_aload C dL_law_701 ?_
  refine s_n0_aload C dL_law_702 ?_
  refine s_n3_iload C dL_law_703 ?_
  refine g_iconst C dL_law_704 ?_
  refine g_iadd C dL_law_705 ?_
  refine g_sld C S dL_law_706 (by omega) ?_
  refine g_invV C ((ct_X12_enough hI.2.2.2 hO (scR xs (i + 1)) (M := M1) (n := n1)).conv (YO_self hY1) rfl) ((hY1 152 (by decide) (by decide)).symm.trans (YO_o ..)) cv_L_93_12 (rml (by decide) (by decide) (by show c0 + 0 + 0 ≤ 600000; omega) (by show s0 + 0 + 0 ≤ 7302250; omega)) (Nat.le_of_ble_eq_true rfl) rfl dL_law_707 rfl (q_y (fun s2 hr2 => ?_))
  refine g_icmp_same 1174 C dL_law_710 (by decide) ?_
  exact G.widen (by show c0 + 0 + 0 ≤ c0 + 13; omega) (by show s0 + 0 + 0 ≤ s0 + 87; omega) (K _ _ _ _ _ (LI.step hX1 he1 hs1 (xEnough_ok hO _) hr2))
set_option maxRecDepth 20000 in
theorem lw_c19 {κ : gC} {nm : String} {Ls : Int} {xs : Nat → Int32} {X : XT} {ℓ : Int → Int} {s : YT} {n : Int} {M : gM} {i : Int} {c0 s0 : Nat} (C : gF κ (yLw nm) cL_law 4 room_1) (S : gScr κ Ls xs) (hi : 0 ≤ i ∧ i + 6 ≤ Ls ∧ Ls ≤ 3072) (hr : c0 + 13 ≤ 600000 ∧ s0 + 87 ≤ 7302250) (hI : LI X ℓ s n M) (K : ∀ X' ℓ' s' n' M', LI X' ℓ' s' n' M' → G κ M' n' [some (vr (-3)), some (vr 0), some (vr 152), some (vi i)] 1174 [] (c0 + 13) (s0 + 87)) : G κ M n [some (vr (-3)), some (vr 0), some (vr 152), some (vi i)] 715 [] c0 s0 := by
  have hX := hI.1
  have hO := hI.2.2.1
  refine s_n1_aload C dL_law_715 ?_
  refine s_n0_aload C dL_law_716 ?_
  refine s_n3_iload C dL_law_717 ?_
  refine g_iconst C dL_law_718 ?_
  refine g_iadd C dL_law_719 ?_
  refine g_sld C S dL_law_720 (by omega) ?_
  refine s_n0_aload C dL_law_721 ?_
  refine s_n3_iload C dL_law_722 ?_
  refine g_iconst C dL_law_723 ?_
  refine g_iadd C dL_law_724 ?_
  refine g_sld C S dL_law_725 (by omega) ?_
  refine g_invV C ((ct_X11_wetFor hX hO (scR xs (i + 1)) (scR xs (i + 2))).mono (fun _ _ _ h => h.R)) hX.o cv_L_94_11 (rml (by decide) (by decide) (by show c0 + 0 ≤ 600000; omega) (by show s0 + 0 ≤ 7302250; omega)) (Nat.le_of_ble_eq_true rfl) rfl dL_law_726 rfl (q_x (fun ℓ1 X1 M1 n1 hX1 he1 hs1 => ?_))
  have hY1 := hI.2.1.of hX1.rf
  refine s_n2_aload C dL_law_729 ?_
  refine s_n0_aload C dL_law_730 ?_
  refine s_n3_iload C dL_law_731 ?_
  refine g_iconst C dL_law_732 ?_
  refine g_iadd C dL_law_733 ?_
  refine g_sld C S dL_law_734 (by omega) ?_
  refine s_n0_aload C dL_law_735 ?_
  refine s_n3_iload C dL_law_736 ?_
  refine g_iconst C dL_law_737 ?_
  refine g_iadd C dL_law_738 ?_
  refine g_sld C S dL_law_739 (by omega) ?_
  refine g_invV C ((ct_X12_wetFor hI.2.2.2 hO (scR xs (i + 1)) (scR xs (i + 2)) (M := M1) (n := n1)).conv (YO_self hY1) rfl) ((hY1 152 (by decide) (by decide)).symm.trans (YO_o ..)) cv_L_97_12 (rml (by decide) (by decide) (by show c0 + 0 + 0 ≤ 600000; omega) (by show s0 + 0 + 0 ≤ 7302250; omega)) (Nat.le_of_ble_eq_true rfl) rfl dL_law_740 rfl (q_y (fun s2 hr2 => ?_))
  refine g_icmp_same 1174 C dL_law_743 (by decide) ?_
  exact G.widen (by show c0 + 0 + 0 ≤ c0 + 13; omega) (by show s0 + 0 + 0 ≤ s0 + 87; omega) (K _ _ _ _ _ (LI.step hX1 he1 hs1 (xWet_ok hO _ _) hr2))
set_option maxRecDepth 20000 in
theorem lw_c20 {κ : gC} {nm : String} {Ls : Int} {xs : Nat → Int32} {X : XT} {ℓ : Int → Int} {s : YT} {n : Int} {M : gM} {i : Int} {c0 s0 : Nat} (C : gF κ (yLw nm) cL_law 4 room_1) (S : gScr κ Ls xs) (hi : 0 ≤ i ∧ i + 6 ≤ Ls ∧ Ls ≤ 3072) (hr : c0 + 13 ≤ 600000 ∧ s0 + 87 ≤ 7302250) (hI : LI X ℓ s n M) (K : ∀ X' ℓ' s' n' M', LI X' ℓ' s' n' M' → G κ M' n' [some (vr (-3)), some (vr 0), some (vr 152), some (vi i)] 1174 [] (c0 + 13) (s0 + 87)) : G κ M n [some (vr (-3)), some (vr 0), some (vr 152), some (vi i)] 748 [] c0 s0 := by
  have hX := hI.1
  have hO := hI.2.2.1
  refine s_n1_aload C dL_law_748 ?_
  refine s_n0_aload C dL_law_749 ?_
  refine s_n3_iload C dL_law_750 ?_
  refine g_iconst C dL_law_751 ?_
  refine g_iadd C dL_law_752 ?_
  refine g_sld C S dL_law_753 (by omega) ?_
  refine s_n0_aload C dL_law_754 ?_
  refine s_n3_iload C dL_law_755 ?_
  refine g_iconst C dL_law_756 ?_
  refine g_iadd C dL_law_757 ?_
  refine g_sld C S dL_law_758 (by omega) ?_
  refine g_invV C ((ct_X11_over hX hO (scR xs (i + 1)) (scR xs (i + 2))).mono (fun _ _ _ h => h.R (xOver_ok hO _ _))) hX.o cv_L_98_11 (rml (by decide) (by decide) (by show c0 + 0 ≤ 600000; omega) (by show s0 + 0 ≤ 7302250; omega)) (Nat.le_of_ble_eq_true rfl) rfl dL_law_759 rfl (q_x (fun ℓ1 X1 M1 n1 hX1 he1 hs1 => ?_))
  have hY1 := hI.2.1.of hX1.rf
  refine s_n2_aload C dL_law_762 ?_
  refine s_n0_aload C dL_law_763 ?_
  refine s_n3_iload C dL_law_764 ?_
  refine g_iconst C dL_law_765 ?_
  refine g_iadd C dL_law_766 ?_
  refine g_sld C S dL_law_767 (by omega) ?_
  refine s_n0_aload C dL_law_768 ?_
  refine s_n3_iload C dL_law_769 ?_
  refine g_iconst C dL_law_770 ?_
  refine g_iadd C dL_law_771 ?_
  refine g_sld C S dL_law_772 (by omega) ?_
  refine g_invV C ((ct_X12_over hI.2.2.2 hO (scR xs (i + 1)) (scR xs (i + 2)) (M := M1) (n := n1)).conv (YO_self hY1) rfl) ((hY1 152 (by decide) (by decide)).symm.trans (YO_o ..)) cv_L_101_12 (rml (by decide) (by decide) (by show c0 + 0 + 0 ≤ 600000; omega) (by show s0 + 0 + 0 ≤ 7302250; omega)) (Nat.le_of_ble_eq_true rfl) rfl dL_law_773 rfl (q_y (fun s2 hr2 => ?_))
  refine g_icmp_same 1174 C dL_law_776 (by decide) ?_
  exact G.widen (by show c0 + 0 + 0 ≤ c0 + 13; omega) (by show s0 + 0 + 0 ≤ s0 + 87; omega) (K _ _ _ _ _ (LI.step hX1 he1 hs1 (xOver_ok hO _ _) hr2))
set_option maxRecDepth 20000 in
theorem lw_c21 {κ : gC} {nm : String} {Ls : Int} {xs : Nat → Int32} {X : XT} {ℓ : Int → Int} {s : YT} {n : Int} {M : gM} {i : Int} {c0 s0 : Nat} (C : gF κ (yLw nm) cL_law 4 room_1) (S : gScr κ Ls xs) (hi : 0 ≤ i ∧ i + 6 ≤ Ls ∧ Ls ≤ 3072) (hr : c0 + 13 ≤ 600000 ∧ s0 + 87 ≤ 7302250) (hI : LI X ℓ s n M) (K : ∀ X' ℓ' s' n' M', LI X' ℓ' s' n' M' → G κ M' n' [some (vr (-3)), some (vr 0), some (vr 152), some (vi i)] 1174 [] (c0 + 13) (s0 + 87)) : G κ M n [some (vr (-3)), some (vr 0), some (vr 152), some (vi i)] 781 [] c0 s0 := by
  have hX := hI.1
  have hO := hI.2.2.1
  refine s_n1_aload C dL_law_781 ?_
  refine g_invV C ((ct_X11_goOn hX hO).mono (fun _ _ _ h => h.R (xGoOn_ok hO))) hX.o cv_L_102_11 (rml (by decide) (by decide) (by show c0 + 0 ≤ 600000; omega) (by show s0 + 0 ≤ 7302250; omega)) (Nat.le_of_ble_eq_true rfl) rfl dL_law_782 rfl (q_x (fun ℓ1 X1 M1 n1 hX1 he1 hs1 => ?_))
  have hY1 := hI.2.1.of hX1.rf
  refine s_n2_aload C dL_law_785 ?_
  refine g_invV C ((ct_X12_goOn hI.2.2.2 hO (M := M1) (n := n1)).conv (YO_self hY1) rfl) ((hY1 152 (by decide) (by decide)).symm.trans (YO_o ..)) cv_L_105_12 (rml (by decide) (by decide) (by show c0 + 0 + 0 ≤ 600000; omega) (by show s0 + 0 + 0 ≤ 7302250; omega)) (Nat.le_of_ble_eq_true rfl) rfl dL_law_786 rfl (q_y (fun s2 hr2 => ?_))
  refine g_icmp_same 1174 C dL_law_789 (by decide) ?_
  exact G.widen (by show c0 + 0 + 0 ≤ c0 + 13; omega) (by show s0 + 0 + 0 ≤ s0 + 87; omega) (K _ _ _ _ _ (LI.step hX1 he1 hs1 (xGoOn_ok hO) hr2))
set_option maxRecDepth 20000 in
theorem lw_c22 {κ : gC} {nm : String} {Ls : Int} {xs : Nat → Int32} {X : XT} {ℓ : Int → Int} {s : YT} {n : Int} {M : gM} {i : Int} {c0 s0 : Nat} (C : gF κ (yLw nm) cL_law 4 room_1) (S : gScr κ Ls xs) (hi : 0 ≤ i ∧ i + 6 ≤ Ls ∧ Ls ≤ 3072) (hr : c0 + 13 ≤ 600000 ∧ s0 + 87 ≤ 7302250) (hI : LI X ℓ s n M) (K : ∀ X' ℓ' s' n' M', LI X' ℓ' s' n' M' → G κ M' n' [some (vr (-3)), some (vr 0), some (vr 152), some (vi i)] 1174 [] (c0 + 13) (s0 + 87)) : G κ M n [some (vr (-3)), some (vr 0), some (vr 152), some (vi i)] 794 [] c0 s0 := by
  have hX := hI.1
  have hO := hI.2.2.1
  refine s_n1_aload C dL_law_794 ?_
  refine s_n0_aload C dL_law_795 ?_
  refine s_n3_iload C dL_law_796 ?_
  refine g_iconst C dL_law_797 ?_
  refine g_iadd C dL_law_798 ?_
  refine g_sld C S dL_law_799 (by omega) ?_
  refine s_n0_aload C dL_law_800 ?_
  refine s_n3_iload C dL_law_801 ?_
  refine g_iconst C dL_law_802 ?_
  refine g_iadd C dL_law_803 ?_
  refine g_sld C S dL_law_804 (by omega) ?_
  refine s_n0_aload C dL_law_805 ?_
  refine s_n3_iload C dL_law_806 ?_
  refine g_iconst C dL_law_807 ?_
  refine g_iadd C dL_law_808 ?_
  refine g_sld C S dL_law_809 (by omega) ?_
  refine g_invV C ((ct_X11_done hX hO (scR xs (i + 1)) (scR xs (i + 2)) (scR xs (i + 3))).mono (fun _ _ _ h => h.R)) hX.o cv_L_106_11 (rml (by decide) (by decide) (by show c0 + 0 ≤ 600000; omega) (by show s0 + 0 ≤ 7302250; omega)) (Nat.le_of_ble_eq_true rfl) rfl dL_law_810 rfl (q_x (fun ℓ1 X1 M1 n1 hX1 he1 hs1 => ?_))
  have hY1 := hI.2.1.of hX1.rf
  refine s_n2_aload C dL_law_813 ?_
  refine s_n0_aload C dL_law_814 ?_
  refine s_n3_iload C dL_law_815 ?_
  refine g_iconst C dL_law_816 ?_
  refine g_iadd C dL_law_817 ?_
  refine g_sld C S dL_law_818 (by omega) ?_
  refine s_n0_aload C dL_law_819 ?_
  refine s_n3_iload C dL_law_820 ?_
  refine g_iconst C dL_law_821 ?_
  refine g_iadd C dL_law_822 ?_
  refine g_sld C S dL_law_823 (by omega) ?_
  refine s_n0_aload C dL_law_824 ?_
  refine s_n3_iload C dL_law_825 ?_
  refine g_iconst C dL_law_826 ?_
  refine g_iadd C dL_law_827 ?_
  refine g_sld C S dL_law_828 (by omega) ?_
  refine g_invV C ((ct_X12_done hI.2.2.2 hO (scR xs (i + 1)) (scR xs (i + 2)) (scR xs (i + 3)) (M := M1) (n := n1)).conv (YO_self hY1) rfl) ((hY1 152 (by decide) (by decide)).symm.trans (YO_o ..)) cv_L_109_12 (rml (by decide) (by decide) (by show c0 + 0 + 0 ≤ 600000; omega) (by show s0 + 0 + 0 ≤ 7302250; omega)) (Nat.le_of_ble_eq_true rfl) rfl dL_law_829 rfl (q_y (fun s2 hr2 => ?_))
  refine g_icmp_same 1174 C dL_law_832 (by decide) ?_
  exact G.widen (by show c0 + 0 + 0 ≤ c0 + 13; omega) (by show s0 + 0 + 0 ≤ s0 + 87; omega) (K _ _ _ _ _ (LI.step hX1 he1 hs1 (xDone_ok hO _ _ _) hr2))
set_option maxRecDepth 20000 in
theorem lw_c23 {κ : gC} {nm : String} {Ls : Int} {xs : Nat → Int32} {X : XT} {ℓ : Int → Int} {s : YT} {n : Int} {M : gM} {i : Int} {c0 s0 : Nat} (C : gF κ (yLw nm) cL_law 4 room_1) (S : gScr κ Ls xs) (hi : 0 ≤ i ∧ i + 6 ≤ Ls ∧ Ls ≤ 3072) (hr : c0 + 13 ≤ 600000 ∧ s0 + 87 ≤ 7302250) (hI : LI X ℓ s n M) (K : ∀ X' ℓ' s' n' M', LI X' ℓ' s' n' M' → G κ M' n' [some (vr (-3)), some (vr 0), some (vr 152), some (vi i)] 1174 [] (c0 + 13) (s0 + 87)) : G κ M n [some (vr (-3)), some (vr 0), some (vr 152), some (vi i)] 837 [] c0 s0 := by
  have hX := hI.1
  have hO := hI.2.2.1
  refine s_n1_aload C dL_law_837 ?_
  refine s_n0_aload C dL_law_838 ?_
  refine s_n3_iload C dL_law_839 ?_
  refine g_iconst C dL_law_840 ?_
  refine g_iadd C dL_law_841 ?_
  refine g_sld C S dL_law_842 (by omega) ?_
  refine s_n0_aload C dL_law_843 ?_
  refine s_n3_iload C dL_law_844 ?_
  refine g_iconst C dL_law_845 ?_
  refine g_iadd C dL_law_846 ?_
  refine g_sld C S dL_law_847 (by omega) ?_
  refine g_invV C ((ct_X11_cups hX hO (scR xs (i + 1)) (scR xs (i + 2))).mono (fun _ _ _ h => h.R (xCups_ok hO _ _))) hX.o cv_L_110_11 (rml (by decide) (by decide) (by show c0 + 0 ≤ 600000; omega) (by show s0 + 0 ≤ 7302250; omega)) (Nat.le_of_ble_eq_true rfl) rfl dL_law_848 rfl (q_x (fun ℓ1 X1 M1 n1 hX1 he1 hs1 => ?_))
  have hY1 := hI.2.1.of hX1.rf
  refine s_n2_aload C dL_law_851 ?_
  refine s_n0_aload C dL_law_852 ?_
  refine s_n3_iload C dL_law_853 ?_
  refine g_iconst C dL_law_854 ?_
  refine g_iadd C dL_law_855 ?_
  refine g_sld C S dL_law_856 (by omega) ?_
  refine s_n0_aload C dL_law_857 ?_
  refine s_n3_iload C dL_law_858 ?_
  refine g_iconst C dL_law_859 ?_
  refine g_iadd C dL_law_860 ?_
  refine g_sld C S dL_law_861 (by omega) ?_
  refine g_invV C ((ct_X12_cups hI.2.2.2 hO (scR xs (i + 1)) (scR xs (i + 2)) (M := M1) (n := n1)).conv (YO_self hY1) rfl) ((hY1 152 (by decide) (by decide)).symm.trans (YO_o ..)) cv_L_113_12 (rml (by decide) (by decide) (by show c0 + 0 + 0 ≤ 600000; omega) (by show s0 + 0 + 0 ≤ 7302250; omega)) (Nat.le_of_ble_eq_true rfl) rfl dL_law_862 rfl (q_y (fun s2 hr2 => ?_))
  refine g_icmp_same 1174 C dL_law_865 (by decide) ?_
  exact G.widen (by show c0 + 0 + 0 ≤ c0 + 13; omega) (by show s0 + 0 + 0 ≤ s0 + 87; omega) (K _ _ _ _ _ (LI.step hX1 he1 hs1 (xCups_ok hO _ _) hr2))
set_option maxRecDepth 20000 in
theorem lw_c24 {κ : gC} {nm : String} {Ls : Int} {xs : Nat → Int32} {X : XT} {ℓ : Int → Int} {s : YT} {n : Int} {M : gM} {i : Int} {c0 s0 : Nat} (C : gF κ (yLw nm) cL_law 4 room_1) (S : gScr κ Ls xs) (hi : 0 ≤ i ∧ i + 6 ≤ Ls ∧ Ls ≤ 3072) (hr : c0 + 13 ≤ 600000 ∧ s0 + 87 ≤ 7302250) (hI : LI X ℓ s n M) (K : ∀ X' ℓ' s' n' M', LI X' ℓ' s' n' M' → G κ M' n' [some (vr (-3)), some (vr 0), some (vr 152), some (vi i)] 1174 [] (c0 + 13) (s0 + 87)) : G κ M n [some (vr (-3)), some (vr 0), some (vr 152), some (vi i)] 870 [] c0 s0 := by
  have hX := hI.1
  have hO := hI.2.2.1
  refine s_n1_aload C dL_law_870 ?_
  refine g_invV C ((ct_X11_thin hX hO).mono (fun _ _ _ h => h.R (xThin_ok hO))) hX.o cv_L_114_11 (rml (by decide) (by decide) (by show c0 + 0 ≤ 600000; omega) (by show s0 + 0 ≤ 7302250; omega)) (Nat.le_of_ble_eq_true rfl) rfl dL_law_871 rfl (q_x (fun ℓ1 X1 M1 n1 hX1 he1 hs1 => ?_))
  have hY1 := hI.2.1.of hX1.rf
  refine s_n2_aload C dL_law_874 ?_
  refine g_invV C ((ct_X12_thin hI.2.2.2 hO (M := M1) (n := n1)).conv (YO_self hY1) rfl) ((hY1 152 (by decide) (by decide)).symm.trans (YO_o ..)) cv_L_117_12 (rml (by decide) (by decide) (by show c0 + 0 + 0 ≤ 600000; omega) (by show s0 + 0 + 0 ≤ 7302250; omega)) (Nat.le_of_ble_eq_true rfl) rfl dL_law_875 rfl (q_y (fun s2 hr2 => ?_))
  refine g_icmp_same 1174 C dL_law_878 (by decide) ?_
  exact G.widen (by show c0 + 0 + 0 ≤ c0 + 13; omega) (by show s0 + 0 + 0 ≤ s0 + 87; omega) (K _ _ _ _ _ (LI.step hX1 he1 hs1 (xThin_ok hO) hr2))
set_option maxRecDepth 20000 in
theorem lw_c25 {κ : gC} {nm : String} {Ls : Int} {xs : Nat → Int32} {X : XT} {ℓ : Int → Int} {s : YT} {n : Int} {M : gM} {i : Int} {c0 s0 : Nat} (C : gF κ (yLw nm) cL_law 4 room_1) (S : gScr κ Ls xs) (hi : 0 ≤ i ∧ i + 6 ≤ Ls ∧ Ls ≤ 3072) (hr : c0 + 13 ≤ 600000 ∧ s0 + 87 ≤ 7302250) (hI : LI X ℓ s n M) (K : ∀ X' ℓ' s' n' M', LI X' ℓ' s' n' M' → G κ M' n' [some (vr (-3)), some (vr 0), some (vr 152), some (vi i)] 1174 [] (c0 + 13) (s0 + 87)) : G κ M n [some (vr (-3)), some (vr 0), some (vr 152), some (vi i)] 883 [] c0 s0 := by
  have hX := hI.1
  have hO := hI.2.2.1
  refine s_n1_aload C dL_law_883 ?_
  refine s_n0_aload C dL_law_884 ?_
  refine s_n3_iload C dL_law_885 ?_
  refine g_iconst C dL_law_886 ?_
  refine g_iadd C dL_law_887 ?_
  refine g_sld C S dL_law_888 (by omega) ?_
  refine s_n0_aload C dL_law_889 ?_
  refine s_n3_iload C dL_law_890 ?_
  refine g_iconst C dL_law_891 ?_
  refine g_iadd C dL_law_892 ?_
  refine g_sld C S dL_law_893 (by omega) ?_
  refine s_n0_aload C dL_law_894 ?_
  refine s_n3_iload C dL_law_895 ?_
  refine g_iconst C dL_law_896 ?_
  refine g_iadd C dL_law_897 ?_
  refine g_sld C S dL_law_898 (by omega) ?_
  refine s_n0_aload C dL_law_899 ?_
  refine s_n3_iload C dL_law_900 ?_
  refine g_iconst C dL_law_901 ?_
  refine g_iadd C dL_law_902 ?_
  refine g_sld C S dL_law_903 (by omega) ?_
  refine g_invV C (ct_X11_dust (scR xs (i + 1)) (scR xs (i + 2)) (scR xs (i + 3)) (scR xs (i + 4)) (M := M) (n := n)) hX.o cv_L_118_11 (rml (by decide) (by decide) (by show c0 + 0 ≤ 600000; omega) (by show s0 + 0 ≤ 7302250; omega)) (Nat.le_of_ble_eq_true rfl) rfl dL_law_904 rfl (q_r ?_)
  have hY1 := hI.2.1
  refine s_n2_aload C dL_law_907 ?_
  refine s_n0_aload C dL_law_908 ?_
  refine s_n3_iload C dL_law_909 ?_
  refine g_iconst C dL_law_910 ?_
  refine g_iadd C dL_law_911 ?_
  refine g_sld C S dL_law_912 (by omega) ?_
  refine s_n0_aload C dL_law_913 ?_
  refine s_n3_iload C dL_law_914 ?_
  refine g_iconst C dL_law_915 ?_
  refine g_iadd C dL_law_916 ?_
  refine g_sld C S dL_law_917 (by omega) ?_
  refine s_n0_aload C dL_law_918 ?_
  refine s_n3_iload C dL_law_919 ?_
  refine g_iconst C dL_law_920 ?_
  refine g_iadd C dL_law_921 ?_
  refine g_sld C S dL_law_922 (by omega) ?_
  refine s_n0_aload C dL_law_923 ?_
  refine s_n3_iload C dL_law_924 ?_
  refine g_iconst C dL_law_925 ?_
  refine g_iadd C dL_law_926 ?_
  refine g_sld C S dL_law_927 (by omega) ?_
  refine g_invV C ((ct_X12_dust hI.2.2.2 hO (scR xs (i + 1)) (scR xs (i + 2)) (scR xs (i + 3)) (scR xs (i + 4)) (M := M) (n := n)).conv (YO_self hY1) rfl) ((hY1 152 (by decide) (by decide)).symm.trans (YO_o ..)) cv_L_122_12 (rml (by decide) (by decide) (by show c0 + 0 + 0 ≤ 600000; omega) (by show s0 + 0 + 0 ≤ 7302250; omega)) (Nat.le_of_ble_eq_true rfl) rfl dL_law_928 rfl (q_d (fun s2 hr2 => ?_))
  refine g_lcmp_same C dL_law_931 ?_
  refine g_if_eq 1174 C dL_law_932 (by decide) iR0 (fun _ => ?_) (fun h => absurd rfl h)
  exact G.widen (by show c0 + 0 + 0 ≤ c0 + 13; omega) (by show s0 + 0 + 0 ≤ s0 + 87; omega) (K _ _ _ _ _ ⟨hX.uy s2, YOi_YO s2 M, hO, hr2⟩)
set_option maxRecDepth 20000 in
theorem lw_c26 {κ : gC} {nm : String} {Ls : Int} {xs : Nat → Int32} {X : XT} {ℓ : Int → Int} {s : YT} {n : Int} {M : gM} {i : Int} {c0 s0 : Nat} (C : gF κ (yLw nm) cL_law 4 room_1) (S : gScr κ Ls xs) (hi : 0 ≤ i ∧ i + 6 ≤ Ls ∧ Ls ≤ 3072) (hr : c0 + 13 ≤ 600000 ∧ s0 + 87 ≤ 7302250) (hI : LI X ℓ s n M) (K : ∀ X' ℓ' s' n' M', LI X' ℓ' s' n' M' → G κ M' n' [some (vr (-3)), some (vr 0), some (vr 152), some (vi i)] 1174 [] (c0 + 13) (s0 + 87)) : G κ M n [some (vr (-3)), some (vr 0), some (vr 152), some (vi i)] 937 [] c0 s0 := by
  have hX := hI.1
  have hO := hI.2.2.1
  refine s_n1_aload C dL_law_937 ?_
  refine s_n0_aload C dL_law_938 ?_
  refine s_n3_iload C dL_law_939 ?_
  refine g_iconst C dL_law_940 ?_
  refine g_iadd C dL_law_941 ?_
  refine g_sld C S dL_law_942 (by omega) ?_
  refine s_n0_aload C dL_law_943 ?_
  refine s_n3_iload C dL_law_944 ?_
  refine g_iconst C dL_law_945 ?_
  refine g_iadd C dL_law_946 ?_
  refine g_sld C S dL_law_947 (by omega) ?_
  refine s_n0_aload C dL_law_948 ?_
  refine s_n3_iload C dL_law_949 ?_
  refine g_iconst C dL_law_950 ?_
  refine g_iadd C dL_law_951 ?_
  refine g_sld C S dL_law_952 (by omega) ?_
  refine g_invV C ((ct_X11_evenings hX hO (scR xs (i + 1)) (scR xs (i + 2)) (scR xs (i + 3))).mono (fun _ _ _ h => h.R)) hX.o cv_L_123_11 (rml (by decide) (by decide) (by show c0 + 0 ≤ 600000; omega) (by show s0 + 0 ≤ 7302250; omega)) (Nat.le_of_ble_eq_true rfl) rfl dL_law_953 rfl (q_x (fun ℓ1 X1 M1 n1 hX1 he1 hs1 => ?_))
  have hY1 := hI.2.1.of hX1.rf
  refine s_n2_aload C dL_law_956 ?_
  refine s_n0_aload C dL_law_957 ?_
  refine s_n3_iload C dL_law_958 ?_
  refine g_iconst C dL_law_959 ?_
  refine g_iadd C dL_law_960 ?_
  refine g_sld C S dL_law_961 (by omega) ?_
  refine s_n0_aload C dL_law_962 ?_
  refine s_n3_iload C dL_law_963 ?_
  refine g_iconst C dL_law_964 ?_
  refine g_iadd C dL_law_965 ?_
  refine g_sld C S dL_law_966 (by omega) ?_
  refine s_n0_aload C dL_law_967 ?_
  refine s_n3_iload C dL_law_968 ?_
  refine g_iconst C dL_law_969 ?_
  refine g_iadd C dL_law_970 ?_
  refine g_sld C S dL_law_971 (by omega) ?_
  refine g_invV C ((ct_X12_evenings hI.2.2.2 hO (scR xs (i + 1)) (scR xs (i + 2)) (scR xs (i + 3)) (M := M1) (n := n1)).conv (YO_self hY1) rfl) ((hY1 152 (by decide) (by decide)).symm.trans (YO_o ..)) cv_L_126_12 (rml (by decide) (by decide) (by show c0 + 0 + 0 ≤ 600000; omega) (by show s0 + 0 + 0 ≤ 7302250; omega)) (Nat.le_of_ble_eq_true rfl) rfl dL_law_972 rfl (q_y (fun s2 hr2 => ?_))
  refine g_icmp_same 1174 C dL_law_975 (by decide) ?_
  exact G.widen (by show c0 + 0 + 0 ≤ c0 + 13; omega) (by show s0 + 0 + 0 ≤ s0 + 87; omega) (K _ _ _ _ _ (LI.step hX1 he1 hs1 (xEvenings_ok hO _ _ _) hr2))
set_option maxRecDepth 20000 in
theorem lw_c27 {κ : gC} {nm : String} {Ls : Int} {xs : Nat → Int32} {X : XT} {ℓ : Int → Int} {s : YT} {n : Int} {M : gM} {i : Int} {c0 s0 : Nat} (C : gF κ (yLw nm) cL_law 4 room_1) (S : gScr κ Ls xs) (hi : 0 ≤ i ∧ i + 6 ≤ Ls ∧ Ls ≤ 3072) (hr : c0 + 13 ≤ 600000 ∧ s0 + 87 ≤ 7302250) (hI : LI X ℓ s n M) (K : ∀ X' ℓ' s' n' M', LI X' ℓ' s' n' M' → G κ M' n' [some (vr (-3)), some (vr 0), some (vr 152), some (vi i)] 1174 [] (c0 + 13) (s0 + 87)) : G κ M n [some (vr (-3)), some (vr 0), some (vr 152), some (vi i)] 980 [] c0 s0 := by
  have hX := hI.1
  have hO := hI.2.2.1
  refine s_n1_aload C dL_law_980 ?_
  refine s_n0_aload C dL_law_981 ?_
  refine s_n3_iload C dL_law_982 ?_
  refine g_iconst C dL_law_983 ?_
  refine g_iadd C dL_law_984 ?_
  refine g_sld C S dL_law_985 (by omega) ?_
  refine g_invV C ((ct_X11_image hX hO (scR xs (i + 1))).mono (fun _ _ _ h => h.R (xImage_ok hO _))) hX.o cv_L_127_11 (rml (by decide) (by decide) (by show c0 + 0 ≤ 600000; omega) (by show s0 + 0 ≤ 7302250; omega)) (Nat.le_of_ble_eq_true rfl) rfl dL_law_986 rfl (q_x (fun ℓ1 X1 M1 n1 hX1 he1 hs1 => ?_))
  have hY1 := hI.2.1.of hX1.rf
  refine s_n2_aload C dL_law_989 ?_
  refine s_n0_aload C dL_law_990 ?_
  refine s_n3_iload C dL_law_991 ?_
  refine g_iconst C dL_law_992 ?_
  refine g_iadd C dL_law_993 ?_
  refine g_sld C S dL_law_994 (by omega) ?_
  refine g_invV C ((ct_X12_image hI.2.2.2 hO (scR xs (i + 1)) (M := M1) (n := n1)).conv (YO_self hY1) rfl) ((hY1 152 (by decide) (by decide)).symm.trans (YO_o ..)) cv_L_130_12 (rml (by decide) (by decide) (by show c0 + 0 + 0 ≤ 600000; omega) (by show s0 + 0 + 0 ≤ 7302250; omega)) (Nat.le_of_ble_eq_true rfl) rfl dL_law_995 rfl (q_y (fun s2 hr2 => ?_))
  refine g_icmp_same 1174 C dL_law_998 (by decide) ?_
  exact G.widen (by show c0 + 0 + 0 ≤ c0 + 13; omega) (by show s0 + 0 + 0 ≤ s0 + 87; omega) (K _ _ _ _ _ (LI.step hX1 he1 hs1 (xImage_ok hO _) hr2))
set_option maxRecDepth 20000 in
theorem lw_c28 {κ : gC} {nm : String} {Ls : Int} {xs : Nat → Int32} {X : XT} {ℓ : Int → Int} {s : YT} {n : Int} {M : gM} {i : Int} {c0 s0 : Nat} (C : gF κ (yLw nm) cL_law 4 room_1) (S : gScr κ Ls xs) (hi : 0 ≤ i ∧ i + 6 ≤ Ls ∧ Ls ≤ 3072) (hr : c0 + 13 ≤ 600000 ∧ s0 + 87 ≤ 7302250) (hI : LI X ℓ s n M) (K : ∀ X' ℓ' s' n' M', LI X' ℓ' s' n' M' → G κ M' n' [some (vr (-3)), some (vr 0), some (vr 152), some (vi i)] 1174 [] (c0 + 13) (s0 + 87)) : G κ M n [some (vr (-3)), some (vr 0), some (vr 152), some (vi i)] 1003 [] c0 s0 := by
  have hX := hI.1
  have hO := hI.2.2.1
  refine s_n1_aload C dL_law_1003 ?_
  refine s_n0_aload C dL_law_1004 ?_
  refine s_n3_iload C dL_law_1005 ?_
  refine g_iconst C dL_law_1006 ?_
  refine g_iadd C dL_law_1007 ?_
  refine g_sld C S dL_law_1008 (by omega) ?_
  refine g_invV C ((ct_X11_restore hX hO (scR xs (i + 1))).mono (fun _ _ _ h => h.R (xRestore_ok hO _))) hX.o cv_L_131_11 (rml (by decide) (by decide) (by show c0 + 0 ≤ 600000; omega) (by show s0 + 0 ≤ 7302250; omega)) (Nat.le_of_ble_eq_true rfl) rfl dL_law_1009 rfl (q_x (fun ℓ1 X1 M1 n1 hX1 he1 hs1 => ?_))
  have hY1 := hI.2.1.of hX1.rf
  refine s_n2_aload C dL_law_1012 ?_
  refine s_n0_aload C dL_law_1013 ?_
  refine s_n3_iload C dL_law_1014 ?_
  refine g_iconst C dL_law_1015 ?_
  refine g_iadd C dL_law_1016 ?_
  refine g_sld C S dL_law_1017 (by omega) ?_
  refine g_invV C ((ct_X12_restore hI.2.2.2 hO (scR xs (i + 1)) (M := M1) (n := n1)).conv (YO_self hY1) rfl) ((hY1 152 (by decide) (by decide)).symm.trans (YO_o ..)) cv_L_134_12 (rml (by decide) (by decide) (by show c0 + 0 + 0 ≤ 600000; omega) (by show s0 + 0 + 0 ≤ 7302250; omega)) (Nat.le_of_ble_eq_true rfl) rfl dL_law_1018 rfl (q_y (fun s2 hr2 => ?_))
  refine g_icmp_same 1174 C dL_law_1021 (by decide) ?_
  exact G.widen (by show c0 + 0 + 0 ≤ c0 + 13; omega) (by show s0 + 0 + 0 ≤ s0 + 87; omega) (K _ _ _ _ _ (LI.step hX1 he1 hs1 (xRestore_ok hO _) hr2))
set_option maxRecDepth 20000 in
theorem lw_c29 {κ : gC} {nm : String} {Ls : Int} {xs : Nat → Int32} {X : XT} {ℓ : Int → Int} {s : YT} {n : Int} {M : gM} {i : Int} {c0 s0 : Nat} (C : gF κ (yLw nm) cL_law 4 room_1) (S : gScr κ Ls xs) (hi : 0 ≤ i ∧ i + 6 ≤ Ls ∧ Ls ≤ 3072) (hr : c0 + 13 ≤ 600000 ∧ s0 + 87 ≤ 7302250) (hI : LI X ℓ s n M) (K : ∀ X' ℓ' s' n' M', LI X' ℓ' s' n' M' → G κ M' n' [some (vr (-3)), some (vr 0), some (vr 152), some (vi i)] 1174 [] (c0 + 13) (s0 + 87)) : G κ M n [some (vr (-3)), some (vr 0), some (vr 152), some (vi i)] 1026 [] c0 s0 := by
  have hX := hI.1
  have hO := hI.2.2.1
  refine s_n1_aload C dL_law_1026 ?_
  refine s_n0_aload C dL_law_1027 ?_
  refine s_n3_iload C dL_law_1028 ?_
  refine g_iconst C dL_law_1029 ?_
  refine g_iadd C dL_law_1030 ?_
  refine g_sld C S dL_law_1031 (by omega) ?_
  refine g_invV C ((ct_X11_kind hX hO (scR xs (i + 1))).mono (fun _ _ _ h => h.R (xKind_ok hO _))) hX.o cv_L_135_11 (rml (by decide) (by decide) (by show c0 + 0 ≤ 600000; omega) (by show s0 + 0 ≤ 7302250; omega)) (Nat.le_of_ble_eq_true rfl) rfl dL_law_1032 rfl (q_x (fun ℓ1 X1 M1 n1 hX1 he1 hs1 => ?_))
  have hY1 := hI.2.1.of hX1.rf
  refine s_n2_aload C dL_law_1035 ?_
  refine s_n0_aload C dL_law_1036 ?_
  refine s_n3_iload C dL_law_1037 ?_
  refine g_iconst C dL_law_1038 ?_
  refine g_iadd C dL_law_1039 ?_
  refine g_sld C S dL_law_1040 (by omega) ?_
  refine g_invV C ((ct_X12_kind hI.2.2.2 hO (scR xs (i + 1)) (M := M1) (n := n1)).conv (YO_self hY1) rfl) ((hY1 152 (by decide) (by decide)).symm.trans (YO_o ..)) cv_L_138_12 (rml (by decide) (by decide) (by show c0 + 0 + 0 ≤ 600000; omega) (by show s0 + 0 + 0 ≤ 7302250; omega)) (Nat.le_of_ble_eq_true rfl) rfl dL_law_1041 rfl (q_y (fun s2 hr2 => ?_))
  refine g_icmp_same 1174 C dL_law_1044 (by decide) ?_
  exact G.widen (by show c0 + 0 + 0 ≤ c0 + 13; omega) (by show s0 + 0 + 0 ≤ s0 + 87; omega) (K _ _ _ _ _ (LI.step hX1 he1 hs1 (xKind_ok hO _) hr2))
set_option maxRecDepth 20000 in
theorem lw_c30 {κ : gC} {nm : String} {Ls : Int} {xs : Nat → Int32} {X : XT} {ℓ : Int → Int} {s : YT} {n : Int} {M : gM} {i : Int} {c0 s0 : Nat} (C : gF κ (yLw nm) cL_law 4 room_1) (S : gScr κ Ls xs) (hi : 0 ≤ i ∧ i + 6 ≤ Ls ∧ Ls ≤ 3072) (hr : c0 + 13 ≤ 600000 ∧ s0 + 87 ≤ 7302250) (hI : LI X ℓ s n M) (K : ∀ X' ℓ' s' n' M', LI X' ℓ' s' n' M' → G κ M' n' [some (vr (-3)), some (vr 0), some (vr 152), some (vi i)] 1174 [] (c0 + 13) (s0 + 87)) : G κ M n [some (vr (-3)), some (vr 0), some (vr 152), some (vi i)] 1049 [] c0 s0 := by
  have hX := hI.1
  have hO := hI.2.2.1
  refine s_n1_aload C dL_law_1049 ?_
  refine s_n0_aload C dL_law_1050 ?_
  refine s_n3_iload C dL_law_1051 ?_
  refine g_iconst C dL_law_1052 ?_
  refine g_iadd C dL_law_1053 ?_
  refine g_sld C S dL_law_1054 (by omega) ?_
  refine s_n0_aload C dL_law_1055 ?_
  refine s_n3_iload C dL_law_1056 ?_
  refine g_iconst C dL_law_1057 ?_
  refine g_iadd C dL_law_1058 ?_
  refine g_sld C S dL_law_1059 (by omega) ?_
  refine g_invV C ((ct_X11_as hX hO (scR xs (i + 1)) (scR xs (i + 2))).mono (fun _ _ _ h => h.R (xAs_ok hO _ _))) hX.o cv_L_139_11 (rml (by decide) (by decide) (by show c0 + 0 ≤ 600000; omega) (by show s0 + 0 ≤ 7302250; omega)) (Nat.le_of_ble_eq_true rfl) rfl dL_law_1060 rfl (q_x (fun ℓ1 X1 M1 n1 hX1 he1 hs1 => ?_))
  have hY1 := hI.2.1.of hX1.rf
  refine s_n2_aload C dL_law_1063 ?_
  refine s_n0_aload C dL_law_1064 ?_
  refine s_n3_iload C dL_law_1065 ?_
  refine g_iconst C dL_law_1066 ?_
  refine g_iadd C dL_law_1067 ?_
  refine g_sld C S dL_law_1068 (by omega) ?_
  refine s_n0_aload C dL_law_1069 ?_
  refine s_n3_iload C dL_law_1070 ?_
  refine g_iconst C dL_law_1071 ?_
  refine g_iadd C dL_law_1072 ?_
  refine g_sld C S dL_law_1073 (by omega) ?_
  refine g_invV C ((ct_X12_as hI.2.2.2 hO (scR xs (i + 1)) (scR xs (i + 2)) (M := M1) (n := n1)).conv (YO_self hY1) rfl) ((hY1 152 (by decide) (by decide)).symm.trans (YO_o ..)) cv_L_142_12 (rml (by decide) (by decide) (by show c0 + 0 + 0 ≤ 600000; omega) (by show s0 + 0 + 0 ≤ 7302250; omega)) (Nat.le_of_ble_eq_true rfl) rfl dL_law_1074 rfl (q_y (fun s2 hr2 => ?_))
  refine g_icmp_same 1174 C dL_law_1077 (by decide) ?_
  exact G.widen (by show c0 + 0 + 0 ≤ c0 + 13; omega) (by show s0 + 0 + 0 ≤ s0 + 87; omega) (K _ _ _ _ _ (LI.step hX1 he1 hs1 (xAs_ok hO _ _) hr2))
set_option maxRecDepth 20000 in
theorem lw_c31 {κ : gC} {nm : String} {Ls : Int} {xs : Nat → Int32} {X : XT} {ℓ : Int → Int} {s : YT} {n : Int} {M : gM} {i : Int} {c0 s0 : Nat} (C : gF κ (yLw nm) cL_law 4 room_1) (S : gScr κ Ls xs) (hi : 0 ≤ i ∧ i + 6 ≤ Ls ∧ Ls ≤ 3072) (hr : c0 + 13 ≤ 600000 ∧ s0 + 87 ≤ 7302250) (hI : LI X ℓ s n M) (K : ∀ X' ℓ' s' n' M', LI X' ℓ' s' n' M' → G κ M' n' [some (vr (-3)), some (vr 0), some (vr 152), some (vi i)] 1174 [] (c0 + 13) (s0 + 87)) : G κ M n [some (vr (-3)), some (vr 0), some (vr 152), some (vi i)] 1082 [] c0 s0 := by
  have hX := hI.1
  have hO := hI.2.2.1
  refine s_n1_aload C dL_law_1082 ?_
  refine s_n0_aload C dL_law_1083 ?_
  refine s_n3_iload C dL_law_1084 ?_
  refine g_iconst C dL_law_1085 ?_
  refine g_iadd C dL_law_1086 ?_
  refine g_sld C S dL_law_1087 (by omega) ?_
  refine s_n0_aload C dL_law_1088 ?_
  refine s_n3_iload C dL_law_1089 ?_
  refine g_iconst C dL_law_1090 ?_
  refine g_iadd C dL_law_1091 ?_
  refine g_sld C S dL_law_1092 (by omega) ?_
  refine g_invV C ((ct_X11_ask hX hO (scR xs (i + 1)) (scR xs (i + 2))).mono (fun _ _ _ h => h.R (xAsk_ok hO _ _))) hX.o cv_L_143_11 (rml (by decide) (by decide) (by show c0 + 0 ≤ 600000; omega) (by show s0 + 0 ≤ 7302250; omega)) (Nat.le_of_ble_eq_true rfl) rfl dL_law_1093 rfl (q_x (fun ℓ1 X1 M1 n1 hX1 he1 hs1 => ?_))
  have hY1 := hI.2.1.of hX1.rf
  refine s_n2_aload C dL_law_1096 ?_
  refine s_n0_aload C dL_law_1097 ?_
  refine s_n3_iload C dL_law_1098 ?_
  refine g_iconst C dL_law_1099 ?_
  refine g_iadd C dL_law_1100 ?_
  refine g_sld C S dL_law_1101 (by omega) ?_
  refine s_n0_aload C dL_law_1102 ?_
  refine s_n3_iload C dL_law_1103 ?_
  refine g_iconst C dL_law_1104 ?_
  refine g_iadd C dL_law_1105 ?_
  refine g_sld C S dL_law_1106 (by omega) ?_
  refine g_invV C ((ct_X12_ask hI.2.2.2 hO (scR xs (i + 1)) (scR xs (i + 2)) (M := M1) (n := n1)).conv (YO_self hY1) rfl) ((hY1 152 (by decide) (by decide)).symm.trans (YO_o ..)) cv_L_146_12 (rml (by decide) (by decide) (by show c0 + 0 + 0 ≤ 600000; omega) (by show s0 + 0 + 0 ≤ 7302250; omega)) (Nat.le_of_ble_eq_true rfl) rfl dL_law_1107 rfl (q_y (fun s2 hr2 => ?_))
  refine g_icmp_same 1174 C dL_law_1110 (by decide) ?_
  exact G.widen (by show c0 + 0 + 0 ≤ c0 + 13; omega) (by show s0 + 0 + 0 ≤ s0 + 87; omega) (K _ _ _ _ _ (LI.step hX1 he1 hs1 (xAsk_ok hO _ _) hr2))
set_option maxRecDepth 20000 in
theorem lw_c32 {κ : gC} {nm : String} {Ls : Int} {xs : Nat → Int32} {X : XT} {ℓ : Int → Int} {s : YT} {n : Int} {M : gM} {i : Int} {c0 s0 : Nat} (C : gF κ (yLw nm) cL_law 4 room_1) (S : gScr κ Ls xs) (hi : 0 ≤ i ∧ i + 6 ≤ Ls ∧ Ls ≤ 3072) (hr : c0 + 13 ≤ 600000 ∧ s0 + 87 ≤ 7302250) (hI : LI X ℓ s n M) (K : ∀ X' ℓ' s' n' M', LI X' ℓ' s' n' M' → G κ M' n' [some (vr (-3)), some (vr 0), some (vr 152), some (vi i)] 1174 [] (c0 + 13) (s0 + 87)) : G κ M n [some (vr (-3)), some (vr 0), some (vr 152), some (vi i)] 1115 [] c0 s0 := by
  have hX := hI.1
  have hO := hI.2.2.1
  refine s_n1_aload C dL_law_1115 ?_
  refine s_n0_aload C dL_law_1116 ?_
  refine s_n3_iload C dL_law_1117 ?_
  refine g_iconst C dL_law_1118 ?_
  refine g_iadd C dL_law_1119 ?_
  refine g_sld C S dL_law_1120 (by omega) ?_
  refine g_invV C ((ct_X11_trace hX hO (scR xs (i + 1))).mono (fun _ _ _ h => h.R (xTrace_ok hO _))) hX.o cv_L_147_11 (rml (by decide) (by decide) (by show c0 + 0 ≤ 600000; omega) (by show s0 + 0 ≤ 7302250; omega)) (Nat.le_of_ble_eq_true rfl) rfl dL_law_1121 rfl (q_x (fun ℓ1 X1 M1 n1 hX1 he1 hs1 => ?_))
  have hY1 := hI.2.1.of hX1.rf
  refine s_n2_aload C dL_law_1124 ?_
  refine s_n0_aload C dL_law_1125 ?_
  refine s_n3_iload C dL_law_1126 ?_
  refine g_iconst C dL_law_1127 ?_
  refine g_iadd C dL_law_1128 ?_
  refine g_sld C S dL_law_1129 (by omega) ?_
  refine g_invV C ((ct_X12_trace hI.2.2.2 hO (scR xs (i + 1)) (M := M1) (n := n1)).conv (YO_self hY1) rfl) ((hY1 152 (by decide) (by decide)).symm.trans (YO_o ..)) cv_L_150_12 (rml (by decide) (by decide) (by show c0 + 0 + 0 ≤ 600000; omega) (by show s0 + 0 + 0 ≤ 7302250; omega)) (Nat.le_of_ble_eq_true rfl) rfl dL_law_1130 rfl (q_y (fun s2 hr2 => ?_))
  refine g_icmp_same 1174 C dL_law_1133 (by decide) ?_
  exact G.widen (by show c0 + 0 + 0 ≤ c0 + 13; omega) (by show s0 + 0 + 0 ≤ s0 + 87; omega) (K _ _ _ _ _ (LI.step hX1 he1 hs1 (xTrace_ok hO _) hr2))
set_option maxRecDepth 20000 in
theorem lw_c33 {κ : gC} {nm : String} {Ls : Int} {xs : Nat → Int32} {X : XT} {ℓ : Int → Int} {s : YT} {n : Int} {M : gM} {i : Int} {c0 s0 : Nat} (C : gF κ (yLw nm) cL_law 4 room_1) (S : gScr κ Ls xs) (hi : 0 ≤ i ∧ i + 6 ≤ Ls ∧ Ls ≤ 3072) (hr : c0 + 13 ≤ 600000 ∧ s0 + 87 ≤ 7302250) (hI : LI X ℓ s n M) (K : ∀ X' ℓ' s' n' M', LI X' ℓ' s' n' M' → G κ M' n' [some (vr (-3)), some (vr 0), some (vr 152), some (vi i)] 1174 [] (c0 + 13) (s0 + 87)) : G κ M n [some (vr (-3)), some (vr 0), some (vr 152), some (vi i)] 1138 [] c0 s0 := by
  have hX := hI.1
  have hO := hI.2.2.1
  refine s_n1_aload C dL_law_1138 ?_
  refine s_n0_aload C dL_law_1139 ?_
  refine s_n3_iload C dL_law_1140 ?_
  refine g_iconst C dL_law_1141 ?_
  refine g_iadd C dL_law_1142 ?_
  refine g_sld C S dL_law_1143 (by omega) ?_
  refine g_invV C ((ct_X11_count hX hO (scR xs (i + 1))).mono (fun _ _ _ h => h.R (xCount_ok hO _))) hX.o cv_L_151_11 (rml (by decide) (by decide) (by show c0 + 0 ≤ 600000; omega) (by show s0 + 0 ≤ 7302250; omega)) (Nat.le_of_ble_eq_true rfl) rfl dL_law_1144 rfl (q_x (fun ℓ1 X1 M1 n1 hX1 he1 hs1 => ?_))
  have hY1 := hI.2.1.of hX1.rf
  refine s_n2_aload C dL_law_1147 ?_
  refine s_n0_aload C dL_law_1148 ?_
  refine s_n3_iload C dL_law_1149 ?_
  refine g_iconst C dL_law_1150 ?_
  refine g_iadd C dL_law_1151 ?_
  refine g_sld C S dL_law_1152 (by omega) ?_
  refine g_invV C ((ct_X12_count hI.2.2.2 hO (scR xs (i + 1)) (M := M1) (n := n1)).conv (YO_self hY1) rfl) ((hY1 152 (by decide) (by decide)).symm.trans (YO_o ..)) cv_L_154_12 (rml (by decide) (by decide) (by show c0 + 0 + 0 ≤ 600000; omega) (by show s0 + 0 + 0 ≤ 7302250; omega)) (Nat.le_of_ble_eq_true rfl) rfl dL_law_1153 rfl (q_y (fun s2 hr2 => ?_))
  refine g_icmp_same 1174 C dL_law_1156 (by decide) ?_
  exact G.widen (by show c0 + 0 + 0 ≤ c0 + 13; omega) (by show s0 + 0 + 0 ≤ s0 + 87; omega) (K _ _ _ _ _ (LI.step hX1 he1 hs1 (xCount_ok hO _) hr2))
set_option maxRecDepth 20000 in
theorem lw_c34 {κ : gC} {nm : String} {Ls : Int} {xs : Nat → Int32} {X : XT} {ℓ : Int → Int} {s : YT} {n : Int} {M : gM} {i : Int} {c0 s0 : Nat} (C : gF κ (yLw nm) cL_law 4 room_1) (S : gScr κ Ls xs) (hi : 0 ≤ i ∧ i + 6 ≤ Ls ∧ Ls ≤ 3072) (hr : c0 + 13 ≤ 600000 ∧ s0 + 87 ≤ 7302250) (hI : LI X ℓ s n M) (K : ∀ X' ℓ' s' n' M', LI X' ℓ' s' n' M' → G κ M' n' [some (vr (-3)), some (vr 0), some (vr 152), some (vi i)] 1174 [] (c0 + 13) (s0 + 87)) : G κ M n [some (vr (-3)), some (vr 0), some (vr 152), some (vi i)] 1161 [] c0 s0 := by
  have hX := hI.1
  have hO := hI.2.2.1
  refine s_n1_aload C dL_law_1161 ?_
  refine g_invV C ((ct_X11_status hX hO).mono (fun _ _ _ h => h.R hO)) hX.o cv_L_155_11 (rml (by decide) (by decide) (by show c0 + 0 ≤ 600000; omega) (by show s0 + 0 ≤ 7302250; omega)) (Nat.le_of_ble_eq_true rfl) rfl dL_law_1162 rfl (q_x (fun ℓ1 X1 M1 n1 hX1 he1 hs1 => ?_))
  have hY1 := hI.2.1.of hX1.rf
  refine s_n2_aload C dL_law_1165 ?_
  refine g_invV C ((ct_X12_status hI.2.2.2 hO (M := M1) (n := n1)).conv (YO_self hY1) rfl) ((hY1 152 (by decide) (by decide)).symm.trans (YO_o ..)) cv_L_158_12 (rml (by decide) (by decide) (by show c0 + 0 + 0 ≤ 600000; omega) (by show s0 + 0 + 0 ≤ 7302250; omega)) (Nat.le_of_ble_eq_true rfl) rfl dL_law_1166 rfl (q_y (fun s2 hr2 => ?_))
  refine g_icmp_same 1174 C dL_law_1169 (by decide) ?_
  exact G.widen (by show c0 + 0 + 0 ≤ c0 + 13; omega) (by show s0 + 0 + 0 ≤ s0 + 87; omega) (K _ _ _ _ _ (LI.step hX1 he1 hs1 hO hr2))
