/-! PadPolishModel: a new one -/
def lan0 : Int → Int := up (up (up (up (up (up (up (up (fun _ => 0) 0 (-1)) 1 (-1)) 2 (-1)) 3 (-1)) 4 (-1)) 5 (-1)) 6 (-1)) 7 (-1)
def y0 : YT := (fun _ => 0, fun k => if k = 0 then lan0 else fun _ => 0)
set_option maxRecDepth 20000 in
theorem ct_X12_init {Z : gM} : CT yX12_init cX12_init 1 none (rmk 1 11 3229) [vr 152] (gu Z 152 (gO 12 [vi 0, vi 0, vn, vn, vn, vn, vn, vn, vn, vi 0, vn, vi 0, vi 0, vi 0, vi 0, vi 0, vi 0, vi 0, vi 0, vi 0, vn, vn, vn, vi 0])) 153 (qr none (YO y0 Z) 164) := by
  refine CT.of (by decide) (fun _ => Nat.le_of_ble_eq_true rfl) (fun κ C E => ?_)
  show G κ (gu Z 152 (gO 12 [vi 0, vi 0, vn, vn, vn, vn, vn, vn, vn, vi 0, vn, vi 0, vi 0, vi 0, vi 0, vi 0, vi 0, vi 0, vi 0, vi 0, vn, vn, vn, vi 0])) 153 [some (vr 152)] 0 [] 0 0
  refine s_n0_aload C dX12_init_0 ?_
  refine g_objInit C wd_585 wd_70 wdObj (by decide) (Nat.le_of_ble_eq_true rfl) rfl dX12_init_1 ?_
  refine s_n0_aload C dX12_init_4 ?_
  refine g_bipush C dX12_init_5 (by decide) ?_
  refine g_newI C wd_1178 dX12_init_7 (by omega) (by decide) ?_
  refine g_dup C dX12_init_9 rfl ?_
  refine g_iconst C dX12_init_10 ?_
  refine g_iconst C dX12_init_11 ?_
  refine g_iast C dX12_init_12 rfl (by omega) ?_
  refine g_dup C dX12_init_13 rfl ?_
  refine g_iconst C dX12_init_14 ?_
  refine g_iconst C dX12_init_15 ?_
  refine g_iast C dX12_init_16 rfl (by omega) ?_
  refine g_dup C dX12_init_17 rfl ?_
  refine g_iconst C dX12_init_18 ?_
  refine g_iconst C dX12_init_19 ?_
  refine g_iast C dX12_init_20 rfl (by omega) ?_
  refine g_dup C dX12_init_21 rfl ?_
  refine g_iconst C dX12_init_22 ?_
  refine g_iconst C dX12_init_23 ?_
  refine g_iast C dX12_init_24 rfl (by omega) ?_
  refine g_dup C dX12_init_25 rfl ?_
  refine g_iconst C dX12_init_26 ?_
  refine g_iconst C dX12_init_27 ?_
  refine g_iast C dX12_init_28 rfl (by omega) ?_
  refine g_dup C dX12_init_29 rfl ?_
  refine g_iconst C dX12_init_30 ?_
  refine g_iconst C dX12_init_31 ?_
  refine g_iast C dX12_init_32 rfl (by omega) ?_
  refine g_dup C dX12_init_33 rfl ?_
  refine g_bipush C dX12_init_34 (by decide) ?_
  refine g_iconst C dX12_init_36 ?_
  refine g_iast C dX12_init_37 rfl (by omega) ?_
  refine g_dup C dX12_init_38 rfl ?_
  refine g_bipush C dX12_init_39 (by decide) ?_
  refine g_iconst C dX12_init_41 ?_
  refine g_iast C dX12_init_42 rfl (by omega) ?_
  refine g_putF C rfl fp_X12_7_12 dX12_init_43 rfl (Nat.le_of_ble_eq_true rfl) (gfit_a _ _) ?_
  refine s_n0_aload C dX12_init_46 ?_
  refine g_bipush C dX12_init_47 (by decide) ?_
  refine g_newI C wd_1178 dX12_init_49 (by omega) (by decide) ?_
  refine g_putF C rfl fp_X12_13_12 dX12_init_51 rfl (Nat.le_of_ble_eq_true rfl) (gfit_a _ _) ?_
  refine s_n0_aload C dX12_init_54 ?_
  refine g_sipush C dX12_init_55 (by decide) ?_
  refine g_newI C wd_1178 dX12_init_58 (by omega) (by decide) ?_
  refine g_putF C rfl fp_X12_16_12 dX12_init_60 rfl (Nat.le_of_ble_eq_true rfl) (gfit_a _ _) ?_
  refine s_n0_aload C dX12_init_63 ?_
  refine g_bipush C dX12_init_64 (by decide) ?_
  refine g_newI C wd_1178 dX12_init_66 (by omega) (by decide) ?_
  refine g_putF C rfl fp_X12_19_12 dX12_init_68 rfl (Nat.le_of_ble_eq_true rfl) (gfit_a _ _) ?_
  refine s_n0_aload C dX12_init_71 ?_
  refine g_bipush C dX12_init_72 (by decide) ?_
  refine g_newI C wd_1178 dX12_init_74 (by omega) (by decide) ?_
  refine g_putF C rfl fp_X12_22_12 dX12_init_76 rfl (Nat.le_of_ble_eq_true rfl) (gfit_a _ _) ?_
  refine s_n0_aload C dX12_init_79 ?_
  refine g_bipush C dX12_init_80 (by decide) ?_
  refine g_newI C wd_1178 dX12_init_82 (by omega) (by decide) ?_
  refine g_putF C rfl fp_X12_25_12 dX12_init_84 rfl (Nat.le_of_ble_eq_true rfl) (gfit_a _ _) ?_
  refine s_n0_aload C dX12_init_87 ?_
  refine g_sipush C dX12_init_88 (by decide) ?_
  refine g_newI C wd_1178 dX12_init_91 (by omega) (by decide) ?_
  refine g_putF C rfl fp_X12_28_12 dX12_init_93 rfl (Nat.le_of_ble_eq_true rfl) (gfit_a _ _) ?_
  refine s_n0_aload C dX12_init_96 ?_
  refine g_bipush C dX12_init_97 (by decide) ?_
  refine g_newI C wd_1178 dX12_init_99 (by omega) (by decide) ?_
  refine g_putF C rfl fp_X12_31_12 dX12_init_101 rfl (Nat.le_of_ble_eq_true rfl) (gfit_a _ _) ?_
  refine s_n0_aload C dX12_init_104 ?_
  refine g_iconst C dX12_init_105 ?_
  refine g_newZ C wd_1179 dX12_init_106 (by omega) (by decide) ?_
  refine g_putF C rfl fp_X12_34_12 dX12_init_108 rfl (Nat.le_of_ble_eq_true rfl) (gfit_a _ _) ?_
  refine s_n0_aload C dX12_init_111 ?_
  refine g_sipush C dX12_init_112 (by decide) ?_
  refine g_newI C wd_1178 dX12_init_115 (by omega) (by decide) ?_
  refine g_putF C rfl fp_X12_38_12 dX12_init_117 rfl (Nat.le_of_ble_eq_true rfl) (gfit_a _ _) ?_
  refine s_n0_aload C dX12_init_120 ?_
  refine g_bipush C dX12_init_121 (by decide) ?_
  refine g_newI C wd_1178 dX12_init_123 (by omega) (by decide) ?_
  refine g_putF C rfl fp_X12_41_12 dX12_init_125 rfl (Nat.le_of_ble_eq_true rfl) (gfit_a _ _) ?_
  refine g_vret C E dX12_init_128 (by decide) ?_
  refine ⟨rfl, ?_, rfl⟩
  funext a
  by_cases h1 : 152 ≤ a ∧ a < 164
  · rcases (show a = 152 ∨ a = 153 ∨ a = 154 ∨ a = 155 ∨ a = 156 ∨ a = 157 ∨ a = 158 ∨ a = 159 ∨ a = 160 ∨ a = 161 ∨ a = 162 ∨ a = 163 by omega) with rfl | rfl | rfl | rfl | rfl | rfl | rfl | rfl | rfl | rfl | rfl | rfl <;> rfl
  · rw [YO_out _ _ (by omega)]
    repeat rw [gu_ne _ _ (by omega)]
theorem yR_0 : yRel x0 y0 := by
  refine ⟨fun _ => 0, rfl, fun r r0 r1 => ⟨Or.inl ⟨rfl, ?_⟩, fun k _ _ => rfl⟩, ?_, ⟨rfl, rfl, rfl, fun p p0 p1 => absurd p1 (by show ¬ p < 0; omega)⟩, rfl, fun j j0 j1 => absurd j1 (by show ¬ j < 0; omega), rfl, fun i i0 i1 => absurd i1 (by show ¬ i < 0; omega), rfl, fun k k0 k1 => ⟨rfl, fun h => absurd h (by show ¬ (0 : Int) = 1; decide)⟩, rfl, fun i i0 i1 => absurd i1 (by show ¬ i < 0; omega)⟩
  · rcases (show r = 0 ∨ r = 1 ∨ r = 2 ∨ r = 3 ∨ r = 4 ∨ r = 5 ∨ r = 6 ∨ r = 7 by omega) with rfl | rfl | rfl | rfl | rfl | rfl | rfl | rfl <;> rfl
  · funext j
    exact (pk_z j).symm
theorem sfOK_z : sfOK zS := ⟨fun c _ _ => ⟨by show (0 : Int) ≤ 0; decide, by show (0 : Int) ≤ 999; decide, by show (0 : Int) ≤ 0; decide, by show (0 : Int) ≤ 0; decide, by show (0 : Int) ≤ 0; decide, by show (0 : Int) ≤ 99; decide⟩, by show (0 : Int) ≤ 0; decide, by show (0 : Int) ≤ 99; decide, by show (0 : Int) ≤ 0; decide, by show (0 : Int) ≤ 99; decide⟩
theorem psOK_z : psOK psNil := ⟨by decide, by decide, fun p p0 p1 => absurd p1 (by show ¬ p < 0; omega)⟩
theorem xOK_0 : xOK x0 := by
  refine ⟨⟨by decide, by decide⟩, ⟨by decide, by decide⟩, ⟨by decide, by decide⟩, Or.inl rfl, ⟨fun i _ _ => ⟨by show (0 : Int) ≤ 0; decide, by show (0 : Int) ≤ 255; decide⟩, by decide, by decide⟩, fun k _ _ => Or.inl rfl, fun k _ _ => ?_, fun k _ _ _ => sfOK_z, ⟨by decide, by decide⟩, fun k _ _ _ => ⟨psOK_z, by show (0 : Int) ≤ 0; decide, by show (0 : Int) ≤ 9; decide⟩⟩
  show rowOK (fun _ => 0, 0, -1)
  unfold rowOK
  exact ⟨fun i => iR0, by decide, by decide, by decide, by decide⟩
