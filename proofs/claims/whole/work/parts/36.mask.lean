/-! PadPolishModel: asked and foretold -/
section Y5
variable {X : XT} {s : YT} {b : Int → Int}
theorem yR.t5 (h : yR X s b) (S : SLT) (b2 : Int → Int) : yR X (yS 5 s S b2) b := ⟨h.st, h.rw, h.tab, h.bk, h.ac, h.wa, h.tl, h.tp, h.la, h.ke, h.tn, h.tr⟩
theorem yR.g24 (h : yR X s b) (hO : xOK X) (S : SLT) : yR (xSf X 24 S) s b := by
  have hc := hO.c
  refine ⟨h.st, h.rw, ?_, h.bk, h.ac, ?_, h.tl, h.tp, h.la, ?_, h.tn, h.tr⟩
  · show s.2 3 = pk (fu X.2.2.2.1 24 S (25 + X.1 5)) b
    rw [fu_ne _ _ (by omega)]
    exact h.tab
  · intro j j0 j1 k k0 k1
    show s.2 6 (95 * j + k) = pk (fu X.2.2.2.1 24 S (actIx X j)) b k
    rw [fu_ne _ _ (by unfold actIx; omega)]
    exact h.wa j j0 j1 k k0 k1
  · intro k k0 k1
    obtain ⟨e1, e2⟩ := h.ke k k0 k1
    refine ⟨e1, fun q => ?_⟩
    obtain ⟨u1, bk, u2, u3⟩ := e2 q
    refine ⟨u1, bk, u2, fun i i0 i1 => ?_⟩
    show _ = pk (fu X.2.2.2.1 24 S (27 + k)) bk i
    rw [fu_ne _ _ (by omega)]
    exact u3 i i0 i1
end Y5
theorem i1_01 (y : Int32) : y &&& 1 = 0 ∨ y &&& 1 = 1 := by
  have h : y.toBitVec &&& 1#32 = 0#32 ∨ y.toBitVec &&& 1#32 = 1#32 := by
    rw [BitVec.and_one_eq_setWidth_ofBool_getLsbD]
    cases y.toBitVec.getLsbD 0
    · exact Or.inl rfl
    · exact Or.inr rfl
  rcases h with h | h
  · exact Or.inl (Int32.toBitVec_inj.mp h)
  · exact Or.inr (Int32.toBitVec_inj.mp h)
theorem bAnd01 (x : Int) : bAnd x 1 = 0 ∨ bAnd x 1 = 1 := by
  unfold bAnd
  rcases i1_01 (Int32.ofInt x) with h | h
  · exact Or.inl (by rw [show (Int32.ofInt 1) = 1 from rfl, h]; rfl)
  · exact Or.inr (by rw [show (Int32.ofInt 1) = 1 from rfl, h]; rfl)
theorem bOr_0 {x : Int} (h : iR x) : bOr 0 x = x := by
  unfold bOr
  rw [show Int32.ofInt 0 = 0 from rfl, Int32.zero_or, iI_toInt h]
theorem fu3_id (s : YT) : ((s.1, fu s.2 3 (s.2 3)) : YT) = s := by rw [fu_id]
set_option maxRecDepth 20000 in
theorem ct_X12_undo {X : XT} {s0 : YT} {M : gM} {n : Int} (h0 : yRel X s0) (hO : xOK X)  : CT yX12_undo cX12_undo 2 (some .int) (rmk 0 0 0) [vr 152] (YO s0 M) n (yP (xUndo X) M n) := by
  refine CT.of (by decide) (fun _ => Nat.le_of_ble_eq_true rfl) (fun κ C E => ?_)
  show G κ (YO s0 M) n [some (vr 152), none] 0 [] 0 0
  have hna := hO.na
  have hac := hO.ac
  have hc := hO.c
  have lp : ∀ (z : Nat) (k : Int) (s : YT) (b : Int → Int), yR X s b → ¬ X.1 3 = 0 → 0 ≤ k ∧ k ≤ 95 → (95 - k).toNat = z → G κ (YO (fu s.1 9 (X.1 3 - 1), fu s.2 3 (mix (fun q => s.2 6 (95 * (X.1 3 - 1) + q)) (s.2 3) k)) M) n [some (vr 152), some (vi k)] 27 [] 0 0 := by
    intro z
    induction z using Nat.strongRecOn with
    | ind z ih =>
      intro k s b hR q1 h1 hz
      refine s_n1_iload C dX12_undo_27 ?_
      refine g_bipush C dX12_undo_28 (by decide) ?_
      refine g_icmp_ge 59 C dX12_undo_30 (by decide) (by first | assumption | (unfold iR; omega)) (by first | assumption | (unfold iR; omega)) (fun c30 => ?_) (fun c30 => ?_)
      · have ek : k = 95 := by omega
        subst ek
        have ew : YO (fu s.1 9 (X.1 3 - 1), fu s.2 3 (mix (fun q => s.2 6 (95 * (X.1 3 - 1) + q)) (s.2 3) 95)) M = gu (YO (fu s.1 9 (X.1 3 - 1), s.2) M) 156 (gA 0 95 (mix (fun q => s.2 6 (95 * (X.1 3 - 1) + q)) (s.2 3) 95)) := (YO_u3 (fu s.1 9 (X.1 3 - 1), s.2) M _).symm
        rw [ew]
        refine G.arr (f' := pk (X.2.2.2.1 ((X.1 2 + 24 - 1) % 24)) b) (fun j j0 j1 => ?_) ?_
        · rw [mix_in _ _ j0 j1, hR.wa (X.1 3 - 1) (by omega) (by omega) j j0 j1]
          unfold actIx
          rw [show X.1 2 + 24 - X.1 3 + (X.1 3 - 1) = X.1 2 + 24 - 1 by omega]
        rw [YO_u3]
        refine s_n0_aload C dX12_undo_59 ?_
        refine g_get C fd_X12_150_12 dX12_undo_60 (YO_o ..) rfl ?_
        show G κ _ n _ _ (vi (X.1 3 - 1) :: _) _ _
        refine g_iret C E dX12_undo_63 (by decide) ?_
        unfold xUndo
        rw [if_neg q1]
        refine ⟨rfl, rfl, _, rfl, b, ?_⟩
        refine ⟨hR.st, hR.rw, ?_, hR.bk, rfl, ?_, hR.tl, hR.tp, hR.la, ?_, hR.tn, hR.tr⟩
        · show pk _ b = pk (fu X.2.2.2.1 (25 + X.1 5) _ (25 + X.1 5)) b
          rw [fu_same]
        · intro j j0 j1 k k0 k1
          have j1 : j < X.1 3 - 1 := j1
          show s.2 6 (95 * j + k) = pk (fu X.2.2.2.1 (25 + X.1 5) _ (((X.1 2 + 24 - 1) % 24 + 24 - (X.1 3 - 1) + j) % 24)) b k
          rw [fu_ne _ _ (by omega), hR.wa j j0 (by omega) k k0 k1]
          unfold actIx
          rw [show ((X.1 2 + 24 - 1) % 24 + 24 - (X.1 3 - 1) + j) % 24 = (X.1 2 + 24 - X.1 3 + j) % 24 by omega]
        · intro k k0 k1
          obtain ⟨e1, e2⟩ := hR.ke k k0 k1
          refine ⟨e1, fun q => ?_⟩
          obtain ⟨u1, bk, u2, u3⟩ := e2 q
          refine ⟨u1, bk, u2, fun i i0 i1 => ?_⟩
          show _ = pk (fu X.2.2.2.1 (25 + X.1 5) _ (27 + k)) bk i
          rw [fu_ne _ _ (by omega)]
          exact u3 i i0 i1
      · refine s_n0_aload C dX12_undo_33 ?_
        refine g_get C fd_X12_19_12 dX12_undo_34 (YO_o ..) rfl ?_
        refine s_n1_iload C dX12_undo_37 ?_
        refine s_n0_aload C dX12_undo_38 ?_
        refine g_get C fd_X12_28_12 dX12_undo_39 (YO_o ..) rfl ?_
        refine g_bipush C dX12_undo_42 (by decide) ?_
        refine s_n0_aload C dX12_undo_44 ?_
        refine g_get C fd_X12_150_12 dX12_undo_45 (YO_o ..) rfl ?_
        show G κ _ n _ _ (vi (X.1 3 - 1) :: _) _ _
        refine g_imul C dX12_undo_48 ?_
        refine s_n1_iload C dX12_undo_49 ?_
        refine g_iadd C dX12_undo_50 ?_
        refine g_iald C dX12_undo_51 (YO_a6 ..) (by omega) ?_
        refine g_iast C dX12_undo_52 (YO_a3 ..) (by omega) ?_
        rw [YO_u3]
        show G κ (YO (fu s.1 9 (X.1 3 - 1), fu (fu s.2 3 (mix (fun q => s.2 6 (95 * (X.1 3 - 1) + q)) (s.2 3) k)) 3 (up (mix (fun q => s.2 6 (95 * (X.1 3 - 1) + q)) (s.2 3) k) k ((fun q => s.2 6 (95 * (X.1 3 - 1) + q)) k))) M) n _ _ _ _ _
        rw [fu_fu, mix_s _ _ h1.1]
        refine s_w1_iinc C dX12_undo_53 rfl ?_
        refine g_goto 27 C dX12_undo_56 (by decide) ?_
        exact ih _ (by omega) (k + 1) s b hR q1 (by omega) rfl
  refine s_n0_aload C dX12_undo_0 ?_
  refine g_iconst C dX12_undo_1 ?_
  refine g_put C fp_X12_44_12 dX12_undo_2 (YO_o ..) (Nat.le_of_ble_eq_true rfl) (gfit_i _) ?_
  rw [YO_p0]
  obtain ⟨b, hR⟩ := h0
  have hR := hR.th 0
  generalize ((fu s0.1 0 0, s0.2) : YT) = s at hR ⊢
  refine s_n0_aload C dX12_undo_5 ?_
  refine g_get C fd_X12_150_12 dX12_undo_6 (YO_o ..) rfl ?_
  rw [hR.ac]
  refine g_if_ne 15 C dX12_undo_9 (by decide) (by first | assumption | (unfold iR; omega)) (fun c9 => ?_) (fun c9 => ?_)
  · refine s_n0_aload C dX12_undo_15 ?_
    refine g_dup C dX12_undo_16 rfl ?_
    refine g_get C fd_X12_150_12 dX12_undo_17 (YO_o ..) rfl ?_
    rw [hR.ac]
    refine g_iconst C dX12_undo_20 ?_
    refine g_isub C dX12_undo_21 ?_
    refine g_put C fp_X12_150_12 dX12_undo_22 (YO_o ..) (Nat.le_of_ble_eq_true rfl) (gfit_i _) ?_
    rw [YO_p9]
    refine g_iconst C dX12_undo_25 ?_
    refine s_n1_istore C dX12_undo_26 rfl ?_
    have := lp _ 0 s b hR c9 (by omega) rfl
    rw [mix_0, fu_id] at this
    exact this
  · refine g_ldc (-1000002) C wd_706 dX12_undo_12 ?_
    refine g_iret C E dX12_undo_14 (by decide) ?_
    unfold xUndo
    rw [if_pos c9]
    exact ⟨rfl, rfl, _, rfl, b, hR⟩
set_option maxRecDepth 20000 in
theorem ct_X12_cell {X : XT} {s0 : YT} {M : gM} {n : Int} (h0 : yRel X s0) (hO : xOK X) {a d : Int} (ha : iR a) (hd : iR d) : CT yX12_cell cX12_cell 5 (some .int) (rmk 2 0 0) [vr 152, vi a, vi d] (YO s0 M) n (yP (xCell X a d) M n) := by
  refine CT.of (by decide) (fun _ => Nat.le_of_ble_eq_true rfl) (fun κ C E => ?_)
  show G κ (YO s0 M) n [some (vr 152), some (vi a), some (vi d), none, none] 0 [] 0 0
  have hp1 := hO.ps.1
  have hp2 := hO.ps.2.1
  have lp : ∀ (z : Nat) (k : Int) (s : YT) (b : Int → Int), yR X s b → ¬ X.1 0 = 0 → (0 ≤ a ∧ a ≤ 14) → (0 ≤ d ∧ d ≤ 3) → 0 ≤ k ∧ k ≤ (xP X).1 → ((xP X).1 - k).toNat = z → G κ (YO s M) n [some (vr 152), some (vi a), some (vi d), some (vi (itI (fun p x => bOr x (bShl (bAnd (bShr (psCell (xP X) p) a) 1) p)) (0 : Int) k)), some (vi k)] 42 [] 0 0 := by
    intro z
    induction z using Nat.strongRecOn with
    | ind z ih =>
      intro k s b hR q1 q2 q3 h1 hz
      have e5 : s.2 3 5 = (xP X).1 := by rw [hR.tab, pq_b (Or.inr (Or.inl rfl))]; exact hR.bk.2.2.1
      refine s_w4_iload C dX12_cell_42 ?_
      refine s_n0_aload C dX12_cell_44 ?_
      refine g_get C fd_X12_19_12 dX12_cell_45 (YO_o ..) rfl ?_
      refine g_iconst C dX12_cell_48 ?_
      refine g_iald C dX12_cell_49 (YO_a3 ..) (by omega) ?_
      rw [e5]
      refine g_icmp_ge 75 C dX12_cell_50 (by decide) (by first | assumption | (unfold iR; omega)) (by first | assumption | (unfold iR; omega)) (fun c50 => ?_) (fun c50 => ?_)
      · refine s_n2_iload C dX12_cell_75 ?_
        refine g_if_ne 91 C dX12_cell_76 (by decide) (by first | assumption | (unfold iR; omega)) (fun c76 => ?_) (fun c76 => ?_)
        · refine s_n2_iload C dX12_cell_91 ?_
          refine g_iconst C dX12_cell_92 ?_
          refine g_icmp_ne 108 C dX12_cell_93 (by decide) (by first | assumption | (unfold iR; omega)) (by first | assumption | (unfold iR; omega)) (fun c93 => ?_) (fun c93 => ?_)
          · refine s_n2_iload C dX12_cell_108 ?_
            refine g_iconst C dX12_cell_109 ?_
            refine g_icmp_ne 125 C dX12_cell_110 (by decide) (by first | assumption | (unfold iR; omega)) (by first | assumption | (unfold iR; omega)) (fun c110 => ?_) (fun c110 => ?_)
            · refine s_n3_iload C dX12_cell_125 ?_
              refine g_iret C E dX12_cell_126 (by decide) ?_
              unfold xCell
              rw [if_neg q1, if_neg (not_not_intro q2), if_neg (by omega), if_neg (by omega), if_neg (by omega), if_pos (by omega)]
              have ek : k = (xP X).1 := by omega
              subst ek
              exact ⟨rfl, rfl, _, rfl, b, hR⟩
            · refine s_n0_aload C dX12_cell_113 ?_
              refine g_get C fd_X12_19_12 dX12_cell_114 (YO_o ..) rfl ?_
              refine g_bipush C dX12_cell_117 (by decide) ?_
              refine s_n1_iload C dX12_cell_119 ?_
              refine g_iadd C dX12_cell_120 ?_
              refine g_iald C dX12_cell_121 (YO_a3 ..) (by omega) ?_
              rw [hR.tab, pS_h (by omega)]
              refine g_goto 126 C dX12_cell_122 (by decide) ?_
              refine g_iret C E dX12_cell_126 (by decide) ?_
              unfold xCell
              rw [if_neg q1, if_neg (not_not_intro q2), if_neg (by omega), if_neg (by omega), if_pos (by omega)]
              have ek : k = (xP X).1 := by omega
              subst ek
              exact ⟨rfl, rfl, _, rfl, b, hR⟩
          · refine s_n0_aload C dX12_cell_96 ?_
            refine g_get C fd_X12_19_12 dX12_cell_97 (YO_o ..) rfl ?_
            refine g_bipush C dX12_cell_100 (by decide) ?_
            refine s_n1_iload C dX12_cell_102 ?_
            refine g_iadd C dX12_cell_103 ?_
            refine g_iald C dX12_cell_104 (YO_a3 ..) (by omega) ?_
            rw [hR.tab, pS_s (by omega)]
            refine g_goto 126 C dX12_cell_105 (by decide) ?_
            refine g_iret C E dX12_cell_126 (by decide) ?_
            unfold xCell
            rw [if_neg q1, if_neg (not_not_intro q2), if_neg (by omega), if_pos (by omega)]
            have ek : k = (xP X).1 := by omega
            subst ek
            exact ⟨rfl, rfl, _, rfl, b, hR⟩
        · refine s_n0_aload C dX12_cell_79 ?_
          refine g_get C fd_X12_19_12 dX12_cell_80 (YO_o ..) rfl ?_
          refine g_bipush C dX12_cell_83 (by decide) ?_
          refine s_n1_iload C dX12_cell_85 ?_
          refine g_iadd C dX12_cell_86 ?_
          refine g_iald C dX12_cell_87 (YO_a3 ..) (by omega) ?_
          rw [hR.tab, pS_f (by omega)]
          refine g_goto 126 C dX12_cell_88 (by decide) ?_
          refine g_iret C E dX12_cell_126 (by decide) ?_
          unfold xCell
          rw [if_neg q1, if_neg (not_not_intro q2), if_pos (by omega)]
          have ek : k = (xP X).1 := by omega
          subst ek
          exact ⟨rfl, rfl, _, rfl, b, hR⟩
      · refine s_n3_iload C dX12_cell_53 ?_
        refine s_n0_aload C dX12_cell_54 ?_
        refine s_w4_iload C dX12_cell_55 ?_
        refine g_invV C (ct_X12_overBy hR.tab hR.bk hO.ps (p := k) ⟨h1.1, by omega⟩) (YO_o ..) cv_X12_208_12 (rmk_ok (by decide) (by decide) (by decide) (by decide)) (Nat.le_of_ble_eq_true rfl) rfl dX12_cell_57 rfl (q_r0 ?_)
        refine s_n1_iload C dX12_cell_60 ?_
        refine g_ishr C dX12_cell_61 ?_
        refine g_iconst C dX12_cell_62 ?_
        refine g_iand C dX12_cell_63 ?_
        refine s_w4_iload C dX12_cell_64 ?_
        refine g_ishl C dX12_cell_66 ?_
        refine g_ior C dX12_cell_67 ?_
        refine s_n3_istore C dX12_cell_68 rfl ?_
        refine s_w4_iinc C dX12_cell_69 rfl ?_
        refine g_goto 42 C dX12_cell_72 (by decide) ?_
        have e := itI_s (fun p x => bOr x (bShl (bAnd (bShr (psCell (xP X) p) a) 1) p)) (0 : Int) h1.1
        rw [← e]
        exact ih _ (by omega) (k + 1) s b hR q1 q2 q3 (by omega) rfl
  refine s_n0_aload C dX12_cell_0 ?_
  refine g_iconst C dX12_cell_1 ?_
  refine g_put C fp_X12_44_12 dX12_cell_2 (YO_o ..) (Nat.le_of_ble_eq_true rfl) (gfit_i _) ?_
  rw [YO_p0]
  obtain ⟨b, hR⟩ := h0
  have hR := hR.th 0
  generalize ((fu s0.1 0 0, s0.2) : YT) = s at hR ⊢
  refine s_n0_aload C dX12_cell_5 ?_
  refine g_invV C (ct_X12_isThere hR.tab hR.bk hO.td) (YO_o ..) cv_X12_177_12 (rmk_ok (by decide) (by decide) (by decide) (by decide)) (Nat.le_of_ble_eq_true rfl) rfl dX12_cell_6 rfl (q_r0 ?_)
  refine g_tifne 15 C dX12_cell_9 (by decide)  (fun c9 => ?_) (fun c9 => ?_)
  · refine s_n1_iload C dX12_cell_15 ?_
    refine g_invS C (ct_X12_isCell (v := a) (by assumption)) cs_X12_192 (rmk_ok (by decide) (by decide) (by decide) (by decide)) (Nat.le_of_ble_eq_true rfl) rfl dX12_cell_16 rfl (q_r0 ?_)
    refine g_bifeq 34 C dX12_cell_19 (by decide)  (fun c19 => ?_) (fun c19 => ?_)
    · refine g_ldc (-1000001) C wd_609 dX12_cell_34 ?_
      refine g_iret C E dX12_cell_36 (by decide) ?_
      unfold xCell
      rw [if_neg c9, if_pos c19]
      exact ⟨rfl, rfl, _, rfl, b, hR⟩
    · refine s_n2_iload C dX12_cell_22 ?_
      refine g_i2l C dX12_cell_23 (by first | assumption | (unfold iR; omega)) ?_
      refine g_lconst0 C dX12_cell_24 ?_
      refine g_ldc2 (3) C wd_731 dX12_cell_25 ?_
      refine g_invS C (ct_X12_in (v := d) (lo := 0) (hi := 3) (by unfold iR at *; unfold lR; omega) (by unfold iR at *; unfold lR; omega) (by unfold iR at *; unfold lR; omega)) cs_X12_54 (rmk_ok (by decide) (by decide) (by decide) (by decide)) (Nat.le_of_ble_eq_true rfl) rfl dX12_cell_28 rfl (q_r0 ?_)
      refine g_bifne 37 C dX12_cell_31 (by decide)  (fun c31 => ?_) (fun c31 => ?_)
      · refine g_iconst C dX12_cell_37 ?_
        refine s_n3_istore C dX12_cell_38 rfl ?_
        refine g_iconst C dX12_cell_39 ?_
        refine s_w4_istore C dX12_cell_40 rfl ?_
        exact lp _ 0 s b hR c9 c19 c31 (by omega) rfl
      · refine g_ldc (-1000001) C wd_609 dX12_cell_34 ?_
        refine g_iret C E dX12_cell_36 (by decide) ?_
        unfold xCell
        rw [if_neg c9, if_neg (not_not_intro c19), if_neg (by omega), if_neg (by omega), if_neg (by omega), if_neg (by omega)]
        exact ⟨rfl, rfl, _, rfl, b, hR⟩
  · refine g_ldc (-1000002) C wd_706 dX12_cell_12 ?_
    refine g_iret C E dX12_cell_14 (by decide) ?_
    unfold xCell
    rw [if_pos c9]
    exact ⟨rfl, rfl, _, rfl, b, hR⟩
set_option maxRecDepth 20000 in
theorem ct_X12_path {X : XT} {s0 : YT} {M : gM} {n : Int} (h0 : yRel X s0) (hO : xOK X) {a k : Int} (ha : iR a) (hk : iR k) : CT yX12_path cX12_path 3 (some .int) (rmk 2 0 0) [vr 152, vi a, vi k] (YO s0 M) n (yP (xPath X a k) M n) := by
  refine CT.of (by decide) (fun _ => Nat.le_of_ble_eq_true rfl) (fun κ C E => ?_)
  show G κ (YO s0 M) n [some (vr 152), some (vi a), some (vi k)] 0 [] 0 0
  refine s_n0_aload C dX12_path_0 ?_
  refine g_iconst C dX12_path_1 ?_
  refine g_put C fp_X12_44_12 dX12_path_2 (YO_o ..) (Nat.le_of_ble_eq_true rfl) (gfit_i _) ?_
  rw [YO_p0]
  obtain ⟨b, hR⟩ := h0
  have hR := hR.th 0
  generalize ((fu s0.1 0 0, s0.2) : YT) = s at hR ⊢
  refine s_n0_aload C dX12_path_5 ?_
  refine s_n1_iload C dX12_path_6 ?_
  refine g_invV C (ct_X12_isPass hR.tab hR.bk hO.ps (by assumption)) (YO_o ..) cv_X12_189_12 (rmk_ok (by decide) (by decide) (by decide) (by decide)) (Nat.le_of_ble_eq_true rfl) rfl dX12_path_7 rfl (q_r0 ?_)
  refine g_bifeq 18 C dX12_path_10 (by decide)  (fun c10 => ?_) (fun c10 => ?_)
  · refine g_ldc (-1000001) C wd_609 dX12_path_18 ?_
    refine g_iret C E dX12_path_20 (by decide) ?_
    unfold xPath
    rw [if_pos c10]
    exact ⟨rfl, rfl, _, rfl, b, hR⟩
  · have hw := (hO.ps.2.2 a c10.1 c10.2).2
    have hw1 := hw.1
    have hw2 := hw.2.1
    refine s_n2_iload C dX12_path_13 ?_
    refine g_iconst C dX12_path_14 ?_
    refine g_icmp_ge 21 C dX12_path_15 (by decide) (by first | assumption | (unfold iR; omega)) (by first | assumption | (unfold iR; omega)) (fun c15 => ?_) (fun c15 => ?_)
    · refine s_n2_iload C dX12_path_21 ?_
      refine g_iconst C dX12_path_22 ?_
      refine g_icmp_ne 34 C dX12_path_23 (by decide) (by first | assumption | (unfold iR; omega)) (by first | assumption | (unfold iR; omega)) (fun c23 => ?_) (fun c23 => ?_)
      · refine s_n2_iload C dX12_path_34 ?_
        refine s_n0_aload C dX12_path_35 ?_
        refine s_n1_iload C dX12_path_36 ?_
        refine g_invV C (ct_X12_cellsOf hR.tab hR.bk hO.ps c10) (YO_o ..) cv_X12_157_12 (rmk_ok (by decide) (by decide) (by decide) (by decide)) (Nat.le_of_ble_eq_true rfl) rfl dX12_path_37 rfl (q_r0 ?_)
        refine g_icmp_ge 52 C dX12_path_40 (by decide) (by first | assumption | (unfold iR; omega)) (by first | assumption | (unfold iR; omega)) (fun c40 => ?_) (fun c40 => ?_)
        · refine g_ldc (-1000000) C wd_621 dX12_path_52 ?_
          refine g_iret C E dX12_path_54 (by decide) ?_
          unfold xPath
          rw [if_neg (not_not_intro c10), if_neg (by omega), if_neg (by omega), if_neg (by omega)]
          exact ⟨rfl, rfl, _, rfl, b, hR⟩
        · refine s_n0_aload C dX12_path_43 ?_
          refine s_n1_iload C dX12_path_44 ?_
          refine s_n2_iload C dX12_path_45 ?_
          refine g_invV C (ct_X12_cellAt hR.tab hR.bk hO.ps c10 (k := k) (by omega)) (YO_o ..) cv_X12_160_12 (rmk_ok (by decide) (by decide) (by decide) (by decide)) (Nat.le_of_ble_eq_true rfl) rfl dX12_path_46 rfl (q_r0 ?_)
          refine g_goto 54 C dX12_path_49 (by decide) ?_
          refine g_iret C E dX12_path_54 (by decide) ?_
          unfold xPath
          rw [if_neg (not_not_intro c10), if_neg (by omega), if_neg (by omega), if_pos (by omega)]
          exact ⟨rfl, rfl, _, rfl, b, hR⟩
      · refine s_n0_aload C dX12_path_26 ?_
        refine s_n1_iload C dX12_path_27 ?_
        refine g_invV C (ct_X12_cellsOf hR.tab hR.bk hO.ps c10) (YO_o ..) cv_X12_157_12 (rmk_ok (by decide) (by decide) (by decide) (by decide)) (Nat.le_of_ble_eq_true rfl) rfl dX12_path_28 rfl (q_r0 ?_)
        refine g_goto 54 C dX12_path_31 (by decide) ?_
        refine g_iret C E dX12_path_54 (by decide) ?_
        unfold xPath
        rw [if_neg (not_not_intro c10), if_neg (by omega), if_pos (by omega)]
        exact ⟨rfl, rfl, _, rfl, b, hR⟩
    · refine g_ldc (-1000001) C wd_609 dX12_path_18 ?_
      refine g_iret C E dX12_path_20 (by decide) ?_
      unfold xPath
      rw [if_neg (not_not_intro c10), if_pos (by omega)]
      exact ⟨rfl, rfl, _, rfl, b, hR⟩
set_option maxRecDepth 20000 in
theorem ct_X12_pad {X : XT} {s0 : YT} {M : gM} {n : Int} (h0 : yRel X s0) (hO : xOK X) {a : Int} (ha : iR a) : CT yX12_pad cX12_pad 2 (some .int) (rmk 1 0 0) [vr 152, vi a] (YO s0 M) n (yP (xPad X a) M n) := by
  refine CT.of (by decide) (fun _ => Nat.le_of_ble_eq_true rfl) (fun κ C E => ?_)
  show G κ (YO s0 M) n [some (vr 152), some (vi a)] 0 [] 0 0
  refine s_n0_aload C dX12_pad_0 ?_
  refine g_iconst C dX12_pad_1 ?_
  refine g_put C fp_X12_44_12 dX12_pad_2 (YO_o ..) (Nat.le_of_ble_eq_true rfl) (gfit_i _) ?_
  rw [YO_p0]
  obtain ⟨b, hR⟩ := h0
  have hR := hR.th 0
  generalize ((fu s0.1 0 0, s0.2) : YT) = s at hR ⊢
  refine s_n0_aload C dX12_pad_5 ?_
  refine g_invV C (ct_X12_isThere hR.tab hR.bk hO.td) (YO_o ..) cv_X12_177_12 (rmk_ok (by decide) (by decide) (by decide) (by decide)) (Nat.le_of_ble_eq_true rfl) rfl dX12_pad_6 rfl (q_r0 ?_)
  refine g_tifne 15 C dX12_pad_9 (by decide)  (fun c9 => ?_) (fun c9 => ?_)
  · refine s_n1_iload C dX12_pad_15 ?_
    refine g_i2l C dX12_pad_16 (by first | assumption | (unfold iR; omega)) ?_
    refine g_lconst0 C dX12_pad_17 ?_
    refine g_ldc2 (2) C wd_608 dX12_pad_18 ?_
    refine g_invS C (ct_X12_in (v := a) (lo := 0) (hi := 2) (by unfold iR at *; unfold lR; omega) (by unfold iR at *; unfold lR; omega) (by unfold iR at *; unfold lR; omega)) cs_X12_54 (rmk_ok (by decide) (by decide) (by decide) (by decide)) (Nat.le_of_ble_eq_true rfl) rfl dX12_pad_21 rfl (q_r0 ?_)
    refine g_bifeq 38 C dX12_pad_24 (by decide)  (fun c24 => ?_) (fun c24 => ?_)
    · refine g_ldc (-1000001) C wd_609 dX12_pad_38 ?_
      refine g_iret C E dX12_pad_40 (by decide) ?_
      unfold xPad
      rw [if_neg c9, if_neg (by omega), if_neg (by omega), if_neg (by omega)]
      exact ⟨rfl, rfl, _, rfl, b, hR⟩
    · refine s_n0_aload C dX12_pad_27 ?_
      refine g_get C fd_X12_19_12 dX12_pad_28 (YO_o ..) rfl ?_
      refine g_iconst C dX12_pad_31 ?_
      refine s_n1_iload C dX12_pad_32 ?_
      refine g_iadd C dX12_pad_33 ?_
      refine g_iald C dX12_pad_34 (YO_a3 ..) (by omega) ?_
      refine g_goto 40 C dX12_pad_35 (by decide) ?_
      refine g_iret C E dX12_pad_40 (by decide) ?_
      unfold xPad
      rw [if_neg c9]
      rcases (show a = 0 ∨ a = 1 ∨ a = 2 by omega) with rfl | rfl | rfl
      · rw [if_pos rfl, hR.tab]
        exact ⟨rfl, rfl, _, rfl, b, hR⟩
      · rw [if_neg (by decide), if_pos rfl, hR.tab]
        exact ⟨rfl, rfl, _, rfl, b, hR⟩
      · rw [if_neg (by decide), if_neg (by decide), if_pos rfl, hR.tab]
        exact ⟨rfl, rfl, _, rfl, b, hR⟩
  · refine g_ldc (-1000002) C wd_706 dX12_pad_12 ?_
    refine g_iret C E dX12_pad_14 (by decide) ?_
    unfold xPad
    rw [if_pos c9]
    exact ⟨rfl, rfl, _, rfl, b, hR⟩
set_option maxRecDepth 20000 in
theorem ct_X12_layAhead {X : XT} {s : YT} {b : Int → Int} {M : gM} {n k : Int} (ht : s.2 3 = pk (xC X) b) (hb : bOK (X.1 0) (xP X) (xK X) b) (hO : xOK X) (hk : 0 ≤ k ∧ k ≤ 20) : CT yX12_layAhead cX12_layAhead 3 none (rmk 4 0 0) [vr 152, vi k] (YO s M) n (qr none (YO (yS 5 s (xRnd X k) b) M) n) := by
  refine CT.of (by decide) (fun _ => Nat.le_of_ble_eq_true rfl) (fun κ C E => ?_)
  show G κ (YO s M) n [some (vr 152), some (vi k), none] 0 [] 0 0
  have lp : ∀ (z : Nat) (i : Int), 0 ≤ i ∧ i ≤ k → (k - i).toNat = z → G κ (YO (yS 5 s (xRnd X i) b) M) n [some (vr 152), some (vi k), some (vi i)] 6 [] 0 0 := by
    intro z
    induction z using Nat.strongRecOn with
    | ind z ih =>
      intro i h1 hz
      have hS := xRnd_ok hO h1.1
      refine s_n2_iload C dX12_layAhead_6 ?_
      refine s_n1_iload C dX12_layAhead_7 ?_
      refine g_icmp_ge 25 C dX12_layAhead_8 (by decide) (by first | assumption | (unfold iR; omega)) (by first | assumption | (unfold iR; omega)) (fun c8 => ?_) (fun c8 => ?_)
      · refine g_vret C E dX12_layAhead_25 (by decide) ?_
        have e : i = k := by omega
        subst e
        exact ⟨rfl, rfl, rfl⟩
      · refine s_n0_aload C dX12_layAhead_11 ?_
        refine s_n0_aload C dX12_layAhead_12 ?_
        refine g_get C fd_X12_25_12 dX12_layAhead_13 (YO_o ..) rfl ?_
        refine g_invV C (ct_X12_allPasses ht hb hO.ps hS) (YO_o ..) cv_X12_214_12 (rmk_ok (by decide) (by decide) (by decide) (by decide)) (Nat.le_of_ble_eq_true rfl) rfl dX12_layAhead_16 rfl (q_v0 ?_)
        refine s_w2_iinc C dX12_layAhead_19 rfl ?_
        refine g_goto 6 C dX12_layAhead_22 (by decide) ?_
        have e : xRnd X (i + 1) = psAll (xP X) (xRnd X i) := itI_s (fun _ S => psAll (xP X) S) (xC X) h1.1
        rw [← e]
        exact ih _ (by omega) (i + 1) (by omega) rfl
  refine s_n0_aload C dX12_layAhead_0 ?_
  refine g_invV C (ct_X12_layThen ht) (YO_o ..) cv_X12_211_12 (rmk_ok (by decide) (by decide) (by decide) (by decide)) (Nat.le_of_ble_eq_true rfl) rfl dX12_layAhead_1 rfl (q_v0 ?_)
  refine g_iconst C dX12_layAhead_4 ?_
  refine s_n2_istore C dX12_layAhead_5 rfl ?_
  exact lp _ 0 (by omega) rfl
set_option maxRecDepth 20000 in
theorem ct_X12_ahead {X : XT} {s0 : YT} {M : gM} {n : Int} (h0 : yRel X s0) (hO : xOK X) {a c d : Int} (ha : iR a) (hc : iR c) (hd : iR d) : CT yX12_ahead cX12_ahead 4 (some .int) (rmk 5 0 0) [vr 152, vi a, vi c, vi d] (YO s0 M) n (yP (xAhead X a c d) M n) := by
  refine CT.of (by decide) (fun _ => Nat.le_of_ble_eq_true rfl) (fun κ C E => ?_)
  show G κ (YO s0 M) n [some (vr 152), some (vi a), some (vi c), some (vi d)] 0 [] 0 0
  refine s_n0_aload C dX12_ahead_0 ?_
  refine g_iconst C dX12_ahead_1 ?_
  refine g_put C fp_X12_44_12 dX12_ahead_2 (YO_o ..) (Nat.le_of_ble_eq_true rfl) (gfit_i _) ?_
  rw [YO_p0]
  obtain ⟨b, hR⟩ := h0
  have hR := hR.th 0
  generalize ((fu s0.1 0 0, s0.2) : YT) = s at hR ⊢
  refine s_n0_aload C dX12_ahead_5 ?_
  refine g_invV C (ct_X12_isThere hR.tab hR.bk hO.td) (YO_o ..) cv_X12_177_12 (rmk_ok (by decide) (by decide) (by decide) (by decide)) (Nat.le_of_ble_eq_true rfl) rfl dX12_ahead_6 rfl (q_r0 ?_)
  refine g_tifne 15 C dX12_ahead_9 (by decide)  (fun c9 => ?_) (fun c9 => ?_)
  · refine s_n1_iload C dX12_ahead_15 ?_
    refine g_i2l C dX12_ahead_16 (by first | assumption | (unfold iR; omega)) ?_
    refine g_lconst0 C dX12_ahead_17 ?_
    refine g_ldc2 (20) C wd_744 dX12_ahead_18 ?_
    refine g_invS C (ct_X12_in (v := a) (lo := 0) (hi := 20) (by unfold iR at *; unfold lR; omega) (by unfold iR at *; unfold lR; omega) (by unfold iR at *; unfold lR; omega)) cs_X12_54 (rmk_ok (by decide) (by decide) (by decide) (by decide)) (Nat.le_of_ble_eq_true rfl) rfl dX12_ahead_21 rfl (q_r0 ?_)
    refine g_bifeq 44 C dX12_ahead_24 (by decide)  (fun c24 => ?_) (fun c24 => ?_)
    · refine g_ldc (-1000001) C wd_609 dX12_ahead_44 ?_
      refine g_iret C E dX12_ahead_46 (by decide) ?_
      unfold xAhead
      rw [if_neg c9, if_pos c24]
      exact ⟨rfl, rfl, _, rfl, b, hR⟩
    · refine s_n2_iload C dX12_ahead_27 ?_
      refine g_invS C (ct_X12_isCell (v := c) (by assumption)) cs_X12_192 (rmk_ok (by decide) (by decide) (by decide) (by decide)) (Nat.le_of_ble_eq_true rfl) rfl dX12_ahead_28 rfl (q_r0 ?_)
      refine g_bifeq 44 C dX12_ahead_31 (by decide)  (fun c31 => ?_) (fun c31 => ?_)
      · refine g_ldc (-1000001) C wd_609 dX12_ahead_44 ?_
        refine g_iret C E dX12_ahead_46 (by decide) ?_
        unfold xAhead
        rw [if_neg c9, if_neg (not_not_intro c24), if_pos c31]
        exact ⟨rfl, rfl, _, rfl, b, hR⟩
      · refine s_n3_iload C dX12_ahead_34 ?_
        refine g_i2l C dX12_ahead_35 (by first | assumption | (unfold iR; omega)) ?_
        refine g_lconst0 C dX12_ahead_36 ?_
        refine g_lconst1 C dX12_ahead_37 ?_
        refine g_invS C (ct_X12_in (v := d) (lo := 0) (hi := 1) (by unfold iR at *; unfold lR; omega) (by unfold iR at *; unfold lR; omega) (by unfold iR at *; unfold lR; omega)) cs_X12_54 (rmk_ok (by decide) (by decide) (by decide) (by decide)) (Nat.le_of_ble_eq_true rfl) rfl dX12_ahead_38 rfl (q_r0 ?_)
        refine g_bifne 47 C dX12_ahead_41 (by decide)  (fun c41 => ?_) (fun c41 => ?_)
        · refine s_n0_aload C dX12_ahead_47 ?_
          refine s_n1_iload C dX12_ahead_48 ?_
          refine g_invV C (ct_X12_layAhead hR.tab hR.bk hO (k := a) (by omega)) (YO_o ..) cv_X12_219_12 (rmk_ok (by decide) (by decide) (by decide) (by decide)) (Nat.le_of_ble_eq_true rfl) rfl dX12_ahead_49 rfl (q_v0 ?_)
          refine s_n3_iload C dX12_ahead_52 ?_
          refine g_if_ne 68 C dX12_ahead_53 (by decide) (by first | assumption | (unfold iR; omega)) (fun c53 => ?_) (fun c53 => ?_)
          · refine s_n0_aload C dX12_ahead_68 ?_
            refine g_get C fd_X12_25_12 dX12_ahead_69 (YO_o ..) rfl ?_
            refine g_bipush C dX12_ahead_72 (by decide) ?_
            refine s_n2_iload C dX12_ahead_74 ?_
            refine g_iadd C dX12_ahead_75 ?_
            refine g_iald C dX12_ahead_76 (YO_a5 ..) (by omega) ?_
            show G κ _ n _ _ (vi (pk (xRnd X a) b (36 + c)) :: _) _ _
            rw [pS_h (by omega)]
            refine g_iret C E dX12_ahead_77 (by decide) ?_
            unfold xAhead
            rw [if_neg c9, if_neg (not_not_intro c24), if_neg (not_not_intro c31), if_neg (not_not_intro c41), if_neg c53]
            refine ⟨rfl, rfl, _, rfl, b, (hR.t5 _ _).g24 hO _⟩
          · refine s_n0_aload C dX12_ahead_56 ?_
            refine g_get C fd_X12_25_12 dX12_ahead_57 (YO_o ..) rfl ?_
            refine g_bipush C dX12_ahead_60 (by decide) ?_
            refine s_n2_iload C dX12_ahead_62 ?_
            refine g_iadd C dX12_ahead_63 ?_
            refine g_iald C dX12_ahead_64 (YO_a5 ..) (by omega) ?_
            show G κ _ n _ _ (vi (pk (xRnd X a) b (6 + c)) :: _) _ _
            rw [pS_f (by omega)]
            refine g_goto 77 C dX12_ahead_65 (by decide) ?_
            refine g_iret C E dX12_ahead_77 (by decide) ?_
            unfold xAhead
            rw [if_neg c9, if_neg (not_not_intro c24), if_neg (not_not_intro c31), if_neg (not_not_intro c41), if_pos c53]
            refine ⟨rfl, rfl, _, rfl, b, (hR.t5 _ _).g24 hO _⟩
        · refine g_ldc (-1000001) C wd_609 dX12_ahead_44 ?_
          refine g_iret C E dX12_ahead_46 (by decide) ?_
          unfold xAhead
          rw [if_neg c9, if_neg (not_not_intro c24), if_neg (not_not_intro c31), if_pos c41]
          exact ⟨rfl, rfl, _, rfl, b, hR⟩
  · refine g_ldc (-1000002) C wd_706 dX12_ahead_12 ?_
    refine g_iret C E dX12_ahead_14 (by decide) ?_
    unfold xAhead
    rw [if_pos c9]
    exact ⟨rfl, rfl, _, rfl, b, hR⟩
set_option maxRecDepth 20000 in
theorem ct_X12_uneven {X : XT} {s0 : YT} {M : gM} {n : Int} (h0 : yRel X s0) (hO : xOK X) {a : Int} (ha : iR a) : CT yX12_uneven cX12_uneven 2 (some .int) (rmk 5 0 0) [vr 152, vi a] (YO s0 M) n (yP (xUneven X a) M n) := by
  refine CT.of (by decide) (fun _ => Nat.le_of_ble_eq_true rfl) (fun κ C E => ?_)
  show G κ (YO s0 M) n [some (vr 152), some (vi a)] 0 [] 0 0
  refine s_n0_aload C dX12_uneven_0 ?_
  refine g_iconst C dX12_uneven_1 ?_
  refine g_put C fp_X12_44_12 dX12_uneven_2 (YO_o ..) (Nat.le_of_ble_eq_true rfl) (gfit_i _) ?_
  rw [YO_p0]
  obtain ⟨b, hR⟩ := h0
  have hR := hR.th 0
  generalize ((fu s0.1 0 0, s0.2) : YT) = s at hR ⊢
  refine s_n0_aload C dX12_uneven_5 ?_
  refine g_invV C (ct_X12_isThere hR.tab hR.bk hO.td) (YO_o ..) cv_X12_177_12 (rmk_ok (by decide) (by decide) (by decide) (by decide)) (Nat.le_of_ble_eq_true rfl) rfl dX12_uneven_6 rfl (q_r0 ?_)
  refine g_tifne 15 C dX12_uneven_9 (by decide)  (fun c9 => ?_) (fun c9 => ?_)
  · refine s_n1_iload C dX12_uneven_15 ?_
    refine g_i2l C dX12_uneven_16 (by first | assumption | (unfold iR; omega)) ?_
    refine g_lconst0 C dX12_uneven_17 ?_
    refine g_ldc2 (20) C wd_744 dX12_uneven_18 ?_
    refine g_invS C (ct_X12_in (v := a) (lo := 0) (hi := 20) (by unfold iR at *; unfold lR; omega) (by unfold iR at *; unfold lR; omega) (by unfold iR at *; unfold lR; omega)) cs_X12_54 (rmk_ok (by decide) (by decide) (by decide) (by decide)) (Nat.le_of_ble_eq_true rfl) rfl dX12_uneven_21 rfl (q_r0 ?_)
    refine g_bifne 30 C dX12_uneven_24 (by decide)  (fun c24 => ?_) (fun c24 => ?_)
    · refine s_n0_aload C dX12_uneven_30 ?_
      refine s_n1_iload C dX12_uneven_31 ?_
      refine g_invV C (ct_X12_layAhead hR.tab hR.bk hO (k := a) (by omega)) (YO_o ..) cv_X12_219_12 (rmk_ok (by decide) (by decide) (by decide) (by decide)) (Nat.le_of_ble_eq_true rfl) rfl dX12_uneven_32 rfl (q_v0 ?_)
      refine s_n0_aload C dX12_uneven_35 ?_
      refine g_get C fd_X12_25_12 dX12_uneven_36 (YO_o ..) rfl ?_
      refine g_invS C (ct_X12_unevenOf (S := xRnd X a) (b := b) (xRnd_ok hO c24.1) rfl) cs_X12_222 (rmk_ok (by decide) (by decide) (by decide) (by decide)) (Nat.le_of_ble_eq_true rfl) rfl dX12_uneven_39 rfl (q_r0 ?_)
      refine g_iret C E dX12_uneven_42 (by decide) ?_
      unfold xUneven
      rw [if_neg c9, if_neg (not_not_intro c24)]
      refine ⟨rfl, rfl, _, rfl, b, (hR.t5 _ _).g24 hO _⟩
    · refine g_ldc (-1000001) C wd_609 dX12_uneven_27 ?_
      refine g_iret C E dX12_uneven_29 (by decide) ?_
      unfold xUneven
      rw [if_neg c9, if_pos c24]
      exact ⟨rfl, rfl, _, rfl, b, hR⟩
  · refine g_ldc (-1000002) C wd_706 dX12_uneven_12 ?_
    refine g_iret C E dX12_uneven_14 (by decide) ?_
    unfold xUneven
    rw [if_pos c9]
    exact ⟨rfl, rfl, _, rfl, b, hR⟩
set_option maxRecDepth 20000 in
theorem ct_X12_goOn {X : XT} {s0 : YT} {M : gM} {n : Int} (h0 : yRel X s0) (hO : xOK X)  : CT yX12_goOn cX12_goOn 2 (some .int) (rmk 5 0 0) [vr 152] (YO s0 M) n (yP (xGoOn X) M n) := by
  refine CT.of (by decide) (fun _ => Nat.le_of_ble_eq_true rfl) (fun κ C E => ?_)
  show G κ (YO s0 M) n [some (vr 152), none] 0 [] 0 0
  refine s_n0_aload C dX12_goOn_0 ?_
  refine g_iconst C dX12_goOn_1 ?_
  refine g_put C fp_X12_44_12 dX12_goOn_2 (YO_o ..) (Nat.le_of_ble_eq_true rfl) (gfit_i _) ?_
  rw [YO_p0]
  obtain ⟨b, hR⟩ := h0
  have hR := hR.th 0
  generalize ((fu s0.1 0 0, s0.2) : YT) = s at hR ⊢
  refine s_n0_aload C dX12_goOn_5 ?_
  refine g_invV C (ct_X12_isThere hR.tab hR.bk hO.td) (YO_o ..) cv_X12_177_12 (rmk_ok (by decide) (by decide) (by decide) (by decide)) (Nat.le_of_ble_eq_true rfl) rfl dX12_goOn_6 rfl (q_r0 ?_)
  refine g_tifne 15 C dX12_goOn_9 (by decide)  (fun c9 => ?_) (fun c9 => ?_)
  · refine s_n0_aload C dX12_goOn_15 ?_
    refine g_invV C (ct_X12_layThen hR.tab) (YO_o ..) cv_X12_211_12 (rmk_ok (by decide) (by decide) (by decide) (by decide)) (Nat.le_of_ble_eq_true rfl) rfl dX12_goOn_16 rfl (q_v0 ?_)
    refine s_n0_aload C dX12_goOn_19 ?_
    refine g_get C fd_X12_25_12 dX12_goOn_20 (YO_o ..) rfl ?_
    refine g_invS C ((km_rests (a := 158) (Z := xC X) (b := b) (M := YO (yS 5 s (xC X) b) M) hO.cs (by rw [hR.bk.2.1]; have := hO.sk; omega)).conv (gu_self rfl) rfl) cs_X12_198 (rmk_ok (by decide) (by decide) (by decide) (by decide)) (Nat.le_of_ble_eq_true rfl) rfl dX12_goOn_23 rfl (q_v0 ?_)
    rw [yS_u5, hR.bk.2.1]
    refine s_n0_aload C dX12_goOn_26 ?_
    refine s_n0_aload C dX12_goOn_27 ?_
    refine g_get C fd_X12_25_12 dX12_goOn_28 (YO_o ..) rfl ?_
    refine g_invV C (ct_X12_allPasses hR.tab hR.bk hO.ps (sfSink_ok hO.cs (by have := hO.sk; omega))) (YO_o ..) cv_X12_214_12 (rmk_ok (by decide) (by decide) (by decide) (by decide)) (Nat.le_of_ble_eq_true rfl) rfl dX12_goOn_31 rfl (q_v0 ?_)
    refine s_n0_aload C dX12_goOn_34 ?_
    refine g_get C fd_X12_25_12 dX12_goOn_35 (YO_o ..) rfl ?_
    refine g_invS C (ct_X12_filmOf (S := psAll (xP X) (sfSink (xC X) (xK X))) (b := b) rfl) cs_X12_202 (rmk_ok (by decide) (by decide) (by decide) (by decide)) (Nat.le_of_ble_eq_true rfl) rfl dX12_goOn_38 rfl (q_r0 ?_)
    refine s_n1_istore C dX12_goOn_41 rfl ?_
    refine s_n0_aload C dX12_goOn_42 ?_
    refine g_iconst C dX12_goOn_43 ?_
    refine g_invV C (ct_X12_layAhead (s := yS 5 s (psAll (xP X) (sfSink (xC X) (xK X))) b) hR.tab hR.bk hO (k := 1) (by omega)) (YO_o ..) cv_X12_219_12 (rmk_ok (by decide) (by decide) (by decide) (by decide)) (Nat.le_of_ble_eq_true rfl) rfl dX12_goOn_44 rfl (q_v0 ?_)
    refine s_n0_aload C dX12_goOn_47 ?_
    refine g_get C fd_X12_25_12 dX12_goOn_48 (YO_o ..) rfl ?_
    refine g_invS C (ct_X12_filmOf (S := xRnd X 1) (b := b) rfl) cs_X12_202 (rmk_ok (by decide) (by decide) (by decide) (by decide)) (Nat.le_of_ble_eq_true rfl) rfl dX12_goOn_51 rfl (q_r0 ?_)
    refine s_n1_iload C dX12_goOn_54 ?_
    refine g_isub C dX12_goOn_55 ?_
    refine g_iret C E dX12_goOn_56 (by decide) ?_
    unfold xGoOn
    rw [if_neg c9]
    refine ⟨rfl, rfl, _, rfl, b, ((hR.t5 _ _).t5 _ _).g24 hO _⟩
  · refine g_ldc (-1000002) C wd_706 dX12_goOn_12 ?_
    refine g_iret C E dX12_goOn_14 (by decide) ?_
    unfold xGoOn
    rw [if_pos c9]
    exact ⟨rfl, rfl, _, rfl, b, hR⟩
theorem bit_all {m p : Int} (hm : 0 ≤ m ∧ m ≤ 4) (hp : 0 ≤ p ∧ p < m) : bAnd (bShr (bShl 1 m - 1) p) 1 = 1 := by
  rcases (show (m = 1 ∧ p = 0) ∨ (m = 2 ∧ (p = 0 ∨ p = 1)) ∨ (m = 3 ∧ (p = 0 ∨ p = 1 ∨ p = 2)) ∨ (m = 4 ∧ (p = 0 ∨ p = 1 ∨ p = 2 ∨ p = 3)) by omega) with ⟨rfl, rfl⟩ | ⟨rfl, rfl | rfl⟩ | ⟨rfl, rfl | rfl | rfl⟩ | ⟨rfl, rfl | rfl | rfl | rfl⟩ <;> decide
set_option maxRecDepth 20000 in
theorem ct_X12_overAll {X : XT} {s : YT} {b : Int → Int} {M : gM} {n : Int} (hR : yR X s b) (hO : xOK X) : CT yX12_overAll cX12_overAll 3 (some .int) (rmk 2 0 0) [vr 152] (YO s M) n (qr (some (vi (psCells (xP X) (bShl 1 (xP X).1 - 1)))) (YO s M) n) := by
  refine CT.of (by decide) (fun _ => Nat.le_of_ble_eq_true rfl) (fun κ C E => ?_)
  show G κ (YO s M) n [some (vr 152), none, none] 0 [] 0 0
  have hp1 := hO.ps.1
  have hp2 := hO.ps.2.1
  have e5 : s.2 3 5 = (xP X).1 := by rw [hR.tab, pq_b (Or.inr (Or.inl rfl))]; exact hR.bk.2.2.1
  have lp : ∀ (z : Nat) (k : Int), 0 ≤ k ∧ k ≤ (xP X).1 → ((xP X).1 - k).toNat = z → G κ (YO s M) n [some (vr 152), some (vi (itI (fun p x => if bAnd (bShr (bShl 1 (xP X).1 - 1) p) 1 = 1 then bOr x (psCell (xP X) p) else x) (0 : Int) k)), some (vi k)] 4 [] 0 0 := by
    intro z
    induction z using Nat.strongRecOn with
    | ind z ih =>
      intro k h1 hz
      refine s_n2_iload C dX12_overAll_4 ?_
      refine s_n0_aload C dX12_overAll_5 ?_
      refine g_get C fd_X12_19_12 dX12_overAll_6 (YO_o ..) rfl ?_
      refine g_iconst C dX12_overAll_9 ?_
      refine g_iald C dX12_overAll_10 (YO_a3 ..) (by omega) ?_
      rw [e5]
      refine g_icmp_ge 28 C dX12_overAll_11 (by decide) (by first | assumption | (unfold iR; omega)) (by first | assumption | (unfold iR; omega)) (fun c11 => ?_) (fun c11 => ?_)
      · refine s_n1_iload C dX12_overAll_28 ?_
        refine g_iret C E dX12_overAll_29 (by decide) ?_
        have e : k = (xP X).1 := by omega
        subst e
        exact ⟨rfl, rfl, rfl⟩
      · refine s_n1_iload C dX12_overAll_14 ?_
        refine s_n0_aload C dX12_overAll_15 ?_
        refine s_n2_iload C dX12_overAll_16 ?_
        refine g_invV C (ct_X12_overBy hR.tab hR.bk hO.ps (p := k) ⟨h1.1, by omega⟩) (YO_o ..) cv_X12_208_12 (rmk_ok (by decide) (by decide) (by decide) (by decide)) (Nat.le_of_ble_eq_true rfl) rfl dX12_overAll_17 rfl (q_r0 ?_)
        refine g_ior C dX12_overAll_20 ?_
        refine s_n1_istore C dX12_overAll_21 rfl ?_
        refine s_w2_iinc C dX12_overAll_22 rfl ?_
        refine g_goto 4 C dX12_overAll_25 (by decide) ?_
        have e := itI_s (fun p x => if bAnd (bShr (bShl 1 (xP X).1 - 1) p) 1 = 1 then bOr x (psCell (xP X) p) else x) (0 : Int) h1.1
        rw [if_pos (bit_all ⟨hp1, hp2⟩ ⟨h1.1, by omega⟩)] at e
        rw [← e]
        exact ih _ (by omega) (k + 1) (by omega) rfl
  refine g_iconst C dX12_overAll_0 ?_
  refine s_n1_istore C dX12_overAll_1 rfl ?_
  refine g_iconst C dX12_overAll_2 ?_
  refine s_n2_istore C dX12_overAll_3 rfl ?_
  exact lp _ 0 (by omega) rfl
set_option maxRecDepth 20000 in
theorem ct_X12_cups {X : XT} {s0 : YT} {M : gM} {n : Int} (h0 : yRel X s0) (hO : xOK X) {cs t : Int} (hcs : iR cs) (ht : iR t) : CT yX12_cups cX12_cups 5 (some .int) (rmk 2 0 0) [vr 152, vi cs, vi t] (YO s0 M) n (yP (xCups X cs t) M n) := by
  refine CT.of (by decide) (fun _ => Nat.le_of_ble_eq_true rfl) (fun κ C E => ?_)
  show G κ (YO s0 M) n [some (vr 152), some (vi cs), some (vi t), none, none] 0 [] 0 0
  have lp : ∀ (z : Nat) (k : Int) (s : YT) (b : Int → Int), yR X s b → ¬ X.1 0 = 0 → (0 ≤ cs ∧ cs ≤ 32767) → (1 ≤ t ∧ t ≤ 999) → 0 ≤ k ∧ k ≤ 15 → (15 - k).toNat = z → G κ (YO s M) n [some (vr 152), some (vi cs), some (vi t), some (vi (itI (fun i x => if bAnd (bShr cs i) 1 = 1 then x + max (t - (xC X).1 i) 0 else x) (0 : Int) k)), some (vi k)] 42 [] 0 0 := by
    intro z
    induction z using Nat.strongRecOn with
    | ind z ih =>
      intro k s b hR q1 q2 q3 h1 hz
      refine s_w4_iload C dX12_cups_42 ?_
      refine g_bipush C dX12_cups_44 (by decide) ?_
      refine g_icmp_ge 98 C dX12_cups_46 (by decide) (by first | assumption | (unfold iR; omega)) (by first | assumption | (unfold iR; omega)) (fun c46 => ?_) (fun c46 => ?_)
      · refine s_n3_iload C dX12_cups_98 ?_
        refine g_iret C E dX12_cups_99 (by decide) ?_
        unfold xCups
        rw [if_neg q1, if_neg (not_not_intro q2), if_neg (not_not_intro q3)]
        have ek : k = 15 := by omega
        subst ek
        exact ⟨rfl, rfl, _, rfl, b, hR⟩
      · have hcb := hO.cs.1 k h1.1 (by omega)
        refine s_n3_iload C dX12_cups_49 ?_
        refine s_n1_iload C dX12_cups_50 ?_
        refine s_w4_iload C dX12_cups_51 ?_
        refine g_ishr C dX12_cups_53 ?_
        refine g_iconst C dX12_cups_54 ?_
        refine g_iand C dX12_cups_55 ?_
        refine g_iconst C dX12_cups_56 ?_
        refine g_icmp_ne 89 C dX12_cups_57 (by decide) (by exact bAnd_R _ _) (by unfold iR; omega) (fun c57 => ?_) (fun c57 => ?_)
        · refine g_iconst C dX12_cups_89 ?_
          refine g_iadd C dX12_cups_90 ?_
          refine s_n3_istore C dX12_cups_91 rfl ?_
          refine s_w4_iinc C dX12_cups_92 rfl ?_
          refine g_goto 42 C dX12_cups_95 (by decide) ?_
          have e := itI_s (fun i x => if bAnd (bShr cs i) 1 = 1 then x + max (t - (xC X).1 i) 0 else x) (0 : Int) h1.1
          rw [if_neg c57] at e
          rw [← Int.add_zero (itI (fun i x => if bAnd (bShr cs i) 1 = 1 then x + max (t - (xC X).1 i) 0 else x) (0 : Int) k)] at e
          rw [← e]
          exact ih _ (by omega) (k + 1) s b hR q1 q2 q3 (by omega) rfl
        · refine s_n0_aload C dX12_cups_60 ?_
          refine g_get C fd_X12_19_12 dX12_cups_61 (YO_o ..) rfl ?_
          refine g_bipush C dX12_cups_64 (by decide) ?_
          refine s_w4_iload C dX12_cups_66 ?_
          refine g_iadd C dX12_cups_68 ?_
          refine g_iald C dX12_cups_69 (YO_a3 ..) (by omega) ?_
          rw [hR.tab, pS_f (by omega)]
          refine s_n2_iload C dX12_cups_70 ?_
          refine g_icmp_ge 89 C dX12_cups_71 (by decide) (by unfold iR; omega) (by unfold iR; omega) (fun c71 => ?_) (fun c71 => ?_)
          · refine g_iconst C dX12_cups_89 ?_
            refine g_iadd C dX12_cups_90 ?_
            refine s_n3_istore C dX12_cups_91 rfl ?_
            refine s_w4_iinc C dX12_cups_92 rfl ?_
            refine g_goto 42 C dX12_cups_95 (by decide) ?_
            have e := itI_s (fun i x => if bAnd (bShr cs i) 1 = 1 then x + max (t - (xC X).1 i) 0 else x) (0 : Int) h1.1
            rw [if_pos c57] at e
            rw [show max (t - (xC X).1 k) 0 = 0 by omega] at e
            rw [← e]
            exact ih _ (by omega) (k + 1) s b hR q1 q2 q3 (by omega) rfl
          · refine s_n2_iload C dX12_cups_74 ?_
            refine s_n0_aload C dX12_cups_75 ?_
            refine g_get C fd_X12_19_12 dX12_cups_76 (YO_o ..) rfl ?_
            refine g_bipush C dX12_cups_79 (by decide) ?_
            refine s_w4_iload C dX12_cups_81 ?_
            refine g_iadd C dX12_cups_83 ?_
            refine g_iald C dX12_cups_84 (YO_a3 ..) (by omega) ?_
            rw [hR.tab, pS_f (by omega)]
            refine g_isub C dX12_cups_85 ?_
            refine g_goto 90 C dX12_cups_86 (by decide) ?_
            refine g_iadd C dX12_cups_90 ?_
            refine s_n3_istore C dX12_cups_91 rfl ?_
            refine s_w4_iinc C dX12_cups_92 rfl ?_
            refine g_goto 42 C dX12_cups_95 (by decide) ?_
            have e := itI_s (fun i x => if bAnd (bShr cs i) 1 = 1 then x + max (t - (xC X).1 i) 0 else x) (0 : Int) h1.1
            rw [if_pos c57] at e
            rw [show max (t - (xC X).1 k) 0 = t - (xC X).1 k by omega] at e
            rw [← e]
            exact ih _ (by omega) (k + 1) s b hR q1 q2 q3 (by omega) rfl
  refine s_n0_aload C dX12_cups_0 ?_
  refine g_iconst C dX12_cups_1 ?_
  refine g_put C fp_X12_44_12 dX12_cups_2 (YO_o ..) (Nat.le_of_ble_eq_true rfl) (gfit_i _) ?_
  rw [YO_p0]
  obtain ⟨b, hR⟩ := h0
  have hR := hR.th 0
  generalize ((fu s0.1 0 0, s0.2) : YT) = s at hR ⊢
  refine s_n0_aload C dX12_cups_5 ?_
  refine g_invV C (ct_X12_isThere hR.tab hR.bk hO.td) (YO_o ..) cv_X12_177_12 (rmk_ok (by decide) (by decide) (by decide) (by decide)) (Nat.le_of_ble_eq_true rfl) rfl dX12_cups_6 rfl (q_r0 ?_)
  refine g_tifne 15 C dX12_cups_9 (by decide)  (fun c9 => ?_) (fun c9 => ?_)
  · refine s_n1_iload C dX12_cups_15 ?_
    refine g_invS C (ct_X12_areCells (v := cs) (by assumption)) cs_X12_239 (rmk_ok (by decide) (by decide) (by decide) (by decide)) (Nat.le_of_ble_eq_true rfl) rfl dX12_cups_16 rfl (q_r0 ?_)
    refine g_bifeq 34 C dX12_cups_19 (by decide)  (fun c19 => ?_) (fun c19 => ?_)
    · refine g_ldc (-1000001) C wd_609 dX12_cups_34 ?_
      refine g_iret C E dX12_cups_36 (by decide) ?_
      unfold xCups
      rw [if_neg c9, if_pos c19]
      exact ⟨rfl, rfl, _, rfl, b, hR⟩
    · refine s_n2_iload C dX12_cups_22 ?_
      refine g_i2l C dX12_cups_23 (by first | assumption | (unfold iR; omega)) ?_
      refine g_lconst1 C dX12_cups_24 ?_
      refine g_ldc2 (999) C wd_761 dX12_cups_25 ?_
      refine g_invS C (ct_X12_in (v := t) (lo := 1) (hi := 999) (by unfold iR at *; unfold lR; omega) (by unfold iR at *; unfold lR; omega) (by unfold iR at *; unfold lR; omega)) cs_X12_54 (rmk_ok (by decide) (by decide) (by decide) (by decide)) (Nat.le_of_ble_eq_true rfl) rfl dX12_cups_28 rfl (q_r0 ?_)
      refine g_bifne 37 C dX12_cups_31 (by decide)  (fun c31 => ?_) (fun c31 => ?_)
      · refine g_iconst C dX12_cups_37 ?_
        refine s_n3_istore C dX12_cups_38 rfl ?_
        refine g_iconst C dX12_cups_39 ?_
        refine s_w4_istore C dX12_cups_40 rfl ?_
        exact lp _ 0 s b hR c9 c19 c31 (by omega) rfl
      · refine g_ldc (-1000001) C wd_609 dX12_cups_34 ?_
        refine g_iret C E dX12_cups_36 (by decide) ?_
        unfold xCups
        rw [if_neg c9, if_neg (not_not_intro c19), if_pos c31]
        exact ⟨rfl, rfl, _, rfl, b, hR⟩
  · refine g_ldc (-1000002) C wd_706 dX12_cups_12 ?_
    refine g_iret C E dX12_cups_14 (by decide) ?_
    unfold xCups
    rw [if_pos c9]
    exact ⟨rfl, rfl, _, rfl, b, hR⟩
