/-! PadPolishModel: evenings, done, over, order -/
set_option maxRecDepth 20000 in
theorem ct_X12_evenings {X : XT} {s0 : YT} {M : gM} {n : Int} (h0 : yRel X s0) (hO : xOK X) {m sd d : Int} (hm : iR m) (hsd : iR sd) (hd : iR d) : CT yX12_evenings cX12_evenings 7 (some .int) (rmk 3 0 0) [vr 152, vi m, vi sd, vi d] (YO s0 M) n (yP (xEvenings X m sd d) M n) := by
  refine CT.of (by decide) (fun _ => Nat.le_of_ble_eq_true rfl) (fun κ C E => ?_)
  show G κ (YO s0 M) n [some (vr 152), some (vi m), some (vi sd), some (vi d), none, none, none] 0 [] 0 0
  have hp1 := hO.ps.1
  have hp2 := hO.ps.2.1
  have lp : ∀ (z : Nat) (j : Int) (s : YT) (b : Int → Int), yR X s b → ¬ X.1 0 = 0 → (0 ≤ m ∧ m ≤ 30) → (1 ≤ sd ∧ sd ≤ 999999) → (0 ≤ d ∧ d ≤ 1) → 0 ≤ j ∧ j ≤ m → (m - j).toNat = z → G κ (YO (yS 5 s (evN X sd j).2 b) M) n [some (vr 152), some (vi m), some (vi sd), some (vi d), some (vl (evN X sd j).1), none, some (vi j)] 63 [] 0 0 := by
    intro z
    induction z using Nat.strongRecOn with
    | ind z ih =>
      intro j s b hR q1 q2 q3 q4 h1 hz
      have e5 : s.2 3 5 = (xP X).1 := by rw [hR.tab, pq_b (Or.inr (Or.inl rfl))]; exact hR.bk.2.2.1
      obtain ⟨hx, hS⟩ := evN_ok hO (sd := sd) (k := j) (by omega) h1.1
      have es : evN X sd (j + 1) = (evX (evN X sd j).1, evT (evX (evN X sd j).1) (evP (xP X) (evX (evN X sd j).1) (evN X sd j).2)) := itI_s _ _ h1.1
      generalize hQ : evN X sd j = Q at *
      obtain ⟨x, S⟩ := Q
      have hx2 := @evX_b x
      have hS2 := evP_ok (x := evX x) hO.ps hx2.1 hS
      refine s_w6_iload C dX12_evenings_63 ?_
      refine s_n1_iload C dX12_evenings_65 ?_
      refine g_icmp_ge 140 C dX12_evenings_66 (by decide) (by first | assumption | (unfold iR; omega)) (by first | assumption | (unfold iR; omega)) (fun c66 => ?_) (fun c66 => ?_)
      · refine s_n3_iload C dX12_evenings_140 ?_
        refine g_if_ne 154 C dX12_evenings_141 (by decide) (by first | assumption | (unfold iR; omega)) (fun c141 => ?_) (fun c141 => ?_)
        · refine s_n0_aload C dX12_evenings_154 ?_
          refine g_get C fd_X12_25_12 dX12_evenings_155 (YO_o ..) rfl ?_
          refine g_invS C (ct_X12_unevenOf (S := S) (b := b) hS rfl) cs_X12_222 (rmk_ok (by decide) (by decide) (by decide) (by decide)) (Nat.le_of_ble_eq_true rfl) rfl dX12_evenings_158 rfl (q_r0 ?_)
          refine g_iret C E dX12_evenings_161 (by decide) ?_
          unfold xEvenings
          rw [if_neg q1, if_neg (not_not_intro q2), if_neg (not_not_intro q3), if_neg (not_not_intro q4), if_neg c141]
          have ej : j = m := by omega
          rw [ej] at hQ
          rw [hQ]
          exact ⟨rfl, rfl, _, rfl, b, hR.t5 _ _⟩
        · refine s_n0_aload C dX12_evenings_144 ?_
          refine g_get C fd_X12_25_12 dX12_evenings_145 (YO_o ..) rfl ?_
          refine g_invS C (ct_X12_filmOf (S := S) (b := b) rfl) cs_X12_202 (rmk_ok (by decide) (by decide) (by decide) (by decide)) (Nat.le_of_ble_eq_true rfl) rfl dX12_evenings_148 rfl (q_r0 ?_)
          refine g_goto 161 C dX12_evenings_151 (by decide) ?_
          refine g_iret C E dX12_evenings_161 (by decide) ?_
          unfold xEvenings
          rw [if_neg q1, if_neg (not_not_intro q2), if_neg (not_not_intro q3), if_neg (not_not_intro q4), if_pos c141]
          have ej : j = m := by omega
          rw [ej] at hQ
          rw [hQ]
          exact ⟨rfl, rfl, _, rfl, b, hR.t5 _ _⟩
      · refine s_w4_lload C dX12_evenings_69 ?_
        refine g_ldc2 (16807) C wd_777 dX12_evenings_71 ?_
        refine g_lmul C dX12_evenings_74 ?_
        refine g_ldc2 (2147483647) C wd_778 dX12_evenings_75 ?_
        refine g_lrem C dX12_evenings_78 (by show 0 ≤ x * 16807 ∧ x * 16807 < _ ∧ _; omega) ?_
        refine s_w4_lstore C dX12_evenings_79 rfl ?_
        show G κ _ _ [_, _, _, _, some (vl (evX x)), _, _] _ _ _ _
        refine s_n0_aload C dX12_evenings_81 ?_
        refine g_get C fd_X12_19_12 dX12_evenings_82 (YO_o ..) rfl ?_
        refine g_iconst C dX12_evenings_85 ?_
        refine g_iald C dX12_evenings_86 (YO_a3 ..) (by omega) ?_
        rw [show (yS 5 s (x, S).2 b).2 3 5 = (xP X).1 from e5]
        refine g_if_le 109 C dX12_evenings_87 (by decide) (by first | assumption | (unfold iR; omega)) (fun c87 => ?_) (fun c87 => ?_)
        · first | (rw [show YO (yS 5 s (x, S).2 b) M = YO (yS 5 s (evP (xP X) (evX x) S) b) M by rw [show evP (xP X) (evX x) S = S from if_pos (by omega)]]) | skip
          refine s_w4_lload C dX12_evenings_109 ?_
          refine g_ldc2 (7) C wd_599 dX12_evenings_111 ?_
          refine g_lrem C dX12_evenings_114 (by omega) ?_
          refine g_lconst0 C dX12_evenings_115 ?_
          refine g_lcmp C dX12_evenings_116 (by unfold lR; omega) (by unfold lR; omega) ?_
          refine g_if_ne 134 C dX12_evenings_117 (by decide) (by exact lCmp_R _ _) (fun c117 => ?_) (fun c117 => ?_)
          · refine s_w6_iinc C dX12_evenings_134 rfl ?_
            refine g_goto 63 C dX12_evenings_137 (by decide) ?_
            have e2 : (evN X sd (j + 1)).2 = evP (xP X) (evX x) S := by rw [es]; show evT (evX x) _ = _; unfold evT; exact if_neg (fun q => c117 ((lCmp0 _ _).mpr q))
            have := ih _ (by omega) (j + 1) s b hR q1 q2 q3 q4 (by omega) rfl
            rw [e2, es] at this
            exact this
          · refine s_n0_aload C dX12_evenings_120 ?_
            refine g_get C fd_X12_25_12 dX12_evenings_121 (YO_o ..) rfl ?_
            refine s_w4_lload C dX12_evenings_124 ?_
            refine g_ldc2 (15) C wd_772 dX12_evenings_126 ?_
            refine g_lrem C dX12_evenings_129 (by omega) ?_
            refine g_l2i C dX12_evenings_130 ?_
            refine g_invS C ((km_stands (a := 158) (Z := evP (xP X) (evX x) S) (b := b) (c := evX x % 15) (M := YO (yS 5 s (evP (xP X) (evX x) S) b) M) hS2 (by omega)).conv (gu_self rfl) rfl) cs_X12_195 (rmk_ok (by decide) (by decide) (by decide) (by decide)) (Nat.le_of_ble_eq_true rfl) rfl dX12_evenings_131 rfl (q_v0 ?_)
            rw [yS_u5]
            refine s_w6_iinc C dX12_evenings_134 rfl ?_
            refine g_goto 63 C dX12_evenings_137 (by decide) ?_
            have e2 : (evN X sd (j + 1)).2 = sfTear (evP (xP X) (evX x) S) (evX x % 15) := by rw [es]; show evT (evX x) _ = _; unfold evT; exact if_pos ((lCmp0 _ _).mp c117)
            have := ih _ (by omega) (j + 1) s b hR q1 q2 q3 q4 (by omega) rfl
            rw [e2, es] at this
            exact this
        · have hd0 : 0 ≤ (evX x % (xP X).1) := Int.emod_nonneg _ (by omega)
          have hd1 : (evX x % (xP X).1) < (xP X).1 := Int.emod_lt_of_pos _ (by omega)
          refine s_n0_aload C dX12_evenings_90 ?_
          refine s_n0_aload C dX12_evenings_91 ?_
          refine g_get C fd_X12_25_12 dX12_evenings_92 (YO_o ..) rfl ?_
          refine s_w4_lload C dX12_evenings_95 ?_
          refine s_n0_aload C dX12_evenings_97 ?_
          refine g_get C fd_X12_19_12 dX12_evenings_98 (YO_o ..) rfl ?_
          refine g_iconst C dX12_evenings_101 ?_
          refine g_iald C dX12_evenings_102 (YO_a3 ..) (by omega) ?_
          rw [show (yS 5 s (x, S).2 b).2 3 5 = (xP X).1 from e5]
          refine g_i2l C dX12_evenings_103 (by first | assumption | (unfold iR; omega)) ?_
          refine g_lrem C dX12_evenings_104 (by omega) ?_
          refine g_l2i C dX12_evenings_105 ?_
          refine g_invV C (ct_X12_pass_5 (S := S) (p := (evX x % (xP X).1)) hR.tab hR.bk hO.ps ⟨hd0, hd1⟩ hS) (YO_o ..) cv_X12_173_12 (rmk_ok (by decide) (by decide) (by decide) (by decide)) (Nat.le_of_ble_eq_true rfl) rfl dX12_evenings_106 rfl (q_v0 ?_)
          rw [show pGo ((xP X).2.1 (evX x % (xP X).1)) ((xP X).2.2.1 (evX x % (xP X).1)) ((xP X).2.2.2 (evX x % (xP X).1)) S = evP (xP X) (evX x) S from (if_neg (by omega)).symm]
          first | (rw [show YO (yS 5 s (x, S).2 b) M = YO (yS 5 s (evP (xP X) (evX x) S) b) M by rw [show evP (xP X) (evX x) S = S from if_pos (by omega)]]) | skip
          refine s_w4_lload C dX12_evenings_109 ?_
          refine g_ldc2 (7) C wd_599 dX12_evenings_111 ?_
          refine g_lrem C dX12_evenings_114 (by omega) ?_
          refine g_lconst0 C dX12_evenings_115 ?_
          refine g_lcmp C dX12_evenings_116 (by unfold lR; omega) (by unfold lR; omega) ?_
          refine g_if_ne 134 C dX12_evenings_117 (by decide) (by exact lCmp_R _ _) (fun c117 => ?_) (fun c117 => ?_)
          · refine s_w6_iinc C dX12_evenings_134 rfl ?_
            refine g_goto 63 C dX12_evenings_137 (by decide) ?_
            have e2 : (evN X sd (j + 1)).2 = evP (xP X) (evX x) S := by rw [es]; show evT (evX x) _ = _; unfold evT; exact if_neg (fun q => c117 ((lCmp0 _ _).mpr q))
            have := ih _ (by omega) (j + 1) s b hR q1 q2 q3 q4 (by omega) rfl
            rw [e2, es] at this
            exact this
          · refine s_n0_aload C dX12_evenings_120 ?_
            refine g_get C fd_X12_25_12 dX12_evenings_121 (YO_o ..) rfl ?_
            refine s_w4_lload C dX12_evenings_124 ?_
            refine g_ldc2 (15) C wd_772 dX12_evenings_126 ?_
            refine g_lrem C dX12_evenings_129 (by omega) ?_
            refine g_l2i C dX12_evenings_130 ?_
            refine g_invS C ((km_stands (a := 158) (Z := evP (xP X) (evX x) S) (b := b) (c := evX x % 15) (M := YO (yS 5 s (evP (xP X) (evX x) S) b) M) hS2 (by omega)).conv (gu_self rfl) rfl) cs_X12_195 (rmk_ok (by decide) (by decide) (by decide) (by decide)) (Nat.le_of_ble_eq_true rfl) rfl dX12_evenings_131 rfl (q_v0 ?_)
            rw [yS_u5]
            refine s_w6_iinc C dX12_evenings_134 rfl ?_
            refine g_goto 63 C dX12_evenings_137 (by decide) ?_
            have e2 : (evN X sd (j + 1)).2 = sfTear (evP (xP X) (evX x) S) (evX x % 15) := by rw [es]; show evT (evX x) _ = _; unfold evT; exact if_pos ((lCmp0 _ _).mp c117)
            have := ih _ (by omega) (j + 1) s b hR q1 q2 q3 q4 (by omega) rfl
            rw [e2, es] at this
            exact this
  refine s_n0_aload C dX12_evenings_0 ?_
  refine g_iconst C dX12_evenings_1 ?_
  refine g_put C fp_X12_44_12 dX12_evenings_2 (YO_o ..) (Nat.le_of_ble_eq_true rfl) (gfit_i _) ?_
  rw [YO_p0]
  obtain ⟨b, hR⟩ := h0
  have hR := hR.th 0
  generalize ((fu s0.1 0 0, s0.2) : YT) = s at hR ⊢
  refine s_n0_aload C dX12_evenings_5 ?_
  refine g_invV C (ct_X12_isThere hR.tab hR.bk hO.td) (YO_o ..) cv_X12_177_12 (rmk_ok (by decide) (by decide) (by decide) (by decide)) (Nat.le_of_ble_eq_true rfl) rfl dX12_evenings_6 rfl (q_r0 ?_)
  refine g_tifne 15 C dX12_evenings_9 (by decide)  (fun c9 => ?_) (fun c9 => ?_)
  · refine s_n1_iload C dX12_evenings_15 ?_
    refine g_i2l C dX12_evenings_16 (by first | assumption | (unfold iR; omega)) ?_
    refine g_lconst0 C dX12_evenings_17 ?_
    refine g_ldc2 (30) C wd_775 dX12_evenings_18 ?_
    refine g_invS C (ct_X12_in (v := m) (lo := 0) (hi := 30) (by unfold iR at *; unfold lR; omega) (by unfold iR at *; unfold lR; omega) (by unfold iR at *; unfold lR; omega)) cs_X12_54 (rmk_ok (by decide) (by decide) (by decide) (by decide)) (Nat.le_of_ble_eq_true rfl) rfl dX12_evenings_21 rfl (q_r0 ?_)
    refine g_bifeq 49 C dX12_evenings_24 (by decide)  (fun c24 => ?_) (fun c24 => ?_)
    · refine g_ldc (-1000001) C wd_609 dX12_evenings_49 ?_
      refine g_iret C E dX12_evenings_51 (by decide) ?_
      unfold xEvenings
      rw [if_neg c9, if_pos c24]
      exact ⟨rfl, rfl, _, rfl, b, hR⟩
    · refine s_n2_iload C dX12_evenings_27 ?_
      refine g_i2l C dX12_evenings_28 (by first | assumption | (unfold iR; omega)) ?_
      refine g_lconst1 C dX12_evenings_29 ?_
      refine g_ldc2 (999999) C wd_776 dX12_evenings_30 ?_
      refine g_invS C (ct_X12_in (v := sd) (lo := 1) (hi := 999999) (by unfold iR at *; unfold lR; omega) (by unfold iR at *; unfold lR; omega) (by unfold iR at *; unfold lR; omega)) cs_X12_54 (rmk_ok (by decide) (by decide) (by decide) (by decide)) (Nat.le_of_ble_eq_true rfl) rfl dX12_evenings_33 rfl (q_r0 ?_)
      refine g_bifeq 49 C dX12_evenings_36 (by decide)  (fun c36 => ?_) (fun c36 => ?_)
      · refine g_ldc (-1000001) C wd_609 dX12_evenings_49 ?_
        refine g_iret C E dX12_evenings_51 (by decide) ?_
        unfold xEvenings
        rw [if_neg c9, if_neg (not_not_intro c24), if_pos c36]
        exact ⟨rfl, rfl, _, rfl, b, hR⟩
      · refine s_n3_iload C dX12_evenings_39 ?_
        refine g_i2l C dX12_evenings_40 (by first | assumption | (unfold iR; omega)) ?_
        refine g_lconst0 C dX12_evenings_41 ?_
        refine g_lconst1 C dX12_evenings_42 ?_
        refine g_invS C (ct_X12_in (v := d) (lo := 0) (hi := 1) (by unfold iR at *; unfold lR; omega) (by unfold iR at *; unfold lR; omega) (by unfold iR at *; unfold lR; omega)) cs_X12_54 (rmk_ok (by decide) (by decide) (by decide) (by decide)) (Nat.le_of_ble_eq_true rfl) rfl dX12_evenings_43 rfl (q_r0 ?_)
        refine g_bifne 52 C dX12_evenings_46 (by decide)  (fun c46 => ?_) (fun c46 => ?_)
        · refine s_n0_aload C dX12_evenings_52 ?_
          refine g_invV C (ct_X12_layThen hR.tab) (YO_o ..) cv_X12_211_12 (rmk_ok (by decide) (by decide) (by decide) (by decide)) (Nat.le_of_ble_eq_true rfl) rfl dX12_evenings_53 rfl (q_v0 ?_)
          refine s_n2_iload C dX12_evenings_56 ?_
          refine g_i2l C dX12_evenings_57 (by first | assumption | (unfold iR; omega)) ?_
          refine s_w4_lstore C dX12_evenings_58 rfl ?_
          refine g_iconst C dX12_evenings_60 ?_
          refine s_w6_istore C dX12_evenings_61 rfl ?_
          exact lp _ 0 s b hR c9 c24 c36 c46 (by omega) rfl
        · refine g_ldc (-1000001) C wd_609 dX12_evenings_49 ?_
          refine g_iret C E dX12_evenings_51 (by decide) ?_
          unfold xEvenings
          rw [if_neg c9, if_neg (not_not_intro c24), if_neg (not_not_intro c36), if_pos c46]
          exact ⟨rfl, rfl, _, rfl, b, hR⟩
  · refine g_ldc (-1000002) C wd_706 dX12_evenings_12 ?_
    refine g_iret C E dX12_evenings_14 (by decide) ?_
    unfold xEvenings
    rw [if_pos c9]
    exact ⟨rfl, rfl, _, rfl, b, hR⟩
set_option maxRecDepth 20000 in
theorem ct_X12_done {X : XT} {s0 : YT} {M : gM} {n : Int} (h0 : yRel X s0) (hO : xOK X) {r i d : Int} (hr : iR r) (hi : iR i) (hd : iR d) : CT yX12_done cX12_done 9 (some .int) (rmk 3 0 0) [vr 152, vi r, vi i, vi d] (YO s0 M) n (yP (xDone X r i d) M n) := by
  refine CT.of (by decide) (fun _ => Nat.le_of_ble_eq_true rfl) (fun κ C E => ?_)
  show G κ (YO s0 M) n [some (vr 152), some (vi r), some (vi i), some (vi d), none, none, none, none, none] 0 [] 0 0
  have hp1 := hO.ps.1
  have hp2 := hO.ps.2.1
  have hA := psA_b hO.ps
  have hAd : dnA X = bShl 1 (xP X).1 - 1 := rfl
  have l1 : ∀ (z : Nat) (p j u v : Int) (s : YT) (b : Int → Int) (q8 : Option gV), yR (xS X 4 0) s b → 0 ≤ p ∧ p ≤ (xP X).1 → ((xP X).1 - p).toNat = z → (∀ q7, G κ (YO (yS 5 s (psSome (xP X) (dnA X - j) (xC X)) b) M) n [some (vr 152), some (vi r), some (vi i), some (vi d), some (vi u), some (vi v), some (vi (dnA X - j)), q7, q8] 151 [] 0 0) → G κ (YO (yS 5 s (itI (fun p S => if bAnd (bShr (dnA X - j) p) 1 = 1 then pGo ((xP X).2.1 p) ((xP X).2.2.1 p) ((xP X).2.2.2 p) S else S) (xC X) p) b) M) n [some (vr 152), some (vi r), some (vi i), some (vi d), some (vi u), some (vi v), some (vi (dnA X - j)), some (vi p), q8] 113 [] 0 0 := by
    intro z
    induction z using Nat.strongRecOn with
    | ind z ih =>
      intro p j u v s b q8 hR h1 hz hk
      have e5 : s.2 3 5 = (xP X).1 := by rw [hR.tab, pq_b (Or.inr (Or.inl rfl))]; exact hR.bk.2.2.1
      have hSp : sfOK (itI (fun p S => if bAnd (bShr (dnA X - j) p) 1 = 1 then pGo ((xP X).2.1 p) ((xP X).2.2.1 p) ((xP X).2.2.2 p) S else S) (xC X) p) := psSome_okI hO.ps hO.cs h1.1 h1.2
      have es := itI_s (fun p S => if bAnd (bShr (dnA X - j) p) 1 = 1 then pGo ((xP X).2.1 p) ((xP X).2.2.1 p) ((xP X).2.2.2 p) S else S) (xC X) h1.1
      refine s_w7_iload C dX12_done_113 ?_
      refine s_n0_aload C dX12_done_115 ?_
      refine g_get C fd_X12_19_12 dX12_done_116 (YO_o ..) rfl ?_
      refine g_iconst C dX12_done_119 ?_
      refine g_iald C dX12_done_120 (YO_a3 ..) (by omega) ?_
      rw [show (yS 5 s (itI (fun p S => if bAnd (bShr (dnA X - j) p) 1 = 1 then pGo ((xP X).2.1 p) ((xP X).2.2.1 p) ((xP X).2.2.2 p) S else S) (xC X) p) b).2 3 5 = (xP X).1 from e5]
      refine g_icmp_ge 151 C dX12_done_121 (by decide) (by first | assumption | (unfold iR; omega)) (by first | assumption | (unfold iR; omega)) (fun c121 => ?_) (fun c121 => ?_)
      · have ep : p = (xP X).1 := by omega
        subst ep
        exact hk _
      · refine s_w6_iload C dX12_done_124 ?_
        refine s_w7_iload C dX12_done_126 ?_
        refine g_ishr C dX12_done_128 ?_
        refine g_iconst C dX12_done_129 ?_
        refine g_iand C dX12_done_130 ?_
        refine g_iconst C dX12_done_131 ?_
        refine g_icmp_ne 145 C dX12_done_132 (by decide) (by exact bAnd_R _ _) (by unfold iR; omega) (fun c132 => ?_) (fun c132 => ?_)
        · refine s_w7_iinc C dX12_done_145 rfl ?_
          refine g_goto 113 C dX12_done_148 (by decide) ?_
          rw [if_neg c132] at es
          have := ih _ (by omega) (p + 1) j u v s b q8 hR (by omega) rfl hk
          rw [es] at this
          exact this
        · refine s_n0_aload C dX12_done_135 ?_
          refine s_n0_aload C dX12_done_136 ?_
          refine g_get C fd_X12_25_12 dX12_done_137 (YO_o ..) rfl ?_
          refine s_w7_iload C dX12_done_140 ?_
          refine g_invV C (ct_X12_pass_5 (ps := xP X) (p := p) hR.tab hR.bk hO.ps ⟨h1.1, by omega⟩ hSp) (YO_o ..) cv_X12_173_12 (rmk_ok (by decide) (by decide) (by decide) (by decide)) (Nat.le_of_ble_eq_true rfl) rfl dX12_done_142 rfl (q_v0 ?_)
          refine s_w7_iinc C dX12_done_145 rfl ?_
          refine g_goto 113 C dX12_done_148 (by decide) ?_
          rw [if_pos c132] at es
          have := ih _ (by omega) (p + 1) j u v s b q8 hR (by omega) rfl hk
          rw [es] at this
          exact this
  have l2 : ∀ (z : Nat) (c A j u v : Int) (s : YT) (b : Int → Int), yR (xS X 4 0) s b → (0 ≤ r ∧ r ≤ 7) → (0 ≤ i ∧ 0 ≤ (15 : Int) ∧ 15 ≤ (X.2.2.1 r).2.2 - i) → A = allI (fun c => decide ((X.2.2.1 r).1 (i + c) = (psSome (xP X) (dnA X - j) (xC X)).1 c)) c → 0 ≤ c ∧ c ≤ 15 → (15 - c).toNat = z → G κ (YO (yS 5 s (psSome (xP X) (dnA X - j) (xC X)) b) M) n [some (vr 152), some (vi r), some (vi i), some (vi d), some (vi u), some (vi v), some (vi (dnA X - j)), some (vi (allI (fun c => decide ((X.2.2.1 r).1 (i + c) = (psSome (xP X) (dnA X - j) (xC X)).1 c)) 15)), some (vi 15)] 209 [] 0 0 → G κ (YO (yS 5 s (psSome (xP X) (dnA X - j) (xC X)) b) M) n [some (vr 152), some (vi r), some (vi i), some (vi d), some (vi u), some (vi v), some (vi (dnA X - j)), some (vi A), some (vi c)] 157 [] 0 0 := by
    intro z
    induction z using Nat.strongRecOn with
    | ind z ih =>
      intro c A j u v s b hR q1 q2 hA0 h1 hz hk
      have hrk : rowOK (X.2.2.1 r) := hO.rw r q1.1 (by omega)
      have hr40 := hrk.2.2.2.2
      have hS2 : sfOK (psSome (xP X) (dnA X - j) (xC X)) := psSome_ok hO.ps hO.cs
      have hA01 := allI_b (fun c => decide ((X.2.2.1 r).1 (i + c) = (psSome (xP X) (dnA X - j) (xC X)).1 c)) h1.1
      rw [← hA0] at hA01
      have es : allI (fun c => decide ((X.2.2.1 r).1 (i + c) = (psSome (xP X) (dnA X - j) (xC X)).1 c)) (c + 1) = (if A = 0 then 0 else if decide ((X.2.2.1 r).1 (i + c) = (psSome (xP X) (dnA X - j) (xC X)).1 c) then 1 else 0) := by rw [hA0]; exact itI_s _ _ h1.1
      refine s_w8_iload C dX12_done_157 ?_
      refine g_bipush C dX12_done_159 (by decide) ?_
      refine g_icmp_ge 209 C dX12_done_161 (by decide) (by first | assumption | (unfold iR; omega)) (by first | assumption | (unfold iR; omega)) (fun c161 => ?_) (fun c161 => ?_)
      · have ec : c = 15 := by omega
        subst ec
        rw [hA0]
        exact hk
      · have hcb := hS2.1 c h1.1 (by omega)
        have hit := hrk.1 (i + c)
        refine s_w7_iload C dX12_done_164 ?_
        refine g_if_eq 200 C dX12_done_166 (by decide) (by unfold iR; omega) (fun c166 => ?_) (fun c166 => ?_)
        · refine g_iconst C dX12_done_200 ?_
          refine s_w7_istore C dX12_done_201 rfl ?_
          refine s_w8_iinc C dX12_done_203 rfl ?_
          refine g_goto 157 C dX12_done_206 (by decide) ?_
          rw [if_pos c166] at es
          exact ih _ (by omega) (c + 1) _ j u v s b hR q1 q2 es.symm (by omega) rfl hk
        · refine s_n0_aload C dX12_done_169 ?_
          refine g_get C fd_X12_25_12 dX12_done_170 (YO_o ..) rfl ?_
          refine g_bipush C dX12_done_173 (by decide) ?_
          refine s_w8_iload C dX12_done_175 ?_
          refine g_iadd C dX12_done_177 ?_
          refine g_iald C dX12_done_178 (YO_a5 ..) (by omega) ?_
          show G κ _ n _ _ (vi (pk (psSome (xP X) (dnA X - j) (xC X)) b (6 + c)) :: _) _ _
          rw [pS_f (by omega)]
          refine s_n0_aload C dX12_done_179 ?_
          refine g_get C fd_X12_16_12 dX12_done_180 (YO_o ..) rfl ?_
          refine g_bipush C dX12_done_183 (by decide) ?_
          refine s_n1_iload C dX12_done_185 ?_
          refine g_imul C dX12_done_186 ?_
          refine s_n2_iload C dX12_done_187 ?_
          refine g_iadd C dX12_done_188 ?_
          refine s_w8_iload C dX12_done_189 ?_
          refine g_iadd C dX12_done_191 ?_
          refine g_iald C dX12_done_192 (YO_a2 ..) (by omega) ?_
          rw [show (yS 5 s (psSome (xP X) (dnA X - j) (xC X)) b).2 2 (40 * r + i + c) = (X.2.2.1 r).1 (i + c) by rw [show 40 * r + i + c = 40 * r + (i + c) by omega]; exact (hR.rw r q1.1 (by omega)).2 (i + c) (by omega) (by omega)]
          refine g_icmp_ne 200 C dX12_done_193 (by decide) (by unfold iR; omega) (by exact hit) (fun c193 => ?_) (fun c193 => ?_)
          · refine g_iconst C dX12_done_200 ?_
            refine s_w7_istore C dX12_done_201 rfl ?_
            refine s_w8_iinc C dX12_done_203 rfl ?_
            refine g_goto 157 C dX12_done_206 (by decide) ?_
            rw [if_neg c166, decide_eq_false (fun q => c193 q.symm)] at es
            exact ih _ (by omega) (c + 1) _ j u v s b hR q1 q2 es.symm (by omega) rfl hk
          · refine g_iconst C dX12_done_196 ?_
            refine g_goto 201 C dX12_done_197 (by decide) ?_
            refine s_w7_istore C dX12_done_201 rfl ?_
            refine s_w8_iinc C dX12_done_203 rfl ?_
            refine g_goto 157 C dX12_done_206 (by decide) ?_
            rw [if_neg c166, decide_eq_true c193.symm] at es
            exact ih _ (by omega) (c + 1) _ j u v s b hR q1 q2 es.symm (by omega) rfl hk
  have lp : ∀ (z : Nat) (j : Int) (s : YT) (b : Int → Int) (q7 q8 : Option gV), yR (xS X 4 0) s b → ¬ X.1 0 = 0 → (0 ≤ r ∧ r ≤ 7) → (0 ≤ d ∧ d ≤ 1) → ¬ (X.2.2.1 r).2.2 = -1 → (0 ≤ i ∧ 0 ≤ (15 : Int) ∧ 15 ≤ (X.2.2.1 r).2.2 - i) → 0 ≤ j ∧ j ≤ dnA X + 1 → (dnA X + 1 - j).toNat = z → G κ (YO s M) n [some (vr 152), some (vi r), some (vi i), some (vi d), some (vi (dnN X r i j).1), some (vi (dnN X r i j).2), some (vi (dnA X - j)), q7, q8] 101 [] 0 0 := by
    intro z
    induction z using Nat.strongRecOn with
    | ind z ih =>
      intro j s b q7 q8 hR q1 q2 q3 q4 q5 h1 hz
      have htb := allI_b (fun c => decide ((X.2.2.1 r).1 (i + c) = (psSome (xP X) (dnA X - j) (xC X)).1 c)) (i := 15) (by decide)
      have es : dnN X r i (j + 1) = (if dnT X r i (dnA X - j) then ((dnN X r i j).1 + 1, dnA X - j) else dnN X r i j) := itI_s _ _ h1.1
      refine s_w6_iload C dX12_done_101 ?_
      refine g_if_lt 244 C dX12_done_103 (by decide) (by unfold iR; omega) (fun c103 => ?_) (fun c103 => ?_)
      · refine s_n3_iload C dX12_done_244 ?_
        refine g_if_ne 253 C dX12_done_245 (by decide) (by first | assumption | (unfold iR; omega)) (fun c245 => ?_) (fun c245 => ?_)
        · refine s_w5_iload C dX12_done_253 ?_
          refine g_iret C E dX12_done_255 (by decide) ?_
          unfold xDone
          rw [if_neg q1, if_neg (not_not_intro q2), if_neg (not_not_intro q3), if_neg q4, if_neg (not_not_intro q5), if_neg c245]
          have ej : j = dnA X + 1 := by omega
          subst ej
          exact ⟨rfl, rfl, _, rfl, b, hR⟩
        · refine s_w4_iload C dX12_done_248 ?_
          refine g_goto 255 C dX12_done_250 (by decide) ?_
          refine g_iret C E dX12_done_255 (by decide) ?_
          unfold xDone
          rw [if_neg q1, if_neg (not_not_intro q2), if_neg (not_not_intro q3), if_neg q4, if_neg (not_not_intro q5), if_pos c245]
          have ej : j = dnA X + 1 := by omega
          subst ej
          exact ⟨rfl, rfl, _, rfl, b, hR⟩
      · refine s_n0_aload C dX12_done_106 ?_
        refine g_invV C (ct_X12_layThen (S := xC X) hR.tab) (YO_o ..) cv_X12_211_12 (rmk_ok (by decide) (by decide) (by decide) (by decide)) (Nat.le_of_ble_eq_true rfl) rfl dX12_done_107 rfl (q_v0 ?_)
        refine g_iconst C dX12_done_110 ?_
        refine s_w7_istore C dX12_done_111 rfl ?_
        refine l1 _ 0 j _ _ s b _ hR (by omega) rfl (fun q7 => ?_)
        refine g_iconst C dX12_done_151 ?_
        refine s_w7_istore C dX12_done_152 rfl ?_
        refine g_iconst C dX12_done_154 ?_
        refine s_w8_istore C dX12_done_155 rfl ?_
        refine l2 _ 0 1 j _ _ s b hR q2 q5 rfl (by omega) rfl ?_
        refine s_w4_iload C dX12_done_209 ?_
        refine s_w7_iload C dX12_done_211 ?_
        refine g_if_eq 220 C dX12_done_213 (by decide) (by unfold iR; omega) (fun c213 => ?_) (fun c213 => ?_)
        · refine g_iconst C dX12_done_220 ?_
          refine g_iadd C dX12_done_221 ?_
          refine s_w4_istore C dX12_done_222 rfl ?_
          refine s_w7_iload C dX12_done_224 ?_
          refine g_if_eq 234 C dX12_done_226 (by decide) (by unfold iR; omega) (fun c226 => ?_) (fun c226 => by exfalso; omega)
          refine s_w5_iload C dX12_done_234 ?_
          refine s_w5_istore C dX12_done_236 rfl ?_
          refine s_w6_iinc C dX12_done_238 rfl ?_
          refine g_goto 101 C dX12_done_241 (by decide) ?_
          have et : dnT X r i (dnA X - j) = false := decide_eq_false (by show ¬ allI _ 15 = 1; rw [c213]; decide)
          rw [et] at es
          have es : dnN X r i (j + 1) = dnN X r i j := es
          have := ih _ (by omega) (j + 1) _ b (some (vi (allI (fun c => decide ((X.2.2.1 r).1 (i + c) = (psSome (xP X) (dnA X - j) (xC X)).1 c)) 15))) (some (vi 15)) (hR.t5 (psSome (xP X) (dnA X - j) (xC X)) b) q1 q2 q3 q4 q5 (by omega) rfl
          rw [es] at this
          rw [Int.add_zero]
          rwa [show dnA X - (j + 1) = dnA X - j + -1 by omega] at this
        · refine g_iconst C dX12_done_216 ?_
          refine g_goto 221 C dX12_done_217 (by decide) ?_
          refine g_iadd C dX12_done_221 ?_
          refine s_w4_istore C dX12_done_222 rfl ?_
          refine s_w7_iload C dX12_done_224 ?_
          refine g_if_eq 234 C dX12_done_226 (by decide) (by unfold iR; omega) (fun c226 => by exfalso; omega) (fun c226 => ?_)
          refine s_w6_iload C dX12_done_229 ?_
          refine g_goto 236 C dX12_done_231 (by decide) ?_
          refine s_w5_istore C dX12_done_236 rfl ?_
          refine s_w6_iinc C dX12_done_238 rfl ?_
          refine g_goto 101 C dX12_done_241 (by decide) ?_
          have et : dnT X r i (dnA X - j) = true := decide_eq_true (htb.resolve_left c213)
          rw [et, if_pos rfl] at es
          have := ih _ (by omega) (j + 1) _ b (some (vi (allI (fun c => decide ((X.2.2.1 r).1 (i + c) = (psSome (xP X) (dnA X - j) (xC X)).1 c)) 15))) (some (vi 15)) (hR.t5 (psSome (xP X) (dnA X - j) (xC X)) b) q1 q2 q3 q4 q5 (by omega) rfl
          rw [es] at this
          rwa [show dnA X - (j + 1) = dnA X - j + -1 by omega] at this
  refine s_n0_aload C dX12_done_0 ?_
  refine g_iconst C dX12_done_1 ?_
  refine g_put C fp_X12_44_12 dX12_done_2 (YO_o ..) (Nat.le_of_ble_eq_true rfl) (gfit_i _) ?_
  rw [YO_p0]
  obtain ⟨b, hR⟩ := h0
  have hR := hR.th 0
  generalize ((fu s0.1 0 0, s0.2) : YT) = s at hR ⊢
  refine s_n0_aload C dX12_done_5 ?_
  refine g_invV C (ct_X12_isThere hR.tab hR.bk hO.td) (YO_o ..) cv_X12_177_12 (rmk_ok (by decide) (by decide) (by decide) (by decide)) (Nat.le_of_ble_eq_true rfl) rfl dX12_done_6 rfl (q_r0 ?_)
  refine g_tifne 15 C dX12_done_9 (by decide)  (fun c9 => ?_) (fun c9 => ?_)
  · refine s_n1_iload C dX12_done_15 ?_
    refine g_invS C (ct_X12_isRow (v := r) (by assumption)) cs_X12_58 (rmk_ok (by decide) (by decide) (by decide) (by decide)) (Nat.le_of_ble_eq_true rfl) rfl dX12_done_16 rfl (q_r0 ?_)
    refine g_bifeq 32 C dX12_done_19 (by decide)  (fun c19 => ?_) (fun c19 => ?_)
    · refine g_ldc (-1000001) C wd_609 dX12_done_32 ?_
      refine g_iret C E dX12_done_34 (by decide) ?_
      unfold xDone
      rw [if_neg c9, if_pos c19]
      exact ⟨rfl, rfl, _, rfl, b, hR⟩
    · refine s_n3_iload C dX12_done_22 ?_
      refine g_i2l C dX12_done_23 (by first | assumption | (unfold iR; omega)) ?_
      refine g_lconst0 C dX12_done_24 ?_
      refine g_lconst1 C dX12_done_25 ?_
      refine g_invS C (ct_X12_in (v := d) (lo := 0) (hi := 1) (by unfold iR at *; unfold lR; omega) (by unfold iR at *; unfold lR; omega) (by unfold iR at *; unfold lR; omega)) cs_X12_54 (rmk_ok (by decide) (by decide) (by decide) (by decide)) (Nat.le_of_ble_eq_true rfl) rfl dX12_done_26 rfl (q_r0 ?_)
      refine g_bifne 35 C dX12_done_29 (by decide)  (fun c29 => ?_) (fun c29 => ?_)
      · have hr : yRow (X.2.2.1 r) s r := hR.rw r c19.1 (by omega)
        have hrk : rowOK (X.2.2.1 r) := hO.rw r c19.1 (by omega)
        have hrl := hrk.2
        have hr1 := hr.1
        have hlb : -1 ≤ s.2 0 r ∧ s.2 0 r ≤ 2 := by omega
        have lc : ∀ x z : Int, (0 < lCmp x z ↔ z < x) ∧ (lCmp x z ≤ 0 ↔ x ≤ z) := fun x z => by unfold lCmp; (repeat' split) <;> omega
        refine s_n0_aload C dX12_done_35 ?_
        refine g_get C fd_X12_7_12 dX12_done_36 (YO_o ..) rfl ?_
        refine s_n1_iload C dX12_done_39 ?_
        refine g_iald C dX12_done_40 (YO_a0 ..) (by omega) ?_
        refine g_if_ge 50 C dX12_done_41 (by decide) (by first | assumption | (unfold iR; omega)) (fun c41 => ?_) (fun c41 => ?_)
        · refine s_n2_iload C dX12_done_50 ?_
          refine g_if_lt 71 C dX12_done_51 (by decide) (by first | assumption | (unfold iR; omega)) (fun c51 => ?_) (fun c51 => ?_)
          · refine s_n0_aload C dX12_done_71 ?_
            refine g_iconst C dX12_done_72 ?_
            refine g_invV C (ct_X12_finding) (YO_o ..) cv_X12_65_12 (rmk_ok (by decide) (by decide) (by decide) (by decide)) (Nat.le_of_ble_eq_true rfl) rfl dX12_done_73 rfl (q_r0 ?_)
            have hR := hR.sta 2
            refine g_iret C E dX12_done_76 (by decide) ?_
            unfold xDone
            rw [if_neg c9, if_neg (not_not_intro c19), if_neg (not_not_intro c29), if_neg (by omega), if_pos (fun q => by omega)]
            exact ⟨rfl, rfl, _, rfl, b, hR⟩
          · refine s_n2_iload C dX12_done_54 ?_
            refine g_i2l C dX12_done_55 (by first | assumption | (unfold iR; omega)) ?_
            refine g_ldc2 (15) C wd_772 dX12_done_56 ?_
            refine g_ladd C dX12_done_59 ?_
            refine s_n0_aload C dX12_done_60 ?_
            refine g_get C fd_X12_13_12 dX12_done_61 (YO_o ..) rfl ?_
            refine s_n1_iload C dX12_done_64 ?_
            refine g_iald C dX12_done_65 (YO_a1 ..) (by omega) ?_
            refine g_i2l C dX12_done_66 (by unfold iR; omega) ?_
            refine g_lcmp C dX12_done_67 (by unfold iR at *; unfold lR; omega) (by unfold iR at *; unfold lR; omega) ?_
            refine g_if_le 77 C dX12_done_68 (by decide) (by exact lCmp_R _ _) (fun c68 => ?_) (fun c68 => ?_)
            · have q5 : 0 ≤ i ∧ 0 ≤ (15 : Int) ∧ 15 ≤ (X.2.2.1 r).2.2 - i := by have := (lc (i + 15) (s.2 1 r)).2; omega
              have q4 : ¬ (X.2.2.1 r).2.2 = -1 := by omega
              refine s_n0_aload C dX12_done_77 ?_
              refine g_iconst C dX12_done_78 ?_
              refine g_put C fp_X12_48_12 dX12_done_79 (YO_o ..) (Nat.le_of_ble_eq_true rfl) (gfit_i _) ?_
              rw [YO_p1]
              have hR := hR.sta 0
              have hO := hO.xs 0
              generalize ((fu s.1 1 0, s.2) : YT) = s at hR ⊢
              have e5 : s.2 3 5 = (xP X).1 := by rw [hR.tab, pq_b (Or.inr (Or.inl rfl))]; exact hR.bk.2.2.1
              refine g_iconst C dX12_done_82 ?_
              refine s_w4_istore C dX12_done_83 rfl ?_
              refine g_ldc (-1000000) C wd_621 dX12_done_85 ?_
              refine s_w5_istore C dX12_done_87 rfl ?_
              refine g_iconst C dX12_done_89 ?_
              refine s_n0_aload C dX12_done_90 ?_
              refine g_get C fd_X12_19_12 dX12_done_91 (YO_o ..) rfl ?_
              refine g_iconst C dX12_done_94 ?_
              refine g_iald C dX12_done_95 (YO_a3 ..) (by omega) ?_
              rw [e5]
              refine g_ishl C dX12_done_96 ?_
              refine g_iconst C dX12_done_97 ?_
              refine g_isub C dX12_done_98 ?_
              refine s_w6_istore C dX12_done_99 rfl ?_
              have := lp _ 0 s b none none hR c9 c19 c29 q4 q5 (by omega) rfl
              rwa [show dnA X - 0 = bShl 1 (xP X).1 - 1 by omega] at this
            · refine s_n0_aload C dX12_done_71 ?_
              refine g_iconst C dX12_done_72 ?_
              refine g_invV C (ct_X12_finding) (YO_o ..) cv_X12_65_12 (rmk_ok (by decide) (by decide) (by decide) (by decide)) (Nat.le_of_ble_eq_true rfl) rfl dX12_done_73 rfl (q_r0 ?_)
              have hR := hR.sta 2
              refine g_iret C E dX12_done_76 (by decide) ?_
              unfold xDone
              rw [if_neg c9, if_neg (not_not_intro c19), if_neg (not_not_intro c29), if_neg (by omega), if_pos (fun q => by have := (lc (i + 15) (s.2 1 r)).1; omega)]
              exact ⟨rfl, rfl, _, rfl, b, hR⟩
        · refine s_n0_aload C dX12_done_44 ?_
          refine g_iconst C dX12_done_45 ?_
          refine g_invV C (ct_X12_finding) (YO_o ..) cv_X12_65_12 (rmk_ok (by decide) (by decide) (by decide) (by decide)) (Nat.le_of_ble_eq_true rfl) rfl dX12_done_46 rfl (q_r0 ?_)
          have hR := hR.sta 1
          refine g_iret C E dX12_done_49 (by decide) ?_
          unfold xDone
          rw [if_neg c9, if_neg (not_not_intro c19), if_neg (not_not_intro c29), if_pos (by omega)]
          exact ⟨rfl, rfl, _, rfl, b, hR⟩
      · refine g_ldc (-1000001) C wd_609 dX12_done_32 ?_
        refine g_iret C E dX12_done_34 (by decide) ?_
        unfold xDone
        rw [if_neg c9, if_neg (not_not_intro c19), if_pos c29]
        exact ⟨rfl, rfl, _, rfl, b, hR⟩
  · refine g_ldc (-1000002) C wd_706 dX12_done_12 ?_
    refine g_iret C E dX12_done_14 (by decide) ?_
    unfold xDone
    rw [if_pos c9]
    exact ⟨rfl, rfl, _, rfl, b, hR⟩
