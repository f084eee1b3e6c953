/-! PadPolishModel: images, kinds, counts, asks -/
set_option maxRecDepth 20000 in
theorem ct_X12_image {X : XT} {s0 : YT} {M : gM} {n : Int} (h0 : yRel X s0) (hO : xOK X) {a : Int} (ha : iR a) : CT yX12_image cX12_image 3 (some .int) (rmk 1 0 0) [vr 152, vi a] (YO s0 M) n (yP (xImage X a) M n) := by
  refine CT.of (by decide) (fun _ => Nat.le_of_ble_eq_true rfl) (fun κ C E => ?_)
  show G κ (YO s0 M) n [some (vr 152), some (vi a), none] 0 [] 0 0
  have hc := hO.c
  have htd := hO.td
  have lp : ∀ (z : Nat) (i : Int) (s : YT) (b : Int → Int), yR X s b → (0 ≤ a ∧ a ≤ 1) → ¬ X.1 0 = 0 → 0 ≤ i ∧ i ≤ 95 → (95 - i).toNat = z → G κ (YO (s.1, fu s.2 9 (cpz (s.2 3) (s.2 9) (95 * a) i)) M) n [some (vr 152), some (vi a), some (vi i)] 30 [] 0 0 := by
    intro z
    induction z using Nat.strongRecOn with
    | ind z ih =>
      intro i s b hR q1 q2 h1 hz
      refine s_n2_iload C dX12_image_30 ?_
      refine g_bipush C dX12_image_31 (by decide) ?_
      refine g_icmp_ge 59 C dX12_image_33 (by decide) (by first | assumption | (unfold iR; omega)) (by first | assumption | (unfold iR; omega)) (fun c33 => ?_) (fun c33 => ?_)
      · refine s_n0_aload C dX12_image_59 ?_
        refine g_get C fd_X12_34_12 dX12_image_60 (YO_o ..) rfl ?_
        refine s_n1_iload C dX12_image_63 ?_
        refine g_iconst C dX12_image_64 ?_
        refine g_zast C dX12_image_65 (YO_a8 ..) (by omega) (by exact Or.inr rfl) ?_
        rw [YO_u8]
        refine g_iconst C dX12_image_66 ?_
        refine g_iret C E dX12_image_67 (by decide) ?_
        have ei : i = 95 := by omega
        subst ei
        unfold xImage
        rw [if_neg (not_not_intro q1), if_neg q2]
        refine ⟨rfl, rfl, _, rfl, b, ?_⟩
        refine ⟨hR.st, hR.rw, ?_, ?_, hR.ac, ?_, hR.tl, hR.tp, hR.la, ?_, hR.tn, hR.tr⟩
        · show s.2 3 = pk (fu X.2.2.2.1 (27 + a) (xC X) (25 + X.1 5)) b
          rw [fu_ne _ _ (by omega)]
          exact hR.tab
        · show bOK (X.1 0) (fu X.2.2.2.2.2 (2 + a) (xP X, xK X) (X.1 5)).1 (fu X.2.2.2.2.2 (2 + a) (xP X, xK X) (X.1 5)).2 b
          rw [fu_ne _ _ (by omega)]
          exact hR.bk
        · intro j j0 j1 k k0 k1
          show s.2 6 (95 * j + k) = pk (fu X.2.2.2.1 (27 + a) (xC X) (actIx X j)) b k
          rw [fu_ne _ _ (by unfold actIx; omega)]
          exact hR.wa j j0 j1 k k0 k1
        · intro k k0 k1
          obtain ⟨e1, e2⟩ := hR.ke k k0 k1
          show up (s.2 8) a 1 k = up (X.2.1 2) a 1 k ∧ (up (X.2.1 2) a 1 k = 1 → X.1 0 = 1 ∧ ∃ bk, bOK 1 (fu X.2.2.2.2.2 (2 + a) (xP X, xK X) (2 + k)).1 (fu X.2.2.2.2.2 (2 + a) (xP X, xK X) (2 + k)).2 bk ∧ ∀ i, 0 ≤ i → i < 95 → cpz (s.2 3) (s.2 9) (95 * a) 95 (95 * k + i) = pk (fu X.2.2.2.1 (27 + a) (xC X) (27 + k)) bk i)
          by_cases ek : k = a
          · subst ek
            rw [up_same, up_same, fu_same, fu_same]
            refine ⟨rfl, fun _ => ⟨by omega, b, ?_, fun i i0 i1 => ?_⟩⟩
            · have := hR.bk
              rwa [show X.1 0 = 1 by omega] at this
            · unfold cpz
              rw [if_pos (by omega), show 95 * k + i - 95 * k = i by omega, hR.tab]
          · rw [up_ne _ _ ek, up_ne _ _ ek, fu_ne _ _ (by omega), fu_ne _ _ (by omega)]
            refine ⟨e1, fun q => ?_⟩
            obtain ⟨u1, bk, u2, u3⟩ := e2 q
            refine ⟨u1, bk, u2, fun i i0 i1 => ?_⟩
            unfold cpz
            rw [if_neg (by omega)]
            exact u3 i i0 i1
      · refine s_n0_aload C dX12_image_36 ?_
        refine g_get C fd_X12_38_12 dX12_image_37 (YO_o ..) rfl ?_
        refine g_bipush C dX12_image_40 (by decide) ?_
        refine s_n1_iload C dX12_image_42 ?_
        refine g_imul C dX12_image_43 ?_
        refine s_n2_iload C dX12_image_44 ?_
        refine g_iadd C dX12_image_45 ?_
        refine s_n0_aload C dX12_image_46 ?_
        refine g_get C fd_X12_19_12 dX12_image_47 (YO_o ..) rfl ?_
        refine s_n2_iload C dX12_image_50 ?_
        refine g_iald C dX12_image_51 (YO_a3 ..) (by omega) ?_
        refine g_iast C dX12_image_52 (YO_a9 ..) (by omega) ?_
        rw [YO_u9]
        show G κ (YO (s.1, fu (fu s.2 9 (cpz (s.2 3) (s.2 9) (95 * a) i)) 9 (up (cpz (s.2 3) (s.2 9) (95 * a) i) (95 * a + i) (s.2 3 i))) M) n _ _ _ _ _
        rw [fu_fu, cpz_s _ _ _ h1.1]
        refine s_w2_iinc C dX12_image_53 rfl ?_
        refine g_goto 30 C dX12_image_56 (by decide) ?_
        exact ih _ (by omega) (i + 1) s b hR q1 q2 (by omega) rfl
  refine s_n0_aload C dX12_image_0 ?_
  refine g_iconst C dX12_image_1 ?_
  refine g_put C fp_X12_44_12 dX12_image_2 (YO_o ..) (Nat.le_of_ble_eq_true rfl) (gfit_i _) ?_
  rw [YO_p0]
  obtain ⟨b, hR⟩ := h0
  have hR := hR.th 0
  generalize ((fu s0.1 0 0, s0.2) : YT) = s at hR ⊢
  refine s_n1_iload C dX12_image_5 ?_
  refine g_i2l C dX12_image_6 (by first | assumption | (unfold iR; omega)) ?_
  refine g_lconst0 C dX12_image_7 ?_
  refine g_lconst1 C dX12_image_8 ?_
  refine g_invS C (ct_X12_in (v := a) (lo := 0) (hi := 1) (by unfold iR at *; unfold lR; omega) (by unfold iR at *; unfold lR; omega) (by unfold iR at *; unfold lR; omega)) cs_X12_54 (rmk_ok (by decide) (by decide) (by decide) (by decide)) (Nat.le_of_ble_eq_true rfl) rfl dX12_image_9 rfl (q_r0 ?_)
  refine g_bifne 18 C dX12_image_12 (by decide)  (fun c12 => ?_) (fun c12 => ?_)
  · refine s_n0_aload C dX12_image_18 ?_
    refine g_invV C (ct_X12_isThere hR.tab hR.bk hO.td) (YO_o ..) cv_X12_177_12 (rmk_ok (by decide) (by decide) (by decide) (by decide)) (Nat.le_of_ble_eq_true rfl) rfl dX12_image_19 rfl (q_r0 ?_)
    refine g_tifne 28 C dX12_image_22 (by decide)  (fun c22 => ?_) (fun c22 => ?_)
    · refine g_iconst C dX12_image_28 ?_
      refine s_n2_istore C dX12_image_29 rfl ?_
      have := lp _ 0 s b hR c12 c22 (by omega) rfl
      rw [cpz_0, fu_id] at this
      exact this
    · refine g_ldc (-1000002) C wd_706 dX12_image_25 ?_
      refine g_iret C E dX12_image_27 (by decide) ?_
      unfold xImage
      rw [if_neg (not_not_intro c12), if_pos c22]
      exact ⟨rfl, rfl, _, rfl, b, hR⟩
  · refine g_ldc (-1000001) C wd_609 dX12_image_15 ?_
    refine g_iret C E dX12_image_17 (by decide) ?_
    unfold xImage
    rw [if_pos c12]
    exact ⟨rfl, rfl, _, rfl, b, hR⟩
set_option maxRecDepth 20000 in
theorem ct_X12_restore {X : XT} {s0 : YT} {M : gM} {n : Int} (h0 : yRel X s0) (hO : xOK X) {a : Int} (ha : iR a) : CT yX12_restore cX12_restore 3 (some .int) (rmk 1 0 0) [vr 152, vi a] (YO s0 M) n (yP (xRestore X a) M n) := by
  refine CT.of (by decide) (fun _ => Nat.le_of_ble_eq_true rfl) (fun κ C E => ?_)
  show G κ (YO s0 M) n [some (vr 152), some (vi a), none] 0 [] 0 0
  have hc := hO.c
  have htd := hO.td
  have lp : ∀ (z : Nat) (i : Int) (s : YT) (b : Int → Int), yR X s b → (0 ≤ a ∧ a ≤ 1) → ¬ X.2.1 2 a = 0 → X.2.1 2 a = 1 → 0 ≤ i ∧ i ≤ 95 → (95 - i).toNat = z → G κ (YO (s.1, fu s.2 3 (mix (fun q => s.2 9 (95 * a + q)) (s.2 3) i)) M) n [some (vr 152), some (vi a), some (vi i)] 32 [] 0 0 := by
    intro z
    induction z using Nat.strongRecOn with
    | ind z ih =>
      intro i s b hR q1 q2 q3 h1 hz
      refine s_n2_iload C dX12_restore_32 ?_
      refine g_bipush C dX12_restore_33 (by decide) ?_
      refine g_icmp_ge 61 C dX12_restore_35 (by decide) (by first | assumption | (unfold iR; omega)) (by first | assumption | (unfold iR; omega)) (fun c35 => ?_) (fun c35 => ?_)
      · have ei : i = 95 := by omega
        subst ei
        obtain ⟨u1, bk, u2, u3⟩ := (hR.ke a q1.1 (by omega)).2 q3
        rw [← YO_u3]
        refine G.arr (f' := pk (X.2.2.2.1 (27 + a)) bk) (fun j j0 j1 => ?_) ?_
        · rw [mix_in _ _ j0 j1]
          exact u3 j j0 j1
        rw [YO_u3]
        refine s_n0_aload C dX12_restore_61 ?_
        refine g_iconst C dX12_restore_62 ?_
        refine g_put C fp_X12_150_12 dX12_restore_63 (YO_o ..) (Nat.le_of_ble_eq_true rfl) (gfit_i _) ?_
        rw [YO_p9]
        refine g_iconst C dX12_restore_66 ?_
        refine g_iret C E dX12_restore_67 (by decide) ?_
        unfold xRestore
        rw [if_neg (not_not_intro q1), if_neg q2]
        refine ⟨rfl, rfl, _, rfl, bk, ?_⟩
        refine ⟨hR.st, hR.rw, ?_, ?_, rfl, ?_, hR.tl, hR.tp, hR.la, ?_, hR.tn, hR.tr⟩
        · show pk _ bk = pk (fu X.2.2.2.1 (25 + X.1 5) _ (25 + X.1 5)) bk
          rw [fu_same]
        · show bOK (X.1 0) (fu X.2.2.2.2.2 (X.1 5) (X.2.2.2.2.2 (2 + a)) (X.1 5)).1 (fu X.2.2.2.2.2 (X.1 5) (X.2.2.2.2.2 (2 + a)) (X.1 5)).2 bk
          rw [fu_same, u1]
          exact u2
        · intro j j0 j1
          have j1 : j < 0 := j1
          omega
        · intro k k0 k1
          obtain ⟨e1, e2⟩ := hR.ke k k0 k1
          refine ⟨e1, fun q => ?_⟩
          obtain ⟨v1, b2, v2, v3⟩ := e2 q
          refine ⟨v1, b2, ?_, fun i i0 i1 => ?_⟩
          · show bOK 1 (fu X.2.2.2.2.2 (X.1 5) (X.2.2.2.2.2 (2 + a)) (2 + k)).1 (fu X.2.2.2.2.2 (X.1 5) (X.2.2.2.2.2 (2 + a)) (2 + k)).2 b2
            rw [fu_ne _ _ (by omega)]
            exact v2
          · show _ = pk (fu X.2.2.2.1 (25 + X.1 5) _ (27 + k)) b2 i
            rw [fu_ne _ _ (by omega)]
            exact v3 i i0 i1
      · refine s_n0_aload C dX12_restore_38 ?_
        refine g_get C fd_X12_19_12 dX12_restore_39 (YO_o ..) rfl ?_
        refine s_n2_iload C dX12_restore_42 ?_
        refine s_n0_aload C dX12_restore_43 ?_
        refine g_get C fd_X12_38_12 dX12_restore_44 (YO_o ..) rfl ?_
        refine g_bipush C dX12_restore_47 (by decide) ?_
        refine s_n1_iload C dX12_restore_49 ?_
        refine g_imul C dX12_restore_50 ?_
        refine s_n2_iload C dX12_restore_51 ?_
        refine g_iadd C dX12_restore_52 ?_
        refine g_iald C dX12_restore_53 (YO_a9 ..) (by omega) ?_
        refine g_iast C dX12_restore_54 (YO_a3 ..) (by omega) ?_
        rw [YO_u3]
        show G κ (YO (s.1, fu (fu s.2 3 (mix (fun q => s.2 9 (95 * a + q)) (s.2 3) i)) 3 (up (mix (fun q => s.2 9 (95 * a + q)) (s.2 3) i) i ((fun q => s.2 9 (95 * a + q)) i))) M) n _ _ _ _ _
        rw [fu_fu, mix_s _ _ h1.1]
        refine s_w2_iinc C dX12_restore_55 rfl ?_
        refine g_goto 32 C dX12_restore_58 (by decide) ?_
        exact ih _ (by omega) (i + 1) s b hR q1 q2 q3 (by omega) rfl
  refine s_n0_aload C dX12_restore_0 ?_
  refine g_iconst C dX12_restore_1 ?_
  refine g_put C fp_X12_44_12 dX12_restore_2 (YO_o ..) (Nat.le_of_ble_eq_true rfl) (gfit_i _) ?_
  rw [YO_p0]
  obtain ⟨b, hR⟩ := h0
  have hR := hR.th 0
  generalize ((fu s0.1 0 0, s0.2) : YT) = s at hR ⊢
  refine s_n1_iload C dX12_restore_5 ?_
  refine g_i2l C dX12_restore_6 (by first | assumption | (unfold iR; omega)) ?_
  refine g_lconst0 C dX12_restore_7 ?_
  refine g_lconst1 C dX12_restore_8 ?_
  refine g_invS C (ct_X12_in (v := a) (lo := 0) (hi := 1) (by unfold iR at *; unfold lR; omega) (by unfold iR at *; unfold lR; omega) (by unfold iR at *; unfold lR; omega)) cs_X12_54 (rmk_ok (by decide) (by decide) (by decide) (by decide)) (Nat.le_of_ble_eq_true rfl) rfl dX12_restore_9 rfl (q_r0 ?_)
  refine g_bifne 18 C dX12_restore_12 (by decide)  (fun c12 => ?_) (fun c12 => ?_)
  · have hik := hO.ik a c12.1 (by omega)
    refine s_n0_aload C dX12_restore_18 ?_
    refine g_get C fd_X12_34_12 dX12_restore_19 (YO_o ..) rfl ?_
    refine s_n1_iload C dX12_restore_22 ?_
    refine g_zald C dX12_restore_23 (YO_a8 ..) (by omega) ?_
    rw [(hR.ke a c12.1 (by omega)).1]
    refine g_if_ne 30 C dX12_restore_24 (by decide) (by first | assumption | (unfold iR; omega)) (fun c24 => ?_) (fun c24 => ?_)
    · refine g_iconst C dX12_restore_30 ?_
      refine s_n2_istore C dX12_restore_31 rfl ?_
      have := lp _ 0 s b hR c12 c24 (by omega) (by omega) rfl
      rw [mix_0, fu_id] at this
      exact this
    · refine g_ldc (-1000002) C wd_706 dX12_restore_27 ?_
      refine g_iret C E dX12_restore_29 (by decide) ?_
      unfold xRestore
      rw [if_neg (not_not_intro c12), if_pos c24]
      exact ⟨rfl, rfl, _, rfl, b, hR⟩
  · refine g_ldc (-1000001) C wd_609 dX12_restore_15 ?_
    refine g_iret C E dX12_restore_17 (by decide) ?_
    unfold xRestore
    rw [if_pos c12]
    exact ⟨rfl, rfl, _, rfl, b, hR⟩
set_option maxRecDepth 20000 in
theorem ct_X12_kind {X : XT} {s0 : YT} {M : gM} {n : Int} (h0 : yRel X s0) (hO : xOK X) {a : Int} (ha : iR a) : CT yX12_kind cX12_kind 2 (some .int) (rmk 2 0 0) [vr 152, vi a] (YO s0 M) n (yP (xKind X a) M n) := by
  refine CT.of (by decide) (fun _ => Nat.le_of_ble_eq_true rfl) (fun κ C E => ?_)
  show G κ (YO s0 M) n [some (vr 152), some (vi a)] 0 [] 0 0
  refine s_n0_aload C dX12_kind_0 ?_
  refine g_iconst C dX12_kind_1 ?_
  refine g_put C fp_X12_44_12 dX12_kind_2 (YO_o ..) (Nat.le_of_ble_eq_true rfl) (gfit_i _) ?_
  rw [YO_p0]
  obtain ⟨b, hR⟩ := h0
  have hR := hR.th 0
  generalize ((fu s0.1 0 0, s0.2) : YT) = s at hR ⊢
  refine s_n0_aload C dX12_kind_5 ?_
  refine s_n1_iload C dX12_kind_6 ?_
  refine g_invV C (ct_X12_isPass hR.tab hR.bk hO.ps (by assumption)) (YO_o ..) cv_X12_189_12 (rmk_ok (by decide) (by decide) (by decide) (by decide)) (Nat.le_of_ble_eq_true rfl) rfl dX12_kind_7 rfl (q_r0 ?_)
  refine g_bifeq 21 C dX12_kind_10 (by decide)  (fun c10 => ?_) (fun c10 => ?_)
  · refine g_ldc (-1000001) C wd_609 dX12_kind_21 ?_
    refine g_iret C E dX12_kind_23 (by decide) ?_
    unfold xKind
    rw [if_pos c10]
    exact ⟨rfl, rfl, _, rfl, b, hR⟩
  · refine s_n0_aload C dX12_kind_13 ?_
    refine s_n1_iload C dX12_kind_14 ?_
    refine g_invV C (ct_X12_kindOf hR.tab hR.bk hO.ps c10) (YO_o ..) cv_X12_167_12 (rmk_ok (by decide) (by decide) (by decide) (by decide)) (Nat.le_of_ble_eq_true rfl) rfl dX12_kind_15 rfl (q_r0 ?_)
    refine g_goto 23 C dX12_kind_18 (by decide) ?_
    refine g_iret C E dX12_kind_23 (by decide) ?_
    unfold xKind
    rw [if_neg (not_not_intro c10)]
    exact ⟨rfl, rfl, _, rfl, b, hR⟩
theorem kiOf_i {ci : Nat} (h : isKi ci) : (ci = 4 ∧ kiOf ci = 1) ∨ (ci = 5 ∧ kiOf ci = 2) ∨ (ci = 2 ∧ kiOf ci = 3) ∨ (ci = 1 ∧ kiOf ci = 4) ∨ (ci = 6 ∧ kiOf ci = 5) := by
  rcases h with rfl | rfl | rfl | rfl | rfl <;> decide
set_option maxRecDepth 20000 in
theorem ct_X12_isOf {ci : Nat} {k : Int} {M : gM} {n : Int} (hci : isKi ci) (hk : 0 ≤ k ∧ k ≤ 5) : CT yX12_isOf cX12_isOf 2 (some .boolean) (rmk 0 0 0) [vi (kiOf ci), vi k] M n (qr (some (vi (ofK ci k))) M n) := by
  refine CT.of (by decide) (fun _ => Nat.le_of_ble_eq_true rfl) (fun κ C E => ?_)
  show G κ M n [some (vi (kiOf ci)), some (vi k)] 0 [] 0 0
  have hki := kiOf_i hci
  refine s_n1_iload C dX12_isOf_0 ?_
  refine g_if_eq 29 C dX12_isOf_1 (by decide) (by first | assumption | (unfold iR; omega)) (fun c1 => ?_) (fun c1 => ?_)
  · refine g_iconst C dX12_isOf_29 ?_
    refine g_goto 34 C dX12_isOf_30 (by decide) ?_
    refine g_zret C E dX12_isOf_34 (by decide) (by omega) ?_
    have e : ofK ci k = 1 := by rcases hki with ⟨rfl, e⟩ | ⟨rfl, e⟩ | ⟨rfl, e⟩ | ⟨rfl, e⟩ | ⟨rfl, e⟩ <;> rcases (show k = 0 ∨ k = 1 ∨ k = 2 ∨ k = 3 ∨ k = 4 ∨ k = 5 by omega) with rfl | rfl | rfl | rfl | rfl | rfl <;> first | rfl | (exfalso; omega)
    rw [e]
    exact ⟨rfl, rfl, rfl⟩
  · refine s_n0_iload C dX12_isOf_4 ?_
    refine s_n1_iload C dX12_isOf_5 ?_
    refine g_icmp_eq 29 C dX12_isOf_6 (by decide) (by unfold iR; omega) (by unfold iR; omega) (fun c6 => ?_) (fun c6 => ?_)
    · refine g_iconst C dX12_isOf_29 ?_
      refine g_goto 34 C dX12_isOf_30 (by decide) ?_
      refine g_zret C E dX12_isOf_34 (by decide) (by omega) ?_
      have e : ofK ci k = 1 := by rcases hki with ⟨rfl, e⟩ | ⟨rfl, e⟩ | ⟨rfl, e⟩ | ⟨rfl, e⟩ | ⟨rfl, e⟩ <;> rcases (show k = 0 ∨ k = 1 ∨ k = 2 ∨ k = 3 ∨ k = 4 ∨ k = 5 by omega) with rfl | rfl | rfl | rfl | rfl | rfl <;> first | rfl | (exfalso; omega)
      rw [e]
      exact ⟨rfl, rfl, rfl⟩
    · refine s_n1_iload C dX12_isOf_9 ?_
      refine g_iconst C dX12_isOf_10 ?_
      refine g_icmp_ne 19 C dX12_isOf_11 (by decide) (by first | assumption | (unfold iR; omega)) (by first | assumption | (unfold iR; omega)) (fun c11 => ?_) (fun c11 => ?_)
      · refine s_n1_iload C dX12_isOf_19 ?_
        refine g_iconst C dX12_isOf_20 ?_
        refine g_icmp_ne 33 C dX12_isOf_21 (by decide) (by first | assumption | (unfold iR; omega)) (by first | assumption | (unfold iR; omega)) (fun c21 => ?_) (fun c21 => ?_)
        · refine g_iconst C dX12_isOf_33 ?_
          refine g_zret C E dX12_isOf_34 (by decide) (by omega) ?_
          have e : ofK ci k = 0 := by rcases hki with ⟨rfl, e⟩ | ⟨rfl, e⟩ | ⟨rfl, e⟩ | ⟨rfl, e⟩ | ⟨rfl, e⟩ <;> rcases (show k = 0 ∨ k = 1 ∨ k = 2 ∨ k = 3 ∨ k = 4 ∨ k = 5 by omega) with rfl | rfl | rfl | rfl | rfl | rfl <;> first | rfl | (exfalso; omega)
          rw [e]
          exact ⟨rfl, rfl, rfl⟩
        · refine s_n0_iload C dX12_isOf_24 ?_
          refine g_iconst C dX12_isOf_25 ?_
          refine g_icmp_ne 33 C dX12_isOf_26 (by decide) (by unfold iR; omega) (by unfold iR; omega) (fun c26 => ?_) (fun c26 => ?_)
          · refine g_iconst C dX12_isOf_33 ?_
            refine g_zret C E dX12_isOf_34 (by decide) (by omega) ?_
            have e : ofK ci k = 0 := by rcases hki with ⟨rfl, e⟩ | ⟨rfl, e⟩ | ⟨rfl, e⟩ | ⟨rfl, e⟩ | ⟨rfl, e⟩ <;> rcases (show k = 0 ∨ k = 1 ∨ k = 2 ∨ k = 3 ∨ k = 4 ∨ k = 5 by omega) with rfl | rfl | rfl | rfl | rfl | rfl <;> first | rfl | (exfalso; omega)
            rw [e]
            exact ⟨rfl, rfl, rfl⟩
          · refine g_iconst C dX12_isOf_29 ?_
            refine g_goto 34 C dX12_isOf_30 (by decide) ?_
            refine g_zret C E dX12_isOf_34 (by decide) (by omega) ?_
            have e : ofK ci k = 1 := by rcases hki with ⟨rfl, e⟩ | ⟨rfl, e⟩ | ⟨rfl, e⟩ | ⟨rfl, e⟩ | ⟨rfl, e⟩ <;> rcases (show k = 0 ∨ k = 1 ∨ k = 2 ∨ k = 3 ∨ k = 4 ∨ k = 5 by omega) with rfl | rfl | rfl | rfl | rfl | rfl <;> first | rfl | (exfalso; omega)
            rw [e]
            exact ⟨rfl, rfl, rfl⟩
      · refine s_n0_iload C dX12_isOf_14 ?_
        refine g_iconst C dX12_isOf_15 ?_
        refine g_icmp_lt 29 C dX12_isOf_16 (by decide) (by unfold iR; omega) (by unfold iR; omega) (fun c16 => ?_) (fun c16 => ?_)
        · refine g_iconst C dX12_isOf_29 ?_
          refine g_goto 34 C dX12_isOf_30 (by decide) ?_
          refine g_zret C E dX12_isOf_34 (by decide) (by omega) ?_
          have e : ofK ci k = 1 := by rcases hki with ⟨rfl, e⟩ | ⟨rfl, e⟩ | ⟨rfl, e⟩ | ⟨rfl, e⟩ | ⟨rfl, e⟩ <;> rcases (show k = 0 ∨ k = 1 ∨ k = 2 ∨ k = 3 ∨ k = 4 ∨ k = 5 by omega) with rfl | rfl | rfl | rfl | rfl | rfl <;> first | rfl | (exfalso; omega)
          rw [e]
          exact ⟨rfl, rfl, rfl⟩
        · refine s_n1_iload C dX12_isOf_19 ?_
          refine g_iconst C dX12_isOf_20 ?_
          refine g_icmp_ne 33 C dX12_isOf_21 (by decide) (by first | assumption | (unfold iR; omega)) (by first | assumption | (unfold iR; omega)) (fun c21 => ?_) (fun c21 => ?_)
          · refine g_iconst C dX12_isOf_33 ?_
            refine g_zret C E dX12_isOf_34 (by decide) (by omega) ?_
            have e : ofK ci k = 0 := by rcases hki with ⟨rfl, e⟩ | ⟨rfl, e⟩ | ⟨rfl, e⟩ | ⟨rfl, e⟩ | ⟨rfl, e⟩ <;> rcases (show k = 0 ∨ k = 1 ∨ k = 2 ∨ k = 3 ∨ k = 4 ∨ k = 5 by omega) with rfl | rfl | rfl | rfl | rfl | rfl <;> first | rfl | (exfalso; omega)
            rw [e]
            exact ⟨rfl, rfl, rfl⟩
          · refine s_n0_iload C dX12_isOf_24 ?_
            refine g_iconst C dX12_isOf_25 ?_
            refine g_icmp_ne 33 C dX12_isOf_26 (by decide) (by unfold iR; omega) (by unfold iR; omega) (fun c26 => ?_) (fun c26 => ?_)
            · refine g_iconst C dX12_isOf_33 ?_
              refine g_zret C E dX12_isOf_34 (by decide) (by omega) ?_
              have e : ofK ci k = 0 := by rcases hki with ⟨rfl, e⟩ | ⟨rfl, e⟩ | ⟨rfl, e⟩ | ⟨rfl, e⟩ | ⟨rfl, e⟩ <;> rcases (show k = 0 ∨ k = 1 ∨ k = 2 ∨ k = 3 ∨ k = 4 ∨ k = 5 by omega) with rfl | rfl | rfl | rfl | rfl | rfl <;> first | rfl | (exfalso; omega)
              rw [e]
              exact ⟨rfl, rfl, rfl⟩
            · refine g_iconst C dX12_isOf_29 ?_
              refine g_goto 34 C dX12_isOf_30 (by decide) ?_
              refine g_zret C E dX12_isOf_34 (by decide) (by omega) ?_
              have e : ofK ci k = 1 := by rcases hki with ⟨rfl, e⟩ | ⟨rfl, e⟩ | ⟨rfl, e⟩ | ⟨rfl, e⟩ | ⟨rfl, e⟩ <;> rcases (show k = 0 ∨ k = 1 ∨ k = 2 ∨ k = 3 ∨ k = 4 ∨ k = 5 by omega) with rfl | rfl | rfl | rfl | rfl | rfl <;> first | rfl | (exfalso; omega)
              rw [e]
              exact ⟨rfl, rfl, rfl⟩
set_option maxRecDepth 20000 in
theorem ct_X12_as {X : XT} {s0 : YT} {M : gM} {n : Int} (h0 : yRel X s0) (hO : xOK X) {a k : Int} (ha : iR a) (hk : iR k) : CT yX12_as cX12_as 3 (some .int) (rmk 2 0 0) [vr 152, vi a, vi k] (YO s0 M) n (yP (xAs X a k) M n) := by
  refine CT.of (by decide) (fun _ => Nat.le_of_ble_eq_true rfl) (fun κ C E => ?_)
  show G κ (YO s0 M) n [some (vr 152), some (vi a), some (vi k)] 0 [] 0 0
  refine s_n0_aload C dX12_as_0 ?_
  refine g_iconst C dX12_as_1 ?_
  refine g_put C fp_X12_44_12 dX12_as_2 (YO_o ..) (Nat.le_of_ble_eq_true rfl) (gfit_i _) ?_
  rw [YO_p0]
  obtain ⟨b, hR⟩ := h0
  have hR := hR.th 0
  generalize ((fu s0.1 0 0, s0.2) : YT) = s at hR ⊢
  refine s_n0_aload C dX12_as_5 ?_
  refine s_n1_iload C dX12_as_6 ?_
  refine g_invV C (ct_X12_isPass hR.tab hR.bk hO.ps (by assumption)) (YO_o ..) cv_X12_189_12 (rmk_ok (by decide) (by decide) (by decide) (by decide)) (Nat.le_of_ble_eq_true rfl) rfl dX12_as_7 rfl (q_r0 ?_)
  refine g_bifeq 25 C dX12_as_10 (by decide)  (fun c10 => ?_) (fun c10 => ?_)
  · refine g_ldc (-1000001) C wd_609 dX12_as_25 ?_
    refine g_iret C E dX12_as_27 (by decide) ?_
    unfold xAs
    rw [if_pos c10]
    exact ⟨rfl, rfl, _, rfl, b, hR⟩
  · refine s_n2_iload C dX12_as_13 ?_
    refine g_i2l C dX12_as_14 (by first | assumption | (unfold iR; omega)) ?_
    refine g_lconst0 C dX12_as_15 ?_
    refine g_ldc2 (5) C wd_779 dX12_as_16 ?_
    refine g_invS C (ct_X12_in (v := k) (lo := 0) (hi := 5) (by unfold iR at *; unfold lR; omega) (by unfold iR at *; unfold lR; omega) (by unfold iR at *; unfold lR; omega)) cs_X12_54 (rmk_ok (by decide) (by decide) (by decide) (by decide)) (Nat.le_of_ble_eq_true rfl) rfl dX12_as_19 rfl (q_r0 ?_)
    refine g_bifne 28 C dX12_as_22 (by decide)  (fun c22 => ?_) (fun c22 => ?_)
    · refine s_n0_aload C dX12_as_28 ?_
      refine g_iconst C dX12_as_29 ?_
      refine g_put C fp_X12_48_12 dX12_as_30 (YO_o ..) (Nat.le_of_ble_eq_true rfl) (gfit_i _) ?_
      rw [YO_p1]
      have hR := hR.sta 0
      have hO := hO.xs 0
      generalize ((fu s.1 1 0, s.2) : YT) = s at hR ⊢
      refine s_n0_aload C dX12_as_33 ?_
      refine s_n1_iload C dX12_as_34 ?_
      refine g_invV C (ct_X12_kindOf hR.tab hR.bk hO.ps c10) (YO_o ..) cv_X12_167_12 (rmk_ok (by decide) (by decide) (by decide) (by decide)) (Nat.le_of_ble_eq_true rfl) rfl dX12_as_35 rfl (q_r0 ?_)
      refine s_n2_iload C dX12_as_38 ?_
      refine g_invS C (ct_X12_isOf (hO.ps.2.2 a c10.1 c10.2).1 c22) cs_X12_261 (rmk_ok (by decide) (by decide) (by decide) (by decide)) (Nat.le_of_ble_eq_true rfl) rfl dX12_as_39 rfl (q_r0 ?_)
      refine g_if_eq 49 C dX12_as_42 (by decide) (by have := ofK_b ((xP (xS X 4 0)).2.1 a) k; unfold iR; omega) (fun c42 => ?_) (fun c42 => ?_)
      · refine s_n0_aload C dX12_as_49 ?_
        refine g_iconst C dX12_as_50 ?_
        refine g_invV C (ct_X12_finding) (YO_o ..) cv_X12_65_12 (rmk_ok (by decide) (by decide) (by decide) (by decide)) (Nat.le_of_ble_eq_true rfl) rfl dX12_as_51 rfl (q_r0 ?_)
        have hR := hR.sta2 3
        refine g_iret C E dX12_as_54 (by decide) ?_
        have c42 : ofK ((xP X).2.1 a) k = 0 := c42
        unfold xAs
        rw [if_neg (not_not_intro c10), if_neg (not_not_intro c22), if_pos c42]
        exact ⟨rfl, rfl, _, rfl, b, hR⟩
      · refine s_n1_iload C dX12_as_45 ?_
        refine g_goto 54 C dX12_as_46 (by decide) ?_
        refine g_iret C E dX12_as_54 (by decide) ?_
        have c42 : ¬ ofK ((xP X).2.1 a) k = 0 := c42
        unfold xAs
        rw [if_neg (not_not_intro c10), if_neg (not_not_intro c22), if_neg c42]
        exact ⟨rfl, rfl, _, rfl, b, hR⟩
    · refine g_ldc (-1000001) C wd_609 dX12_as_25 ?_
      refine g_iret C E dX12_as_27 (by decide) ?_
      unfold xAs
      rw [if_neg (not_not_intro c10), if_pos c22]
      exact ⟨rfl, rfl, _, rfl, b, hR⟩
set_option maxRecDepth 20000 in
theorem ct_X12_trace {X : XT} {s0 : YT} {M : gM} {n : Int} (h0 : yRel X s0) (hO : xOK X) {a : Int} (ha : iR a) : CT yX12_trace cX12_trace 2 (some .int) (rmk 1 0 0) [vr 152, vi a] (YO s0 M) n (yP (xTrace X a) M n) := by
  refine CT.of (by decide) (fun _ => Nat.le_of_ble_eq_true rfl) (fun κ C E => ?_)
  show G κ (YO s0 M) n [some (vr 152), some (vi a)] 0 [] 0 0
  have htr := hO.tr
  unfold tlOK at htr
  refine s_n0_aload C dX12_trace_0 ?_
  refine g_iconst C dX12_trace_1 ?_
  refine g_put C fp_X12_44_12 dX12_trace_2 (YO_o ..) (Nat.le_of_ble_eq_true rfl) (gfit_i _) ?_
  rw [YO_p0]
  obtain ⟨b, hR⟩ := h0
  have hR := hR.th 0
  generalize ((fu s0.1 0 0, s0.2) : YT) = s at hR ⊢
  refine s_n1_iload C dX12_trace_5 ?_
  refine g_i2l C dX12_trace_6 (by first | assumption | (unfold iR; omega)) ?_
  refine g_lconst0 C dX12_trace_7 ?_
  refine s_n0_aload C dX12_trace_8 ?_
  refine g_get C fd_X12_265_12 dX12_trace_9 (YO_o ..) rfl ?_
  rw [hR.tn]
  refine g_iconst C dX12_trace_12 ?_
  refine g_isub C dX12_trace_13 ?_
  refine g_i2l C dX12_trace_14 (by unfold iR; omega) ?_
  refine g_invS C (ct_X12_in (v := a) (lo := 0) (hi := X.2.2.2.2.1.2 - 1) (by unfold iR at *; unfold lR; omega) (by unfold iR at *; unfold lR; omega) (by unfold iR at *; unfold lR; omega)) cs_X12_54 (rmk_ok (by decide) (by decide) (by decide) (by decide)) (Nat.le_of_ble_eq_true rfl) rfl dX12_trace_15 rfl (q_r0 ?_)
  refine g_bifeq 30 C dX12_trace_18 (by decide)  (fun c18 => ?_) (fun c18 => ?_)
  · refine g_ldc (-1000000) C wd_621 dX12_trace_30 ?_
    refine g_iret C E dX12_trace_32 (by decide) ?_
    unfold xTrace
    rw [if_pos c18]
    exact ⟨rfl, rfl, _, rfl, b, hR⟩
  · refine s_n0_aload C dX12_trace_21 ?_
    refine g_get C fd_X12_41_12 dX12_trace_22 (YO_o ..) rfl ?_
    refine s_n1_iload C dX12_trace_25 ?_
    refine g_iald C dX12_trace_26 (YO_a10 ..) (by omega) ?_
    rw [hR.tr a c18.1 (by omega)]
    refine g_goto 32 C dX12_trace_27 (by decide) ?_
    refine g_iret C E dX12_trace_32 (by decide) ?_
    unfold xTrace
    rw [if_neg (not_not_intro c18)]
    exact ⟨rfl, rfl, _, rfl, b, hR⟩
set_option maxRecDepth 20000 in
theorem ct_X12_count {X : XT} {s0 : YT} {M : gM} {n : Int} (h0 : yRel X s0) (hO : xOK X) {a : Int} (ha : iR a) : CT yX12_count cX12_count 4 (some .int) (rmk 0 0 0) [vr 152, vi a] (YO s0 M) n (yP (xCount X a) M n) := by
  refine CT.of (by decide) (fun _ => Nat.le_of_ble_eq_true rfl) (fun κ C E => ?_)
  show G κ (YO s0 M) n [some (vr 152), some (vi a), none, none] 0 [] 0 0
  have la : ∀ (z : Nat) (i : Int) (s : YT) (b : Int → Int), yR X s b → a = 0 → 0 ≤ i ∧ i ≤ 8 → (8 - i).toNat = z → G κ (YO s M) n [some (vr 152), some (vi a), some (vi (itI (fun i c => if (X.2.2.1 i).2.2 = -1 then c else c + 1) (0 : Int) i)), some (vi i)] 54 [] 0 0 := by
    intro z
    induction z using Nat.strongRecOn with
    | ind z ih =>
      intro i s b hR q1 h1 hz
      have es := itI_s (fun i c => if (X.2.2.1 i).2.2 = -1 then c else c + 1) (0 : Int) h1.1
      refine s_n3_iload C dX12_count_54 ?_
      refine g_bipush C dX12_count_55 (by decide) ?_
      refine g_icmp_ge 83 C dX12_count_57 (by decide) (by first | assumption | (unfold iR; omega)) (by first | assumption | (unfold iR; omega)) (fun c57 => ?_) (fun c57 => ?_)
      · refine s_n2_iload C dX12_count_83 ?_
        refine g_iret C E dX12_count_84 (by decide) ?_
        have ei : i = 8 := by omega
        subst ei
        unfold xCount
        rw [if_pos (by omega)]
        exact ⟨rfl, rfl, _, rfl, b, hR⟩
      · have hr : yRow (X.2.2.1 i) s i := hR.rw i h1.1 (by omega)
        have hr1 := hr.1
        have hrk := (hO.rw i h1.1 (by omega)).2
        refine s_n2_iload C dX12_count_60 ?_
        refine s_n0_aload C dX12_count_61 ?_
        refine g_get C fd_X12_7_12 dX12_count_62 (YO_o ..) rfl ?_
        refine s_n3_iload C dX12_count_65 ?_
        refine g_iald C dX12_count_66 (YO_a0 ..) (by omega) ?_
        refine g_if_lt 74 C dX12_count_67 (by decide) (by unfold iR; omega) (fun c67 => ?_) (fun c67 => ?_)
        · refine g_iconst C dX12_count_74 ?_
          refine g_iadd C dX12_count_75 ?_
          refine s_n2_istore C dX12_count_76 rfl ?_
          refine s_w3_iinc C dX12_count_77 rfl ?_
          refine g_goto 54 C dX12_count_80 (by decide) ?_
          rw [if_pos (by omega)] at es
          rw [Int.add_zero, ← es]
          exact ih _ (by omega) (i + 1) s b hR q1 (by omega) rfl
        · refine g_iconst C dX12_count_70 ?_
          refine g_goto 75 C dX12_count_71 (by decide) ?_
          refine g_iadd C dX12_count_75 ?_
          refine s_n2_istore C dX12_count_76 rfl ?_
          refine s_w3_iinc C dX12_count_77 rfl ?_
          refine g_goto 54 C dX12_count_80 (by decide) ?_
          rw [if_neg (by omega)] at es
          rw [← es]
          exact ih _ (by omega) (i + 1) s b hR q1 (by omega) rfl
  have lb : ∀ (z : Nat) (i : Int) (s : YT) (b : Int → Int), yR X s b → a = 3 → 0 ≤ i ∧ i ≤ 15 → (15 - i).toNat = z → G κ (YO s M) n [some (vr 152), some (vi a), some (vi (itI (fun i c => if (xC X).1 i ≤ 0 then c else c + 1) (0 : Int) i)), some (vi i)] 101 [] 0 0 := by
    intro z
    induction z using Nat.strongRecOn with
    | ind z ih =>
      intro i s b hR q1 h1 hz
      have es := itI_s (fun i c => if (xC X).1 i ≤ 0 then c else c + 1) (0 : Int) h1.1
      refine s_n3_iload C dX12_count_101 ?_
      refine g_bipush C dX12_count_102 (by decide) ?_
      refine g_icmp_ge 133 C dX12_count_104 (by decide) (by first | assumption | (unfold iR; omega)) (by first | assumption | (unfold iR; omega)) (fun c104 => ?_) (fun c104 => ?_)
      · refine s_n2_iload C dX12_count_133 ?_
        refine g_iret C E dX12_count_134 (by decide) ?_
        have ei : i = 15 := by omega
        subst ei
        unfold xCount
        rw [if_neg (by omega), if_neg (by omega), if_neg (by omega), if_pos (by omega)]
        exact ⟨rfl, rfl, _, rfl, b, hR⟩
      · have hcb := hO.cs.1 i h1.1 (by omega)
        refine s_n2_iload C dX12_count_107 ?_
        refine s_n0_aload C dX12_count_108 ?_
        refine g_get C fd_X12_19_12 dX12_count_109 (YO_o ..) rfl ?_
        refine g_bipush C dX12_count_112 (by decide) ?_
        refine s_n3_iload C dX12_count_114 ?_
        refine g_iadd C dX12_count_115 ?_
        refine g_iald C dX12_count_116 (YO_a3 ..) (by omega) ?_
        rw [hR.tab, pS_f (by omega)]
        refine g_if_le 124 C dX12_count_117 (by decide) (by unfold iR; omega) (fun c117 => ?_) (fun c117 => ?_)
        · refine g_iconst C dX12_count_124 ?_
          refine g_iadd C dX12_count_125 ?_
          refine s_n2_istore C dX12_count_126 rfl ?_
          refine s_w3_iinc C dX12_count_127 rfl ?_
          refine g_goto 101 C dX12_count_130 (by decide) ?_
          rw [if_pos (by omega)] at es
          rw [Int.add_zero, ← es]
          exact ih _ (by omega) (i + 1) s b hR q1 (by omega) rfl
        · refine g_iconst C dX12_count_120 ?_
          refine g_goto 125 C dX12_count_121 (by decide) ?_
          refine g_iadd C dX12_count_125 ?_
          refine s_n2_istore C dX12_count_126 rfl ?_
          refine s_w3_iinc C dX12_count_127 rfl ?_
          refine g_goto 101 C dX12_count_130 (by decide) ?_
          rw [if_neg (by omega)] at es
          rw [← es]
          exact ih _ (by omega) (i + 1) s b hR q1 (by omega) rfl
  have lc : ∀ (z : Nat) (i : Int) (s : YT) (b : Int → Int), yR X s b → a = 4 → 0 ≤ i ∧ i ≤ 15 → (15 - i).toNat = z → G κ (YO s M) n [some (vr 152), some (vi a), some (vi (itI (fun i c => if (xC X).2.1 i ≤ 0 then c else c + 1) (0 : Int) i)), some (vi i)] 137 [] 0 0 := by
    intro z
    induction z using Nat.strongRecOn with
    | ind z ih =>
      intro i s b hR q1 h1 hz
      have es := itI_s (fun i c => if (xC X).2.1 i ≤ 0 then c else c + 1) (0 : Int) h1.1
      refine s_n3_iload C dX12_count_137 ?_
      refine g_bipush C dX12_count_138 (by decide) ?_
      refine g_icmp_ge 169 C dX12_count_140 (by decide) (by first | assumption | (unfold iR; omega)) (by first | assumption | (unfold iR; omega)) (fun c140 => ?_) (fun c140 => ?_)
      · refine s_n2_iload C dX12_count_169 ?_
        refine g_iret C E dX12_count_170 (by decide) ?_
        have ei : i = 15 := by omega
        subst ei
        unfold xCount
        rw [if_neg (by omega), if_neg (by omega), if_neg (by omega), if_neg (by omega), if_pos (by omega)]
        exact ⟨rfl, rfl, _, rfl, b, hR⟩
      · have hcb := hO.cs.1 i h1.1 (by omega)
        refine s_n2_iload C dX12_count_143 ?_
        refine s_n0_aload C dX12_count_144 ?_
        refine g_get C fd_X12_19_12 dX12_count_145 (YO_o ..) rfl ?_
        refine g_bipush C dX12_count_148 (by decide) ?_
        refine s_n3_iload C dX12_count_150 ?_
        refine g_iadd C dX12_count_151 ?_
        refine g_iald C dX12_count_152 (YO_a3 ..) (by omega) ?_
        rw [hR.tab, pS_s (by omega)]
        refine g_if_le 160 C dX12_count_153 (by decide) (by unfold iR; omega) (fun c153 => ?_) (fun c153 => ?_)
        · refine g_iconst C dX12_count_160 ?_
          refine g_iadd C dX12_count_161 ?_
          refine s_n2_istore C dX12_count_162 rfl ?_
          refine s_w3_iinc C dX12_count_163 rfl ?_
          refine g_goto 137 C dX12_count_166 (by decide) ?_
          rw [if_pos (by omega)] at es
          rw [Int.add_zero, ← es]
          exact ih _ (by omega) (i + 1) s b hR q1 (by omega) rfl
        · refine g_iconst C dX12_count_156 ?_
          refine g_goto 161 C dX12_count_157 (by decide) ?_
          refine g_iadd C dX12_count_161 ?_
          refine s_n2_istore C dX12_count_162 rfl ?_
          refine s_w3_iinc C dX12_count_163 rfl ?_
          refine g_goto 137 C dX12_count_166 (by decide) ?_
          rw [if_neg (by omega)] at es
          rw [← es]
          exact ih _ (by omega) (i + 1) s b hR q1 (by omega) rfl
  refine s_n0_aload C dX12_count_0 ?_
  refine g_iconst C dX12_count_1 ?_
  refine g_put C fp_X12_44_12 dX12_count_2 (YO_o ..) (Nat.le_of_ble_eq_true rfl) (gfit_i _) ?_
  rw [YO_p0]
  obtain ⟨b, hR⟩ := h0
  have hR := hR.th 0
  generalize ((fu s0.1 0 0, s0.2) : YT) = s at hR ⊢
  refine g_iconst C dX12_count_5 ?_
  refine s_n2_istore C dX12_count_6 rfl ?_
  refine s_n1_iload C dX12_count_7 ?_
  rcases (show a = 0 ∨ a = 1 ∨ a = 2 ∨ a = 3 ∨ a = 4 ∨ a = 5 ∨ a = 6 ∨ (a < 0 ∨ 6 < a) by omega) with w8 | w8 | w8 | w8 | w8 | w8 | w8 | w8
  · refine g_tswI 52 C dX12_count_8 (by first | assumption | (unfold iR; omega)) (by omega) (by omega) (by rw [w8]; rfl) (by decide) ?_
    refine g_iconst C dX12_count_52 ?_
    refine s_n3_istore C dX12_count_53 rfl ?_
    exact la _ 0 s b hR w8 (by omega) rfl
  · refine g_tswI 85 C dX12_count_8 (by first | assumption | (unfold iR; omega)) (by omega) (by omega) (by rw [w8]; rfl) (by decide) ?_
    refine s_n0_aload C dX12_count_85 ?_
    refine g_get C fd_X12_19_12 dX12_count_86 (YO_o ..) rfl ?_
    refine g_iconst C dX12_count_89 ?_
    refine g_iald C dX12_count_90 (YO_a3 ..) (by omega) ?_
    rw [show s.2 3 5 = (xP X).1 by rw [hR.tab, pq_b (Or.inr (Or.inl rfl))]; exact hR.bk.2.2.1]
    refine g_iret C E dX12_count_91 (by decide) ?_
    unfold xCount
    rw [if_neg (by omega), if_pos (by omega)]
    exact ⟨rfl, rfl, _, rfl, b, hR⟩
  · refine g_tswI 92 C dX12_count_8 (by first | assumption | (unfold iR; omega)) (by omega) (by omega) (by rw [w8]; rfl) (by decide) ?_
    refine s_n0_aload C dX12_count_92 ?_
    refine g_get C fd_X12_19_12 dX12_count_93 (YO_o ..) rfl ?_
    refine g_iconst C dX12_count_96 ?_
    refine g_iald C dX12_count_97 (YO_a3 ..) (by omega) ?_
    rw [show s.2 3 1 = xK X by rw [hR.tab, pq_b (Or.inl (by decide))]; exact hR.bk.2.1]
    refine g_iret C E dX12_count_98 (by decide) ?_
    unfold xCount
    rw [if_neg (by omega), if_neg (by omega), if_pos (by omega)]
    exact ⟨rfl, rfl, _, rfl, b, hR⟩
  · refine g_tswI 99 C dX12_count_8 (by first | assumption | (unfold iR; omega)) (by omega) (by omega) (by rw [w8]; rfl) (by decide) ?_
    refine g_iconst C dX12_count_99 ?_
    refine s_n3_istore C dX12_count_100 rfl ?_
    exact lb _ 0 s b hR w8 (by omega) rfl
  · refine g_tswI 135 C dX12_count_8 (by first | assumption | (unfold iR; omega)) (by omega) (by omega) (by rw [w8]; rfl) (by decide) ?_
    refine g_iconst C dX12_count_135 ?_
    refine s_n3_istore C dX12_count_136 rfl ?_
    exact lc _ 0 s b hR w8 (by omega) rfl
  · refine g_tswI 171 C dX12_count_8 (by first | assumption | (unfold iR; omega)) (by omega) (by omega) (by rw [w8]; rfl) (by decide) ?_
    refine s_n0_aload C dX12_count_171 ?_
    refine g_get C fd_X12_150_12 dX12_count_172 (YO_o ..) rfl ?_
    rw [hR.ac]
    refine g_iret C E dX12_count_175 (by decide) ?_
    unfold xCount
    rw [if_neg (by omega), if_neg (by omega), if_neg (by omega), if_neg (by omega), if_neg (by omega), if_pos (by omega)]
    exact ⟨rfl, rfl, _, rfl, b, hR⟩
  · refine g_tswI 176 C dX12_count_8 (by first | assumption | (unfold iR; omega)) (by omega) (by omega) (by rw [w8]; rfl) (by decide) ?_
    refine s_n0_aload C dX12_count_176 ?_
    refine g_get C fd_X12_71_12 dX12_count_177 (YO_o ..) rfl ?_
    rw [hR.tl]
    refine g_iret C E dX12_count_180 (by decide) ?_
    unfold xCount
    rw [if_neg (by omega), if_neg (by omega), if_neg (by omega), if_neg (by omega), if_neg (by omega), if_neg (by omega), if_pos (by omega)]
    exact ⟨rfl, rfl, _, rfl, b, hR⟩
  · refine g_tswO 181 C dX12_count_8 (by first | assumption | (unfold iR; omega)) w8 (by decide) ?_
    refine g_ldc (-1000001) C wd_609 dX12_count_181 ?_
    refine g_iret C E dX12_count_183 (by decide) ?_
    unfold xCount
    rw [if_neg (by omega), if_neg (by omega), if_neg (by omega), if_neg (by omega), if_neg (by omega), if_neg (by omega), if_neg (by omega)]
    exact ⟨rfl, rfl, _, rfl, b, hR⟩
def tS (s : YT) (v : Int) (f : Int → Int) : YT := (fu s.1 23 v, fu s.2 10 f)
theorem tS_tS (s : YT) (v v2 : Int) (f f2 : Int → Int) : tS (tS s v f) v2 f2 = tS s v2 f2 := by
  unfold tS
  dsimp only
  rw [fu_fu, fu_fu]
theorem tS_id (s : YT) : tS s (s.1 23) (s.2 10) = s := by
  unfold tS
  rw [fu_id, fu_id]
def trR (T : TLT) (s : YT) : Prop := s.1 23 = T.2 ∧ ∀ i, 0 ≤ i → i < T.2 → s.2 10 i = T.1 i
def aQ (res : Int × TLT) (s : YT) (M : gM) (n : Int) : gPost := fun r M2 n2 => r = some (vi res.1) ∧ n2 = n ∧ ∃ v f, M2 = YO (tS s v f) M ∧ trR res.2 (tS s v f)
set_option maxRecDepth 20000 in
theorem ct_X12_began {s : YT} {T : TLT} {M : gM} {n k : Int} (hT : trR T s) (hTk : tlOK T) : CT yX12_began cX12_began 2 none (rmk 0 0 0) [vr 152, vi k] (YO s M) n (fun r M2 n2 => r = none ∧ n2 = n ∧ ∃ v f, M2 = YO (tS s v f) M ∧ trR (tlLeave T k) (tS s v f)) := by
  refine CT.of (by decide) (fun _ => Nat.le_of_ble_eq_true rfl) (fun κ C E => ?_)
  show G κ (YO s M) n [some (vr 152), some (vi k)] 0 [] 0 0
  have hT1 := hT.1
  unfold tlOK at hTk
  refine s_n0_aload C dX12_began_0 ?_
  refine g_get C fd_X12_265_12 dX12_began_1 (YO_o ..) rfl ?_
  rw [hT1]
  refine g_bipush C dX12_began_4 (by decide) ?_
  refine g_icmp_ge 29 C dX12_began_6 (by decide) (by first | assumption | (unfold iR; omega)) (by first | assumption | (unfold iR; omega)) (fun c6 => ?_) (fun c6 => ?_)
  · refine g_vret C E dX12_began_29 (by decide) ?_
    refine ⟨rfl, rfl, s.1 23, s.2 10, by rw [tS_id], ?_⟩
    unfold tlLeave
    rw [if_neg (by omega), tS_id]
    exact hT
  · refine s_n0_aload C dX12_began_9 ?_
    refine g_get C fd_X12_41_12 dX12_began_10 (YO_o ..) rfl ?_
    refine s_n0_aload C dX12_began_13 ?_
    refine g_get C fd_X12_265_12 dX12_began_14 (YO_o ..) rfl ?_
    rw [hT1]
    refine s_n1_iload C dX12_began_17 ?_
    refine g_iast C dX12_began_18 (YO_a10 ..) (by omega) ?_
    rw [YO_u10]
    refine s_n0_aload C dX12_began_19 ?_
    refine g_dup C dX12_began_20 rfl ?_
    refine g_get C fd_X12_265_12 dX12_began_21 (YO_o ..) rfl ?_
    show G κ _ n _ _ (vi (s.1 23) :: _) _ _
    rw [hT1]
    refine g_iconst C dX12_began_24 ?_
    refine g_iadd C dX12_began_25 ?_
    refine g_put C fp_X12_265_12 dX12_began_26 (YO_o ..) (Nat.le_of_ble_eq_true rfl) (gfit_i _) ?_
    rw [YO_p23]
    refine g_vret C E dX12_began_29 (by decide) ?_
    refine ⟨rfl, rfl, _, _, rfl, ?_⟩
    unfold tlLeave
    rw [if_pos (by omega)]
    refine ⟨rfl, fun i i0 i1 => ?_⟩
    have i1 : i < T.2 + 1 := i1
    show up (s.2 10) T.2 k i = up T.1 T.2 k i
    by_cases e : i = T.2
    · rw [e, up_same, up_same]
    · rw [up_ne _ _ e, up_ne _ _ e]
      exact hT.2 i i0 (by omega)
set_option maxRecDepth 20000 in
theorem ct_X12_plainSize {s : YT} {S : SLT} {b : Int → Int} {t sk : Int} {ps : PST} {T : TLT} {M : gM} {n : Int} (ht : s.2 3 = pk S b) (hb : bOK t ps sk b) (hps : psOK ps) {p : Int} (hp : 0 ≤ p ∧ p < ps.1) (hT : trR T s) (hTk : tlOK T)  : CT yX12_plainSize cX12_plainSize 2 (some .int) (rmk 1 0 0) [vr 152, vi p] (YO s M) n (aQ (aS10 (ps.2.2.1 p) T) s M n) := by
  refine CT.of (by decide) (fun _ => Nat.le_of_ble_eq_true rfl) (fun κ C E => ?_)
  show G κ (YO s M) n [some (vr 152), some (vi p)] 0 [] 0 0
  refine s_n0_aload C dX12_plainSize_0 ?_
  refine g_bipush C dX12_plainSize_1 (by decide) ?_
  refine g_invV C (ct_X12_began (s := s) (k := 10) hT hTk) (YO_o ..) cv_X12_268_12 (rmk_ok (by decide) (by decide) (by decide) (by decide)) (Nat.le_of_ble_eq_true rfl) rfl dX12_plainSize_3 rfl (fun r M9 n9 hq => ?_)
  obtain ⟨hr9, hn9, v, f, hm9, hT⟩ := hq
  subst hr9
  rw [hn9, hm9]
  show G κ _ _ _ _ _ 0 0
  clear hm9
  have hTk := tlLeave_ok (x := 10) hTk
  refine s_n0_aload C dX12_plainSize_6 ?_
  refine s_n1_iload C dX12_plainSize_7 ?_
  refine g_invV C (ct_X12_cellsOf (s := tS s v f) (S := S) ht hb hps hp) (YO_o ..) cv_X12_157_12 (rmk_ok (by decide) (by decide) (by decide) (by decide)) (Nat.le_of_ble_eq_true rfl) rfl dX12_plainSize_8 rfl (q_r0 ?_)
  refine g_iret C E dX12_plainSize_11 (by decide) ?_
  exact ⟨rfl, rfl, v, f, rfl, hT⟩
set_option maxRecDepth 20000 in
theorem ct_X12_clearSize_1 {s : YT} {S : SLT} {b : Int → Int} {t sk : Int} {ps : PST} {T : TLT} {M : gM} {n : Int} (ht : s.2 3 = pk S b) (hb : bOK t ps sk b) (hps : psOK ps) {p : Int} (hp : 0 ≤ p ∧ p < ps.1) (hT : trR T s) (hTk : tlOK T) (ki : ps.2.1 p = 1) : CT yX12_clearSize cX12_clearSize 3 (some .int) (rmk 2 0 0) [vr 152, vi p] (YO s M) n (aQ (aSc 1 (ps.2.2.1 p) T) s M n) := by
  refine CT.of (by decide) (fun _ => Nat.le_of_ble_eq_true rfl) (fun κ C E => ?_)
  show G κ (YO s M) n [some (vr 152), some (vi p), none] 0 [] 0 0
  refine s_n0_aload C dX12_clearSize_0 ?_
  refine s_n1_iload C dX12_clearSize_1 ?_
  refine g_invV C (ct_X12_kindOf (s := s) (S := S) ht hb hps hp) (YO_o ..) cv_X12_167_12 (rmk_ok (by decide) (by decide) (by decide) (by decide)) (Nat.le_of_ble_eq_true rfl) rfl dX12_clearSize_2 rfl (q_r0 ?_)
  rw [ki]
  show G κ _ _ _ _ (vi 4 :: _) _ _
  refine g_iconst C dX12_clearSize_5 ?_
  refine g_icmp_ne 15 C dX12_clearSize_6 (by decide) (by first | assumption | (unfold iR; omega)) (by first | assumption | (unfold iR; omega)) (fun c6 => ?_) (fun c6 => by exfalso; omega)
  refine s_n0_aload C dX12_clearSize_15 ?_
  refine g_bipush C dX12_clearSize_16 (by decide) ?_
  refine g_invV C (ct_X12_began (s := s) (k := 13) hT hTk) (YO_o ..) cv_X12_268_12 (rmk_ok (by decide) (by decide) (by decide) (by decide)) (Nat.le_of_ble_eq_true rfl) rfl dX12_clearSize_18 rfl (fun r M9 n9 hq => ?_)
  obtain ⟨hr9, hn9, v, f, hm9, hT⟩ := hq
  subst hr9
  rw [hn9, hm9]
  show G κ _ _ _ _ _ 0 0
  clear hm9
  have hTk := tlLeave_ok (x := 13) hTk
  refine s_n0_aload C dX12_clearSize_21 ?_
  refine s_n1_iload C dX12_clearSize_22 ?_
  refine g_invV C (ct_X12_plainSize (s := (tS s v f)) (S := S) ht hb hps hp  hT hTk) (YO_o ..) cv_X12_271_12 (rmk_ok (by decide) (by decide) (by decide) (by decide)) (Nat.le_of_ble_eq_true rfl) rfl dX12_clearSize_23 rfl (fun r M9 n9 hq => ?_)
  obtain ⟨hr9, hn9, v, f, hm9, hT⟩ := hq
  subst hr9
  rw [hn9, hm9]
  rw [tS_tS] at hT ⊢
  show G κ _ _ _ _ _ 0 0
  clear hm9
  refine g_bipush C dX12_clearSize_26 (by decide) ?_
  refine g_isub C dX12_clearSize_28 ?_
  refine s_n2_istore C dX12_clearSize_29 rfl ?_
  refine s_n0_aload C dX12_clearSize_30 ?_
  refine s_n1_iload C dX12_clearSize_31 ?_
  refine g_invV C (ct_X12_kindOf (s := tS s v f) (S := S) ht hb hps hp) (YO_o ..) cv_X12_167_12 (rmk_ok (by decide) (by decide) (by decide) (by decide)) (Nat.le_of_ble_eq_true rfl) rfl dX12_clearSize_32 rfl (q_r0 ?_)
  rw [ki]
  show G κ _ _ _ _ (vi 4 :: _) _ _
  refine g_iconst C dX12_clearSize_35 ?_
  refine g_icmp_ne 45 C dX12_clearSize_36 (by decide) (by first | assumption | (unfold iR; omega)) (by first | assumption | (unfold iR; omega)) (fun c36 => ?_) (fun c36 => by exfalso; omega)
  refine s_n2_iload C dX12_clearSize_45 ?_
  refine g_iret C E dX12_clearSize_46 (by decide) ?_
  exact ⟨rfl, rfl, v, f, rfl, hT⟩
set_option maxRecDepth 20000 in
theorem ct_X12_clearSize_6 {s : YT} {S : SLT} {b : Int → Int} {t sk : Int} {ps : PST} {T : TLT} {M : gM} {n : Int} (ht : s.2 3 = pk S b) (hb : bOK t ps sk b) (hps : psOK ps) {p : Int} (hp : 0 ≤ p ∧ p < ps.1) (hT : trR T s) (hTk : tlOK T) (ki : ps.2.1 p = 6) : CT yX12_clearSize cX12_clearSize 3 (some .int) (rmk 2 0 0) [vr 152, vi p] (YO s M) n (aQ (aSc 6 (ps.2.2.1 p) T) s M n) := by
  refine CT.of (by decide) (fun _ => Nat.le_of_ble_eq_true rfl) (fun κ C E => ?_)
  show G κ (YO s M) n [some (vr 152), some (vi p), none] 0 [] 0 0
  refine s_n0_aload C dX12_clearSize_0 ?_
  refine s_n1_iload C dX12_clearSize_1 ?_
  refine g_invV C (ct_X12_kindOf (s := s) (S := S) ht hb hps hp) (YO_o ..) cv_X12_167_12 (rmk_ok (by decide) (by decide) (by decide) (by decide)) (Nat.le_of_ble_eq_true rfl) rfl dX12_clearSize_2 rfl (q_r0 ?_)
  rw [ki]
  show G κ _ _ _ _ (vi 5 :: _) _ _
  refine g_iconst C dX12_clearSize_5 ?_
  refine g_icmp_ne 15 C dX12_clearSize_6 (by decide) (by first | assumption | (unfold iR; omega)) (by first | assumption | (unfold iR; omega)) (fun c6 => by exfalso; omega) (fun c6 => ?_)
  refine s_n0_aload C dX12_clearSize_9 ?_
  refine g_bipush C dX12_clearSize_10 (by decide) ?_
  refine g_invV C (ct_X12_began (s := s) (k := 14) hT hTk) (YO_o ..) cv_X12_268_12 (rmk_ok (by decide) (by decide) (by decide) (by decide)) (Nat.le_of_ble_eq_true rfl) rfl dX12_clearSize_12 rfl (fun r M9 n9 hq => ?_)
  obtain ⟨hr9, hn9, v, f, hm9, hT⟩ := hq
  subst hr9
  rw [hn9, hm9]
  show G κ _ _ _ _ _ 0 0
  clear hm9
  have hTk := tlLeave_ok (x := 14) hTk
  refine s_n0_aload C dX12_clearSize_15 ?_
  refine g_bipush C dX12_clearSize_16 (by decide) ?_
  refine g_invV C (ct_X12_began (s := (tS s v f)) (k := 13) hT hTk) (YO_o ..) cv_X12_268_12 (rmk_ok (by decide) (by decide) (by decide) (by decide)) (Nat.le_of_ble_eq_true rfl) rfl dX12_clearSize_18 rfl (fun r M9 n9 hq => ?_)
  obtain ⟨hr9, hn9, v, f, hm9, hT⟩ := hq
  subst hr9
  rw [hn9, hm9]
  rw [tS_tS] at hT ⊢
  show G κ _ _ _ _ _ 0 0
  clear hm9
  have hTk := tlLeave_ok (x := 13) hTk
  refine s_n0_aload C dX12_clearSize_21 ?_
  refine s_n1_iload C dX12_clearSize_22 ?_
  refine g_invV C (ct_X12_plainSize (s := (tS s v f)) (S := S) ht hb hps hp  hT hTk) (YO_o ..) cv_X12_271_12 (rmk_ok (by decide) (by decide) (by decide) (by decide)) (Nat.le_of_ble_eq_true rfl) rfl dX12_clearSize_23 rfl (fun r M9 n9 hq => ?_)
  obtain ⟨hr9, hn9, v, f, hm9, hT⟩ := hq
  subst hr9
  rw [hn9, hm9]
  rw [tS_tS] at hT ⊢
  show G κ _ _ _ _ _ 0 0
  clear hm9
  refine g_bipush C dX12_clearSize_26 (by decide) ?_
  refine g_isub C dX12_clearSize_28 ?_
  refine s_n2_istore C dX12_clearSize_29 rfl ?_
  refine s_n0_aload C dX12_clearSize_30 ?_
  refine s_n1_iload C dX12_clearSize_31 ?_
  refine g_invV C (ct_X12_kindOf (s := tS s v f) (S := S) ht hb hps hp) (YO_o ..) cv_X12_167_12 (rmk_ok (by decide) (by decide) (by decide) (by decide)) (Nat.le_of_ble_eq_true rfl) rfl dX12_clearSize_32 rfl (q_r0 ?_)
  rw [ki]
  show G κ _ _ _ _ (vi 5 :: _) _ _
  refine g_iconst C dX12_clearSize_35 ?_
  refine g_icmp_ne 45 C dX12_clearSize_36 (by decide) (by first | assumption | (unfold iR; omega)) (by first | assumption | (unfold iR; omega)) (fun c36 => by exfalso; omega) (fun c36 => ?_)
  refine g_iconst C dX12_clearSize_39 ?_
  refine s_n2_iload C dX12_clearSize_40 ?_
  refine g_imul C dX12_clearSize_41 ?_
  refine g_goto 46 C dX12_clearSize_42 (by decide) ?_
  refine g_iret C E dX12_clearSize_46 (by decide) ?_
  refine ⟨?_, rfl, v, f, rfl, hT⟩
  rw [Int.mul_comm]
  rfl
set_option maxRecDepth 20000 in
theorem ct_X12_markOf_1 {s : YT} {S : SLT} {b : Int → Int} {t sk : Int} {ps : PST} {T : TLT} {M : gM} {n : Int} (ht : s.2 3 = pk S b) (hb : bOK t ps sk b) (hps : psOK ps) {p : Int} (hp : 0 ≤ p ∧ p < ps.1) (hT : trR T s) (hTk : tlOK T) (ki : ps.2.1 p = 1) : CT yX12_markOf cX12_markOf 4 (some .int) (rmk 3 0 0) [vr 152, vi p] (YO s M) n (aQ (aMark 1 p S.2.2.2.1 (ps.2.2.1 p) T) s M n) := by
  refine CT.of (by decide) (fun _ => Nat.le_of_ble_eq_true rfl) (fun κ C E => ?_)
  show G κ (YO s M) n [some (vr 152), some (vi p), none, none] 0 [] 0 0
  refine s_n0_aload C dX12_markOf_0 ?_
  refine s_n1_iload C dX12_markOf_1 ?_
  refine g_invV C (ct_X12_kindOf (s := s) (S := S) ht hb hps hp) (YO_o ..) cv_X12_167_12 (rmk_ok (by decide) (by decide) (by decide) (by decide)) (Nat.le_of_ble_eq_true rfl) rfl dX12_markOf_2 rfl (q_r0 ?_)
  rw [ki]
  show G κ _ _ _ _ (vi 4 :: _) _ _
  refine s_n2_istore C dX12_markOf_5 rfl ?_
  refine s_n2_iload C dX12_markOf_6 ?_
  refine g_iconst C dX12_markOf_7 ?_
  refine g_icmp_lt 31 C dX12_markOf_8 (by decide) (by first | assumption | (unfold iR; omega)) (by first | assumption | (unfold iR; omega)) (fun c8 => by exfalso; omega) (fun c8 => ?_)
  refine s_n0_aload C dX12_markOf_11 ?_
  refine g_bipush C dX12_markOf_12 (by decide) ?_
  refine g_invV C (ct_X12_began (s := s) (k := 23) hT hTk) (YO_o ..) cv_X12_268_12 (rmk_ok (by decide) (by decide) (by decide) (by decide)) (Nat.le_of_ble_eq_true rfl) rfl dX12_markOf_14 rfl (fun r M9 n9 hq => ?_)
  obtain ⟨hr9, hn9, v, f, hm9, hT⟩ := hq
  subst hr9
  rw [hn9, hm9]
  show G κ _ _ _ _ _ 0 0
  clear hm9
  have hTk := tlLeave_ok (x := 23) hTk
  refine s_n0_aload C dX12_markOf_17 ?_
  refine g_bipush C dX12_markOf_18 (by decide) ?_
  refine g_invV C (ct_X12_began (s := (tS s v f)) (k := 20) hT hTk) (YO_o ..) cv_X12_268_12 (rmk_ok (by decide) (by decide) (by decide) (by decide)) (Nat.le_of_ble_eq_true rfl) rfl dX12_markOf_20 rfl (fun r M9 n9 hq => ?_)
  obtain ⟨hr9, hn9, v, f, hm9, hT⟩ := hq
  subst hr9
  rw [hn9, hm9]
  rw [tS_tS] at hT ⊢
  show G κ _ _ _ _ _ 0 0
  clear hm9
  have hTk := tlLeave_ok (x := 20) hTk
  refine s_n1_iload C dX12_markOf_23 ?_
  refine s_n0_aload C dX12_markOf_24 ?_
  refine s_n1_iload C dX12_markOf_25 ?_
  refine g_invV C (ct_X12_clearSize_1 (s := tS s v f) (S := S) ht hb hps hp hT hTk ki) (YO_o ..) cv_X12_274_12 (rmk_ok (by decide) (by decide) (by decide) (by decide)) (Nat.le_of_ble_eq_true rfl) rfl dX12_markOf_26 rfl (fun r M9 n9 hq => ?_)
  obtain ⟨hr9, hn9, v, f, hm9, hT⟩ := hq
  subst hr9
  rw [hn9, hm9]
  rw [tS_tS] at hT ⊢
  show G κ _ _ _ _ _ 0 0
  clear hm9
  refine g_isub C dX12_markOf_29 ?_
  refine g_iret C E dX12_markOf_30 (by decide) ?_
  exact ⟨rfl, rfl, v, f, rfl, hT⟩
set_option maxRecDepth 20000 in
theorem ct_X12_markOf_6 {s : YT} {S : SLT} {b : Int → Int} {t sk : Int} {ps : PST} {T : TLT} {M : gM} {n : Int} (ht : s.2 3 = pk S b) (hb : bOK t ps sk b) (hps : psOK ps) {p : Int} (hp : 0 ≤ p ∧ p < ps.1) (hT : trR T s) (hTk : tlOK T) (ki : ps.2.1 p = 6) : CT yX12_markOf cX12_markOf 4 (some .int) (rmk 3 0 0) [vr 152, vi p] (YO s M) n (aQ (aMark 6 p S.2.2.2.1 (ps.2.2.1 p) T) s M n) := by
  refine CT.of (by decide) (fun _ => Nat.le_of_ble_eq_true rfl) (fun κ C E => ?_)
  show G κ (YO s M) n [some (vr 152), some (vi p), none, none] 0 [] 0 0
  refine s_n0_aload C dX12_markOf_0 ?_
  refine s_n1_iload C dX12_markOf_1 ?_
  refine g_invV C (ct_X12_kindOf (s := s) (S := S) ht hb hps hp) (YO_o ..) cv_X12_167_12 (rmk_ok (by decide) (by decide) (by decide) (by decide)) (Nat.le_of_ble_eq_true rfl) rfl dX12_markOf_2 rfl (q_r0 ?_)
  rw [ki]
  show G κ _ _ _ _ (vi 5 :: _) _ _
  refine s_n2_istore C dX12_markOf_5 rfl ?_
  refine s_n2_iload C dX12_markOf_6 ?_
  refine g_iconst C dX12_markOf_7 ?_
  refine g_icmp_lt 31 C dX12_markOf_8 (by decide) (by first | assumption | (unfold iR; omega)) (by first | assumption | (unfold iR; omega)) (fun c8 => by exfalso; omega) (fun c8 => ?_)
  refine s_n0_aload C dX12_markOf_11 ?_
  refine g_bipush C dX12_markOf_12 (by decide) ?_
  refine g_invV C (ct_X12_began (s := s) (k := 23) hT hTk) (YO_o ..) cv_X12_268_12 (rmk_ok (by decide) (by decide) (by decide) (by decide)) (Nat.le_of_ble_eq_true rfl) rfl dX12_markOf_14 rfl (fun r M9 n9 hq => ?_)
  obtain ⟨hr9, hn9, v, f, hm9, hT⟩ := hq
  subst hr9
  rw [hn9, hm9]
  show G κ _ _ _ _ _ 0 0
  clear hm9
  have hTk := tlLeave_ok (x := 23) hTk
  refine s_n0_aload C dX12_markOf_17 ?_
  refine g_bipush C dX12_markOf_18 (by decide) ?_
  refine g_invV C (ct_X12_began (s := (tS s v f)) (k := 20) hT hTk) (YO_o ..) cv_X12_268_12 (rmk_ok (by decide) (by decide) (by decide) (by decide)) (Nat.le_of_ble_eq_true rfl) rfl dX12_markOf_20 rfl (fun r M9 n9 hq => ?_)
  obtain ⟨hr9, hn9, v, f, hm9, hT⟩ := hq
  subst hr9
  rw [hn9, hm9]
  rw [tS_tS] at hT ⊢
  show G κ _ _ _ _ _ 0 0
  clear hm9
  have hTk := tlLeave_ok (x := 20) hTk
  refine s_n1_iload C dX12_markOf_23 ?_
  refine s_n0_aload C dX12_markOf_24 ?_
  refine s_n1_iload C dX12_markOf_25 ?_
  refine g_invV C (ct_X12_clearSize_6 (s := tS s v f) (S := S) ht hb hps hp hT hTk ki) (YO_o ..) cv_X12_274_12 (rmk_ok (by decide) (by decide) (by decide) (by decide)) (Nat.le_of_ble_eq_true rfl) rfl dX12_markOf_26 rfl (fun r M9 n9 hq => ?_)
  obtain ⟨hr9, hn9, v, f, hm9, hT⟩ := hq
  subst hr9
  rw [hn9, hm9]
  rw [tS_tS] at hT ⊢
  show G κ _ _ _ _ _ 0 0
  clear hm9
  refine g_isub C dX12_markOf_29 ?_
  refine g_iret C E dX12_markOf_30 (by decide) ?_
  exact ⟨rfl, rfl, v, f, rfl, hT⟩
set_option maxRecDepth 20000 in
theorem ct_X12_markOf_4 {s : YT} {S : SLT} {b : Int → Int} {t sk : Int} {ps : PST} {T : TLT} {M : gM} {n : Int} (ht : s.2 3 = pk S b) (hb : bOK t ps sk b) (hps : psOK ps) {p : Int} (hp : 0 ≤ p ∧ p < ps.1) (hT : trR T s) (hTk : tlOK T) (ki : ps.2.1 p = 4) : CT yX12_markOf cX12_markOf 4 (some .int) (rmk 3 0 0) [vr 152, vi p] (YO s M) n (aQ (aMark 4 p S.2.2.2.1 (ps.2.2.1 p) T) s M n) := by
  refine CT.of (by decide) (fun _ => Nat.le_of_ble_eq_true rfl) (fun κ C E => ?_)
  show G κ (YO s M) n [some (vr 152), some (vi p), none, none] 0 [] 0 0
  refine s_n0_aload C dX12_markOf_0 ?_
  refine s_n1_iload C dX12_markOf_1 ?_
  refine g_invV C (ct_X12_kindOf (s := s) (S := S) ht hb hps hp) (YO_o ..) cv_X12_167_12 (rmk_ok (by decide) (by decide) (by decide) (by decide)) (Nat.le_of_ble_eq_true rfl) rfl dX12_markOf_2 rfl (q_r0 ?_)
  rw [ki]
  show G κ _ _ _ _ (vi 1 :: _) _ _
  refine s_n2_istore C dX12_markOf_5 rfl ?_
  refine s_n2_iload C dX12_markOf_6 ?_
  refine g_iconst C dX12_markOf_7 ?_
  refine g_icmp_lt 31 C dX12_markOf_8 (by decide) (by first | assumption | (unfold iR; omega)) (by first | assumption | (unfold iR; omega)) (fun c8 => ?_) (fun c8 => by exfalso; omega)
  refine s_n2_iload C dX12_markOf_31 ?_
  refine g_iconst C dX12_markOf_32 ?_
  refine g_icmp_eq 52 C dX12_markOf_33 (by decide) (by first | assumption | (unfold iR; omega)) (by first | assumption | (unfold iR; omega)) (fun c33 => ?_) (fun c33 => by exfalso; omega)
  refine s_n0_aload C dX12_markOf_52 ?_
  refine g_bipush C dX12_markOf_53 (by decide) ?_
  refine g_invV C (ct_X12_began (s := s) (k := 21) hT hTk) (YO_o ..) cv_X12_268_12 (rmk_ok (by decide) (by decide) (by decide) (by decide)) (Nat.le_of_ble_eq_true rfl) rfl dX12_markOf_55 rfl (fun r M9 n9 hq => ?_)
  obtain ⟨hr9, hn9, v, f, hm9, hT⟩ := hq
  subst hr9
  rw [hn9, hm9]
  show G κ _ _ _ _ _ 0 0
  clear hm9
  have hTk := tlLeave_ok (x := 21) hTk
  refine s_n0_aload C dX12_markOf_58 ?_
  refine g_bipush C dX12_markOf_59 (by decide) ?_
  refine g_invV C (ct_X12_began (s := (tS s v f)) (k := 20) hT hTk) (YO_o ..) cv_X12_268_12 (rmk_ok (by decide) (by decide) (by decide) (by decide)) (Nat.le_of_ble_eq_true rfl) rfl dX12_markOf_61 rfl (fun r M9 n9 hq => ?_)
  obtain ⟨hr9, hn9, v, f, hm9, hT⟩ := hq
  subst hr9
  rw [hn9, hm9]
  rw [tS_tS] at hT ⊢
  show G κ _ _ _ _ _ 0 0
  clear hm9
  have hTk := tlLeave_ok (x := 20) hTk
  refine s_n1_iload C dX12_markOf_64 ?_
  refine s_n0_aload C dX12_markOf_65 ?_
  refine g_get C fd_X12_19_12 dX12_markOf_66 (YO_o ..) rfl ?_
  refine g_iconst C dX12_markOf_69 ?_
  refine g_iald C dX12_markOf_70 (YO_a3 ..) (by omega) ?_
  rw [show (tS s v f).2 3 = pk S b from ht]
  show G κ _ _ _ _ (vi S.2.2.2.1 :: _) _ _
  refine g_iadd C dX12_markOf_71 ?_
  refine s_n3_istore C dX12_markOf_72 rfl ?_
  refine s_n2_iload C dX12_markOf_73 ?_
  refine g_iconst C dX12_markOf_74 ?_
  refine g_icmp_ne 82 C dX12_markOf_75 (by decide) (by first | assumption | (unfold iR; omega)) (by first | assumption | (unfold iR; omega)) (fun c75 => by exfalso; omega) (fun c75 => ?_)
  refine s_n3_iload C dX12_markOf_78 ?_
  refine g_goto 98 C dX12_markOf_79 (by decide) ?_
  refine g_iret C E dX12_markOf_98 (by decide) ?_
  exact ⟨rfl, rfl, v, f, rfl, hT⟩
set_option maxRecDepth 20000 in
theorem ct_X12_markOf_5 {s : YT} {S : SLT} {b : Int → Int} {t sk : Int} {ps : PST} {T : TLT} {M : gM} {n : Int} (ht : s.2 3 = pk S b) (hb : bOK t ps sk b) (hps : psOK ps) {p : Int} (hp : 0 ≤ p ∧ p < ps.1) (hT : trR T s) (hTk : tlOK T) (ki : ps.2.1 p = 5) : CT yX12_markOf cX12_markOf 4 (some .int) (rmk 3 0 0) [vr 152, vi p] (YO s M) n (aQ (aMark 5 p S.2.2.2.1 (ps.2.2.1 p) T) s M n) := by
  refine CT.of (by decide) (fun _ => Nat.le_of_ble_eq_true rfl) (fun κ C E => ?_)
  show G κ (YO s M) n [some (vr 152), some (vi p), none, none] 0 [] 0 0
  refine s_n0_aload C dX12_markOf_0 ?_
  refine s_n1_iload C dX12_markOf_1 ?_
  refine g_invV C (ct_X12_kindOf (s := s) (S := S) ht hb hps hp) (YO_o ..) cv_X12_167_12 (rmk_ok (by decide) (by decide) (by decide) (by decide)) (Nat.le_of_ble_eq_true rfl) rfl dX12_markOf_2 rfl (q_r0 ?_)
  rw [ki]
  show G κ _ _ _ _ (vi 2 :: _) _ _
  refine s_n2_istore C dX12_markOf_5 rfl ?_
  refine s_n2_iload C dX12_markOf_6 ?_
  refine g_iconst C dX12_markOf_7 ?_
  refine g_icmp_lt 31 C dX12_markOf_8 (by decide) (by first | assumption | (unfold iR; omega)) (by first | assumption | (unfold iR; omega)) (fun c8 => ?_) (fun c8 => by exfalso; omega)
  refine s_n2_iload C dX12_markOf_31 ?_
  refine g_iconst C dX12_markOf_32 ?_
  refine g_icmp_eq 52 C dX12_markOf_33 (by decide) (by first | assumption | (unfold iR; omega)) (by first | assumption | (unfold iR; omega)) (fun c33 => by exfalso; omega) (fun c33 => ?_)
  refine s_n0_aload C dX12_markOf_36 ?_
  refine s_n2_iload C dX12_markOf_37 ?_
  refine g_iconst C dX12_markOf_38 ?_
  refine g_icmp_ne 47 C dX12_markOf_39 (by decide) (by first | assumption | (unfold iR; omega)) (by first | assumption | (unfold iR; omega)) (fun c39 => ?_) (fun c39 => by exfalso; omega)
  refine g_bipush C dX12_markOf_47 (by decide) ?_
  refine g_invV C (ct_X12_began (s := s) (k := 24) hT hTk) (YO_o ..) cv_X12_268_12 (rmk_ok (by decide) (by decide) (by decide) (by decide)) (Nat.le_of_ble_eq_true rfl) rfl dX12_markOf_49 rfl (fun r M9 n9 hq => ?_)
  obtain ⟨hr9, hn9, v, f, hm9, hT⟩ := hq
  subst hr9
  rw [hn9, hm9]
  show G κ _ _ _ _ _ 0 0
  clear hm9
  have hTk := tlLeave_ok (x := 24) hTk
  refine s_n0_aload C dX12_markOf_52 ?_
  refine g_bipush C dX12_markOf_53 (by decide) ?_
  refine g_invV C (ct_X12_began (s := (tS s v f)) (k := 21) hT hTk) (YO_o ..) cv_X12_268_12 (rmk_ok (by decide) (by decide) (by decide) (by decide)) (Nat.le_of_ble_eq_true rfl) rfl dX12_markOf_55 rfl (fun r M9 n9 hq => ?_)
  obtain ⟨hr9, hn9, v, f, hm9, hT⟩ := hq
  subst hr9
  rw [hn9, hm9]
  rw [tS_tS] at hT ⊢
  show G κ _ _ _ _ _ 0 0
  clear hm9
  have hTk := tlLeave_ok (x := 21) hTk
  refine s_n0_aload C dX12_markOf_58 ?_
  refine g_bipush C dX12_markOf_59 (by decide) ?_
  refine g_invV C (ct_X12_began (s := (tS s v f)) (k := 20) hT hTk) (YO_o ..) cv_X12_268_12 (rmk_ok (by decide) (by decide) (by decide) (by decide)) (Nat.le_of_ble_eq_true rfl) rfl dX12_markOf_61 rfl (fun r M9 n9 hq => ?_)
  obtain ⟨hr9, hn9, v, f, hm9, hT⟩ := hq
  subst hr9
  rw [hn9, hm9]
  rw [tS_tS] at hT ⊢
  show G κ _ _ _ _ _ 0 0
  clear hm9
  have hTk := tlLeave_ok (x := 20) hTk
  refine s_n1_iload C dX12_markOf_64 ?_
  refine s_n0_aload C dX12_markOf_65 ?_
  refine g_get C fd_X12_19_12 dX12_markOf_66 (YO_o ..) rfl ?_
  refine g_iconst C dX12_markOf_69 ?_
  refine g_iald C dX12_markOf_70 (YO_a3 ..) (by omega) ?_
  rw [show (tS s v f).2 3 = pk S b from ht]
  show G κ _ _ _ _ (vi S.2.2.2.1 :: _) _ _
  refine g_iadd C dX12_markOf_71 ?_
  refine s_n3_istore C dX12_markOf_72 rfl ?_
  refine s_n2_iload C dX12_markOf_73 ?_
  refine g_iconst C dX12_markOf_74 ?_
  refine g_icmp_ne 82 C dX12_markOf_75 (by decide) (by first | assumption | (unfold iR; omega)) (by first | assumption | (unfold iR; omega)) (fun c75 => ?_) (fun c75 => by exfalso; omega)
  refine s_n2_iload C dX12_markOf_82 ?_
  refine g_iconst C dX12_markOf_83 ?_
  refine g_icmp_ne 95 C dX12_markOf_84 (by decide) (by first | assumption | (unfold iR; omega)) (by first | assumption | (unfold iR; omega)) (fun c84 => ?_) (fun c84 => by exfalso; omega)
  refine g_iconst C dX12_markOf_95 ?_
  refine s_n3_iload C dX12_markOf_96 ?_
  refine g_imul C dX12_markOf_97 ?_
  refine g_iret C E dX12_markOf_98 (by decide) ?_
  refine ⟨?_, rfl, v, f, rfl, hT⟩
  rw [Int.mul_comm]
  rfl
set_option maxRecDepth 20000 in
theorem ct_X12_markOf_2 {s : YT} {S : SLT} {b : Int → Int} {t sk : Int} {ps : PST} {T : TLT} {M : gM} {n : Int} (ht : s.2 3 = pk S b) (hb : bOK t ps sk b) (hps : psOK ps) {p : Int} (hp : 0 ≤ p ∧ p < ps.1) (hT : trR T s) (hTk : tlOK T) (ki : ps.2.1 p = 2) : CT yX12_markOf cX12_markOf 4 (some .int) (rmk 3 0 0) [vr 152, vi p] (YO s M) n (aQ (aMark 2 p S.2.2.2.1 (ps.2.2.1 p) T) s M n) := by
  refine CT.of (by decide) (fun _ => Nat.le_of_ble_eq_true rfl) (fun κ C E => ?_)
  show G κ (YO s M) n [some (vr 152), some (vi p), none, none] 0 [] 0 0
  refine s_n0_aload C dX12_markOf_0 ?_
  refine s_n1_iload C dX12_markOf_1 ?_
  refine g_invV C (ct_X12_kindOf (s := s) (S := S) ht hb hps hp) (YO_o ..) cv_X12_167_12 (rmk_ok (by decide) (by decide) (by decide) (by decide)) (Nat.le_of_ble_eq_true rfl) rfl dX12_markOf_2 rfl (q_r0 ?_)
  rw [ki]
  show G κ _ _ _ _ (vi 3 :: _) _ _
  refine s_n2_istore C dX12_markOf_5 rfl ?_
  refine s_n2_iload C dX12_markOf_6 ?_
  refine g_iconst C dX12_markOf_7 ?_
  refine g_icmp_lt 31 C dX12_markOf_8 (by decide) (by first | assumption | (unfold iR; omega)) (by first | assumption | (unfold iR; omega)) (fun c8 => ?_) (fun c8 => by exfalso; omega)
  refine s_n2_iload C dX12_markOf_31 ?_
  refine g_iconst C dX12_markOf_32 ?_
  refine g_icmp_eq 52 C dX12_markOf_33 (by decide) (by first | assumption | (unfold iR; omega)) (by first | assumption | (unfold iR; omega)) (fun c33 => by exfalso; omega) (fun c33 => ?_)
  refine s_n0_aload C dX12_markOf_36 ?_
  refine s_n2_iload C dX12_markOf_37 ?_
  refine g_iconst C dX12_markOf_38 ?_
  refine g_icmp_ne 47 C dX12_markOf_39 (by decide) (by first | assumption | (unfold iR; omega)) (by first | assumption | (unfold iR; omega)) (fun c39 => by exfalso; omega) (fun c39 => ?_)
  refine g_bipush C dX12_markOf_42 (by decide) ?_
  refine g_goto 49 C dX12_markOf_44 (by decide) ?_
  refine g_invV C (ct_X12_began (s := s) (k := 22) hT hTk) (YO_o ..) cv_X12_268_12 (rmk_ok (by decide) (by decide) (by decide) (by decide)) (Nat.le_of_ble_eq_true rfl) rfl dX12_markOf_49 rfl (fun r M9 n9 hq => ?_)
  obtain ⟨hr9, hn9, v, f, hm9, hT⟩ := hq
  subst hr9
  rw [hn9, hm9]
  show G κ _ _ _ _ _ 0 0
  clear hm9
  have hTk := tlLeave_ok (x := 22) hTk
  refine s_n0_aload C dX12_markOf_52 ?_
  refine g_bipush C dX12_markOf_53 (by decide) ?_
  refine g_invV C (ct_X12_began (s := (tS s v f)) (k := 21) hT hTk) (YO_o ..) cv_X12_268_12 (rmk_ok (by decide) (by decide) (by decide) (by decide)) (Nat.le_of_ble_eq_true rfl) rfl dX12_markOf_55 rfl (fun r M9 n9 hq => ?_)
  obtain ⟨hr9, hn9, v, f, hm9, hT⟩ := hq
  subst hr9
  rw [hn9, hm9]
  rw [tS_tS] at hT ⊢
  show G κ _ _ _ _ _ 0 0
  clear hm9
  have hTk := tlLeave_ok (x := 21) hTk
  refine s_n0_aload C dX12_markOf_58 ?_
  refine g_bipush C dX12_markOf_59 (by decide) ?_
  refine g_invV C (ct_X12_began (s := (tS s v f)) (k := 20) hT hTk) (YO_o ..) cv_X12_268_12 (rmk_ok (by decide) (by decide) (by decide) (by decide)) (Nat.le_of_ble_eq_true rfl) rfl dX12_markOf_61 rfl (fun r M9 n9 hq => ?_)
  obtain ⟨hr9, hn9, v, f, hm9, hT⟩ := hq
  subst hr9
  rw [hn9, hm9]
  rw [tS_tS] at hT ⊢
  show G κ _ _ _ _ _ 0 0
  clear hm9
  have hTk := tlLeave_ok (x := 20) hTk
  refine s_n1_iload C dX12_markOf_64 ?_
  refine s_n0_aload C dX12_markOf_65 ?_
  refine g_get C fd_X12_19_12 dX12_markOf_66 (YO_o ..) rfl ?_
  refine g_iconst C dX12_markOf_69 ?_
  refine g_iald C dX12_markOf_70 (YO_a3 ..) (by omega) ?_
  rw [show (tS s v f).2 3 = pk S b from ht]
  show G κ _ _ _ _ (vi S.2.2.2.1 :: _) _ _
  refine g_iadd C dX12_markOf_71 ?_
  refine s_n3_istore C dX12_markOf_72 rfl ?_
  refine s_n2_iload C dX12_markOf_73 ?_
  refine g_iconst C dX12_markOf_74 ?_
  refine g_icmp_ne 82 C dX12_markOf_75 (by decide) (by first | assumption | (unfold iR; omega)) (by first | assumption | (unfold iR; omega)) (fun c75 => ?_) (fun c75 => by exfalso; omega)
  refine s_n2_iload C dX12_markOf_82 ?_
  refine g_iconst C dX12_markOf_83 ?_
  refine g_icmp_ne 95 C dX12_markOf_84 (by decide) (by first | assumption | (unfold iR; omega)) (by first | assumption | (unfold iR; omega)) (fun c84 => by exfalso; omega) (fun c84 => ?_)
  refine s_n3_iload C dX12_markOf_87 ?_
  refine g_sipush C dX12_markOf_88 (by decide) ?_
  refine g_isub C dX12_markOf_91 ?_
  refine g_goto 98 C dX12_markOf_92 (by decide) ?_
  refine g_iret C E dX12_markOf_98 (by decide) ?_
  exact ⟨rfl, rfl, v, f, rfl, hT⟩
set_option maxRecDepth 20000 in
theorem ct_X12_sizeOf_1 {s : YT} {S : SLT} {b : Int → Int} {t sk : Int} {ps : PST} {T : TLT} {M : gM} {n : Int} (ht : s.2 3 = pk S b) (hb : bOK t ps sk b) (hps : psOK ps) {p : Int} (hp : 0 ≤ p ∧ p < ps.1) (hT : trR T s) (hTk : tlOK T) (ki : ps.2.1 p = 1) : CT yX12_sizeOf cX12_sizeOf 4 (some .int) (rmk 4 0 0) [vr 152, vi p] (YO s M) n (aQ (aSize 1 p S.2.2.2.1 (ps.2.2.1 p) T) s M n) := by
  refine CT.of (by decide) (fun _ => Nat.le_of_ble_eq_true rfl) (fun κ C E => ?_)
  show G κ (YO s M) n [some (vr 152), some (vi p), none, none] 0 [] 0 0
  refine s_n0_aload C dX12_sizeOf_0 ?_
  refine s_n1_iload C dX12_sizeOf_1 ?_
  refine g_invV C (ct_X12_kindOf (s := s) (S := S) ht hb hps hp) (YO_o ..) cv_X12_167_12 (rmk_ok (by decide) (by decide) (by decide) (by decide)) (Nat.le_of_ble_eq_true rfl) rfl dX12_sizeOf_2 rfl (q_r0 ?_)
  rw [ki]
  show G κ _ _ _ _ (vi 4 :: _) _ _
  refine s_n2_istore C dX12_sizeOf_5 rfl ?_
  refine s_n2_iload C dX12_sizeOf_6 ?_
  refine g_iconst C dX12_sizeOf_7 ?_
  refine g_icmp_lt 17 C dX12_sizeOf_8 (by decide) (by first | assumption | (unfold iR; omega)) (by first | assumption | (unfold iR; omega)) (fun c8 => by exfalso; omega) (fun c8 => ?_)
  refine s_n0_aload C dX12_sizeOf_11 ?_
  refine s_n1_iload C dX12_sizeOf_12 ?_
  refine g_invV C (ct_X12_clearSize_1 ht hb hps hp hT hTk ki) (YO_o ..) cv_X12_274_12 (rmk_ok (by decide) (by decide) (by decide) (by decide)) (Nat.le_of_ble_eq_true rfl) rfl dX12_sizeOf_13 rfl (fun r M9 n9 hq => ?_)
  obtain ⟨hr9, hn9, v, f, hm9, hT⟩ := hq
  subst hr9
  rw [hn9, hm9]
  show G κ _ _ _ _ _ 0 0
  clear hm9
  refine g_iret C E dX12_sizeOf_16 (by decide) ?_
  exact ⟨rfl, rfl, v, f, rfl, hT⟩
set_option maxRecDepth 20000 in
theorem ct_X12_sizeOf_6 {s : YT} {S : SLT} {b : Int → Int} {t sk : Int} {ps : PST} {T : TLT} {M : gM} {n : Int} (ht : s.2 3 = pk S b) (hb : bOK t ps sk b) (hps : psOK ps) {p : Int} (hp : 0 ≤ p ∧ p < ps.1) (hT : trR T s) (hTk : tlOK T) (ki : ps.2.1 p = 6) : CT yX12_sizeOf cX12_sizeOf 4 (some .int) (rmk 4 0 0) [vr 152, vi p] (YO s M) n (aQ (aSize 6 p S.2.2.2.1 (ps.2.2.1 p) T) s M n) := by
  refine CT.of (by decide) (fun _ => Nat.le_of_ble_eq_true rfl) (fun κ C E => ?_)
  show G κ (YO s M) n [some (vr 152), some (vi p), none, none] 0 [] 0 0
  refine s_n0_aload C dX12_sizeOf_0 ?_
  refine s_n1_iload C dX12_sizeOf_1 ?_
  refine g_invV C (ct_X12_kindOf (s := s) (S := S) ht hb hps hp) (YO_o ..) cv_X12_167_12 (rmk_ok (by decide) (by decide) (by decide) (by decide)) (Nat.le_of_ble_eq_true rfl) rfl dX12_sizeOf_2 rfl (q_r0 ?_)
  rw [ki]
  show G κ _ _ _ _ (vi 5 :: _) _ _
  refine s_n2_istore C dX12_sizeOf_5 rfl ?_
  refine s_n2_iload C dX12_sizeOf_6 ?_
  refine g_iconst C dX12_sizeOf_7 ?_
  refine g_icmp_lt 17 C dX12_sizeOf_8 (by decide) (by first | assumption | (unfold iR; omega)) (by first | assumption | (unfold iR; omega)) (fun c8 => by exfalso; omega) (fun c8 => ?_)
  refine s_n0_aload C dX12_sizeOf_11 ?_
  refine s_n1_iload C dX12_sizeOf_12 ?_
  refine g_invV C (ct_X12_clearSize_6 ht hb hps hp hT hTk ki) (YO_o ..) cv_X12_274_12 (rmk_ok (by decide) (by decide) (by decide) (by decide)) (Nat.le_of_ble_eq_true rfl) rfl dX12_sizeOf_13 rfl (fun r M9 n9 hq => ?_)
  obtain ⟨hr9, hn9, v, f, hm9, hT⟩ := hq
  subst hr9
  rw [hn9, hm9]
  show G κ _ _ _ _ _ 0 0
  clear hm9
  refine g_iret C E dX12_sizeOf_16 (by decide) ?_
  exact ⟨rfl, rfl, v, f, rfl, hT⟩
set_option maxRecDepth 20000 in
theorem ct_X12_sizeOf_4 {s : YT} {S : SLT} {b : Int → Int} {t sk : Int} {ps : PST} {T : TLT} {M : gM} {n : Int} (ht : s.2 3 = pk S b) (hb : bOK t ps sk b) (hps : psOK ps) {p : Int} (hp : 0 ≤ p ∧ p < ps.1) (hT : trR T s) (hTk : tlOK T) (ki : ps.2.1 p = 4) : CT yX12_sizeOf cX12_sizeOf 4 (some .int) (rmk 4 0 0) [vr 152, vi p] (YO s M) n (aQ (aSize 4 p S.2.2.2.1 (ps.2.2.1 p) T) s M n) := by
  refine CT.of (by decide) (fun _ => Nat.le_of_ble_eq_true rfl) (fun κ C E => ?_)
  show G κ (YO s M) n [some (vr 152), some (vi p), none, none] 0 [] 0 0
  refine s_n0_aload C dX12_sizeOf_0 ?_
  refine s_n1_iload C dX12_sizeOf_1 ?_
  refine g_invV C (ct_X12_kindOf (s := s) (S := S) ht hb hps hp) (YO_o ..) cv_X12_167_12 (rmk_ok (by decide) (by decide) (by decide) (by decide)) (Nat.le_of_ble_eq_true rfl) rfl dX12_sizeOf_2 rfl (q_r0 ?_)
  rw [ki]
  show G κ _ _ _ _ (vi 1 :: _) _ _
  refine s_n2_istore C dX12_sizeOf_5 rfl ?_
  refine s_n2_iload C dX12_sizeOf_6 ?_
  refine g_iconst C dX12_sizeOf_7 ?_
  refine g_icmp_lt 17 C dX12_sizeOf_8 (by decide) (by first | assumption | (unfold iR; omega)) (by first | assumption | (unfold iR; omega)) (fun c8 => ?_) (fun c8 => by exfalso; omega)
  refine s_n2_iload C dX12_sizeOf_17 ?_
  refine g_iconst C dX12_sizeOf_18 ?_
  refine g_icmp_ne 28 C dX12_sizeOf_19 (by decide) (by first | assumption | (unfold iR; omega)) (by first | assumption | (unfold iR; omega)) (fun c19 => ?_) (fun c19 => by exfalso; omega)
  refine s_n0_aload C dX12_sizeOf_28 ?_
  refine g_bipush C dX12_sizeOf_29 (by decide) ?_
  refine g_invV C (ct_X12_began (s := s) (k := 11) hT hTk) (YO_o ..) cv_X12_268_12 (rmk_ok (by decide) (by decide) (by decide) (by decide)) (Nat.le_of_ble_eq_true rfl) rfl dX12_sizeOf_31 rfl (fun r M9 n9 hq => ?_)
  obtain ⟨hr9, hn9, v, f, hm9, hT⟩ := hq
  subst hr9
  rw [hn9, hm9]
  show G κ _ _ _ _ _ 0 0
  clear hm9
  have hTk := tlLeave_ok (x := 11) hTk
  refine s_n0_aload C dX12_sizeOf_34 ?_
  refine s_n1_iload C dX12_sizeOf_35 ?_
  refine g_invV C (ct_X12_plainSize (s := (tS s v f)) (S := S) ht hb hps hp  hT hTk) (YO_o ..) cv_X12_271_12 (rmk_ok (by decide) (by decide) (by decide) (by decide)) (Nat.le_of_ble_eq_true rfl) rfl dX12_sizeOf_36 rfl (fun r M9 n9 hq => ?_)
  obtain ⟨hr9, hn9, v, f, hm9, hT⟩ := hq
  subst hr9
  rw [hn9, hm9]
  rw [tS_tS] at hT ⊢
  show G κ _ _ _ _ _ 0 0
  clear hm9
  have hTk := aS10_ok (len := ps.2.2.1 p) hTk
  refine s_n3_istore C dX12_sizeOf_39 rfl ?_
  refine s_n3_iload C dX12_sizeOf_40 ?_
  refine s_n0_aload C dX12_sizeOf_41 ?_
  refine s_n1_iload C dX12_sizeOf_42 ?_
  refine g_invV C (ct_X12_markOf_4 (s := tS s v f) (S := S) ht hb hps hp hT hTk ki) (YO_o ..) cv_X12_277_12 (rmk_ok (by decide) (by decide) (by decide) (by decide)) (Nat.le_of_ble_eq_true rfl) rfl dX12_sizeOf_43 rfl (fun r M9 n9 hq => ?_)
  obtain ⟨hr9, hn9, v, f, hm9, hT⟩ := hq
  subst hr9
  rw [hn9, hm9]
  rw [tS_tS] at hT ⊢
  show G κ _ _ _ _ _ 0 0
  clear hm9
  refine g_iadd C dX12_sizeOf_46 ?_
  refine s_n3_istore C dX12_sizeOf_47 rfl ?_
  refine s_n2_iload C dX12_sizeOf_48 ?_
  refine g_iconst C dX12_sizeOf_49 ?_
  refine g_icmp_ne 58 C dX12_sizeOf_50 (by decide) (by first | assumption | (unfold iR; omega)) (by first | assumption | (unfold iR; omega)) (fun c50 => ?_) (fun c50 => by exfalso; omega)
  refine s_n3_iload C dX12_sizeOf_58 ?_
  refine g_iret C E dX12_sizeOf_59 (by decide) ?_
  exact ⟨rfl, rfl, v, f, rfl, hT⟩
set_option maxRecDepth 20000 in
theorem ct_X12_sizeOf_5 {s : YT} {S : SLT} {b : Int → Int} {t sk : Int} {ps : PST} {T : TLT} {M : gM} {n : Int} (ht : s.2 3 = pk S b) (hb : bOK t ps sk b) (hps : psOK ps) {p : Int} (hp : 0 ≤ p ∧ p < ps.1) (hT : trR T s) (hTk : tlOK T) (ki : ps.2.1 p = 5) : CT yX12_sizeOf cX12_sizeOf 4 (some .int) (rmk 4 0 0) [vr 152, vi p] (YO s M) n (aQ (aSize 5 p S.2.2.2.1 (ps.2.2.1 p) T) s M n) := by
  refine CT.of (by decide) (fun _ => Nat.le_of_ble_eq_true rfl) (fun κ C E => ?_)
  show G κ (YO s M) n [some (vr 152), some (vi p), none, none] 0 [] 0 0
  refine s_n0_aload C dX12_sizeOf_0 ?_
  refine s_n1_iload C dX12_sizeOf_1 ?_
  refine g_invV C (ct_X12_kindOf (s := s) (S := S) ht hb hps hp) (YO_o ..) cv_X12_167_12 (rmk_ok (by decide) (by decide) (by decide) (by decide)) (Nat.le_of_ble_eq_true rfl) rfl dX12_sizeOf_2 rfl (q_r0 ?_)
  rw [ki]
  show G κ _ _ _ _ (vi 2 :: _) _ _
  refine s_n2_istore C dX12_sizeOf_5 rfl ?_
  refine s_n2_iload C dX12_sizeOf_6 ?_
  refine g_iconst C dX12_sizeOf_7 ?_
  refine g_icmp_lt 17 C dX12_sizeOf_8 (by decide) (by first | assumption | (unfold iR; omega)) (by first | assumption | (unfold iR; omega)) (fun c8 => ?_) (fun c8 => by exfalso; omega)
  refine s_n2_iload C dX12_sizeOf_17 ?_
  refine g_iconst C dX12_sizeOf_18 ?_
  refine g_icmp_ne 28 C dX12_sizeOf_19 (by decide) (by first | assumption | (unfold iR; omega)) (by first | assumption | (unfold iR; omega)) (fun c19 => by exfalso; omega) (fun c19 => ?_)
  refine s_n0_aload C dX12_sizeOf_22 ?_
  refine g_bipush C dX12_sizeOf_23 (by decide) ?_
  refine g_invV C (ct_X12_began (s := s) (k := 12) hT hTk) (YO_o ..) cv_X12_268_12 (rmk_ok (by decide) (by decide) (by decide) (by decide)) (Nat.le_of_ble_eq_true rfl) rfl dX12_sizeOf_25 rfl (fun r M9 n9 hq => ?_)
  obtain ⟨hr9, hn9, v, f, hm9, hT⟩ := hq
  subst hr9
  rw [hn9, hm9]
  show G κ _ _ _ _ _ 0 0
  clear hm9
  have hTk := tlLeave_ok (x := 12) hTk
  refine s_n0_aload C dX12_sizeOf_28 ?_
  refine g_bipush C dX12_sizeOf_29 (by decide) ?_
  refine g_invV C (ct_X12_began (s := (tS s v f)) (k := 11) hT hTk) (YO_o ..) cv_X12_268_12 (rmk_ok (by decide) (by decide) (by decide) (by decide)) (Nat.le_of_ble_eq_true rfl) rfl dX12_sizeOf_31 rfl (fun r M9 n9 hq => ?_)
  obtain ⟨hr9, hn9, v, f, hm9, hT⟩ := hq
  subst hr9
  rw [hn9, hm9]
  rw [tS_tS] at hT ⊢
  show G κ _ _ _ _ _ 0 0
  clear hm9
  have hTk := tlLeave_ok (x := 11) hTk
  refine s_n0_aload C dX12_sizeOf_34 ?_
  refine s_n1_iload C dX12_sizeOf_35 ?_
  refine g_invV C (ct_X12_plainSize (s := (tS s v f)) (S := S) ht hb hps hp  hT hTk) (YO_o ..) cv_X12_271_12 (rmk_ok (by decide) (by decide) (by decide) (by decide)) (Nat.le_of_ble_eq_true rfl) rfl dX12_sizeOf_36 rfl (fun r M9 n9 hq => ?_)
  obtain ⟨hr9, hn9, v, f, hm9, hT⟩ := hq
  subst hr9
  rw [hn9, hm9]
  rw [tS_tS] at hT ⊢
  show G κ _ _ _ _ _ 0 0
  clear hm9
  have hTk := aS10_ok (len := ps.2.2.1 p) hTk
  refine s_n3_istore C dX12_sizeOf_39 rfl ?_
  refine s_n3_iload C dX12_sizeOf_40 ?_
  refine s_n0_aload C dX12_sizeOf_41 ?_
  refine s_n1_iload C dX12_sizeOf_42 ?_
  refine g_invV C (ct_X12_markOf_5 (s := tS s v f) (S := S) ht hb hps hp hT hTk ki) (YO_o ..) cv_X12_277_12 (rmk_ok (by decide) (by decide) (by decide) (by decide)) (Nat.le_of_ble_eq_true rfl) rfl dX12_sizeOf_43 rfl (fun r M9 n9 hq => ?_)
  obtain ⟨hr9, hn9, v, f, hm9, hT⟩ := hq
  subst hr9
  rw [hn9, hm9]
  rw [tS_tS] at hT ⊢
  show G κ _ _ _ _ _ 0 0
  clear hm9
  refine g_iadd C dX12_sizeOf_46 ?_
  refine s_n3_istore C dX12_sizeOf_47 rfl ?_
  refine s_n2_iload C dX12_sizeOf_48 ?_
  refine g_iconst C dX12_sizeOf_49 ?_
  refine g_icmp_ne 58 C dX12_sizeOf_50 (by decide) (by first | assumption | (unfold iR; omega)) (by first | assumption | (unfold iR; omega)) (fun c50 => by exfalso; omega) (fun c50 => ?_)
  refine s_n3_iload C dX12_sizeOf_53 ?_
  refine g_ineg C dX12_sizeOf_54 ?_
  refine g_goto 59 C dX12_sizeOf_55 (by decide) ?_
  refine g_iret C E dX12_sizeOf_59 (by decide) ?_
  exact ⟨rfl, rfl, v, f, rfl, hT⟩
set_option maxRecDepth 20000 in
theorem ct_X12_sizeOf_2 {s : YT} {S : SLT} {b : Int → Int} {t sk : Int} {ps : PST} {T : TLT} {M : gM} {n : Int} (ht : s.2 3 = pk S b) (hb : bOK t ps sk b) (hps : psOK ps) {p : Int} (hp : 0 ≤ p ∧ p < ps.1) (hT : trR T s) (hTk : tlOK T) (ki : ps.2.1 p = 2) : CT yX12_sizeOf cX12_sizeOf 4 (some .int) (rmk 4 0 0) [vr 152, vi p] (YO s M) n (aQ (aSize 2 p S.2.2.2.1 (ps.2.2.1 p) T) s M n) := by
  refine CT.of (by decide) (fun _ => Nat.le_of_ble_eq_true rfl) (fun κ C E => ?_)
  show G κ (YO s M) n [some (vr 152), some (vi p), none, none] 0 [] 0 0
  refine s_n0_aload C dX12_sizeOf_0 ?_
  refine s_n1_iload C dX12_sizeOf_1 ?_
  refine g_invV C (ct_X12_kindOf (s := s) (S := S) ht hb hps hp) (YO_o ..) cv_X12_167_12 (rmk_ok (by decide) (by decide) (by decide) (by decide)) (Nat.le_of_ble_eq_true rfl) rfl dX12_sizeOf_2 rfl (q_r0 ?_)
  rw [ki]
  show G κ _ _ _ _ (vi 3 :: _) _ _
  refine s_n2_istore C dX12_sizeOf_5 rfl ?_
  refine s_n2_iload C dX12_sizeOf_6 ?_
  refine g_iconst C dX12_sizeOf_7 ?_
  refine g_icmp_lt 17 C dX12_sizeOf_8 (by decide) (by first | assumption | (unfold iR; omega)) (by first | assumption | (unfold iR; omega)) (fun c8 => ?_) (fun c8 => by exfalso; omega)
  refine s_n2_iload C dX12_sizeOf_17 ?_
  refine g_iconst C dX12_sizeOf_18 ?_
  refine g_icmp_ne 28 C dX12_sizeOf_19 (by decide) (by first | assumption | (unfold iR; omega)) (by first | assumption | (unfold iR; omega)) (fun c19 => ?_) (fun c19 => by exfalso; omega)
  refine s_n0_aload C dX12_sizeOf_28 ?_
  refine g_bipush C dX12_sizeOf_29 (by decide) ?_
  refine g_invV C (ct_X12_began (s := s) (k := 11) hT hTk) (YO_o ..) cv_X12_268_12 (rmk_ok (by decide) (by decide) (by decide) (by decide)) (Nat.le_of_ble_eq_true rfl) rfl dX12_sizeOf_31 rfl (fun r M9 n9 hq => ?_)
  obtain ⟨hr9, hn9, v, f, hm9, hT⟩ := hq
  subst hr9
  rw [hn9, hm9]
  show G κ _ _ _ _ _ 0 0
  clear hm9
  have hTk := tlLeave_ok (x := 11) hTk
  refine s_n0_aload C dX12_sizeOf_34 ?_
  refine s_n1_iload C dX12_sizeOf_35 ?_
  refine g_invV C (ct_X12_plainSize (s := (tS s v f)) (S := S) ht hb hps hp  hT hTk) (YO_o ..) cv_X12_271_12 (rmk_ok (by decide) (by decide) (by decide) (by decide)) (Nat.le_of_ble_eq_true rfl) rfl dX12_sizeOf_36 rfl (fun r M9 n9 hq => ?_)
  obtain ⟨hr9, hn9, v, f, hm9, hT⟩ := hq
  subst hr9
  rw [hn9, hm9]
  rw [tS_tS] at hT ⊢
  show G κ _ _ _ _ _ 0 0
  clear hm9
  have hTk := aS10_ok (len := ps.2.2.1 p) hTk
  refine s_n3_istore C dX12_sizeOf_39 rfl ?_
  refine s_n3_iload C dX12_sizeOf_40 ?_
  refine s_n0_aload C dX12_sizeOf_41 ?_
  refine s_n1_iload C dX12_sizeOf_42 ?_
  refine g_invV C (ct_X12_markOf_2 (s := tS s v f) (S := S) ht hb hps hp hT hTk ki) (YO_o ..) cv_X12_277_12 (rmk_ok (by decide) (by decide) (by decide) (by decide)) (Nat.le_of_ble_eq_true rfl) rfl dX12_sizeOf_43 rfl (fun r M9 n9 hq => ?_)
  obtain ⟨hr9, hn9, v, f, hm9, hT⟩ := hq
  subst hr9
  rw [hn9, hm9]
  rw [tS_tS] at hT ⊢
  show G κ _ _ _ _ _ 0 0
  clear hm9
  refine g_iadd C dX12_sizeOf_46 ?_
  refine s_n3_istore C dX12_sizeOf_47 rfl ?_
  refine s_n2_iload C dX12_sizeOf_48 ?_
  refine g_iconst C dX12_sizeOf_49 ?_
  refine g_icmp_ne 58 C dX12_sizeOf_50 (by decide) (by first | assumption | (unfold iR; omega)) (by first | assumption | (unfold iR; omega)) (fun c50 => ?_) (fun c50 => by exfalso; omega)
  refine s_n3_iload C dX12_sizeOf_58 ?_
  refine g_iret C E dX12_sizeOf_59 (by decide) ?_
  exact ⟨rfl, rfl, v, f, rfl, hT⟩
set_option maxRecDepth 20000 in
theorem ct_X12_ask {X : XT} {s0 : YT} {M : gM} {n : Int} (h0 : yRel X s0) (hO : xOK X) {a d : Int} (ha : iR a) (hd : iR d) : CT yX12_ask cX12_ask 3 (some .int) (rmk 5 0 0) [vr 152, vi a, vi d] (YO s0 M) n (yP (xAsk X a d) M n) := by
  refine CT.of (by decide) (fun _ => Nat.le_of_ble_eq_true rfl) (fun κ C E => ?_)
  show G κ (YO s0 M) n [some (vr 152), some (vi a), some (vi d)] 0 [] 0 0
  refine s_n0_aload C dX12_ask_0 ?_
  refine g_iconst C dX12_ask_1 ?_
  refine g_put C fp_X12_44_12 dX12_ask_2 (YO_o ..) (Nat.le_of_ble_eq_true rfl) (gfit_i _) ?_
  rw [YO_p0]
  obtain ⟨b, hR⟩ := h0
  have hR := hR.th 0
  generalize ((fu s0.1 0 0, s0.2) : YT) = s at hR ⊢
  refine s_n0_aload C dX12_ask_5 ?_
  refine s_n1_iload C dX12_ask_6 ?_
  refine g_invV C (ct_X12_isPass hR.tab hR.bk hO.ps (by assumption)) (YO_o ..) cv_X12_189_12 (rmk_ok (by decide) (by decide) (by decide) (by decide)) (Nat.le_of_ble_eq_true rfl) rfl dX12_ask_7 rfl (q_r0 ?_)
  refine g_bifeq 23 C dX12_ask_10 (by decide)  (fun c10 => ?_) (fun c10 => ?_)
  · refine g_ldc (-1000001) C wd_609 dX12_ask_23 ?_
    refine g_iret C E dX12_ask_25 (by decide) ?_
    unfold xAsk
    rw [if_pos c10]
    exact ⟨rfl, rfl, _, rfl, b, hR⟩
  · refine s_n2_iload C dX12_ask_13 ?_
    refine g_i2l C dX12_ask_14 (by first | assumption | (unfold iR; omega)) ?_
    refine g_lconst0 C dX12_ask_15 ?_
    refine g_lconst1 C dX12_ask_16 ?_
    refine g_invS C (ct_X12_in (v := d) (lo := 0) (hi := 1) (by unfold iR at *; unfold lR; omega) (by unfold iR at *; unfold lR; omega) (by unfold iR at *; unfold lR; omega)) cs_X12_54 (rmk_ok (by decide) (by decide) (by decide) (by decide)) (Nat.le_of_ble_eq_true rfl) rfl dX12_ask_17 rfl (q_r0 ?_)
    refine g_bifne 26 C dX12_ask_20 (by decide)  (fun c20 => ?_) (fun c20 => ?_)
    · refine s_n0_aload C dX12_ask_26 ?_
      refine g_iconst C dX12_ask_27 ?_
      refine g_put C fp_X12_265_12 dX12_ask_28 (YO_o ..) (Nat.le_of_ble_eq_true rfl) (gfit_i _) ?_
      rw [YO_p23]
      have hT0 : trR (X.2.2.2.2.1.1, 0) (fu s.1 23 0, s.2) := ⟨rfl, fun i i0 i1 => by have i1 : i < 0 := i1; omega⟩
      have hTk : tlOK (X.2.2.2.2.1.1, (0 : Int)) := ⟨by show (0 : Int) ≤ 0; decide, by show (0 : Int) ≤ 16; decide⟩
      refine s_n2_iload C dX12_ask_31 ?_
      refine g_if_ne 43 C dX12_ask_32 (by decide) (by first | assumption | (unfold iR; omega)) (fun c32 => ?_) (fun c32 => ?_)
      · refine s_n0_aload C dX12_ask_43 ?_
        refine s_n1_iload C dX12_ask_44 ?_
        rcases (hO.ps.2.2 a c10.1 c10.2).1 with ki | ki | ki | ki | ki
        · refine g_invV C (ct_X12_markOf_1 (s := (fu s.1 23 0, s.2)) (S := xC X) hR.tab hR.bk hO.ps c10 hT0 hTk ki) (YO_o ..) cv_X12_277_12 (rmk_ok (by decide) (by decide) (by decide) (by decide)) (Nat.le_of_ble_eq_true rfl) rfl dX12_ask_45 rfl (fun r M9 n9 hq => ?_)
          obtain ⟨hr9, hn9, v, f, hm9, hT⟩ := hq
          subst hr9
          rw [hn9, hm9]
          show G κ _ _ _ _ _ 0 0
          refine g_iret C E dX12_ask_48 (by decide) ?_
          unfold xAsk
          rw [if_neg (not_not_intro c10), if_neg (not_not_intro c20), if_neg c32, ki]
          refine ⟨rfl, rfl, _, rfl, b, ?_⟩
          exact ⟨hR.st, hR.rw, hR.tab, hR.bk, hR.ac, hR.wa, hR.tl, hR.tp, hR.la, hR.ke, hT.1, hT.2⟩
        · refine g_invV C (ct_X12_markOf_2 (s := (fu s.1 23 0, s.2)) (S := xC X) hR.tab hR.bk hO.ps c10 hT0 hTk ki) (YO_o ..) cv_X12_277_12 (rmk_ok (by decide) (by decide) (by decide) (by decide)) (Nat.le_of_ble_eq_true rfl) rfl dX12_ask_45 rfl (fun r M9 n9 hq => ?_)
          obtain ⟨hr9, hn9, v, f, hm9, hT⟩ := hq
          subst hr9
          rw [hn9, hm9]
          show G κ _ _ _ _ _ 0 0
          refine g_iret C E dX12_ask_48 (by decide) ?_
          unfold xAsk
          rw [if_neg (not_not_intro c10), if_neg (not_not_intro c20), if_neg c32, ki]
          refine ⟨rfl, rfl, _, rfl, b, ?_⟩
          exact ⟨hR.st, hR.rw, hR.tab, hR.bk, hR.ac, hR.wa, hR.tl, hR.tp, hR.la, hR.ke, hT.1, hT.2⟩
        · refine g_invV C (ct_X12_markOf_4 (s := (fu s.1 23 0, s.2)) (S := xC X) hR.tab hR.bk hO.ps c10 hT0 hTk ki) (YO_o ..) cv_X12_277_12 (rmk_ok (by decide) (by decide) (by decide) (by decide)) (Nat.le_of_ble_eq_true rfl) rfl dX12_ask_45 rfl (fun r M9 n9 hq => ?_)
          obtain ⟨hr9, hn9, v, f, hm9, hT⟩ := hq
          subst hr9
          rw [hn9, hm9]
          show G κ _ _ _ _ _ 0 0
          refine g_iret C E dX12_ask_48 (by decide) ?_
          unfold xAsk
          rw [if_neg (not_not_intro c10), if_neg (not_not_intro c20), if_neg c32, ki]
          refine ⟨rfl, rfl, _, rfl, b, ?_⟩
          exact ⟨hR.st, hR.rw, hR.tab, hR.bk, hR.ac, hR.wa, hR.tl, hR.tp, hR.la, hR.ke, hT.1, hT.2⟩
        · refine g_invV C (ct_X12_markOf_5 (s := (fu s.1 23 0, s.2)) (S := xC X) hR.tab hR.bk hO.ps c10 hT0 hTk ki) (YO_o ..) cv_X12_277_12 (rmk_ok (by decide) (by decide) (by decide) (by decide)) (Nat.le_of_ble_eq_true rfl) rfl dX12_ask_45 rfl (fun r M9 n9 hq => ?_)
          obtain ⟨hr9, hn9, v, f, hm9, hT⟩ := hq
          subst hr9
          rw [hn9, hm9]
          show G κ _ _ _ _ _ 0 0
          refine g_iret C E dX12_ask_48 (by decide) ?_
          unfold xAsk
          rw [if_neg (not_not_intro c10), if_neg (not_not_intro c20), if_neg c32, ki]
          refine ⟨rfl, rfl, _, rfl, b, ?_⟩
          exact ⟨hR.st, hR.rw, hR.tab, hR.bk, hR.ac, hR.wa, hR.tl, hR.tp, hR.la, hR.ke, hT.1, hT.2⟩
        · refine g_invV C (ct_X12_markOf_6 (s := (fu s.1 23 0, s.2)) (S := xC X) hR.tab hR.bk hO.ps c10 hT0 hTk ki) (YO_o ..) cv_X12_277_12 (rmk_ok (by decide) (by decide) (by decide) (by decide)) (Nat.le_of_ble_eq_true rfl) rfl dX12_ask_45 rfl (fun r M9 n9 hq => ?_)
          obtain ⟨hr9, hn9, v, f, hm9, hT⟩ := hq
          subst hr9
          rw [hn9, hm9]
          show G κ _ _ _ _ _ 0 0
          refine g_iret C E dX12_ask_48 (by decide) ?_
          unfold xAsk
          rw [if_neg (not_not_intro c10), if_neg (not_not_intro c20), if_neg c32, ki]
          refine ⟨rfl, rfl, _, rfl, b, ?_⟩
          exact ⟨hR.st, hR.rw, hR.tab, hR.bk, hR.ac, hR.wa, hR.tl, hR.tp, hR.la, hR.ke, hT.1, hT.2⟩
      · refine s_n0_aload C dX12_ask_35 ?_
        refine s_n1_iload C dX12_ask_36 ?_
        rcases (hO.ps.2.2 a c10.1 c10.2).1 with ki | ki | ki | ki | ki
        · refine g_invV C (ct_X12_sizeOf_1 (s := (fu s.1 23 0, s.2)) (S := xC X) hR.tab hR.bk hO.ps c10 hT0 hTk ki) (YO_o ..) cv_X12_280_12 (rmk_ok (by decide) (by decide) (by decide) (by decide)) (Nat.le_of_ble_eq_true rfl) rfl dX12_ask_37 rfl (fun r M9 n9 hq => ?_)
          obtain ⟨hr9, hn9, v, f, hm9, hT⟩ := hq
          subst hr9
          rw [hn9, hm9]
          show G κ _ _ _ _ _ 0 0
          refine g_goto 48 C dX12_ask_40 (by decide) ?_
          refine g_iret C E dX12_ask_48 (by decide) ?_
          unfold xAsk
          rw [if_neg (not_not_intro c10), if_neg (not_not_intro c20), if_pos c32, ki]
          refine ⟨rfl, rfl, _, rfl, b, ?_⟩
          exact ⟨hR.st, hR.rw, hR.tab, hR.bk, hR.ac, hR.wa, hR.tl, hR.tp, hR.la, hR.ke, hT.1, hT.2⟩
        · refine g_invV C (ct_X12_sizeOf_2 (s := (fu s.1 23 0, s.2)) (S := xC X) hR.tab hR.bk hO.ps c10 hT0 hTk ki) (YO_o ..) cv_X12_280_12 (rmk_ok (by decide) (by decide) (by decide) (by decide)) (Nat.le_of_ble_eq_true rfl) rfl dX12_ask_37 rfl (fun r M9 n9 hq => ?_)
          obtain ⟨hr9, hn9, v, f, hm9, hT⟩ := hq
          subst hr9
          rw [hn9, hm9]
          show G κ _ _ _ _ _ 0 0
          refine g_goto 48 C dX12_ask_40 (by decide) ?_
          refine g_iret C E dX12_ask_48 (by decide) ?_
          unfold xAsk
          rw [if_neg (not_not_intro c10), if_neg (not_not_intro c20), if_pos c32, ki]
          refine ⟨rfl, rfl, _, rfl, b, ?_⟩
          exact ⟨hR.st, hR.rw, hR.tab, hR.bk, hR.ac, hR.wa, hR.tl, hR.tp, hR.la, hR.ke, hT.1, hT.2⟩
        · refine g_invV C (ct_X12_sizeOf_4 (s := (fu s.1 23 0, s.2)) (S := xC X) hR.tab hR.bk hO.ps c10 hT0 hTk ki) (YO_o ..) cv_X12_280_12 (rmk_ok (by decide) (by decide) (by decide) (by decide)) (Nat.le_of_ble_eq_true rfl) rfl dX12_ask_37 rfl (fun r M9 n9 hq => ?_)
          obtain ⟨hr9, hn9, v, f, hm9, hT⟩ := hq
          subst hr9
          rw [hn9, hm9]
          show G κ _ _ _ _ _ 0 0
          refine g_goto 48 C dX12_ask_40 (by decide) ?_
          refine g_iret C E dX12_ask_48 (by decide) ?_
          unfold xAsk
          rw [if_neg (not_not_intro c10), if_neg (not_not_intro c20), if_pos c32, ki]
          refine ⟨rfl, rfl, _, rfl, b, ?_⟩
          exact ⟨hR.st, hR.rw, hR.tab, hR.bk, hR.ac, hR.wa, hR.tl, hR.tp, hR.la, hR.ke, hT.1, hT.2⟩
        · refine g_invV C (ct_X12_sizeOf_5 (s := (fu s.1 23 0, s.2)) (S := xC X) hR.tab hR.bk hO.ps c10 hT0 hTk ki) (YO_o ..) cv_X12_280_12 (rmk_ok (by decide) (by decide) (by decide) (by decide)) (Nat.le_of_ble_eq_true rfl) rfl dX12_ask_37 rfl (fun r M9 n9 hq => ?_)
          obtain ⟨hr9, hn9, v, f, hm9, hT⟩ := hq
          subst hr9
          rw [hn9, hm9]
          show G κ _ _ _ _ _ 0 0
          refine g_goto 48 C dX12_ask_40 (by decide) ?_
          refine g_iret C E dX12_ask_48 (by decide) ?_
          unfold xAsk
          rw [if_neg (not_not_intro c10), if_neg (not_not_intro c20), if_pos c32, ki]
          refine ⟨rfl, rfl, _, rfl, b, ?_⟩
          exact ⟨hR.st, hR.rw, hR.tab, hR.bk, hR.ac, hR.wa, hR.tl, hR.tp, hR.la, hR.ke, hT.1, hT.2⟩
        · refine g_invV C (ct_X12_sizeOf_6 (s := (fu s.1 23 0, s.2)) (S := xC X) hR.tab hR.bk hO.ps c10 hT0 hTk ki) (YO_o ..) cv_X12_280_12 (rmk_ok (by decide) (by decide) (by decide) (by decide)) (Nat.le_of_ble_eq_true rfl) rfl dX12_ask_37 rfl (fun r M9 n9 hq => ?_)
          obtain ⟨hr9, hn9, v, f, hm9, hT⟩ := hq
          subst hr9
          rw [hn9, hm9]
          show G κ _ _ _ _ _ 0 0
          refine g_goto 48 C dX12_ask_40 (by decide) ?_
          refine g_iret C E dX12_ask_48 (by decide) ?_
          unfold xAsk
          rw [if_neg (not_not_intro c10), if_neg (not_not_intro c20), if_pos c32, ki]
          refine ⟨rfl, rfl, _, rfl, b, ?_⟩
          exact ⟨hR.st, hR.rw, hR.tab, hR.bk, hR.ac, hR.wa, hR.tl, hR.tp, hR.la, hR.ke, hT.1, hT.2⟩
    · refine g_ldc (-1000001) C wd_609 dX12_ask_23 ?_
      refine g_iret C E dX12_ask_25 (by decide) ?_
      unfold xAsk
      rw [if_neg (not_not_intro c10), if_pos c20]
      exact ⟨rfl, rfl, _, rfl, b, hR⟩
