/-! PadPolishModel: rows -/
def yRow (R : RWT) (s : YT) (r : Int) : Prop := ((R.2.2 = -1 ∧ s.2 0 r = -1) ∨ (0 ≤ R.2.2 ∧ s.2 0 r = R.2.1 ∧ s.2 1 r = R.2.2)) ∧ ∀ k, 0 ≤ k → k < 40 → s.2 2 (40 * r + k) = R.1 k
def actIx (X : XT) (j : Int) : Int := (X.1 2 + 24 - X.1 3 + j) % 24
def yR (X : XT) (s : YT) (b : Int → Int) : Prop := s.1 1 = X.1 4 ∧ (∀ r, 0 ≤ r → r < 8 → yRow (X.2.2.1 r) s r) ∧ s.2 3 = pk (xC X) b ∧ bOK (X.1 0) (xP X) (xK X) b ∧ s.1 9 = X.1 3 ∧ (∀ j, 0 ≤ j → j < X.1 3 → ∀ k, 0 ≤ k → k < 95 → s.2 6 (95 * j + k) = pk (X.2.2.2.1 (actIx X j)) b k) ∧ s.1 11 = X.1 6 ∧ (∀ i, 0 ≤ i → i < X.1 6 → s.2 7 i = X.2.1 0 i) ∧ s.1 18 = X.1 1 ∧ (∀ k, 0 ≤ k → k < 2 → s.2 8 k = X.2.1 2 k ∧ (X.2.1 2 k = 1 → X.1 0 = 1 ∧ ∃ bk, bOK 1 (X.2.2.2.2.2 (2 + k)).1 (X.2.2.2.2.2 (2 + k)).2 bk ∧ ∀ i, 0 ≤ i → i < 95 → s.2 9 (95 * k + i) = pk (X.2.2.2.1 (27 + k)) bk i)) ∧ s.1 23 = X.2.2.2.2.1.2 ∧ ∀ i, 0 ≤ i → i < X.2.2.2.2.1.2 → s.2 10 i = X.2.2.2.2.1.1 i
def yRel (X : XT) (s : YT) : Prop := ∃ b, yR X s b
def yP (res : Int × XT) (M : gM) (n : Int) : gPost := fun r M2 n2 => r = some (vi res.1) ∧ n2 = n ∧ ∃ s', M2 = YO s' M ∧ yRel res.2 s'
section YRP
variable {X : XT} {s : YT} {b : Int → Int}
theorem yR.st (h : yR X s b) : s.1 1 = X.1 4 := h.1
theorem yR.rw (h : yR X s b) : ∀ r, 0 ≤ r → r < 8 → yRow (X.2.2.1 r) s r := h.2.1
theorem yR.tab (h : yR X s b) : s.2 3 = pk (xC X) b := h.2.2.1
theorem yR.bk (h : yR X s b) : bOK (X.1 0) (xP X) (xK X) b := h.2.2.2.1
theorem yR.ac (h : yR X s b) : s.1 9 = X.1 3 := h.2.2.2.2.1
theorem yR.wa (h : yR X s b) : ∀ j, 0 ≤ j → j < X.1 3 → ∀ k, 0 ≤ k → k < 95 → s.2 6 (95 * j + k) = pk (X.2.2.2.1 (actIx X j)) b k := h.2.2.2.2.2.1
theorem yR.tl (h : yR X s b) : s.1 11 = X.1 6 := h.2.2.2.2.2.2.1
theorem yR.tp (h : yR X s b) : ∀ i, 0 ≤ i → i < X.1 6 → s.2 7 i = X.2.1 0 i := h.2.2.2.2.2.2.2.1
theorem yR.la (h : yR X s b) : s.1 18 = X.1 1 := h.2.2.2.2.2.2.2.2.1
theorem yR.ke (h : yR X s b) : ∀ k, 0 ≤ k → k < 2 → s.2 8 k = X.2.1 2 k ∧ (X.2.1 2 k = 1 → X.1 0 = 1 ∧ ∃ bk, bOK 1 (X.2.2.2.2.2 (2 + k)).1 (X.2.2.2.2.2 (2 + k)).2 bk ∧ ∀ i, 0 ≤ i → i < 95 → s.2 9 (95 * k + i) = pk (X.2.2.2.1 (27 + k)) bk i) := h.2.2.2.2.2.2.2.2.2.1
theorem yR.tn (h : yR X s b) : s.1 23 = X.2.2.2.2.1.2 := h.2.2.2.2.2.2.2.2.2.2.1
theorem yR.tr (h : yR X s b) : ∀ i, 0 ≤ i → i < X.2.2.2.2.1.2 → s.2 10 i = X.2.2.2.2.1.1 i := h.2.2.2.2.2.2.2.2.2.2.2
theorem yR.th (h : yR X s b) (v : Int) : yR X (fu s.1 0 v, s.2) b := ⟨h.st, h.rw, h.tab, h.bk, h.ac, h.wa, h.tl, h.tp, h.la, h.ke, h.tn, h.tr⟩
theorem yR.sta (h : yR X s b) (v : Int) : yR (xS X 4 v) (fu s.1 1 v, s.2) b := ⟨rfl, h.rw, h.tab, h.bk, h.ac, h.wa, h.tl, h.tp, h.la, h.ke, h.tn, h.tr⟩
theorem yR.sta2 {u : Int} (h : yR (xS X 4 u) s b) (v : Int) : yR (xS X 4 v) (fu s.1 1 v, s.2) b := ⟨rfl, h.rw, h.tab, h.bk, h.ac, h.wa, h.tl, h.tp, h.la, h.ke, h.tn, h.tr⟩
theorem yR.rws (h : yR X s b) {k : Int} (R : RWT) (f0 f1 f2 : Int → Int) (hr : ∀ r, 0 ≤ r → r < 8 → yRow (fu X.2.2.1 k R r) (s.1, fu (fu (fu s.2 0 f0) 1 f1) 2 f2) r) : yR (xRw X k R) (s.1, fu (fu (fu s.2 0 f0) 1 f1) 2 f2) b := ⟨h.st, hr, h.tab, h.bk, h.ac, h.wa, h.tl, h.tp, h.la, h.ke, h.tn, h.tr⟩
end YRP
theorem xOK.xs {X : XT} (h : xOK X) (v : Int) : xOK (xS X 4 v) := xS_ok h (by omega)
set_option maxRecDepth 20000 in
theorem ct_X12_finding {s : YT} {M : gM} {n k : Int} : CT yX12_finding cX12_finding 2 (some .int) (rmk 0 0 0) [vr 152, vi k] (YO s M) n (qr (some (vi (-1000010 - k))) (YO (fu s.1 1 k, s.2) M) n) := by
  refine CT.of (by decide) (fun _ => Nat.le_of_ble_eq_true rfl) (fun κ C E => ?_)
  show G κ (YO s M) n [some (vr 152), some (vi k)] 0 [] 0 0
  refine s_n0_aload C dX12_finding_0 ?_
  refine s_n1_iload C dX12_finding_1 ?_
  refine g_put C fp_X12_48_12 dX12_finding_2 (YO_o ..) (Nat.le_of_ble_eq_true rfl) (gfit_i _) ?_
  rw [YO_p1]
  refine g_ldc (-1000010) C wd_598 dX12_finding_5 ?_
  refine s_n1_iload C dX12_finding_7 ?_
  refine g_isub C dX12_finding_8 ?_
  refine g_iret C E dX12_finding_9 (by decide) ?_
  exact ⟨rfl, rfl, rfl⟩
set_option maxRecDepth 20000 in
theorem ct_X12_fault {X : XT} {s0 : YT} {M : gM} {n : Int} (h0 : yRel X s0) (hO : xOK X)  : CT yX12_fault cX12_fault 1 (some .int) (rmk 0 0 0) [vr 152] (YO s0 M) n (yP (xFault X) M n) := by
  refine CT.of (by decide) (fun _ => Nat.le_of_ble_eq_true rfl) (fun κ C E => ?_)
  show G κ (YO s0 M) n [some (vr 152)] 0 [] 0 0
  refine s_n0_aload C dX12_fault_0 ?_
  refine g_iconst C dX12_fault_1 ?_
  refine g_put C fp_X12_44_12 dX12_fault_2 (YO_o ..) (Nat.le_of_ble_eq_true rfl) (gfit_i _) ?_
  rw [YO_p0]
  obtain ⟨b, hR⟩ := h0
  have hR := hR.th 0
  generalize ((fu s0.1 0 0, s0.2) : YT) = s at hR ⊢
  refine s_n0_aload C dX12_fault_5 ?_
  refine g_get C fd_X12_113_12 dX12_fault_6 (YO_o ..) rfl ?_
  rw [hR.la]
  refine g_iret C E dX12_fault_9 (by decide) ?_
  unfold xFault
  exact ⟨rfl, rfl, _, rfl, b, hR⟩
set_option maxRecDepth 20000 in
theorem ct_X12_status {X : XT} {s0 : YT} {M : gM} {n : Int} (h0 : yRel X s0) (hO : xOK X)  : CT yX12_status cX12_status 1 (some .int) (rmk 0 0 0) [vr 152] (YO s0 M) n (yP (xStatus X) M n) := by
  refine CT.of (by decide) (fun _ => Nat.le_of_ble_eq_true rfl) (fun κ C E => ?_)
  show G κ (YO s0 M) n [some (vr 152)] 0 [] 0 0
  refine s_n0_aload C dX12_status_0 ?_
  refine g_iconst C dX12_status_1 ?_
  refine g_put C fp_X12_44_12 dX12_status_2 (YO_o ..) (Nat.le_of_ble_eq_true rfl) (gfit_i _) ?_
  rw [YO_p0]
  obtain ⟨b, hR⟩ := h0
  have hR := hR.th 0
  generalize ((fu s0.1 0 0, s0.2) : YT) = s at hR ⊢
  refine s_n0_aload C dX12_status_5 ?_
  refine g_get C fd_X12_48_12 dX12_status_6 (YO_o ..) rfl ?_
  rw [hR.st]
  refine g_iret C E dX12_status_9 (by decide) ?_
  unfold xStatus
  exact ⟨rfl, rfl, _, rfl, b, hR⟩
def zro (f : Int → Int) (lo k : Int) : Int → Int := fun q => if lo ≤ q ∧ q < lo + k then 0 else f q
theorem zro_0 (f : Int → Int) (lo : Int) : zro f lo 0 = f := by
  funext q
  unfold zro
  rw [if_neg (by omega)]
theorem zro_s (f : Int → Int) (lo : Int) {k : Int} (h : 0 ≤ k) : up (zro f lo k) (lo + k) 0 = zro f lo (k + 1) := by
  funext q
  unfold up zro
  by_cases e : q = lo + k
  · rw [if_pos e, if_pos (by omega)]
  · rw [if_neg e]
    by_cases e2 : lo ≤ q ∧ q < lo + k
    · rw [if_pos e2, if_pos (by omega)]
    · rw [if_neg e2, if_neg (by omega)]
set_option maxRecDepth 20000 in
theorem ct_X12_row {X : XT} {s0 : YT} {M : gM} {n : Int} (h0 : yRel X s0) (hO : xOK X) {a l c : Int} (ha : iR a) (hl : iR l) (hc : iR c) : CT yX12_row cX12_row 5 (some .int) (rmk 2 0 0) [vr 152, vi a, vi l, vi c] (YO s0 M) n (yP (xRow X a l c) M n) := by
  refine CT.of (by decide) (fun _ => Nat.le_of_ble_eq_true rfl) (fun κ C E => ?_)
  show G κ (YO s0 M) n [some (vr 152), some (vi a), some (vi l), some (vi c), none] 0 [] 0 0
  have lp : ∀ (z : Nat) (k : Int) (s : YT) (b : Int → Int), yR (xS X 4 0) s b → (0 ≤ a ∧ a ≤ 7) → (0 ≤ l ∧ l ≤ 2) → c ≤ 40 → 0 ≤ c → 0 ≤ k ∧ k ≤ 40 → (40 - k).toNat = z → G κ (YO (s.1, fu (fu (fu s.2 0 (up (s.2 0) a l)) 1 (up (s.2 1) a c)) 2 (zro (s.2 2) (40 * a) k)) M) n [some (vr 152), some (vi a), some (vi l), some (vi c), some (vi k)] 65 [] 0 0 := by
    intro z
    induction z using Nat.strongRecOn with
    | ind z ih =>
      intro k s b hR q1 q2 q3 q4 h1 hz
      refine s_w4_iload C dX12_row_65 ?_
      refine g_bipush C dX12_row_67 (by decide) ?_
      refine g_icmp_ge 91 C dX12_row_69 (by decide) (by first | assumption | (unfold iR; omega)) (by first | assumption | (unfold iR; omega)) (fun c69 => ?_) (fun c69 => ?_)
      · refine s_n3_iload C dX12_row_91 ?_
        refine g_iret C E dX12_row_92 (by decide) ?_
        have ek : k = 40 := by omega
        subst ek
        unfold xRow
        rw [if_neg (not_not_intro q1), if_neg (not_not_intro q2), if_neg (by omega), if_neg (by omega)]
        refine ⟨rfl, rfl, _, rfl, b, hR.rws (k := a) (fun _ => 0, l, c) _ _ _ (fun r r0 r1 => ?_)⟩
        have hr := hR.rw r r0 r1
        by_cases e : r = a
        · subst e
          rw [fu_same]
          refine ⟨Or.inr ⟨q4, up_same _ _ _, up_same _ _ _⟩, fun j j0 j1 => ?_⟩
          exact if_pos (by omega)
        · rw [fu_ne _ _ e]
          refine ⟨?_, fun j j0 j1 => ?_⟩
          · show (_ ∧ up (s.2 0) a l r = -1) ∨ (_ ∧ up (s.2 0) a l r = _ ∧ up (s.2 1) a c r = _)
            rw [up_ne _ _ e, up_ne _ _ e]
            exact hr.1
          · exact (if_neg (by omega)).trans (hr.2 j j0 j1)
      · refine s_n0_aload C dX12_row_72 ?_
        refine g_get C fd_X12_16_12 dX12_row_73 (YO_o ..) rfl ?_
        refine g_bipush C dX12_row_76 (by decide) ?_
        refine s_n1_iload C dX12_row_78 ?_
        refine g_imul C dX12_row_79 ?_
        refine s_w4_iload C dX12_row_80 ?_
        refine g_iadd C dX12_row_82 ?_
        refine g_iconst C dX12_row_83 ?_
        refine g_iast C dX12_row_84 (YO_a2 ..) (by omega) ?_
        rw [YO_u2]
        show G κ (YO (s.1, fu (fu (fu (fu s.2 0 (up (s.2 0) a l)) 1 (up (s.2 1) a c)) 2 (zro (s.2 2) (40 * a) k)) 2 (up (zro (s.2 2) (40 * a) k) (40 * a + k) 0)) M) n _ _ _ _ _
        rw [fu_fu, zro_s _ _ h1.1]
        refine s_w4_iinc C dX12_row_85 rfl ?_
        refine g_goto 65 C dX12_row_88 (by decide) ?_
        exact ih _ (by omega) (k + 1) s b hR q1 q2 q3 q4 (by omega) rfl
  refine s_n0_aload C dX12_row_0 ?_
  refine g_iconst C dX12_row_1 ?_
  refine g_put C fp_X12_44_12 dX12_row_2 (YO_o ..) (Nat.le_of_ble_eq_true rfl) (gfit_i _) ?_
  rw [YO_p0]
  obtain ⟨b, hR⟩ := h0
  have hR := hR.th 0
  generalize ((fu s0.1 0 0, s0.2) : YT) = s at hR ⊢
  refine s_n1_iload C dX12_row_5 ?_
  refine g_invS C (ct_X12_isRow (v := a) (by assumption)) cs_X12_58 (rmk_ok (by decide) (by decide) (by decide) (by decide)) (Nat.le_of_ble_eq_true rfl) rfl dX12_row_6 rfl (q_r0 ?_)
  refine g_bifeq 30 C dX12_row_9 (by decide)  (fun c9 => ?_) (fun c9 => ?_)
  · refine g_ldc (-1000001) C wd_609 dX12_row_30 ?_
    refine g_iret C E dX12_row_32 (by decide) ?_
    unfold xRow
    rw [if_pos c9]
    exact ⟨rfl, rfl, _, rfl, b, hR⟩
  · refine s_n2_iload C dX12_row_12 ?_
    refine g_i2l C dX12_row_13 (by first | assumption | (unfold iR; omega)) ?_
    refine g_lconst0 C dX12_row_14 ?_
    refine g_ldc2 (2) C wd_608 dX12_row_15 ?_
    refine g_invS C (ct_X12_in (v := l) (lo := 0) (hi := 2) (by unfold iR at *; unfold lR; omega) (by unfold iR at *; unfold lR; omega) (by unfold iR at *; unfold lR; omega)) cs_X12_54 (rmk_ok (by decide) (by decide) (by decide) (by decide)) (Nat.le_of_ble_eq_true rfl) rfl dX12_row_18 rfl (q_r0 ?_)
    refine g_bifeq 30 C dX12_row_21 (by decide)  (fun c21 => ?_) (fun c21 => ?_)
    · refine g_ldc (-1000001) C wd_609 dX12_row_30 ?_
      refine g_iret C E dX12_row_32 (by decide) ?_
      unfold xRow
      rw [if_neg (not_not_intro c9), if_pos c21]
      exact ⟨rfl, rfl, _, rfl, b, hR⟩
    · refine s_n3_iload C dX12_row_24 ?_
      refine g_bipush C dX12_row_25 (by decide) ?_
      refine g_icmp_le 33 C dX12_row_27 (by decide) (by first | assumption | (unfold iR; omega)) (by first | assumption | (unfold iR; omega)) (fun c27 => ?_) (fun c27 => ?_)
      · refine s_n0_aload C dX12_row_33 ?_
        refine g_iconst C dX12_row_34 ?_
        refine g_put C fp_X12_48_12 dX12_row_35 (YO_o ..) (Nat.le_of_ble_eq_true rfl) (gfit_i _) ?_
        rw [YO_p1]
        have hR := hR.sta 0
        have hO := hO.xs 0
        generalize ((fu s.1 1 0, s.2) : YT) = s at hR ⊢
        refine s_n3_iload C dX12_row_38 ?_
        refine g_if_ge 48 C dX12_row_39 (by decide) (by first | assumption | (unfold iR; omega)) (fun c39 => ?_) (fun c39 => ?_)
        · refine s_n0_aload C dX12_row_48 ?_
          refine g_get C fd_X12_7_12 dX12_row_49 (YO_o ..) rfl ?_
          refine s_n1_iload C dX12_row_52 ?_
          refine s_n2_iload C dX12_row_53 ?_
          refine g_iast C dX12_row_54 (YO_a0 ..) (by omega) ?_
          rw [YO_u0]
          refine s_n0_aload C dX12_row_55 ?_
          refine g_get C fd_X12_13_12 dX12_row_56 (YO_o ..) rfl ?_
          refine s_n1_iload C dX12_row_59 ?_
          refine s_n3_iload C dX12_row_60 ?_
          refine g_iast C dX12_row_61 (YO_a1 ..) (by omega) ?_
          rw [YO_u1]
          refine g_iconst C dX12_row_62 ?_
          refine s_w4_istore C dX12_row_63 rfl ?_
          have := lp _ 0 s b hR c9 c21 c27 c39 (by omega) rfl
          rw [zro_0] at this
          have e2 : fu (fu (fu s.2 0 (up (s.2 0) a l)) 1 (up (s.2 1) a c)) 2 (s.2 2) = fu (fu s.2 0 (up (s.2 0) a l)) 1 (up (s.2 1) a c) := fu_id (fu (fu s.2 0 (up (s.2 0) a l)) 1 (up (s.2 1) a c)) 2
          rw [e2] at this
          exact this
        · refine s_n0_aload C dX12_row_42 ?_
          refine g_iconst C dX12_row_43 ?_
          refine g_invV C (ct_X12_finding) (YO_o ..) cv_X12_65_12 (rmk_ok (by decide) (by decide) (by decide) (by decide)) (Nat.le_of_ble_eq_true rfl) rfl dX12_row_44 rfl (q_r0 ?_)
          have hR := hR.sta2 4
          refine g_iret C E dX12_row_47 (by decide) ?_
          unfold xRow
          rw [if_neg (not_not_intro c9), if_neg (not_not_intro c21), if_neg (by omega), if_pos c39]
          exact ⟨rfl, rfl, _, rfl, b, hR⟩
      · refine g_ldc (-1000001) C wd_609 dX12_row_30 ?_
        refine g_iret C E dX12_row_32 (by decide) ?_
        unfold xRow
        rw [if_neg (not_not_intro c9), if_neg (not_not_intro c21), if_pos c27]
        exact ⟨rfl, rfl, _, rfl, b, hR⟩
set_option maxRecDepth 20000 in
theorem ct_X12_set {X : XT} {s0 : YT} {M : gM} {n : Int} (h0 : yRel X s0) (hO : xOK X) {a i v : Int} (ha : iR a) (hi : iR i) (hv : iR v) : CT yX12_set cX12_set 4 (some .int) (rmk 2 0 0) [vr 152, vi a, vi i, vi v] (YO s0 M) n (yP (xSet X a i v) M n) := by
  refine CT.of (by decide) (fun _ => Nat.le_of_ble_eq_true rfl) (fun κ C E => ?_)
  show G κ (YO s0 M) n [some (vr 152), some (vi a), some (vi i), some (vi v)] 0 [] 0 0
  refine s_n0_aload C dX12_set_0 ?_
  refine g_iconst C dX12_set_1 ?_
  refine g_put C fp_X12_44_12 dX12_set_2 (YO_o ..) (Nat.le_of_ble_eq_true rfl) (gfit_i _) ?_
  rw [YO_p0]
  obtain ⟨b, hR⟩ := h0
  have hR := hR.th 0
  generalize ((fu s0.1 0 0, s0.2) : YT) = s at hR ⊢
  refine s_n1_iload C dX12_set_5 ?_
  refine g_invS C (ct_X12_isRow (v := a) (by assumption)) cs_X12_58 (rmk_ok (by decide) (by decide) (by decide) (by decide)) (Nat.le_of_ble_eq_true rfl) rfl dX12_set_6 rfl (q_r0 ?_)
  refine g_bifne 15 C dX12_set_9 (by decide)  (fun c9 => ?_) (fun c9 => ?_)
  · refine s_n0_aload C dX12_set_15 ?_
    refine g_iconst C dX12_set_16 ?_
    refine g_put C fp_X12_48_12 dX12_set_17 (YO_o ..) (Nat.le_of_ble_eq_true rfl) (gfit_i _) ?_
    rw [YO_p1]
    have hR := hR.sta 0
    have hO := hO.xs 0
    generalize ((fu s.1 1 0, s.2) : YT) = s at hR ⊢
    have hr : yRow (X.2.2.1 a) s a := hR.rw a c9.1 (by omega)
    have hrk : rowOK (X.2.2.1 a) := hO.rw a c9.1 (by omega)
    have hrl := hrk.2
    have hr1 := hr.1
    have hlb : -1 ≤ s.2 0 a ∧ s.2 0 a ≤ 2 := by omega
    refine s_n0_aload C dX12_set_20 ?_
    refine g_get C fd_X12_7_12 dX12_set_21 (YO_o ..) rfl ?_
    refine s_n1_iload C dX12_set_24 ?_
    refine g_iald C dX12_set_25 (YO_a0 ..) (by omega) ?_
    refine g_if_ge 35 C dX12_set_26 (by decide) (by first | assumption | (unfold iR; omega)) (fun c26 => ?_) (fun c26 => ?_)
    · refine s_n2_iload C dX12_set_35 ?_
      refine g_i2l C dX12_set_36 (by first | assumption | (unfold iR; omega)) ?_
      refine g_lconst0 C dX12_set_37 ?_
      refine s_n0_aload C dX12_set_38 ?_
      refine g_get C fd_X12_13_12 dX12_set_39 (YO_o ..) rfl ?_
      refine s_n1_iload C dX12_set_42 ?_
      refine g_iald C dX12_set_43 (YO_a1 ..) (by omega) ?_
      refine g_iconst C dX12_set_44 ?_
      refine g_isub C dX12_set_45 ?_
      refine g_i2l C dX12_set_46 (by unfold iR; omega) ?_
      refine g_invS C (ct_X12_in (v := i) (lo := 0) (hi := s.2 1 a - 1) (by unfold iR at *; unfold lR; omega) (by unfold iR at *; unfold lR; omega) (by unfold iR at *; unfold lR; omega)) cs_X12_54 (rmk_ok (by decide) (by decide) (by decide) (by decide)) (Nat.le_of_ble_eq_true rfl) rfl dX12_set_47 rfl (q_r0 ?_)
      refine g_bifne 59 C dX12_set_50 (by decide)  (fun c50 => ?_) (fun c50 => ?_)
      · refine s_n0_aload C dX12_set_59 ?_
        refine g_get C fd_X12_16_12 dX12_set_60 (YO_o ..) rfl ?_
        refine g_bipush C dX12_set_63 (by decide) ?_
        refine s_n1_iload C dX12_set_65 ?_
        refine g_imul C dX12_set_66 ?_
        refine s_n2_iload C dX12_set_67 ?_
        refine g_iadd C dX12_set_68 ?_
        refine s_n0_aload C dX12_set_69 ?_
        refine g_get C fd_X12_7_12 dX12_set_70 (YO_o ..) rfl ?_
        refine s_n1_iload C dX12_set_73 ?_
        refine g_iald C dX12_set_74 (YO_a0 ..) (by omega) ?_
        refine g_if_ne 83 C dX12_set_75 (by decide) (by first | assumption | (unfold iR; omega)) (fun c75 => ?_) (fun c75 => ?_)
        · refine s_n0_aload C dX12_set_83 ?_
          refine g_get C fd_X12_7_12 dX12_set_84 (YO_o ..) rfl ?_
          refine s_n1_iload C dX12_set_87 ?_
          refine g_iald C dX12_set_88 (YO_a0 ..) (by omega) ?_
          refine g_iconst C dX12_set_89 ?_
          refine g_icmp_ne 98 C dX12_set_90 (by decide) (by first | assumption | (unfold iR; omega)) (by first | assumption | (unfold iR; omega)) (fun c90 => ?_) (fun c90 => ?_)
          · refine s_n3_iload C dX12_set_98 ?_
            refine g_iast C dX12_set_99 (YO_a2 ..) (by omega) ?_
            rw [YO_u2]
            refine s_n0_aload C dX12_set_100 ?_
            refine g_get C fd_X12_16_12 dX12_set_101 (YO_o ..) rfl ?_
            refine g_bipush C dX12_set_104 (by decide) ?_
            refine s_n1_iload C dX12_set_106 ?_
            refine g_imul C dX12_set_107 ?_
            refine s_n2_iload C dX12_set_108 ?_
            refine g_iadd C dX12_set_109 ?_
            refine g_iald C dX12_set_110 (YO_a2 ..) (by omega) ?_
            refine g_iret C E dX12_set_111 (by decide) ?_
            unfold xSet
            rw [if_neg (not_not_intro c9), if_neg (by omega), if_neg (not_not_intro ⟨by omega, by omega, by omega⟩)]
            rw [show rNar (X.2.2.1 a).2.1 v = v by unfold rNar; rw [if_neg (by omega), if_neg (by omega)]]
            show yP _ M n (some (vi (up (s.2 2) (40 * a + i) (v) (40 * a + i)))) _ n
            rw [up_same]
            refine ⟨rfl, rfl, _, rfl, b, ?_⟩
            have hR2 := hR.rws (k := a) (up (X.2.2.1 a).1 i (v), (X.2.2.1 a).2) (s.2 0) (s.2 1) (up (s.2 2) (40 * a + i) (v)) (fun r r0 r1 => ?_)
            · rw [fu_id s.2 0, fu_id s.2 1] at hR2
              exact hR2
            · rw [fu_id s.2 0, fu_id s.2 1]
              have hq := hR.rw r r0 r1
              by_cases e : r = a
              · subst e
                rw [fu_same]
                refine ⟨hq.1, fun k k0 k1 => ?_⟩
                show up (s.2 2) (40 * r + i) _ (40 * r + k) = up (X.2.2.1 r).1 i _ k
                by_cases ek : k = i
                · rw [ek, up_same, up_same]
                · rw [up_ne _ _ ek, up_ne _ _ (by omega)]
                  exact hq.2 k k0 k1
              · rw [fu_ne _ _ e]
                refine ⟨hq.1, fun k k0 k1 => ?_⟩
                show up (s.2 2) (40 * a + i) _ (40 * r + k) = _
                rw [up_ne _ _ (by omega)]
                exact hq.2 k k0 k1
          · refine s_n3_iload C dX12_set_93 ?_
            refine g_i2s C dX12_set_94 ?_
            refine g_goto 99 C dX12_set_95 (by decide) ?_
            refine g_iast C dX12_set_99 (YO_a2 ..) (by omega) ?_
            rw [YO_u2]
            refine s_n0_aload C dX12_set_100 ?_
            refine g_get C fd_X12_16_12 dX12_set_101 (YO_o ..) rfl ?_
            refine g_bipush C dX12_set_104 (by decide) ?_
            refine s_n1_iload C dX12_set_106 ?_
            refine g_imul C dX12_set_107 ?_
            refine s_n2_iload C dX12_set_108 ?_
            refine g_iadd C dX12_set_109 ?_
            refine g_iald C dX12_set_110 (YO_a2 ..) (by omega) ?_
            refine g_iret C E dX12_set_111 (by decide) ?_
            unfold xSet
            rw [if_neg (not_not_intro c9), if_neg (by omega), if_neg (not_not_intro ⟨by omega, by omega, by omega⟩)]
            rw [show rNar (X.2.2.1 a).2.1 v = v.bmod 65536 by unfold rNar; rw [if_neg (by omega), if_pos (by omega)]]
            show yP _ M n (some (vi (up (s.2 2) (40 * a + i) (v.bmod 65536) (40 * a + i)))) _ n
            rw [up_same]
            refine ⟨rfl, rfl, _, rfl, b, ?_⟩
            have hR2 := hR.rws (k := a) (up (X.2.2.1 a).1 i (v.bmod 65536), (X.2.2.1 a).2) (s.2 0) (s.2 1) (up (s.2 2) (40 * a + i) (v.bmod 65536)) (fun r r0 r1 => ?_)
            · rw [fu_id s.2 0, fu_id s.2 1] at hR2
              exact hR2
            · rw [fu_id s.2 0, fu_id s.2 1]
              have hq := hR.rw r r0 r1
              by_cases e : r = a
              · subst e
                rw [fu_same]
                refine ⟨hq.1, fun k k0 k1 => ?_⟩
                show up (s.2 2) (40 * r + i) _ (40 * r + k) = up (X.2.2.1 r).1 i _ k
                by_cases ek : k = i
                · rw [ek, up_same, up_same]
                · rw [up_ne _ _ ek, up_ne _ _ (by omega)]
                  exact hq.2 k k0 k1
              · rw [fu_ne _ _ e]
                refine ⟨hq.1, fun k k0 k1 => ?_⟩
                show up (s.2 2) (40 * a + i) _ (40 * r + k) = _
                rw [up_ne _ _ (by omega)]
                exact hq.2 k k0 k1
        · refine s_n3_iload C dX12_set_78 ?_
          refine g_i2b C dX12_set_79 ?_
          refine g_goto 99 C dX12_set_80 (by decide) ?_
          refine g_iast C dX12_set_99 (YO_a2 ..) (by omega) ?_
          rw [YO_u2]
          refine s_n0_aload C dX12_set_100 ?_
          refine g_get C fd_X12_16_12 dX12_set_101 (YO_o ..) rfl ?_
          refine g_bipush C dX12_set_104 (by decide) ?_
          refine s_n1_iload C dX12_set_106 ?_
          refine g_imul C dX12_set_107 ?_
          refine s_n2_iload C dX12_set_108 ?_
          refine g_iadd C dX12_set_109 ?_
          refine g_iald C dX12_set_110 (YO_a2 ..) (by omega) ?_
          refine g_iret C E dX12_set_111 (by decide) ?_
          unfold xSet
          rw [if_neg (not_not_intro c9), if_neg (by omega), if_neg (not_not_intro ⟨by omega, by omega, by omega⟩)]
          rw [show rNar (X.2.2.1 a).2.1 v = v.bmod 256 by unfold rNar; rw [if_pos (by omega)]]
          show yP _ M n (some (vi (up (s.2 2) (40 * a + i) (v.bmod 256) (40 * a + i)))) _ n
          rw [up_same]
          refine ⟨rfl, rfl, _, rfl, b, ?_⟩
          have hR2 := hR.rws (k := a) (up (X.2.2.1 a).1 i (v.bmod 256), (X.2.2.1 a).2) (s.2 0) (s.2 1) (up (s.2 2) (40 * a + i) (v.bmod 256)) (fun r r0 r1 => ?_)
          · rw [fu_id s.2 0, fu_id s.2 1] at hR2
            exact hR2
          · rw [fu_id s.2 0, fu_id s.2 1]
            have hq := hR.rw r r0 r1
            by_cases e : r = a
            · subst e
              rw [fu_same]
              refine ⟨hq.1, fun k k0 k1 => ?_⟩
              show up (s.2 2) (40 * r + i) _ (40 * r + k) = up (X.2.2.1 r).1 i _ k
              by_cases ek : k = i
              · rw [ek, up_same, up_same]
              · rw [up_ne _ _ ek, up_ne _ _ (by omega)]
                exact hq.2 k k0 k1
            · rw [fu_ne _ _ e]
              refine ⟨hq.1, fun k k0 k1 => ?_⟩
              show up (s.2 2) (40 * a + i) _ (40 * r + k) = _
              rw [up_ne _ _ (by omega)]
              exact hq.2 k k0 k1
      · refine s_n0_aload C dX12_set_53 ?_
        refine g_iconst C dX12_set_54 ?_
        refine g_invV C (ct_X12_finding) (YO_o ..) cv_X12_65_12 (rmk_ok (by decide) (by decide) (by decide) (by decide)) (Nat.le_of_ble_eq_true rfl) rfl dX12_set_55 rfl (q_r0 ?_)
        have hR := hR.sta2 2
        refine g_iret C E dX12_set_58 (by decide) ?_
        unfold xSet
        rw [if_neg (not_not_intro c9), if_neg (by omega), if_pos (fun q => c50 (by omega))]
        exact ⟨rfl, rfl, _, rfl, b, hR⟩
    · refine s_n0_aload C dX12_set_29 ?_
      refine g_iconst C dX12_set_30 ?_
      refine g_invV C (ct_X12_finding) (YO_o ..) cv_X12_65_12 (rmk_ok (by decide) (by decide) (by decide) (by decide)) (Nat.le_of_ble_eq_true rfl) rfl dX12_set_31 rfl (q_r0 ?_)
      have hR := hR.sta2 1
      refine g_iret C E dX12_set_34 (by decide) ?_
      unfold xSet
      rw [if_neg (not_not_intro c9), if_pos (by omega)]
      exact ⟨rfl, rfl, _, rfl, b, hR⟩
  · refine g_ldc (-1000001) C wd_609 dX12_set_12 ?_
    refine g_iret C E dX12_set_14 (by decide) ?_
    unfold xSet
    rw [if_pos c9]
    exact ⟨rfl, rfl, _, rfl, b, hR⟩
theorem fu21 (f : Int → Int → Int) (g : Int → Int) : fu (fu (fu f 0 g) 1 (f 1)) 2 (f 2) = fu f 0 g := by
  rw [show f 1 = fu f 0 g 1 from rfl, fu_id, show f 2 = fu f 0 g 2 from rfl, fu_id]
set_option maxRecDepth 20000 in
theorem ct_X12_drop {X : XT} {s0 : YT} {M : gM} {n : Int} (h0 : yRel X s0) (hO : xOK X) {a : Int} (ha : iR a) : CT yX12_drop cX12_drop 2 (some .int) (rmk 2 0 0) [vr 152, vi a] (YO s0 M) n (yP (xDrop X a) M n) := by
  refine CT.of (by decide) (fun _ => Nat.le_of_ble_eq_true rfl) (fun κ C E => ?_)
  show G κ (YO s0 M) n [some (vr 152), some (vi a)] 0 [] 0 0
  refine s_n0_aload C dX12_drop_0 ?_
  refine g_iconst C dX12_drop_1 ?_
  refine g_put C fp_X12_44_12 dX12_drop_2 (YO_o ..) (Nat.le_of_ble_eq_true rfl) (gfit_i _) ?_
  rw [YO_p0]
  obtain ⟨b, hR⟩ := h0
  have hR := hR.th 0
  generalize ((fu s0.1 0 0, s0.2) : YT) = s at hR ⊢
  refine s_n1_iload C dX12_drop_5 ?_
  refine g_invS C (ct_X12_isRow (v := a) (by assumption)) cs_X12_58 (rmk_ok (by decide) (by decide) (by decide) (by decide)) (Nat.le_of_ble_eq_true rfl) rfl dX12_drop_6 rfl (q_r0 ?_)
  refine g_bifne 15 C dX12_drop_9 (by decide)  (fun c9 => ?_) (fun c9 => ?_)
  · refine s_n0_aload C dX12_drop_15 ?_
    refine g_iconst C dX12_drop_16 ?_
    refine g_put C fp_X12_48_12 dX12_drop_17 (YO_o ..) (Nat.le_of_ble_eq_true rfl) (gfit_i _) ?_
    rw [YO_p1]
    have hR := hR.sta 0
    have hO := hO.xs 0
    generalize ((fu s.1 1 0, s.2) : YT) = s at hR ⊢
    have hr : yRow (X.2.2.1 a) s a := hR.rw a c9.1 (by omega)
    have hrk : rowOK (X.2.2.1 a) := hO.rw a c9.1 (by omega)
    have hrl := hrk.2
    have hr1 := hr.1
    have hlb : -1 ≤ s.2 0 a ∧ s.2 0 a ≤ 2 := by omega
    refine s_n0_aload C dX12_drop_20 ?_
    refine g_get C fd_X12_7_12 dX12_drop_21 (YO_o ..) rfl ?_
    refine s_n1_iload C dX12_drop_24 ?_
    refine g_iald C dX12_drop_25 (YO_a0 ..) (by omega) ?_
    refine g_if_ge 35 C dX12_drop_26 (by decide) (by first | assumption | (unfold iR; omega)) (fun c26 => ?_) (fun c26 => ?_)
    · refine s_n0_aload C dX12_drop_35 ?_
      refine g_get C fd_X12_7_12 dX12_drop_36 (YO_o ..) rfl ?_
      refine s_n1_iload C dX12_drop_39 ?_
      refine g_iconst C dX12_drop_40 ?_
      refine g_iast C dX12_drop_41 (YO_a0 ..) (by omega) ?_
      rw [YO_u0]
      refine s_n0_aload C dX12_drop_42 ?_
      refine g_get C fd_X12_13_12 dX12_drop_43 (YO_o ..) rfl ?_
      refine s_n1_iload C dX12_drop_46 ?_
      refine g_iald C dX12_drop_47 (YO_a1 ..) (by omega) ?_
      refine g_iret C E dX12_drop_48 (by decide) ?_
      unfold xDrop
      rw [if_neg (not_not_intro c9), if_neg (by omega)]
      refine ⟨?_, rfl, _, rfl, b, ?_⟩
      · show some (vi (s.2 1 a)) = some (vi (X.2.2.1 a).2.2)
        rw [show s.2 1 a = (X.2.2.1 a).2.2 by omega]
      have hR2 := hR.rws (k := a) ((X.2.2.1 a).1, (X.2.2.1 a).2.1, -1) (up (s.2 0) a (-1)) (s.2 1) (s.2 2) (fun r r0 r1 => ?_)
      · rw [show fu (fu (fu s.2 0 (up (s.2 0) a (-1))) 1 (s.2 1)) 2 (s.2 2) = fu s.2 0 (up (s.2 0) a (-1)) from fu21 s.2 _] at hR2
        exact hR2
      · rw [show fu (fu (fu s.2 0 (up (s.2 0) a (-1))) 1 (s.2 1)) 2 (s.2 2) = fu s.2 0 (up (s.2 0) a (-1)) from fu21 s.2 _]
        have hq := hR.rw r r0 r1
        by_cases e : r = a
        · subst e
          rw [fu_same]
          exact ⟨Or.inl ⟨rfl, up_same _ _ _⟩, hq.2⟩
        · rw [fu_ne _ _ e]
          refine ⟨?_, hq.2⟩
          show (_ ∧ up (s.2 0) a (-1) r = -1) ∨ (_ ∧ up (s.2 0) a (-1) r = _ ∧ _)
          rw [up_ne _ _ e]
          exact hq.1
    · refine s_n0_aload C dX12_drop_29 ?_
      refine g_iconst C dX12_drop_30 ?_
      refine g_invV C (ct_X12_finding) (YO_o ..) cv_X12_65_12 (rmk_ok (by decide) (by decide) (by decide) (by decide)) (Nat.le_of_ble_eq_true rfl) rfl dX12_drop_31 rfl (q_r0 ?_)
      have hR := hR.sta2 1
      refine g_iret C E dX12_drop_34 (by decide) ?_
      unfold xDrop
      rw [if_neg (not_not_intro c9), if_pos (by omega)]
      exact ⟨rfl, rfl, _, rfl, b, hR⟩
  · refine g_ldc (-1000001) C wd_609 dX12_drop_12 ?_
    refine g_iret C E dX12_drop_14 (by decide) ?_
    unfold xDrop
    rw [if_pos c9]

    exact ⟨rfl, rfl, _, rfl, b, hR⟩
set_option maxRecDepth 20000 in
theorem ct_X12_feed {X : XT} {s0 : YT} {M : gM} {n : Int} (h0 : yRel X s0) (hO : xOK X) {a : Int} (ha : iR a) : CT yX12_feed cX12_feed 2 (some .int) (rmk 1 0 0) [vr 152, vi a] (YO s0 M) n (yP (xFeed X a) M n) := by
  refine CT.of (by decide) (fun _ => Nat.le_of_ble_eq_true rfl) (fun κ C E => ?_)
  show G κ (YO s0 M) n [some (vr 152), some (vi a)] 0 [] 0 0
  refine s_n0_aload C dX12_feed_0 ?_
  refine g_iconst C dX12_feed_1 ?_
  refine g_put C fp_X12_44_12 dX12_feed_2 (YO_o ..) (Nat.le_of_ble_eq_true rfl) (gfit_i _) ?_
  rw [YO_p0]
  obtain ⟨b, hR⟩ := h0
  have hR := hR.th 0
  generalize ((fu s0.1 0 0, s0.2) : YT) = s at hR ⊢
  refine s_n1_iload C dX12_feed_5 ?_
  refine g_i2l C dX12_feed_6 (by first | assumption | (unfold iR; omega)) ?_
  refine g_lconst0 C dX12_feed_7 ?_
  refine g_ldc2 (255) C wd_614 dX12_feed_8 ?_
  refine g_invS C (ct_X12_in (v := a) (lo := 0) (hi := 255) (by unfold iR at *; unfold lR; omega) (by unfold iR at *; unfold lR; omega) (by unfold iR at *; unfold lR; omega)) cs_X12_54 (rmk_ok (by decide) (by decide) (by decide) (by decide)) (Nat.le_of_ble_eq_true rfl) rfl dX12_feed_11 rfl (q_r0 ?_)
  refine g_bifne 20 C dX12_feed_14 (by decide)  (fun c14 => ?_) (fun c14 => ?_)
  · have h6 := hO.tp.2
    have htl := hR.tl
    refine s_n0_aload C dX12_feed_20 ?_
    refine g_get C fd_X12_71_12 dX12_feed_21 (YO_o ..) rfl ?_
    refine g_bipush C dX12_feed_24 (by decide) ?_
    refine g_icmp_ne 32 C dX12_feed_26 (by decide) (by unfold iR; omega) (by unfold iR; omega) (fun c26 => ?_) (fun c26 => ?_)
    · refine s_n0_aload C dX12_feed_32 ?_
      refine g_get C fd_X12_31_12 dX12_feed_33 (YO_o ..) rfl ?_
      refine s_n0_aload C dX12_feed_36 ?_
      refine g_get C fd_X12_71_12 dX12_feed_37 (YO_o ..) rfl ?_
      refine s_n1_iload C dX12_feed_40 ?_
      refine g_iast C dX12_feed_41 (YO_a7 ..) (by omega) ?_
      rw [YO_u7]
      refine s_n0_aload C dX12_feed_42 ?_
      refine g_dup C dX12_feed_43 rfl ?_
      refine g_get C fd_X12_71_12 dX12_feed_44 (YO_o ..) rfl ?_
      refine g_iconst C dX12_feed_47 ?_
      refine g_iadd C dX12_feed_48 ?_
      refine g_put C fp_X12_71_12 dX12_feed_49 (YO_o ..) (Nat.le_of_ble_eq_true rfl) (gfit_i _) ?_
      rw [YO_p11]
      refine s_n0_aload C dX12_feed_52 ?_
      refine g_get C fd_X12_71_12 dX12_feed_53 (YO_o ..) rfl ?_
      refine g_iret C E dX12_feed_56 (by decide) ?_
      unfold xFeed
      rw [if_neg (not_not_intro c14), if_neg (by omega)]
      refine ⟨?_, rfl, _, rfl, b, ?_⟩
      · show some (vi (s.1 11 + 1)) = _
        rw [hR.tl]
      · refine ⟨hR.st, hR.rw, hR.tab, hR.bk, hR.ac, hR.wa, ?_, ?_, hR.la, hR.ke, hR.tn, hR.tr⟩
        · show s.1 11 + 1 = X.1 6 + 1
          rw [hR.tl]
        · intro i i0 i1
          show up (s.2 7) (s.1 11) a i = up (X.2.1 0) (X.1 6) a i
          change i < X.1 6 + 1 at i1
          rw [hR.tl]
          by_cases e : i = X.1 6
          · rw [e, up_same, up_same]
          · rw [up_ne _ _ e, up_ne _ _ e]
            exact hR.tp i i0 (by omega)
    · refine g_ldc (-1000003) C wd_616 dX12_feed_29 ?_
      refine g_iret C E dX12_feed_31 (by decide) ?_
      unfold xFeed
      rw [if_neg (not_not_intro c14), if_pos (by omega)]
      exact ⟨rfl, rfl, _, rfl, b, hR⟩
  · refine g_ldc (-1000001) C wd_609 dX12_feed_17 ?_
    refine g_iret C E dX12_feed_19 (by decide) ?_
    unfold xFeed
    rw [if_pos c14]
    exact ⟨rfl, rfl, _, rfl, b, hR⟩
