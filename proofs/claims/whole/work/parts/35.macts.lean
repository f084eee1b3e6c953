/-! PadPolishModel: copy, acts -/
def cpI (f : Int → Int) (src dst lo hi : Int) : Int → Int := fun q => if dst + lo ≤ q ∧ q < dst + hi then f (src + (q - dst)) else f q
theorem cpI_0 (f : Int → Int) (src dst lo : Int) : cpI f src dst lo lo = f := by
  funext q
  unfold cpI
  rw [if_neg (by omega)]
theorem cpI_up (f : Int → Int) (src dst : Int) {k : Int} (h : 0 ≤ k) : up (cpI f src dst 0 k) (dst + k) (f (src + k)) = cpI f src dst 0 (k + 1) := by
  funext q
  unfold up cpI
  by_cases e : q = dst + k
  · rw [if_pos e, if_pos (by omega), show src + (q - dst) = src + k by omega]
  · rw [if_neg e]
    by_cases e2 : dst + 0 ≤ q ∧ q < dst + k
    · rw [if_pos e2, if_pos (by omega)]
    · rw [if_neg e2, if_neg (by omega)]
theorem cpI_dn (f : Int → Int) (src dst : Int) {lo hi : Int} (h : lo ≤ hi) : up (cpI f src dst lo hi) (dst + (lo - 1)) (f (src + (lo - 1))) = cpI f src dst (lo - 1) hi := by
  funext q
  unfold up cpI
  by_cases e : q = dst + (lo - 1)
  · rw [if_pos e, if_pos (by omega), show src + (q - dst) = src + (lo - 1) by omega]
  · rw [if_neg e]
    by_cases e2 : dst + lo ≤ q ∧ q < dst + hi
    · rw [if_pos e2, if_pos (by omega)]
    · rw [if_neg e2, if_neg (by omega)]
set_option maxRecDepth 20000 in
theorem ct_X12_copy {X : XT} {s0 : YT} {M : gM} {n : Int} (h0 : yRel X s0) (hO : xOK X) {a i c j m : Int} (ha : iR a) (hi : iR i) (hc : iR c) (hj : iR j) (hm : iR m) : CT yX12_copy cX12_copy 9 (some .int) (rmk 2 0 0) [vr 152, vi a, vi i, vi c, vi j, vi m] (YO s0 M) n (yP (xCopy X a i c j m) M n) := by
  refine CT.of (by decide) (fun _ => Nat.le_of_ble_eq_true rfl) (fun κ C E => ?_)
  show G κ (YO s0 M) n [some (vr 152), some (vi a), some (vi i), some (vi c), some (vi j), some (vi m), none, none, none] 0 [] 0 0
  have lu : ∀ (z : Nat) (k : Int) (s : YT) (b : Int → Int) (q8 : Option gV), yR (xS X 4 0) s b → (0 ≤ a ∧ a ≤ 7) → (0 ≤ c ∧ c ≤ 7) → ¬ (X.2.2.1 a).2.2 = -1 → ¬ (X.2.2.1 c).2.2 = -1 → (X.2.2.1 a).2.1 = (X.2.2.1 c).2.1 → (0 ≤ i ∧ 0 ≤ m ∧ m ≤ (X.2.2.1 a).2.2 - i) → (0 ≤ j ∧ 0 ≤ m ∧ m ≤ (X.2.2.1 c).2.2 - j) → j ≤ i → 0 ≤ k ∧ k ≤ m → (m - k).toNat = z → G κ (YO (s.1, fu s.2 2 (cpI (s.2 2) (40 * a + i) (40 * c + j) 0 k)) M) n [some (vr 152), some (vi a), some (vi i), some (vi c), some (vi j), some (vi m), some (vi 1), some (vi k), q8] 143 [] 0 0 := by
    intro z
    induction z using Nat.strongRecOn with
    | ind z ih =>
      intro k s b q8 hR q1 q2 q3 q4 q5 q6 q7 q9 h1 hz
      have hka := (hO.rw a q1.1 (by omega)).2
      have hkc := (hO.rw c q2.1 (by omega)).2
      refine s_w7_iload C dX12_copy_143 ?_
      refine s_w5_iload C dX12_copy_145 ?_
      refine g_icmp_ge 204 C dX12_copy_147 (by decide) (by first | assumption | (unfold iR; omega)) (by first | assumption | (unfold iR; omega)) (fun c147 => ?_) (fun c147 => ?_)
      · refine s_w5_iload C dX12_copy_204 ?_
        refine g_iret C E dX12_copy_206 (by decide) ?_
        have ek : k = m := by omega
        subst ek
        unfold xCopy
        rw [if_neg (not_not_intro q1), if_neg (not_not_intro q2), if_neg q3, if_neg q4, if_neg (not_not_intro q5), if_neg (not_not_intro q6), if_neg (not_not_intro q7)]
        refine ⟨rfl, rfl, _, rfl, b, ?_⟩
        have hR2 := hR.rws (k := c) (cpy (X.2.2.1 a).1 (X.2.2.1 c).1 i j k, (X.2.2.1 c).2) (s.2 0) (s.2 1) (cpI (s.2 2) (40 * a + i) (40 * c + j) 0 k) (fun r r0 r1 => ?_)
        · rw [fu_id s.2 0, fu_id s.2 1] at hR2
          exact hR2
        · rw [fu_id s.2 0, fu_id s.2 1]
          have hq := hR.rw r r0 r1
          have ha := hR.rw a q1.1 (by omega)
          by_cases e : r = c
          · subst e
            rw [fu_same]
            refine ⟨hq.1, fun p p0 p1 => ?_⟩
            show cpI (s.2 2) _ _ 0 k (40 * r + p) = cpy (X.2.2.1 a).1 (X.2.2.1 r).1 i j k p
            unfold cpI cpy
            by_cases ep : j ≤ p ∧ p < j + k
            · rw [if_pos (by omega), if_pos ep, show 40 * a + i + (40 * r + p - (40 * r + j)) = 40 * a + (i + (p - j)) by omega]
              exact ha.2 _ (by omega) (by omega)
            · rw [if_neg (by omega), if_neg ep]
              exact hq.2 p p0 p1
          · rw [fu_ne _ _ e]
            refine ⟨hq.1, fun p p0 p1 => ?_⟩
            show cpI (s.2 2) _ _ 0 k (40 * r + p) = _
            unfold cpI
            rw [if_neg (by omega)]
            exact hq.2 p p0 p1
      · refine s_w6_iload C dX12_copy_150 ?_
        refine g_if_eq 160 C dX12_copy_152 (by decide) (by first | assumption | (unfold iR; omega)) (fun c152 => by exfalso; omega) (fun c152 => ?_)
        refine s_w7_iload C dX12_copy_155 ?_
        refine g_goto 167 C dX12_copy_157 (by decide) ?_
        refine s_w8_istore C dX12_copy_167 rfl ?_
        refine s_n0_aload C dX12_copy_169 ?_
        refine g_get C fd_X12_16_12 dX12_copy_170 (YO_o ..) rfl ?_
        refine g_bipush C dX12_copy_173 (by decide) ?_
        refine s_n3_iload C dX12_copy_175 ?_
        refine g_imul C dX12_copy_176 ?_
        refine s_w4_iload C dX12_copy_177 ?_
        refine g_iadd C dX12_copy_179 ?_
        refine s_w8_iload C dX12_copy_180 ?_
        refine g_iadd C dX12_copy_182 ?_
        refine s_n0_aload C dX12_copy_183 ?_
        refine g_get C fd_X12_16_12 dX12_copy_184 (YO_o ..) rfl ?_
        refine g_bipush C dX12_copy_187 (by decide) ?_
        refine s_n1_iload C dX12_copy_189 ?_
        refine g_imul C dX12_copy_190 ?_
        refine s_n2_iload C dX12_copy_191 ?_
        refine g_iadd C dX12_copy_192 ?_
        refine s_w8_iload C dX12_copy_193 ?_
        refine g_iadd C dX12_copy_195 ?_
        refine g_iald C dX12_copy_196 (YO_a2 ..) (by omega) ?_
        rw [show ((s.1, fu s.2 2 (cpI (s.2 2) (40 * a + i) (40 * c + j) 0 k)) : YT).2 2 (40 * a + i + k) = s.2 2 ((40 * a + i) + k) from if_neg (by omega)]
        refine g_iast C dX12_copy_197 (YO_a2 ..) (by omega) ?_
        rw [YO_u2]
        show G κ (YO (s.1, fu (fu s.2 2 (cpI (s.2 2) (40 * a + i) (40 * c + j) 0 k)) 2 (up (cpI (s.2 2) (40 * a + i) (40 * c + j) 0 k) ((40 * c + j) + k) (s.2 2 ((40 * a + i) + k)))) M) n _ _ _ _ _
        rw [fu_fu, cpI_up _ _ _ h1.1]
        refine s_w7_iinc C dX12_copy_198 rfl ?_
        refine g_goto 143 C dX12_copy_201 (by decide) ?_
        exact ih _ (by omega) (k + 1) s b _ hR q1 q2 q3 q4 q5 q6 q7 q9 (by omega) rfl
  have ld : ∀ (z : Nat) (k : Int) (s : YT) (b : Int → Int) (q8 : Option gV), yR (xS X 4 0) s b → (0 ≤ a ∧ a ≤ 7) → (0 ≤ c ∧ c ≤ 7) → ¬ (X.2.2.1 a).2.2 = -1 → ¬ (X.2.2.1 c).2.2 = -1 → (X.2.2.1 a).2.1 = (X.2.2.1 c).2.1 → (0 ≤ i ∧ 0 ≤ m ∧ m ≤ (X.2.2.1 a).2.2 - i) → (0 ≤ j ∧ 0 ≤ m ∧ m ≤ (X.2.2.1 c).2.2 - j) → i < j → 0 ≤ k ∧ k ≤ m → (m - k).toNat = z → G κ (YO (s.1, fu s.2 2 (cpI (s.2 2) (40 * a + i) (40 * c + j) (m - k) m)) M) n [some (vr 152), some (vi a), some (vi i), some (vi c), some (vi j), some (vi m), some (vi 0), some (vi k), q8] 143 [] 0 0 := by
    intro z
    induction z using Nat.strongRecOn with
    | ind z ih =>
      intro k s b q8 hR q1 q2 q3 q4 q5 q6 q7 q9 h1 hz
      have hka := (hO.rw a q1.1 (by omega)).2
      have hkc := (hO.rw c q2.1 (by omega)).2
      refine s_w7_iload C dX12_copy_143 ?_
      refine s_w5_iload C dX12_copy_145 ?_
      refine g_icmp_ge 204 C dX12_copy_147 (by decide) (by first | assumption | (unfold iR; omega)) (by first | assumption | (unfold iR; omega)) (fun c147 => ?_) (fun c147 => ?_)
      · refine s_w5_iload C dX12_copy_204 ?_
        refine g_iret C E dX12_copy_206 (by decide) ?_
        have ek : k = m := by omega
        subst ek
        rw [show k - k = 0 by omega]
        unfold xCopy
        rw [if_neg (not_not_intro q1), if_neg (not_not_intro q2), if_neg q3, if_neg q4, if_neg (not_not_intro q5), if_neg (not_not_intro q6), if_neg (not_not_intro q7)]
        refine ⟨rfl, rfl, _, rfl, b, ?_⟩
        have hR2 := hR.rws (k := c) (cpy (X.2.2.1 a).1 (X.2.2.1 c).1 i j k, (X.2.2.1 c).2) (s.2 0) (s.2 1) (cpI (s.2 2) (40 * a + i) (40 * c + j) 0 k) (fun r r0 r1 => ?_)
        · rw [fu_id s.2 0, fu_id s.2 1] at hR2
          exact hR2
        · rw [fu_id s.2 0, fu_id s.2 1]
          have hq := hR.rw r r0 r1
          have ha := hR.rw a q1.1 (by omega)
          by_cases e : r = c
          · subst e
            rw [fu_same]
            refine ⟨hq.1, fun p p0 p1 => ?_⟩
            show cpI (s.2 2) _ _ 0 k (40 * r + p) = cpy (X.2.2.1 a).1 (X.2.2.1 r).1 i j k p
            unfold cpI cpy
            by_cases ep : j ≤ p ∧ p < j + k
            · rw [if_pos (by omega), if_pos ep, show 40 * a + i + (40 * r + p - (40 * r + j)) = 40 * a + (i + (p - j)) by omega]
              exact ha.2 _ (by omega) (by omega)
            · rw [if_neg (by omega), if_neg ep]
              exact hq.2 p p0 p1
          · rw [fu_ne _ _ e]
            refine ⟨hq.1, fun p p0 p1 => ?_⟩
            show cpI (s.2 2) _ _ 0 k (40 * r + p) = _
            unfold cpI
            rw [if_neg (by omega)]
            exact hq.2 p p0 p1
      · refine s_w6_iload C dX12_copy_150 ?_
        refine g_if_eq 160 C dX12_copy_152 (by decide) (by first | assumption | (unfold iR; omega)) (fun c152 => ?_) (fun c152 => by exfalso; omega)
        refine s_w5_iload C dX12_copy_160 ?_
        refine g_iconst C dX12_copy_162 ?_
        refine g_isub C dX12_copy_163 ?_
        refine s_w7_iload C dX12_copy_164 ?_
        refine g_isub C dX12_copy_166 ?_
        refine s_w8_istore C dX12_copy_167 rfl ?_
        refine s_n0_aload C dX12_copy_169 ?_
        refine g_get C fd_X12_16_12 dX12_copy_170 (YO_o ..) rfl ?_
        refine g_bipush C dX12_copy_173 (by decide) ?_
        refine s_n3_iload C dX12_copy_175 ?_
        refine g_imul C dX12_copy_176 ?_
        refine s_w4_iload C dX12_copy_177 ?_
        refine g_iadd C dX12_copy_179 ?_
        refine s_w8_iload C dX12_copy_180 ?_
        refine g_iadd C dX12_copy_182 ?_
        refine s_n0_aload C dX12_copy_183 ?_
        refine g_get C fd_X12_16_12 dX12_copy_184 (YO_o ..) rfl ?_
        refine g_bipush C dX12_copy_187 (by decide) ?_
        refine s_n1_iload C dX12_copy_189 ?_
        refine g_imul C dX12_copy_190 ?_
        refine s_n2_iload C dX12_copy_191 ?_
        refine g_iadd C dX12_copy_192 ?_
        refine s_w8_iload C dX12_copy_193 ?_
        refine g_iadd C dX12_copy_195 ?_
        refine g_iald C dX12_copy_196 (YO_a2 ..) (by omega) ?_
        rw [show ((s.1, fu s.2 2 (cpI (s.2 2) (40 * a + i) (40 * c + j) (m - k) m)) : YT).2 2 (40 * a + i + (m - 1 - k)) = s.2 2 ((40 * a + i) + (m - 1 - k)) from if_neg (by omega)]
        refine g_iast C dX12_copy_197 (YO_a2 ..) (by omega) ?_
        rw [YO_u2]
        show G κ (YO (s.1, fu (fu s.2 2 (cpI (s.2 2) (40 * a + i) (40 * c + j) (m - k) m)) 2 (up (cpI (s.2 2) (40 * a + i) (40 * c + j) (m - k) m) ((40 * c + j) + (m - 1 - k)) (s.2 2 ((40 * a + i) + (m - 1 - k))))) M) n _ _ _ _ _
        rw [fu_fu, show m - 1 - k = m - k - 1 by omega, cpI_dn _ _ _ (by omega), show m - k - 1 = m - (k + 1) by omega]
        refine s_w7_iinc C dX12_copy_198 rfl ?_
        refine g_goto 143 C dX12_copy_201 (by decide) ?_
        exact ih _ (by omega) (k + 1) s b _ hR q1 q2 q3 q4 q5 q6 q7 q9 (by omega) rfl
  refine s_n0_aload C dX12_copy_0 ?_
  refine g_iconst C dX12_copy_1 ?_
  refine g_put C fp_X12_44_12 dX12_copy_2 (YO_o ..) (Nat.le_of_ble_eq_true rfl) (gfit_i _) ?_
  rw [YO_p0]
  obtain ⟨b, hR⟩ := h0
  have hR := hR.th 0
  generalize ((fu s0.1 0 0, s0.2) : YT) = s at hR ⊢
  refine s_n1_iload C dX12_copy_5 ?_
  refine g_invS C (ct_X12_isRow (v := a) (by assumption)) cs_X12_58 (rmk_ok (by decide) (by decide) (by decide) (by decide)) (Nat.le_of_ble_eq_true rfl) rfl dX12_copy_6 rfl (q_r0 ?_)
  refine g_bifeq 19 C dX12_copy_9 (by decide)  (fun c9 => ?_) (fun c9 => ?_)
  · refine g_ldc (-1000001) C wd_609 dX12_copy_19 ?_
    refine g_iret C E dX12_copy_21 (by decide) ?_
    unfold xCopy
    rw [if_pos c9]
    exact ⟨rfl, rfl, _, rfl, b, hR⟩
  · refine s_n3_iload C dX12_copy_12 ?_
    refine g_invS C (ct_X12_isRow (v := c) (by assumption)) cs_X12_58 (rmk_ok (by decide) (by decide) (by decide) (by decide)) (Nat.le_of_ble_eq_true rfl) rfl dX12_copy_13 rfl (q_r0 ?_)
    refine g_bifne 22 C dX12_copy_16 (by decide)  (fun c16 => ?_) (fun c16 => ?_)
    · refine s_n0_aload C dX12_copy_22 ?_
      refine g_iconst C dX12_copy_23 ?_
      refine g_put C fp_X12_48_12 dX12_copy_24 (YO_o ..) (Nat.le_of_ble_eq_true rfl) (gfit_i _) ?_
      rw [YO_p1]
      have hR := hR.sta 0
      have hO := hO.xs 0
      generalize ((fu s.1 1 0, s.2) : YT) = s at hR ⊢
      have hr : yRow (X.2.2.1 a) s a := hR.rw a c9.1 (by omega)
      have hrk : rowOK (X.2.2.1 a) := hO.rw a c9.1 (by omega)
      have hrl := hrk.2
      have hr1 := hr.1
      have hlb : -1 ≤ s.2 0 a ∧ s.2 0 a ≤ 2 := by omega
      have hrc : yRow (X.2.2.1 c) s c := hR.rw c c16.1 (by omega)
      have hrkc : rowOK (X.2.2.1 c) := hO.rw c c16.1 (by omega)
      have hrlc := hrkc.2
      have hr1c := hrc.1
      have hlbc : -1 ≤ s.2 0 c ∧ s.2 0 c ≤ 2 := by omega
      have lc : ∀ x z : Int, (0 < lCmp x z ↔ z < x) ∧ (lCmp x z ≤ 0 ↔ x ≤ z) := fun x z => by unfold lCmp; (repeat' split) <;> omega
      refine s_n0_aload C dX12_copy_27 ?_
      refine g_get C fd_X12_7_12 dX12_copy_28 (YO_o ..) rfl ?_
      refine s_n1_iload C dX12_copy_31 ?_
      refine g_iald C dX12_copy_32 (YO_a0 ..) (by omega) ?_
      refine g_if_lt 45 C dX12_copy_33 (by decide) (by first | assumption | (unfold iR; omega)) (fun c33 => ?_) (fun c33 => ?_)
      · refine s_n0_aload C dX12_copy_45 ?_
        refine g_iconst C dX12_copy_46 ?_
        refine g_invV C (ct_X12_finding) (YO_o ..) cv_X12_65_12 (rmk_ok (by decide) (by decide) (by decide) (by decide)) (Nat.le_of_ble_eq_true rfl) rfl dX12_copy_47 rfl (q_r0 ?_)
        have hR := hR.sta2 1
        refine g_iret C E dX12_copy_50 (by decide) ?_
        unfold xCopy
        rw [if_neg (not_not_intro c9), if_neg (not_not_intro c16), if_pos (by omega)]
        exact ⟨rfl, rfl, _, rfl, b, hR⟩
      · refine s_n0_aload C dX12_copy_36 ?_
        refine g_get C fd_X12_7_12 dX12_copy_37 (YO_o ..) rfl ?_
        refine s_n3_iload C dX12_copy_40 ?_
        refine g_iald C dX12_copy_41 (YO_a0 ..) (by omega) ?_
        refine g_if_ge 51 C dX12_copy_42 (by decide) (by first | assumption | (unfold iR; omega)) (fun c42 => ?_) (fun c42 => ?_)
        · refine s_n0_aload C dX12_copy_51 ?_
          refine g_get C fd_X12_7_12 dX12_copy_52 (YO_o ..) rfl ?_
          refine s_n1_iload C dX12_copy_55 ?_
          refine g_iald C dX12_copy_56 (YO_a0 ..) (by omega) ?_
          refine s_n0_aload C dX12_copy_57 ?_
          refine g_get C fd_X12_7_12 dX12_copy_58 (YO_o ..) rfl ?_
          refine s_n3_iload C dX12_copy_61 ?_
          refine g_iald C dX12_copy_62 (YO_a0 ..) (by omega) ?_
          refine g_icmp_eq 72 C dX12_copy_63 (by decide) (by unfold iR; omega) (by unfold iR; omega) (fun c63 => ?_) (fun c63 => ?_)
          · refine s_n2_iload C dX12_copy_72 ?_
            refine g_if_lt 121 C dX12_copy_73 (by decide) (by first | assumption | (unfold iR; omega)) (fun c73 => ?_) (fun c73 => ?_)
            · refine s_n0_aload C dX12_copy_121 ?_
              refine g_iconst C dX12_copy_122 ?_
              refine g_invV C (ct_X12_finding) (YO_o ..) cv_X12_65_12 (rmk_ok (by decide) (by decide) (by decide) (by decide)) (Nat.le_of_ble_eq_true rfl) rfl dX12_copy_123 rfl (q_r0 ?_)
              have hR := hR.sta2 2
              refine g_iret C E dX12_copy_126 (by decide) ?_
              unfold xCopy
              rw [if_neg (not_not_intro c9), if_neg (not_not_intro c16), if_neg (by omega), if_neg (by omega), if_neg (not_not_intro (by omega)), if_pos (fun q => by omega)]
              exact ⟨rfl, rfl, _, rfl, b, hR⟩
            · refine s_w4_iload C dX12_copy_76 ?_
              refine g_if_lt 121 C dX12_copy_78 (by decide) (by first | assumption | (unfold iR; omega)) (fun c78 => ?_) (fun c78 => ?_)
              · refine s_n0_aload C dX12_copy_121 ?_
                refine g_iconst C dX12_copy_122 ?_
                refine g_invV C (ct_X12_finding) (YO_o ..) cv_X12_65_12 (rmk_ok (by decide) (by decide) (by decide) (by decide)) (Nat.le_of_ble_eq_true rfl) rfl dX12_copy_123 rfl (q_r0 ?_)
                have hR := hR.sta2 2
                refine g_iret C E dX12_copy_126 (by decide) ?_
                by_cases qa : 0 ≤ i ∧ 0 ≤ m ∧ m ≤ (X.2.2.1 a).2.2 - i
                · unfold xCopy
                  rw [if_neg (not_not_intro c9), if_neg (not_not_intro c16), if_neg (by omega), if_neg (by omega), if_neg (not_not_intro (by omega)), if_neg (not_not_intro qa), if_pos (fun q => by omega)]
                  exact ⟨rfl, rfl, _, rfl, b, hR⟩
                · unfold xCopy
                  rw [if_neg (not_not_intro c9), if_neg (not_not_intro c16), if_neg (by omega), if_neg (by omega), if_neg (not_not_intro (by omega)), if_pos qa]
                  exact ⟨rfl, rfl, _, rfl, b, hR⟩
              · refine s_w5_iload C dX12_copy_81 ?_
                refine g_if_lt 121 C dX12_copy_83 (by decide) (by first | assumption | (unfold iR; omega)) (fun c83 => ?_) (fun c83 => ?_)
                · refine s_n0_aload C dX12_copy_121 ?_
                  refine g_iconst C dX12_copy_122 ?_
                  refine g_invV C (ct_X12_finding) (YO_o ..) cv_X12_65_12 (rmk_ok (by decide) (by decide) (by decide) (by decide)) (Nat.le_of_ble_eq_true rfl) rfl dX12_copy_123 rfl (q_r0 ?_)
                  have hR := hR.sta2 2
                  refine g_iret C E dX12_copy_126 (by decide) ?_
                  unfold xCopy
                  rw [if_neg (not_not_intro c9), if_neg (not_not_intro c16), if_neg (by omega), if_neg (by omega), if_neg (not_not_intro (by omega)), if_pos (fun q => by omega)]
                  exact ⟨rfl, rfl, _, rfl, b, hR⟩
                · refine s_n2_iload C dX12_copy_86 ?_
                  refine g_i2l C dX12_copy_87 (by first | assumption | (unfold iR; omega)) ?_
                  refine s_w5_iload C dX12_copy_88 ?_
                  refine g_i2l C dX12_copy_90 (by first | assumption | (unfold iR; omega)) ?_
                  refine g_ladd C dX12_copy_91 ?_
                  refine s_n0_aload C dX12_copy_92 ?_
                  refine g_get C fd_X12_13_12 dX12_copy_93 (YO_o ..) rfl ?_
                  refine s_n1_iload C dX12_copy_96 ?_
                  refine g_iald C dX12_copy_97 (YO_a1 ..) (by omega) ?_
                  refine g_i2l C dX12_copy_98 (by unfold iR; omega) ?_
                  refine g_lcmp C dX12_copy_99 (by unfold iR at *; unfold lR; omega) (by unfold iR at *; unfold lR; omega) ?_
                  refine g_if_gt 121 C dX12_copy_100 (by decide) (by exact lCmp_R _ _) (fun c100 => ?_) (fun c100 => ?_)
                  · refine s_n0_aload C dX12_copy_121 ?_
                    refine g_iconst C dX12_copy_122 ?_
                    refine g_invV C (ct_X12_finding) (YO_o ..) cv_X12_65_12 (rmk_ok (by decide) (by decide) (by decide) (by decide)) (Nat.le_of_ble_eq_true rfl) rfl dX12_copy_123 rfl (q_r0 ?_)
                    have hR := hR.sta2 2
                    refine g_iret C E dX12_copy_126 (by decide) ?_
                    unfold xCopy
                    rw [if_neg (not_not_intro c9), if_neg (not_not_intro c16), if_neg (by omega), if_neg (by omega), if_neg (not_not_intro (by omega)), if_pos (fun q => by have := (lc (i + m) (s.2 1 a)).1; omega)]
                    exact ⟨rfl, rfl, _, rfl, b, hR⟩
                  · refine s_w4_iload C dX12_copy_103 ?_
                    refine g_i2l C dX12_copy_105 (by first | assumption | (unfold iR; omega)) ?_
                    refine s_w5_iload C dX12_copy_106 ?_
                    refine g_i2l C dX12_copy_108 (by first | assumption | (unfold iR; omega)) ?_
                    refine g_ladd C dX12_copy_109 ?_
                    refine s_n0_aload C dX12_copy_110 ?_
                    refine g_get C fd_X12_13_12 dX12_copy_111 (YO_o ..) rfl ?_
                    refine s_n3_iload C dX12_copy_114 ?_
                    refine g_iald C dX12_copy_115 (YO_a1 ..) (by omega) ?_
                    refine g_i2l C dX12_copy_116 (by unfold iR; omega) ?_
                    refine g_lcmp C dX12_copy_117 (by unfold iR at *; unfold lR; omega) (by unfold iR at *; unfold lR; omega) ?_
                    refine g_if_le 127 C dX12_copy_118 (by decide) (by exact lCmp_R _ _) (fun c118 => ?_) (fun c118 => ?_)
                    · refine s_n2_iload C dX12_copy_127 ?_
                      refine s_w4_iload C dX12_copy_128 ?_
                      refine g_icmp_lt 137 C dX12_copy_130 (by decide) (by first | assumption | (unfold iR; omega)) (by first | assumption | (unfold iR; omega)) (fun c130 => ?_) (fun c130 => ?_)
                      · refine g_iconst C dX12_copy_137 ?_
                        refine s_w6_istore C dX12_copy_138 rfl ?_
                        refine g_iconst C dX12_copy_140 ?_
                        refine s_w7_istore C dX12_copy_141 rfl ?_
                        have q6 : 0 ≤ i ∧ 0 ≤ m ∧ m ≤ (X.2.2.1 a).2.2 - i := by have := (lc (i + m) (s.2 1 a)).2; omega
                        have q7 : 0 ≤ j ∧ 0 ≤ m ∧ m ≤ (X.2.2.1 c).2.2 - j := by have := (lc (j + m) (s.2 1 c)).2; omega
                        have := ld _ 0 s b none hR c9 c16 (by omega) (by omega) (by omega) q6 q7 c130 (by omega) rfl
                        rw [show m - 0 = m by omega] at this
                        rw [cpI_0, fu_id] at this
                        exact this
                      · refine g_iconst C dX12_copy_133 ?_
                        refine g_goto 138 C dX12_copy_134 (by decide) ?_
                        refine s_w6_istore C dX12_copy_138 rfl ?_
                        refine g_iconst C dX12_copy_140 ?_
                        refine s_w7_istore C dX12_copy_141 rfl ?_
                        have q6 : 0 ≤ i ∧ 0 ≤ m ∧ m ≤ (X.2.2.1 a).2.2 - i := by have := (lc (i + m) (s.2 1 a)).2; omega
                        have q7 : 0 ≤ j ∧ 0 ≤ m ∧ m ≤ (X.2.2.1 c).2.2 - j := by have := (lc (j + m) (s.2 1 c)).2; omega
                        have := lu _ 0 s b none hR c9 c16 (by omega) (by omega) (by omega) q6 q7 c130 (by omega) rfl
                        rw [cpI_0, fu_id] at this
                        exact this
                    · refine s_n0_aload C dX12_copy_121 ?_
                      refine g_iconst C dX12_copy_122 ?_
                      refine g_invV C (ct_X12_finding) (YO_o ..) cv_X12_65_12 (rmk_ok (by decide) (by decide) (by decide) (by decide)) (Nat.le_of_ble_eq_true rfl) rfl dX12_copy_123 rfl (q_r0 ?_)
                      have hR := hR.sta2 2
                      refine g_iret C E dX12_copy_126 (by decide) ?_
                      have qa : 0 ≤ i ∧ 0 ≤ m ∧ m ≤ (X.2.2.1 a).2.2 - i := by have := (lc (i + m) (s.2 1 a)).2; omega
                      unfold xCopy
                      rw [if_neg (not_not_intro c9), if_neg (not_not_intro c16), if_neg (by omega), if_neg (by omega), if_neg (not_not_intro (by omega)), if_neg (not_not_intro qa), if_pos (fun q => by have := (lc (j + m) (s.2 1 c)).1; omega)]
                      exact ⟨rfl, rfl, _, rfl, b, hR⟩
          · refine s_n0_aload C dX12_copy_66 ?_
            refine g_iconst C dX12_copy_67 ?_
            refine g_invV C (ct_X12_finding) (YO_o ..) cv_X12_65_12 (rmk_ok (by decide) (by decide) (by decide) (by decide)) (Nat.le_of_ble_eq_true rfl) rfl dX12_copy_68 rfl (q_r0 ?_)
            have hR := hR.sta2 5
            refine g_iret C E dX12_copy_71 (by decide) ?_
            unfold xCopy
            rw [if_neg (not_not_intro c9), if_neg (not_not_intro c16), if_neg (by omega), if_neg (by omega), if_pos (by omega)]
            exact ⟨rfl, rfl, _, rfl, b, hR⟩
        · refine s_n0_aload C dX12_copy_45 ?_
          refine g_iconst C dX12_copy_46 ?_
          refine g_invV C (ct_X12_finding) (YO_o ..) cv_X12_65_12 (rmk_ok (by decide) (by decide) (by decide) (by decide)) (Nat.le_of_ble_eq_true rfl) rfl dX12_copy_47 rfl (q_r0 ?_)
          have hR := hR.sta2 1
          refine g_iret C E dX12_copy_50 (by decide) ?_
          unfold xCopy
          rw [if_neg (not_not_intro c9), if_neg (not_not_intro c16), if_neg (by omega), if_pos (by omega)]
          exact ⟨rfl, rfl, _, rfl, b, hR⟩
    · refine g_ldc (-1000001) C wd_609 dX12_copy_19 ?_
      refine g_iret C E dX12_copy_21 (by decide) ?_
      unfold xCopy
      rw [if_neg (not_not_intro c9), if_pos c16]
      exact ⟨rfl, rfl, _, rfl, b, hR⟩
def cpz (f g : Int → Int) (lo k : Int) : Int → Int := fun q => if lo ≤ q ∧ q < lo + k then f (q - lo) else g q
theorem cpz_0 (f g : Int → Int) (lo : Int) : cpz f g lo 0 = g := by
  funext q
  unfold cpz
  rw [if_neg (by omega)]
theorem cpz_s (f g : Int → Int) (lo : Int) {k : Int} (h : 0 ≤ k) : up (cpz f g lo k) (lo + k) (f k) = cpz f g lo (k + 1) := by
  funext q
  unfold up cpz
  by_cases e : q = lo + k
  · rw [if_pos e, if_pos (by omega), show q - lo = k by omega]
  · rw [if_neg e]
    by_cases e2 : lo ≤ q ∧ q < lo + k
    · rw [if_pos e2, if_pos (by omega)]
    · rw [if_neg e2, if_neg (by omega)]
theorem xC_keep {X : XT} (h : xOK X) : xC (xKeep X) = xC X := by
  have b1 := h.na
  have b2 := h.c
  show fu X.2.2.2.1 (X.1 2) (xC X) (25 + X.1 5) = xC X
  rw [fu_ne _ _ (by omega)]
  rfl
set_option maxRecDepth 20000 in
theorem ct_X12_keep {X : XT} {s : YT} {b : Int → Int} {M : gM} {n : Int} (hR : yR X s b) (hO : xOK X) : CT yX12_keep cX12_keep 2 none (rmk 0 0 0) [vr 152] (YO s M) n (fun r M2 n2 => r = none ∧ n2 = n ∧ ∃ s', M2 = YO s' M ∧ yR (xKeep X) s' b) := by
  refine CT.of (by decide) (fun _ => Nat.le_of_ble_eq_true rfl) (fun κ C E => ?_)
  show G κ (YO s M) n [some (vr 152), none] 0 [] 0 0
  have hna := hO.na
  have hac := hO.ac
  have hc := hO.c
  have hta := hR.tab
  have hac2 := hR.ac
  have l2 : ∀ (z : Nat) (k A : Int) (W : Int → Int), (0 ≤ A ∧ A ≤ 23) → (A = X.1 3 ∨ (A = 23 ∧ X.1 3 = 24)) → (∀ j, 0 ≤ j → j < A → ∀ k, 0 ≤ k → k < 95 → W (95 * j + k) = pk (X.2.2.2.1 (actIx X (j + X.1 3 - A))) b k) → 0 ≤ k ∧ k ≤ 95 → (95 - k).toNat = z → G κ (YO (fu s.1 9 A, fu s.2 6 (cpz (s.2 3) W (95 * A) k)) M) n [some (vr 152), some (vi k)] 51 [] 0 0 := by
    intro z
    induction z using Nat.strongRecOn with
    | ind z ih =>
      intro k A W hA hA2 hW h1 hz
      refine s_n1_iload C dX12_keep_51 ?_
      refine g_bipush C dX12_keep_52 (by decide) ?_
      refine g_icmp_ge 83 C dX12_keep_54 (by decide) (by first | assumption | (unfold iR; omega)) (by first | assumption | (unfold iR; omega)) (fun c54 => ?_) (fun c54 => ?_)
      · refine s_n0_aload C dX12_keep_83 ?_
        refine g_dup C dX12_keep_84 rfl ?_
        refine g_get C fd_X12_150_12 dX12_keep_85 (YO_o ..) rfl ?_
        show G κ _ n _ _ (vi A :: _) _ _
        refine g_iconst C dX12_keep_88 ?_
        refine g_iadd C dX12_keep_89 ?_
        refine g_put C fp_X12_150_12 dX12_keep_90 (YO_o ..) (Nat.le_of_ble_eq_true rfl) (gfit_i _) ?_
        rw [YO_p9]
        show G κ (YO (fu (fu s.1 9 A) 9 (A + 1), fu s.2 6 (cpz (s.2 3) W (95 * A) k)) M) n _ _ _ _ _
        rw [fu_fu]
        refine g_vret C E dX12_keep_93 (by decide) ?_
        have ek : k = 95 := by omega
        subst ek
        refine ⟨rfl, rfl, _, rfl, ?_⟩
        refine ⟨hR.st, hR.rw, ?_, hR.bk, ?_, ?_, hR.tl, hR.tp, hR.la, ?_, hR.tn, hR.tr⟩
        · show s.2 3 = pk (xC (xKeep X)) b
          rw [xC_keep hO]
          exact hta
        · show A + 1 = min (X.1 3 + 1) 24
          omega
        · intro j j0 j1 k k0 k1
          have j1 : j < min (X.1 3 + 1) 24 := j1
          show cpz (s.2 3) W (95 * A) 95 (95 * j + k) = pk (fu X.2.2.2.1 (X.1 2) (xC X) (actIx (xKeep X) j)) b k
          have ea : actIx (xKeep X) j = (X.1 2 + 24 - A + j) % 24 := by show ((X.1 2 + 1) % 24 + 24 - min (X.1 3 + 1) 24 + j) % 24 = _; omega
          rw [ea]
          unfold cpz
          by_cases ej : j = A
          · rw [if_pos (by omega), show 95 * j + k - 95 * A = k by omega, show (X.1 2 + 24 - A + j) % 24 = X.1 2 by omega, fu_same, hta]
          · rw [if_neg (by omega), hW j j0 (by omega) k k0 k1, fu_ne _ _ (by omega)]
            unfold actIx
            rw [show X.1 2 + 24 - X.1 3 + (j + X.1 3 - A) = X.1 2 + 24 - A + j by omega]
        · intro k k0 k1
          obtain ⟨e1, e2⟩ := hR.ke k k0 k1
          refine ⟨e1, fun q => ?_⟩
          obtain ⟨u1, bk, u2, u3⟩ := e2 q
          refine ⟨u1, bk, u2, fun i i0 i1 => ?_⟩
          show _ = pk (fu X.2.2.2.1 (X.1 2) (xC X) (27 + k)) bk i
          rw [fu_ne _ _ (by omega)]
          exact u3 i i0 i1
      · refine s_n0_aload C dX12_keep_57 ?_
        refine g_get C fd_X12_28_12 dX12_keep_58 (YO_o ..) rfl ?_
        refine g_bipush C dX12_keep_61 (by decide) ?_
        refine s_n0_aload C dX12_keep_63 ?_
        refine g_get C fd_X12_150_12 dX12_keep_64 (YO_o ..) rfl ?_
        show G κ _ n _ _ (vi A :: _) _ _
        refine g_imul C dX12_keep_67 ?_
        refine s_n1_iload C dX12_keep_68 ?_
        refine g_iadd C dX12_keep_69 ?_
        refine s_n0_aload C dX12_keep_70 ?_
        refine g_get C fd_X12_19_12 dX12_keep_71 (YO_o ..) rfl ?_
        refine s_n1_iload C dX12_keep_74 ?_
        refine g_iald C dX12_keep_75 (YO_a3 ..) (by omega) ?_
        refine g_iast C dX12_keep_76 (YO_a6 ..) (by omega) ?_
        rw [YO_u6]
        show G κ (YO (fu s.1 9 A, fu (fu s.2 6 (cpz (s.2 3) W (95 * A) k)) 6 (up (cpz (s.2 3) W (95 * A) k) (95 * A + k) (s.2 3 k))) M) n _ _ _ _ _
        rw [fu_fu, cpz_s _ _ _ h1.1]
        refine s_w1_iinc C dX12_keep_77 rfl ?_
        refine g_goto 51 C dX12_keep_80 (by decide) ?_
        exact ih _ (by omega) (k + 1) A W hA hA2 hW (by omega) rfl
  have l1 : ∀ (z : Nat) (k : Int), X.1 3 = 24 → 0 ≤ k ∧ k ≤ 2185 → (2185 - k).toNat = z → G κ (YO (s.1, fu s.2 6 (mix (fun q => s.2 6 (q + 95)) (s.2 6) k)) M) n [some (vr 152), some (vi k)] 11 [] 0 0 := by
    intro z
    induction z using Nat.strongRecOn with
    | ind z ih =>
      intro k h24 h1 hz
      refine s_n1_iload C dX12_keep_11 ?_
      refine g_sipush C dX12_keep_12 (by decide) ?_
      refine g_icmp_ge 39 C dX12_keep_15 (by decide) (by first | assumption | (unfold iR; omega)) (by first | assumption | (unfold iR; omega)) (fun c15 => ?_) (fun c15 => ?_)
      · refine s_n0_aload C dX12_keep_39 ?_
        refine g_dup C dX12_keep_40 rfl ?_
        refine g_get C fd_X12_150_12 dX12_keep_41 (YO_o ..) rfl ?_
        show G κ _ n _ _ (vi (s.1 9) :: _) _ _
        rw [hac2, h24]
        refine g_iconst C dX12_keep_44 ?_
        refine g_isub C dX12_keep_45 ?_
        refine g_put C fp_X12_150_12 dX12_keep_46 (YO_o ..) (Nat.le_of_ble_eq_true rfl) (gfit_i _) ?_
        rw [YO_p9]
        refine g_iconst C dX12_keep_49 ?_
        refine s_n1_istore C dX12_keep_50 rfl ?_
        have ek : k = 2185 := by omega
        subst ek
        have := l2 _ 0 23 (mix (fun q => s.2 6 (q + 95)) (s.2 6) 2185) (by omega) (by omega) ?_ (by omega) rfl
        · rw [cpz_0] at this
          exact this
        · intro j j0 j1 k k0 k1
          rw [mix_in _ _ (by omega) (by omega)]
          show s.2 6 (95 * j + k + 95) = _
          rw [show 95 * j + k + 95 = 95 * (j + 1) + k by omega, hR.wa (j + 1) (by omega) (by omega) k k0 k1, show j + X.1 3 - 23 = j + 1 by omega]
      · refine s_n0_aload C dX12_keep_18 ?_
        refine g_get C fd_X12_28_12 dX12_keep_19 (YO_o ..) rfl ?_
        refine s_n1_iload C dX12_keep_22 ?_
        refine s_n0_aload C dX12_keep_23 ?_
        refine g_get C fd_X12_28_12 dX12_keep_24 (YO_o ..) rfl ?_
        refine s_n1_iload C dX12_keep_27 ?_
        refine g_bipush C dX12_keep_28 (by decide) ?_
        refine g_iadd C dX12_keep_30 ?_
        refine g_iald C dX12_keep_31 (YO_a6 ..) (by omega) ?_
        rw [show ((s.1, fu s.2 6 (mix (fun q => s.2 6 (q + 95)) (s.2 6) k)) : YT).2 6 (k + 95) = s.2 6 (k + 95) from if_neg (by omega)]
        refine g_iast C dX12_keep_32 (YO_a6 ..) (by omega) ?_
        rw [YO_u6]
        show G κ (YO (s.1, fu (fu s.2 6 (mix (fun q => s.2 6 (q + 95)) (s.2 6) k)) 6 (up (mix (fun q => s.2 6 (q + 95)) (s.2 6) k) k ((fun q => s.2 6 (q + 95)) k))) M) n _ _ _ _ _
        rw [fu_fu, mix_s _ _ h1.1]
        refine s_w1_iinc C dX12_keep_33 rfl ?_
        refine g_goto 11 C dX12_keep_36 (by decide) ?_
        exact ih _ (by omega) (k + 1) h24 (by omega) rfl
  refine s_n0_aload C dX12_keep_0 ?_
  refine g_get C fd_X12_150_12 dX12_keep_1 (YO_o ..) rfl ?_
  rw [hac2]
  refine g_bipush C dX12_keep_4 (by decide) ?_
  refine g_icmp_ne 49 C dX12_keep_6 (by decide) (by first | assumption | (unfold iR; omega)) (by first | assumption | (unfold iR; omega)) (fun c6 => ?_) (fun c6 => ?_)
  · refine g_iconst C dX12_keep_49 ?_
    refine s_n1_istore C dX12_keep_50 rfl ?_
    have := l2 _ 0 (X.1 3) (s.2 6) (by omega) (by omega) ?_ (by omega) rfl
    · rw [cpz_0, fu_id, show fu s.1 9 (X.1 3) = s.1 by rw [← hac2, fu_id]] at this
      exact this
    · intro j j0 j1 k k0 k1
      rw [show j + X.1 3 - X.1 3 = j by omega]
      exact hR.wa j j0 j1 k k0 k1
  · refine g_iconst C dX12_keep_9 ?_
    refine s_n1_istore C dX12_keep_10 rfl ?_
    have := l1 _ 0 (by omega) (by omega) rfl
    rw [mix_0, fu_id] at this
    exact this
theorem yR.setc {X : XT} {s : YT} {b : Int → Int} (h : yR X s b) (hO : xOK X) (S : SLT) : yR (xSetC X S) (yS 3 s S b) b := by
  have hc := hO.c
  refine ⟨h.st, h.rw, ?_, h.bk, h.ac, ?_, h.tl, h.tp, h.la, ?_, h.tn, h.tr⟩
  · show pk S b = pk (fu X.2.2.2.1 (25 + X.1 5) S (25 + X.1 5)) b
    rw [fu_same]
  · intro j j0 j1 k k0 k1
    show s.2 6 (95 * j + k) = pk (fu X.2.2.2.1 (25 + X.1 5) S (actIx X j)) b k
    rw [fu_ne _ _ (by unfold actIx; omega)]
    exact h.wa j j0 j1 k k0 k1
  · intro k k0 k1
    obtain ⟨e1, e2⟩ := h.ke k k0 k1
    refine ⟨e1, fun q => ?_⟩
    obtain ⟨u1, bk, u2, u3⟩ := e2 q
    refine ⟨u1, bk, u2, fun i i0 i1 => ?_⟩
    show _ = pk (fu X.2.2.2.1 (25 + X.1 5) S (27 + k)) bk i
    rw [fu_ne _ _ (by omega)]
    exact u3 i i0 i1
theorem xC_setC (X : XT) (S : SLT) : xC (xSetC X S) = S := fu_same _ _ _
theorem pS_3 {Z : SLT} {b : Int → Int} : pk Z b 3 = Z.2.2.2.2.1 := rfl
theorem pS_4 {Z : SLT} {b : Int → Int} : pk Z b 4 = Z.2.2.2.2.2 := rfl
theorem pS_u3 {Z : SLT} {b : Int → Int} {x : Int} : up (pk Z b) 3 x = pk (Z.1, Z.2.1, Z.2.2.1, Z.2.2.2.1, x, Z.2.2.2.2.2) b := by
  obtain ⟨f, s, h, w, l, p⟩ := Z
  exact pq_u3
theorem pS_u4 {Z : SLT} {b : Int → Int} {x : Int} : up (pk Z b) 4 x = pk (Z.1, Z.2.1, Z.2.2.1, Z.2.2.2.1, Z.2.2.2.2.1, x) b := by
  obtain ⟨f, s, h, w, l, p⟩ := Z
  exact pq_u4
set_option maxRecDepth 20000 in
theorem ct_X12_atMost {v m : Int} {M : gM} {n : Int} (hv : iR v) (hm : iR m) : CT yX12_atMost cX12_atMost 2 (some .int) (rmk 0 0 0) [vi v, vi m] M n (qr (some (vi (min v m))) M n) := by
  refine CT.of (by decide) (fun _ => Nat.le_of_ble_eq_true rfl) (fun κ C E => ?_)
  show G κ M n [some (vi v), some (vi m)] 0 [] 0 0
  refine s_n0_iload C dX12_atMost_0 ?_
  refine s_n1_iload C dX12_atMost_1 ?_
  refine g_icmp_le 9 C dX12_atMost_2 (by decide) (by exact hv) (by exact hm) (fun c2 => ?_) (fun c2 => ?_)
  · refine s_n0_iload C dX12_atMost_9 ?_
    refine g_iret C E dX12_atMost_10 (by decide) ?_
    rw [show min v m = v by omega]
    exact ⟨rfl, rfl, rfl⟩
  · refine s_n1_iload C dX12_atMost_5 ?_
    refine g_goto 10 C dX12_atMost_6 (by decide) ?_
    refine g_iret C E dX12_atMost_10 (by decide) ?_
    rw [show min v m = m by omega]
    exact ⟨rfl, rfl, rfl⟩
section GTH
variable {κ : gC} {y : MethodName} {cc : ByteArray} {nL : Nat} {rm : Room} {M : gM} {n : Int} {L : List (Option gV)} {pc : Nat} {st : List gV} {cells slots : Nat}
theorem g_tifne {p : Prop} [Decidable p] {off : Int} (tgt : Nat) (C : gF κ y cc nL rm) (hd : decode cc pc = .ok (.ifCond .ne off, 3)) (ht : (pc : Int) + off = (tgt : Int)) (a : ¬ p → G κ M n L tgt st cells slots) (b : p → G κ M n L (pc + 3) st cells slots) : G κ M n L pc (vi (if p then 0 else 1) :: st) cells slots := by
  by_cases hp : p
  · rw [if_pos hp]
    exact g_if_ne tgt C hd ht (by unfold iR; omega) (fun q => absurd rfl q) (fun _ => b hp)
  · rw [if_neg hp]
    exact g_if_ne tgt C hd ht (by unfold iR; omega) (fun _ => a hp) (fun q => absurd q (by decide))
end GTH
set_option maxRecDepth 20000 in
theorem ct_X12_make {X : XT} {s0 : YT} {M : gM} {n : Int} (h0 : yRel X s0) (hO : xOK X) {a : Int} (ha : iR a) : CT yX12_make cX12_make 2 (some .int) (rmk 3 0 0) [vr 152, vi a] (YO s0 M) n (yP (xMake X a) M n) := by
  refine CT.of (by decide) (fun _ => Nat.le_of_ble_eq_true rfl) (fun κ C E => ?_)
  show G κ (YO s0 M) n [some (vr 152), some (vi a)] 0 [] 0 0
  refine s_n0_aload C dX12_make_0 ?_
  refine g_iconst C dX12_make_1 ?_
  refine g_put C fp_X12_44_12 dX12_make_2 (YO_o ..) (Nat.le_of_ble_eq_true rfl) (gfit_i _) ?_
  rw [YO_p0]
  obtain ⟨b, hR⟩ := h0
  have hR := hR.th 0
  generalize ((fu s0.1 0 0, s0.2) : YT) = s at hR ⊢
  refine s_n0_aload C dX12_make_5 ?_
  refine s_n1_iload C dX12_make_6 ?_
  refine g_invV C (ct_X12_isPass hR.tab hR.bk hO.ps (by assumption)) (YO_o ..) cv_X12_189_12 (rmk_ok (by decide) (by decide) (by decide) (by decide)) (Nat.le_of_ble_eq_true rfl) rfl dX12_make_7 rfl (q_r0 ?_)
  refine g_bifne 16 C dX12_make_10 (by decide)  (fun c10 => ?_) (fun c10 => ?_)
  · refine s_n0_aload C dX12_make_16 ?_
    refine g_invV C (ct_X12_keep hR hO) (YO_o ..) cv_X12_183_12 (rmk_ok (by decide) (by decide) (by decide) (by decide)) (Nat.le_of_ble_eq_true rfl) rfl dX12_make_17 rfl (fun r M9 n9 hq => ?_)
    obtain ⟨hr9, hn9, s9, hm9, hR⟩ := hq
    subst hr9
    rw [hn9, hm9]
    show G κ _ _ _ _ _ 0 0
    have hO := xKeep_ok hO
    clear hm9
    generalize s9 = s at hR ⊢
    rw [← yS_3 hR.tab]
    refine s_n0_aload C dX12_make_20 ?_
    refine s_n0_aload C dX12_make_21 ?_
    refine g_get C fd_X12_19_12 dX12_make_22 (YO_o ..) rfl ?_
    refine s_n1_iload C dX12_make_25 ?_
    refine g_invV C (ct_X12_pass_3 (s := s) (St := xC X) (S := xC (xKeep X)) (ps := xP X) hR.bk hO.ps c10 hO.cs) (YO_o ..) cv_X12_173_12 (rmk_ok (by decide) (by decide) (by decide) (by decide)) (Nat.le_of_ble_eq_true rfl) rfl dX12_make_26 rfl (q_v0 ?_)
    have hR2 := hR.setc hO (pGo ((xP X).2.1 a) ((xP X).2.2.1 a) ((xP X).2.2.2 a) (xC (xKeep X)))
    refine s_n0_aload C dX12_make_29 ?_
    refine g_get C fd_X12_19_12 dX12_make_30 (YO_o ..) rfl ?_
    refine g_iconst C dX12_make_33 ?_
    refine g_iald C dX12_make_34 (YO_a3 ..) (by omega) ?_
    refine g_iret C E dX12_make_35 (by decide) ?_
    unfold xMake
    rw [if_neg (not_not_intro c10)]
    refine ⟨?_, rfl, _, rfl, b, hR2⟩
    show some (vi (pk (pGo ((xP X).2.1 a) ((xP X).2.2.1 a) ((xP X).2.2.2 a) (xC (xKeep X))) b 2)) = _
    rw [xC_setC]
    rfl
  · refine g_ldc (-1000001) C wd_609 dX12_make_13 ?_
    refine g_iret C E dX12_make_15 (by decide) ?_
    unfold xMake
    rw [if_pos c10]
    exact ⟨rfl, rfl, _, rfl, b, hR⟩
set_option maxRecDepth 20000 in
theorem ct_X12_stand {X : XT} {s0 : YT} {M : gM} {n : Int} (h0 : yRel X s0) (hO : xOK X) {a : Int} (ha : iR a) : CT yX12_stand cX12_stand 2 (some .int) (rmk 2 0 0) [vr 152, vi a] (YO s0 M) n (yP (xStand X a) M n) := by
  refine CT.of (by decide) (fun _ => Nat.le_of_ble_eq_true rfl) (fun κ C E => ?_)
  show G κ (YO s0 M) n [some (vr 152), some (vi a)] 0 [] 0 0
  refine s_n0_aload C dX12_stand_0 ?_
  refine g_iconst C dX12_stand_1 ?_
  refine g_put C fp_X12_44_12 dX12_stand_2 (YO_o ..) (Nat.le_of_ble_eq_true rfl) (gfit_i _) ?_
  rw [YO_p0]
  obtain ⟨b, hR⟩ := h0
  have hR := hR.th 0
  generalize ((fu s0.1 0 0, s0.2) : YT) = s at hR ⊢
  refine s_n0_aload C dX12_stand_5 ?_
  refine g_invV C (ct_X12_isThere hR.tab hR.bk hO.td) (YO_o ..) cv_X12_177_12 (rmk_ok (by decide) (by decide) (by decide) (by decide)) (Nat.le_of_ble_eq_true rfl) rfl dX12_stand_6 rfl (q_r0 ?_)
  refine g_tifne 15 C dX12_stand_9 (by decide)  (fun c9 => ?_) (fun c9 => ?_)
  · refine s_n1_iload C dX12_stand_15 ?_
    refine g_invS C (ct_X12_isCell (v := a) (by assumption)) cs_X12_192 (rmk_ok (by decide) (by decide) (by decide) (by decide)) (Nat.le_of_ble_eq_true rfl) rfl dX12_stand_16 rfl (q_r0 ?_)
    refine g_bifne 25 C dX12_stand_19 (by decide)  (fun c19 => ?_) (fun c19 => ?_)
    · refine s_n0_aload C dX12_stand_25 ?_
      refine g_invV C (ct_X12_keep hR hO) (YO_o ..) cv_X12_183_12 (rmk_ok (by decide) (by decide) (by decide) (by decide)) (Nat.le_of_ble_eq_true rfl) rfl dX12_stand_26 rfl (fun r M9 n9 hq => ?_)
      obtain ⟨hr9, hn9, s9, hm9, hR⟩ := hq
      subst hr9
      rw [hn9, hm9]
      show G κ _ _ _ _ _ 0 0
      have hO := xKeep_ok hO
      clear hm9
      generalize s9 = s at hR ⊢
      rw [← yS_3 hR.tab]
      refine s_n0_aload C dX12_stand_29 ?_
      refine g_get C fd_X12_19_12 dX12_stand_30 (YO_o ..) rfl ?_
      refine s_n1_iload C dX12_stand_33 ?_
      refine g_invS C ((km_stands (a := 156) (Z := xC (xKeep X)) (b := b) (M := YO (yS 3 s (xC (xKeep X)) b) M) hO.cs (by omega)).conv (gu_self rfl) rfl) cs_X12_195 (rmk_ok (by decide) (by decide) (by decide) (by decide)) (Nat.le_of_ble_eq_true rfl) rfl dX12_stand_34 rfl (q_v0 ?_)
      rw [yS_u3]
      have hR2 := hR.setc hO (sfTear (xC (xKeep X)) a)
      refine s_n0_aload C dX12_stand_37 ?_
      refine g_get C fd_X12_19_12 dX12_stand_38 (YO_o ..) rfl ?_
      refine g_bipush C dX12_stand_41 (by decide) ?_
      refine s_n1_iload C dX12_stand_43 ?_
      refine g_iadd C dX12_stand_44 ?_
      refine g_iald C dX12_stand_45 (YO_a3 ..) (by omega) ?_
      refine g_iret C E dX12_stand_46 (by decide) ?_
      unfold xStand
      rw [if_neg c9, if_neg (not_not_intro c19)]
      refine ⟨?_, rfl, _, rfl, b, hR2⟩
      show some (vi (pk (sfTear (xC (xKeep X)) a) b (6 + a))) = _
      rw [xC_setC, pS_f (by omega)]
    · refine g_ldc (-1000001) C wd_609 dX12_stand_22 ?_
      refine g_iret C E dX12_stand_24 (by decide) ?_
      unfold xStand
      rw [if_neg c9, if_pos c19]
      exact ⟨rfl, rfl, _, rfl, b, hR⟩
  · refine g_ldc (-1000002) C wd_706 dX12_stand_12 ?_
    refine g_iret C E dX12_stand_14 (by decide) ?_
    unfold xStand
    rw [if_pos c9]
    exact ⟨rfl, rfl, _, rfl, b, hR⟩
set_option maxRecDepth 20000 in
theorem ct_X12_rest {X : XT} {s0 : YT} {M : gM} {n : Int} (h0 : yRel X s0) (hO : xOK X)  : CT yX12_rest cX12_rest 1 (some .int) (rmk 1 0 0) [vr 152] (YO s0 M) n (yP (xRest X) M n) := by
  refine CT.of (by decide) (fun _ => Nat.le_of_ble_eq_true rfl) (fun κ C E => ?_)
  show G κ (YO s0 M) n [some (vr 152)] 0 [] 0 0
  refine s_n0_aload C dX12_rest_0 ?_
  refine g_iconst C dX12_rest_1 ?_
  refine g_put C fp_X12_44_12 dX12_rest_2 (YO_o ..) (Nat.le_of_ble_eq_true rfl) (gfit_i _) ?_
  rw [YO_p0]
  obtain ⟨b, hR⟩ := h0
  have hR := hR.th 0
  generalize ((fu s0.1 0 0, s0.2) : YT) = s at hR ⊢
  refine s_n0_aload C dX12_rest_5 ?_
  refine g_invV C (ct_X12_isThere hR.tab hR.bk hO.td) (YO_o ..) cv_X12_177_12 (rmk_ok (by decide) (by decide) (by decide) (by decide)) (Nat.le_of_ble_eq_true rfl) rfl dX12_rest_6 rfl (q_r0 ?_)
  refine g_tifne 15 C dX12_rest_9 (by decide)  (fun c9 => ?_) (fun c9 => ?_)
  · refine s_n0_aload C dX12_rest_15 ?_
    refine g_invV C (ct_X12_keep hR hO) (YO_o ..) cv_X12_183_12 (rmk_ok (by decide) (by decide) (by decide) (by decide)) (Nat.le_of_ble_eq_true rfl) rfl dX12_rest_16 rfl (fun r M9 n9 hq => ?_)
    obtain ⟨hr9, hn9, s9, hm9, hR⟩ := hq
    subst hr9
    rw [hn9, hm9]
    show G κ _ _ _ _ _ 0 0
    have hO := xKeep_ok hO
    clear hm9
    generalize s9 = s at hR ⊢
    rw [← yS_3 hR.tab]
    refine s_n0_aload C dX12_rest_19 ?_
    refine g_get C fd_X12_19_12 dX12_rest_20 (YO_o ..) rfl ?_
    refine g_invS C ((km_rests (a := 156) (Z := xC (xKeep X)) (b := b) (M := YO (yS 3 s (xC (xKeep X)) b) M) hO.cs (by rw [hR.bk.2.1]; have := hO.sk; omega)).conv (gu_self rfl) rfl) cs_X12_198 (rmk_ok (by decide) (by decide) (by decide) (by decide)) (Nat.le_of_ble_eq_true rfl) rfl dX12_rest_23 rfl (q_v0 ?_)
    rw [yS_u3, hR.bk.2.1]
    have hR2 := hR.setc hO (sfSink (xC (xKeep X)) (xK (xKeep X)))
    refine s_n0_aload C dX12_rest_26 ?_
    refine g_get C fd_X12_19_12 dX12_rest_27 (YO_o ..) rfl ?_
    refine g_invS C (ct_X12_filmOf (S := sfSink (xC (xKeep X)) (xK (xKeep X))) (b := b) rfl) cs_X12_202 (rmk_ok (by decide) (by decide) (by decide) (by decide)) (Nat.le_of_ble_eq_true rfl) rfl dX12_rest_30 rfl (q_r0 ?_)
    refine g_iret C E dX12_rest_33 (by decide) ?_
    unfold xRest
    rw [if_neg c9]
    refine ⟨?_, rfl, _, rfl, b, hR2⟩
    rw [xC_setC]
  · refine g_ldc (-1000002) C wd_706 dX12_rest_12 ?_
    refine g_iret C E dX12_rest_14 (by decide) ?_
    unfold xRest
    rw [if_pos c9]
    exact ⟨rfl, rfl, _, rfl, b, hR⟩
set_option maxRecDepth 20000 in
theorem ct_X12_charge {X : XT} {s0 : YT} {M : gM} {n : Int} (h0 : yRel X s0) (hO : xOK X) {a o : Int} (ha : iR a) (ho : iR o) : CT yX12_charge cX12_charge 4 (some .int) (rmk 1 0 0) [vr 152, vi a, vi o] (YO s0 M) n (yP (xCharge X a o) M n) := by
  refine CT.of (by decide) (fun _ => Nat.le_of_ble_eq_true rfl) (fun κ C E => ?_)
  show G κ (YO s0 M) n [some (vr 152), some (vi a), some (vi o), none] 0 [] 0 0
  refine s_n0_aload C dX12_charge_0 ?_
  refine g_iconst C dX12_charge_1 ?_
  refine g_put C fp_X12_44_12 dX12_charge_2 (YO_o ..) (Nat.le_of_ble_eq_true rfl) (gfit_i _) ?_
  rw [YO_p0]
  obtain ⟨b, hR⟩ := h0
  have hR := hR.th 0
  generalize ((fu s0.1 0 0, s0.2) : YT) = s at hR ⊢
  refine s_n0_aload C dX12_charge_5 ?_
  refine g_invV C (ct_X12_isThere hR.tab hR.bk hO.td) (YO_o ..) cv_X12_177_12 (rmk_ok (by decide) (by decide) (by decide) (by decide)) (Nat.le_of_ble_eq_true rfl) rfl dX12_charge_6 rfl (q_r0 ?_)
  refine g_tifne 15 C dX12_charge_9 (by decide)  (fun c9 => ?_) (fun c9 => ?_)
  · refine s_n1_iload C dX12_charge_15 ?_
    refine g_i2l C dX12_charge_16 (by first | assumption | (unfold iR; omega)) ?_
    refine g_lconst0 C dX12_charge_17 ?_
    refine g_ldc2 (99) C wd_707 dX12_charge_18 ?_
    refine g_invS C (ct_X12_in (v := a) (lo := 0) (hi := 99) (by unfold iR at *; unfold lR; omega) (by unfold iR at *; unfold lR; omega) (by unfold iR at *; unfold lR; omega)) cs_X12_54 (rmk_ok (by decide) (by decide) (by decide) (by decide)) (Nat.le_of_ble_eq_true rfl) rfl dX12_charge_21 rfl (q_r0 ?_)
    refine g_bifeq 39 C dX12_charge_24 (by decide)  (fun c24 => ?_) (fun c24 => ?_)
    · refine g_ldc (-1000001) C wd_609 dX12_charge_39 ?_
      refine g_iret C E dX12_charge_41 (by decide) ?_
      unfold xCharge
      rw [if_neg c9, if_pos c24]
      exact ⟨rfl, rfl, _, rfl, b, hR⟩
    · refine s_n2_iload C dX12_charge_27 ?_
      refine g_i2l C dX12_charge_28 (by first | assumption | (unfold iR; omega)) ?_
      refine g_lconst0 C dX12_charge_29 ?_
      refine g_ldc2 (99) C wd_707 dX12_charge_30 ?_
      refine g_invS C (ct_X12_in (v := o) (lo := 0) (hi := 99) (by unfold iR at *; unfold lR; omega) (by unfold iR at *; unfold lR; omega) (by unfold iR at *; unfold lR; omega)) cs_X12_54 (rmk_ok (by decide) (by decide) (by decide) (by decide)) (Nat.le_of_ble_eq_true rfl) rfl dX12_charge_33 rfl (q_r0 ?_)
      refine g_bifne 42 C dX12_charge_36 (by decide)  (fun c36 => ?_) (fun c36 => ?_)
      · refine s_n0_aload C dX12_charge_42 ?_
        refine g_invV C (ct_X12_keep hR hO) (YO_o ..) cv_X12_183_12 (rmk_ok (by decide) (by decide) (by decide) (by decide)) (Nat.le_of_ble_eq_true rfl) rfl dX12_charge_43 rfl (fun r M9 n9 hq => ?_)
        obtain ⟨hr9, hn9, s9, hm9, hR⟩ := hq
        subst hr9
        rw [hn9, hm9]
        show G κ _ _ _ _ _ 0 0
        have hO := xKeep_ok hO
        clear hm9
        generalize s9 = s at hR ⊢
        rw [← yS_3 hR.tab]
        have hcw := hO.cs.2
        refine s_n0_aload C dX12_charge_46 ?_
        refine g_get C fd_X12_19_12 dX12_charge_47 (YO_o ..) rfl ?_
        refine g_iconst C dX12_charge_50 ?_
        refine g_iald C dX12_charge_51 (YO_a3 ..) (by omega) ?_
        show G κ _ n _ _ (vi (xC (xKeep X)).2.2.2.1 :: _) _ _
        refine s_n1_iload C dX12_charge_52 ?_
        refine g_iadd C dX12_charge_53 ?_
        refine g_bipush C dX12_charge_54 (by decide) ?_
        refine g_invS C (ct_X12_atMost (v := (xC (xKeep X)).2.2.2.1 + a) (m := 99) (by unfold iR; omega) (by unfold iR; omega)) cs_X12_186 (rmk_ok (by decide) (by decide) (by decide) (by decide)) (Nat.le_of_ble_eq_true rfl) rfl dX12_charge_56 rfl (q_r0 ?_)
        refine s_n3_istore C dX12_charge_59 rfl ?_
        refine s_n0_aload C dX12_charge_60 ?_
        refine g_get C fd_X12_19_12 dX12_charge_61 (YO_o ..) rfl ?_
        refine g_iconst C dX12_charge_64 ?_
        refine g_dup2 C dX12_charge_65 ?_
        refine g_iald C dX12_charge_66 (YO_a3 ..) (by omega) ?_
        show G κ _ n _ _ (vi (xC (xKeep X)).2.2.2.2.2 :: _) _ _
        refine s_n3_iload C dX12_charge_67 ?_
        refine s_n0_aload C dX12_charge_68 ?_
        refine g_get C fd_X12_19_12 dX12_charge_69 (YO_o ..) rfl ?_
        refine g_iconst C dX12_charge_72 ?_
        refine g_iald C dX12_charge_73 (YO_a3 ..) (by omega) ?_
        show G κ _ n _ _ (vi (xC (xKeep X)).2.2.2.1 :: _) _ _
        refine g_isub C dX12_charge_74 ?_
        refine g_iadd C dX12_charge_75 ?_
        refine g_iast C dX12_charge_76 (YO_a3 ..) (by omega) ?_
        rw [show ∀ S2 : SLT, (yS 3 s S2 b).2 3 = pk S2 b from fun _ => rfl, pS_u4, yS_u3]
        refine s_n0_aload C dX12_charge_77 ?_
        refine g_get C fd_X12_19_12 dX12_charge_78 (YO_o ..) rfl ?_
        refine g_iconst C dX12_charge_81 ?_
        refine s_n3_iload C dX12_charge_82 ?_
        refine g_iast C dX12_charge_83 (YO_a3 ..) (by omega) ?_
        rw [show ∀ S2 : SLT, (yS 3 s S2 b).2 3 = pk S2 b from fun _ => rfl, pS_u2, yS_u3]
        refine s_n0_aload C dX12_charge_84 ?_
        refine g_get C fd_X12_19_12 dX12_charge_85 (YO_o ..) rfl ?_
        refine g_iconst C dX12_charge_88 ?_
        refine s_n0_aload C dX12_charge_89 ?_
        refine g_get C fd_X12_19_12 dX12_charge_90 (YO_o ..) rfl ?_
        refine g_iconst C dX12_charge_93 ?_
        refine g_iald C dX12_charge_94 (YO_a3 ..) (by omega) ?_
        show G κ _ n _ _ (vi (xC (xKeep X)).2.2.2.2.1 :: _) _ _
        refine s_n2_iload C dX12_charge_95 ?_
        refine g_iadd C dX12_charge_96 ?_
        refine g_bipush C dX12_charge_97 (by decide) ?_
        refine g_invS C (ct_X12_atMost (v := (xC (xKeep X)).2.2.2.2.1 + o) (m := 99) (by unfold iR; omega) (by unfold iR; omega)) cs_X12_186 (rmk_ok (by decide) (by decide) (by decide) (by decide)) (Nat.le_of_ble_eq_true rfl) rfl dX12_charge_99 rfl (q_r0 ?_)
        refine g_iast C dX12_charge_102 (YO_a3 ..) (by omega) ?_
        rw [show ∀ S2 : SLT, (yS 3 s S2 b).2 3 = pk S2 b from fun _ => rfl, pS_u3, yS_u3]
        refine s_n3_iload C dX12_charge_103 ?_
        refine g_iret C E dX12_charge_104 (by decide) ?_
        unfold xCharge
        rw [if_neg c9, if_neg (not_not_intro c24), if_neg (not_not_intro c36)]
        have es : sfSoak (xC (xKeep X)) a o = ((xC (xKeep X)).1, (xC (xKeep X)).2.1, (xC (xKeep X)).2.2.1, min ((xC (xKeep X)).2.2.2.1 + a) 99, min ((xC (xKeep X)).2.2.2.2.1 + o) 99, (xC (xKeep X)).2.2.2.2.2 + (min ((xC (xKeep X)).2.2.2.1 + a) 99 - (xC (xKeep X)).2.2.2.1)) := by unfold sfSoak; rw [show (xC (xKeep X)).2.2.2.1 + min a (99 - (xC (xKeep X)).2.2.2.1) = min ((xC (xKeep X)).2.2.2.1 + a) 99 by omega, show (xC (xKeep X)).2.2.2.2.2 + min a (99 - (xC (xKeep X)).2.2.2.1) = (xC (xKeep X)).2.2.2.2.2 + (min ((xC (xKeep X)).2.2.2.1 + a) 99 - (xC (xKeep X)).2.2.2.1) by omega]
        rw [es]
        refine ⟨?_, rfl, _, rfl, b, hR.setc hO _⟩
        rw [xC_setC]
      · refine g_ldc (-1000001) C wd_609 dX12_charge_39 ?_
        refine g_iret C E dX12_charge_41 (by decide) ?_
        unfold xCharge
        rw [if_neg c9, if_neg (not_not_intro c24), if_pos c36]
        exact ⟨rfl, rfl, _, rfl, b, hR⟩
  · refine g_ldc (-1000002) C wd_706 dX12_charge_12 ?_
    refine g_iret C E dX12_charge_14 (by decide) ?_
    unfold xCharge
    rw [if_pos c9]
    exact ⟨rfl, rfl, _, rfl, b, hR⟩
