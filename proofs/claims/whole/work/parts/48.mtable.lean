/-! PadPolishModel: table -/
set_option maxRecDepth 20000 in
theorem ct_X12_table {X : XT} {s0 : YT} {M : gM} {n : Int} (h0 : yRel X s0) (hO : xOK X)  : CT yX12_table cX12_table 4 (some .int) (rmk 5 0 0) [vr 152] (YO s0 M) n (yP (xTable X) M n) := by
  refine CT.of (by decide) (fun _ => Nat.le_of_ble_eq_true rfl) (fun κ C E => ?_)
  show G κ (YO s0 M) n [some (vr 152), none, none, none] 0 [] 0 0
  have hby := hO.tp.1
  have hln := hO.tp.2
  have hc5 := hO.c
  have KE : ∀ (z : Nat) (k a1 a2 : Int) (s : YT) (b b2 sc2 : Int → Int) (S : SLT) (fr : Int → Int), yR X s b → fr = pk S b2 → ¬ (rdAll (xTape X)).1 = 0 → (rdAll (xTape X)).2.2.1 = S → bOK 1 (rdAll (xTape X)).2.2.2.2 (rdAll (xTape X)).2.2.2.1 b2 → 0 ≤ k ∧ k ≤ 95 → (95 - k).toNat = z → G κ (YO (fu (fu (fu (pZ s sc2 fr).1 11 0) 18 (s.1 18)) 9 0, fu (pZ s sc2 fr).2 3 (mix (pk S b2) (s.2 3) k)) M) n [some (vr 152), some (vi a1), some (vi a2), some (vi k)] 175 [] 0 0 := by
    intro z
    induction z using Nat.strongRecOn with
    | ind z ih =>
      intro k a1 a2 s b b2 sc2 S fr hR hfr hra hS hbk h1 hz
      refine s_n3_iload C dX12_table_175 ?_
      refine g_bipush C dX12_table_176 (by decide) ?_
      refine g_icmp_ge 199 C dX12_table_178 (by decide) (by first | assumption | (unfold iR; omega)) (by first | assumption | (unfold iR; omega)) (fun c178 => ?_) (fun c178 => ?_)
      · have e : k = 95 := by omega
        subst e
        rw [show YO (fu (fu (fu (pZ s sc2 fr).1 11 0) 18 (s.1 18)) 9 0, fu (pZ s sc2 fr).2 3 (mix (pk S b2) (s.2 3) 95)) M = gu (YO (fu (fu (fu (pZ s sc2 fr).1 11 0) 18 (s.1 18)) 9 0, (pZ s sc2 fr).2) M) 156 (gA 0 95 (mix (pk S b2) (s.2 3) 95)) from (YO_u3 (fu (fu (fu (pZ s sc2 fr).1 11 0) 18 (s.1 18)) 9 0, (pZ s sc2 fr).2) M _).symm]
        refine G.arr (f' := pk S b2) (fun j j0 j1 => by rw [mix_in _ _ j0 j1]) ?_
        rw [YO_u3]
        refine s_n0_aload C dX12_table_199 ?_
        refine g_get C fd_X12_19_12 dX12_table_200 (YO_o ..) rfl ?_
        refine g_iconst C dX12_table_203 ?_
        refine g_iald C dX12_table_204 (YO_a3 ..) (by omega) ?_
        show G κ _ _ _ _ (vi (pk S b2 5) :: _) _ _
        rw [pq_b (Or.inr (Or.inl rfl)), hbk.2.2.1]
        refine g_iret C E dX12_table_205 (by decide) ?_
        unfold xTable
        rw [if_neg hra]
        refine ⟨rfl, rfl, _, rfl, b2, ?_⟩
        refine ⟨hR.st, hR.rw, ?_, ?_, rfl, ?_, rfl, ?_, hR.la, ?_, hR.tn, hR.tr⟩
        · show pk S b2 = pk (fu X.2.2.2.1 (26 - X.1 5) (rdAll (xTape X)).2.2.1 (25 + (1 - X.1 5))) b2
          rw [show 25 + (1 - X.1 5) = 26 - X.1 5 by omega, fu_same, hS]
        · show bOK 1 (fu X.2.2.2.2.2 (1 - X.1 5) ((rdAll (xTape X)).2.2.2.2, (rdAll (xTape X)).2.2.2.1) (1 - X.1 5)).1 (fu X.2.2.2.2.2 (1 - X.1 5) ((rdAll (xTape X)).2.2.2.2, (rdAll (xTape X)).2.2.2.1) (1 - X.1 5)).2 b2
          rw [fu_same]
          exact hbk
        · intro j j0 j1
          have j1 : j < 0 := j1
          omega
        · intro i i0 i1
          have i1 : i < 0 := i1
          omega
        · intro k k0 k1
          obtain ⟨e1, e2⟩ := hR.ke k k0 k1
          refine ⟨e1, fun q => ⟨rfl, ?_⟩⟩
          obtain ⟨v1, bk, v2, v3⟩ := e2 q
          refine ⟨bk, ?_, fun i i0 i1 => ?_⟩
          · show bOK 1 (fu X.2.2.2.2.2 (1 - X.1 5) _ (2 + k)).1 (fu X.2.2.2.2.2 (1 - X.1 5) _ (2 + k)).2 bk
            rw [fu_ne _ _ (by omega)]
            exact v2
          · show s.2 9 (95 * k + i) = pk (fu X.2.2.2.1 (26 - X.1 5) _ (27 + k)) bk i
            rw [fu_ne _ _ (by omega)]
            exact v3 i i0 i1
      · refine s_n0_aload C dX12_table_181 ?_
        refine g_get C fd_X12_19_12 dX12_table_182 (YO_o ..) rfl ?_
        refine s_n3_iload C dX12_table_185 ?_
        refine s_n0_aload C dX12_table_186 ?_
        refine g_get C fd_X12_22_12 dX12_table_187 (YO_o ..) rfl ?_
        refine s_n3_iload C dX12_table_190 ?_
        refine g_iald C dX12_table_191 (YO_a4 ..) (by omega) ?_
        refine g_iast C dX12_table_192 (YO_a3 ..) (by omega) ?_
        rw [YO_u3]
        show G κ (YO (fu (fu (fu (pZ s sc2 fr).1 11 0) 18 (s.1 18)) 9 0, fu (fu (pZ s sc2 fr).2 3 (mix (pk S b2) (s.2 3) k)) 3 (up (mix (pk S b2) (s.2 3) k) k (fr k))) M) n _ _ _ _ _
        rw [fu_fu]
        have em : up (mix (pk S b2) (s.2 3) k) k (fr k) = mix (pk S b2) (s.2 3) (k + 1) := by rw [hfr]; exact mix_s _ _ h1.1
        rw [em]
        refine s_w3_iinc C dX12_table_193 rfl ?_
        refine g_goto 175 C dX12_table_196 (by decide) ?_
        exact ih _ (by omega) (k + 1) a1 a2 s b b2 sc2 S fr hR hfr hra hS hbk (by omega) rfl
  have K153 : ∀ (s : YT) (b sc fr : Int → Int) (q : QT) (a1 a2 : Int), yR X s b → PK (X.2.1 0) (X.1 6) q sc → ((fQ q).1 = 0 → (rdAll (xTape X)).1 = 0 ∧ (rdAll (xTape X)).2.1 = (fQ q).2) → (¬ (fQ q).1 = 0 → ¬ (rdAll (xTape X)).1 = 0 ∧ ∃ b2, fr = pk (rdAll (xTape X)).2.2.1 b2 ∧ bOK 1 (rdAll (xTape X)).2.2.2.2 (rdAll (xTape X)).2.2.2.1 b2) → G κ (YO (pZ s sc fr) M) n [some (vr 152), some (vi a1), some (vi a2), none] 153 [] 0 0 := by
    intro s b sc fr q a1 a2 hR hq hf0 hf1
    have htl := hR.tl
    have htp := hR.tp
    refine s_n0_aload C dX12_table_153 ?_
    refine g_invV C (ct_X12_failed (sc := sc) (q := q) htl htp hby hln hq) (YO_o ..) cv_X12_145_12 (rmk_ok (by decide) (by decide) (by decide) (by decide)) (Nat.le_of_ble_eq_true rfl) rfl dX12_table_154 rfl (fun r M9 n9 h9 => ?_)
    obtain ⟨r9, n9e, sc2, m9, h17⟩ := h9
    subst r9
    rw [n9e, m9]
    show G κ _ _ _ _ (vi (if (fQ q).1 = 0 then 1 else 0) :: _) 0 0
    refine g_bifeq 168 C dX12_table_157 (by decide)  (fun c157 => ?_) (fun c157 => ?_)
    · obtain ⟨g1, b2, g2, g3⟩ := hf1 c157
      rw [if_neg c157]
      refine s_n0_aload C dX12_table_168 ?_
      refine g_iconst C dX12_table_169 ?_
      refine g_put C fp_X12_150_12 dX12_table_170 (YO_o ..) (Nat.le_of_ble_eq_true rfl) (gfit_i _) ?_
      rw [YO_p9]
      refine g_iconst C dX12_table_173 ?_
      refine s_n3_istore C dX12_table_174 rfl ?_
      have := KE _ 0 a1 a2 s b b2 sc2 _ fr hR g2 g1 rfl g3 (by omega) rfl
      rw [mix_0] at this
      have e3 : fu (pZ s sc2 fr).2 3 (s.2 3) = (pZ s sc2 fr).2 := fu_id (pZ s sc2 fr).2 3
      rw [e3] at this
      exact this
    · obtain ⟨g1, g2⟩ := hf0 c157
      rw [if_pos c157]
      refine g_ldc (-1000100) C wd_676 dX12_table_160 ?_
      refine s_n0_aload C dX12_table_162 ?_
      refine g_get C fd_X12_81_12 dX12_table_163 (YO_o ..) rfl ?_
      show G κ _ _ _ _ (vi (sc2 17) :: _) _ _
      rw [h17 c157]
      refine g_isub C dX12_table_166 ?_
      refine g_iret C E dX12_table_167 (by decide) ?_
      unfold xTable
      rw [if_pos g1, g2]
      refine ⟨rfl, rfl, _, rfl, b, ?_⟩
      refine ⟨hR.st, hR.rw, hR.tab, hR.bk, hR.ac, hR.wa, rfl, ?_, rfl, hR.ke, hR.tn, hR.tr⟩
      intro i i0 i1
      have i1 : i < 0 := i1
      omega
  have KF : ∀ (s : YT) (b sc fr : Int → Int) (q : QT) (a1 a2 : Int), yR X s b → PK (X.2.1 0) (X.1 6) q sc → q.1 = 0 → (rdAll (xTape X)).1 = 0 ∧ (rdAll (xTape X)).2.1 = q.2 → G κ (YO (pZ s sc fr) M) n [some (vr 152), some (vi a1), some (vi a2), none] 119 [] 0 0 := by
    intro s b sc fr q a1 a2 hR hq q0 hr
    have hf := hq.f16
    have ef : fQ q = q := if_pos q0
    refine s_n0_aload C dX12_table_119 ?_
    refine g_get C fd_X12_75_12 dX12_table_120 (YO_o ..) rfl ?_
    show G κ _ _ _ _ (vi (sc 16) :: _) _ _
    refine g_if_ne 153 C dX12_table_123 (by decide) (by first | assumption | (unfold iR; omega)) (fun c123 => ?_) (fun c123 => by exfalso; omega)
    exact K153 s b sc fr q a1 a2 hR hq (fun _ => by rw [ef]; exact hr) (fun h => absurd (by rw [ef]; exact q0) h)
  have KG : ∀ (s : YT) (b sc fr : Int → Int) (q : QT) (a1 a2 : Int), yR X s b → PK (X.2.1 0) (X.1 6) q sc → q.1 = 0 → (rdAll (xTape X)).1 = 0 ∧ (rdAll (xTape X)).2.1 = q.2 → G κ (YO (pZ s sc fr) M) n [some (vr 152), some (vi a1), some (vi a2), none] 89 [] 0 0 := by
    intro s b sc fr q a1 a2 hR hq q0 hr
    have htl := hR.tl
    have htp := hR.tp
    refine s_n0_aload C dX12_table_89 ?_
    refine g_bipush C dX12_table_90 (by decide) ?_
    refine g_invV C (ct_X12_isLetter (sc := sc) (q := q) htl htp hby hln hq (c := 102) (by omega)) (YO_o ..) cv_X12_135_12 (rmk_ok (by decide) (by decide) (by decide) (by decide)) (Nat.le_of_ble_eq_true rfl) rfl dX12_table_92 rfl (q_r0 ?_)
    refine g_bifeq 119 C dX12_table_95 (by decide)  (fun c95 => ?_) (fun c95 => by exfalso; omega)
    exact KF s b sc fr q a1 a2 hR hq q0 hr
  have KP : ∀ (f : Nat) (s : YT) (b sc bb : Int → Int) (T : TPT) (ps : PST) (sk a1 a2 : Int), yR X s b → PK (X.2.1 0) (X.1 6) (1, T) sc → psOK ps → bOK 1 ps sk bb → (f : Int) + ps.1 = 6 → ¬ (rdLaw (tAt (xTape X) 0) zS 0).1 = 0 → ¬ (rdCells (rdLaw (tAt (xTape X) 0) zS 0).2.1 (rdLaw (tAt (xTape X) 0) zS 0).2.2.1).1 = 0 → rpN f T ps = (rdPasses (rdCells (rdLaw (tAt (xTape X) 0) zS 0).2.1 (rdLaw (tAt (xTape X) 0) zS 0).2.2.1).2.1) → sk = (rdLaw (tAt (xTape X) 0) zS 0).2.2.2 → G κ (YO (pZ s sc (pk (rdCells (rdLaw (tAt (xTape X) 0) zS 0).2.1 (rdLaw (tAt (xTape X) 0) zS 0).2.2.1).2.2 bb)) M) n [some (vr 152), some (vi a1), some (vi a2), none] 119 [] 0 0 := by
    intro f
    induction f with
    | zero => intro s b sc bb T ps sk a1 a2 hR hq hps hbb hf; have := hps.2.1; omega
    | succ f ih =>
      intro s b sc bb T ps sk a1 a2 hR hq hps hbb hf n1 n2 hr hsk
      have htl := hR.tl
      have htp := hR.tp
      obtain ⟨f1, lk⟩ := hq.lk rfl
      obtain ⟨z1, z2, z3, -⟩ := LK_nx (T := T) hby hln hq.1 lk
      have htk := hq.2.2.1
      have hvb := hq.2.1
      have hm4 := hps.2.1
      have era := rdAll_c n1 n2
      refine s_n0_aload C dX12_table_119 ?_
      refine g_get C fd_X12_75_12 dX12_table_120 (YO_o ..) rfl ?_
      show G κ _ _ _ _ (vi (sc 16) :: _) _ _
      refine g_if_ne 153 C dX12_table_123 (by decide) (by first | assumption | (unfold iR; omega)) (fun c123 => by exfalso; omega) (fun c123 => ?_)
      refine s_n0_aload C dX12_table_126 ?_
      refine g_get C fd_X12_99_12 dX12_table_127 (YO_o ..) rfl ?_
      show G κ _ _ _ _ (vi (sc 14) :: _) _ _
      refine g_iconst C dX12_table_130 ?_
      refine g_icmp_ne 153 C dX12_table_131 (by decide) (by first | assumption | (unfold iR; omega)) (by first | assumption | (unfold iR; omega)) (fun c131 => ?_) (fun c131 => ?_)
      · have hns : ¬ isSo (tNext T) := fun h => by have := isSo_l h; omega
        rw [rpN_e hm4 hns] at hr
        rw [← hr] at era
        refine K153 s b sc _ (1, T) a1 a2 hR hq (fun h => ?_) (fun h => ?_)
        · unfold fQ at h ⊢
          rw [if_neg one0] at h ⊢
          by_cases e : tNext T = -1
          · rw [if_pos e] at h
            exact absurd h one0
          · rw [if_neg e] at h ⊢
            rw [if_neg e] at era
            rw [era]
            exact ⟨rfl, rfl⟩
        · unfold fQ at h
          rw [if_neg one0] at h
          by_cases e : tNext T = -1
          · rw [if_pos e] at era
            rw [era]
            exact ⟨one0, bb, rfl, by rw [← hsk]; exact hbb⟩
          · rw [if_neg e] at h
            exact absurd rfl h
      · refine s_n0_aload C dX12_table_134 ?_
        refine g_get C fd_X12_88_12 dX12_table_135 (YO_o ..) rfl ?_
        show G κ _ _ _ _ (vi (sc 15) :: _) _ _
        rw [(z2 (by omega)).1]
        refine g_invS C (ct_X12_kindBy (c := tNext T) (by unfold iR; omega)) cs_X12_126 (rmk_ok (by decide) (by decide) (by decide) (by decide)) (Nat.le_of_ble_eq_true rfl) rfl dX12_table_138 rfl (q_r0 ?_)
        have hkb : (isSo (tNext T) ∧ 1 ≤ kB (tNext T) ∧ kB (tNext T) ≤ 5) ∨ (¬ isSo (tNext T) ∧ kB (tNext T) = -1000000) := by
          by_cases h : isSo (tNext T)
          · exact Or.inl ⟨h, (kB_so h).2⟩
          · exact Or.inr ⟨h, kB_no h⟩
        refine g_ldc (-1000000) C wd_621 dX12_table_141 ?_
        refine g_icmp_eq 153 C dX12_table_143 (by decide) (by unfold iR; omega) (by unfold iR; omega) (fun c143 => ?_) (fun c143 => ?_)
        · have hns : ¬ isSo (tNext T) := fun h => by have := kB_so h; omega
          rw [rpN_e hm4 hns] at hr
          rw [← hr] at era
          refine K153 s b sc _ (1, T) a1 a2 hR hq (fun h => ?_) (fun h => ?_)
          · unfold fQ at h ⊢
            rw [if_neg one0] at h ⊢
            by_cases e : tNext T = -1
            · rw [if_pos e] at h
              exact absurd h one0
            · rw [if_neg e] at h ⊢
              rw [if_neg e] at era
              rw [era]
              exact ⟨rfl, rfl⟩
          · unfold fQ at h
            rw [if_neg one0] at h
            by_cases e : tNext T = -1
            · rw [if_pos e] at era
              rw [era]
              exact ⟨one0, bb, rfl, by rw [← hsk]; exact hbb⟩
            · rw [if_neg e] at h
              exact absurd rfl h
        · refine s_n0_aload C dX12_table_146 ?_
          have hs : isSo (tNext T) := hkb.elim (fun h => h.1) (fun h => absurd h.2 c143)
          refine g_invV C (ct_X12_readPass (sc := sc) (T := T) htl htp hby hln hq hs hbb hps) (YO_o ..) cv_X12_142_12 (rmk_ok (by decide) (by decide) (by decide) (by decide)) (Nat.le_of_ble_eq_true rfl) rfl dX12_table_147 rfl (fun r M9 n9 h9 => ?_)
          obtain ⟨r9, n9e, sc2, fr2, m9, p9, k9⟩ := h9
          subst r9
          rw [n9e, m9]
          show G κ _ _ _ _ _ 0 0
          refine g_goto 119 C dX12_table_150 (by decide) ?_
          rw [rpN_s hm4 hs] at hr
          rcases p9.f16 with ⟨e0, -⟩ | ⟨e0, -⟩
          · rw [if_pos e0] at hr
            rw [← hr] at era
            refine KF s b sc2 fr2 (pQ T ps.1) a1 a2 hR p9 e0 ?_
            rw [era]
            exact ⟨rfl, rfl⟩
          · rw [if_neg (show ¬ (pQ T ps.1).1 = 0 by omega)] at hr
            obtain ⟨b2, e2, e3⟩ := k9 e0
            rw [e2]
            have h43 : ps.1 ≤ 3 := by
              have hh : ¬ ps.1 = 4 := fun h4 => by
                have e : pQ T ps.1 = (0, tRef T 3) := by
                  unfold pQ p3Q p2Q p1Q
                  rw [if_pos h4, mNm_0]
                  rw [if_pos rfl, mSg_0]
                rw [e] at e0
                exact absurd e0 (by show ¬ (0 : Int) = 1; decide)
              omega
            have tk1 : tpOK (tAt T (T.2.2.2.1 + 1)) := tAt_ok (TK.tp hby hln hq.1) (by have h1 := hq.1.2.1; have h2 := hq.1.2.2; have h3 := (z2 (by omega)).2.2; dsimp only at h1 h2; omega)
            have hwa : waOK (tRdWay (tAt T (T.2.2.2.1 + 1))).1 (tRdWay (tAt T (T.2.2.2.1 + 1))).2.2.1 := by
              refine (tRdWay_ok tk1).2.2.resolve_left (fun h => ?_)
              have hA : ¬ (tNum (tAt T (T.2.2.2.1 + 1)) 14).1 < 0 := fun hA => by
                have e : pQ T ps.1 = (0, (tNum (tAt T (T.2.2.2.1 + 1)) 14).2) := by
                  unfold pQ p3Q p2Q p1Q
                  rw [if_neg (show ¬ ps.1 = 4 by omega), mNm_n1 hA]
                  rw [if_pos rfl, mSg_0]
                rw [e] at e0
                exact absurd e0 (by show ¬ (0 : Int) = 1; decide)
              unfold tRdWay at h
              rw [if_neg hA] at h
              have := wayN_ge 9 (tWay (tNum (tAt T (T.2.2.2.1 + 1)) 14).2 (up (tNum (tAt T (T.2.2.2.1 + 1)) 14).2.2.1 0 (tNum (tAt T (T.2.2.2.1 + 1)) 14).1)) (tNum (tAt T (T.2.2.2.1 + 1)) 14).1 1
              omega
            have p9 : PK (X.2.1 0) (X.1 6) (1, (pQ T ps.1).2) sc2 := by rw [← e0]; exact p9
            exact ih s b sc2 b2 _ _ sk a1 a2 hR p9 (psAdd_ok hps h43 (soCi_ki _) hwa) e3 (by show (f : Int) + (ps.1 + 1) = 6; omega) n1 n2 hr hsk
  have KC : ∀ (f : Nat) (s : YT) (b sc bb : Int → Int) (T : TPT) (S : SLT) (seen k : Int), yR X s b → PK (X.2.1 0) (X.1 6) (1, T) sc → (0 ≤ k ∧ k ≤ 15) → (f : Int) + k = 17 → bOK 1 psNil (rdLaw (tAt (xTape X) 0) zS 0).2.2.2 bb → ¬ (rdLaw (tAt (xTape X) 0) zS 0).1 = 0 → rcN f T S seen k = (rdCells (rdLaw (tAt (xTape X) 0) zS 0).2.1 (rdLaw (tAt (xTape X) 0) zS 0).2.2.1) → G κ (YO (pZ s sc (pk S bb)) M) n [some (vr 152), some (vi seen), some (vi k), none] 89 [] 0 0 := by
    intro f
    induction f with
    | zero => intro s b sc bb T S seen k hR hq hk hf; omega
    | succ f ih =>
      intro s b sc bb T S seen k hR hq hk hf hbb n1 hr
      have htl := hR.tl
      have htp := hR.tp
      refine s_n0_aload C dX12_table_89 ?_
      refine g_bipush C dX12_table_90 (by decide) ?_
      refine g_invV C (ct_X12_isLetter (sc := sc) (q := (1, T)) htl htp hby hln hq (c := 102) (by omega)) (YO_o ..) cv_X12_135_12 (rmk_ok (by decide) (by decide) (by decide) (by decide)) (Nat.le_of_ble_eq_true rfl) rfl dX12_table_92 rfl (q_r0 ?_)
      refine g_bifeq 119 C dX12_table_95 (by decide)  (fun c95 => ?_) (fun c95 => ?_)
      · rw [rcN_e (fun h => c95 ⟨rfl, h⟩)] at hr
        have n2 : ¬ (rdCells (rdLaw (tAt (xTape X) 0) zS 0).2.1 (rdLaw (tAt (xTape X) 0) zS 0).2.2.1).1 = 0 := by rw [← hr]; exact one0
        have eS : (rdCells (rdLaw (tAt (xTape X) 0) zS 0).2.1 (rdLaw (tAt (xTape X) 0) zS 0).2.2.1).2.2 = S := by rw [← hr]
        have eT : (rdCells (rdLaw (tAt (xTape X) 0) zS 0).2.1 (rdLaw (tAt (xTape X) 0) zS 0).2.2.1).2.1 = T := by rw [← hr]
        rw [← eS]
        exact KP 6 s b sc bb T psNil _ seen k hR hq ⟨by decide, by decide, fun p p0 p1 => absurd p1 (by show ¬ p < 0; omega)⟩ hbb (by decide) n1 n2 (by rw [← eT]; rfl) rfl
      · refine s_n0_aload C dX12_table_98 ?_
        refine s_n1_iload C dX12_table_99 ?_
        refine s_n2_iload C dX12_table_100 ?_
        refine g_invV C (ct_X12_readCell (sc := sc) (T := T) htl htp hby hln hq c95.2 (S := S) (b := bb) (seen := seen) hk) (YO_o ..) cv_X12_138_12 (rmk_ok (by decide) (by decide) (by decide) (by decide)) (Nat.le_of_ble_eq_true rfl) rfl dX12_table_101 rfl (fun r M9 n9 h9 => ?_)
        obtain ⟨r9, n9e, sc2, m9, p9, k9⟩ := h9
        subst r9
        rw [n9e, m9]
        show G κ _ _ _ _ _ 0 0
        refine s_n1_iload C dX12_table_104 ?_
        refine g_iconst C dX12_table_105 ?_
        refine s_n0_aload C dX12_table_106 ?_
        refine g_get C fd_X12_123_12 dX12_table_107 (YO_o ..) rfl ?_
        show G κ _ _ _ _ (vi (sc2 19) :: _) _ _
        refine g_ishl C dX12_table_110 ?_
        refine g_ior C dX12_table_111 ?_
        refine s_n1_istore C dX12_table_112 rfl ?_
        refine s_w2_iinc C dX12_table_113 rfl ?_
        refine g_goto 89 C dX12_table_116 (by decide) ?_
        rw [rcN_s hk.2 c95.2] at hr
        rcases p9.f16 with ⟨e0, -⟩ | ⟨e0, -⟩
        · rw [if_pos e0] at hr
          have era := rdAll_b n1 (by rw [← hr])
          rw [← hr] at era
          exact KG s b sc2 _ (cQ T seen k) _ _ hR p9 e0 era
        · rw [if_neg (show ¬ (cQ T seen k).1 = 0 by omega)] at hr
          rw [k9 e0]
          have h15 : ¬ k = 15 := fun h => by
            have e : cQ T seen k = (0, tRef T 3) := by
              unfold cQ c4Q
              rw [h, c2Q_15, mNm_0, mSg_0, mNm_0, mSg_0]
            rw [e] at e0
            exact absurd e0 (by show ¬ (0 : Int) = 1; decide)
          have p9 : PK (X.2.1 0) (X.1 6) (1, (cQ T seen k).2) sc2 := by rw [← e0]; exact p9
          exact ih s b sc2 bb _ _ _ (k + 1) hR p9 (by omega) (by omega) hbb n1 hr
  have K30 : ∀ (s : YT) (b sc : Int → Int) (a1 : Int), yR X s b → PK (X.2.1 0) (X.1 6) (1, tAt (xTape X) 0) sc → G κ (YO (pZ s sc (pk zS (fun _ => 0))) M) n [some (vr 152), some (vi a1), none, none] 30 [] 0 0 := by
    intro s b sc a1 hR hq
    have htl := hR.tl
    have htp := hR.tp
    refine s_n0_aload C dX12_table_30 ?_
    refine g_get C fd_X12_22_12 dX12_table_31 (YO_o ..) rfl ?_
    refine g_iconst C dX12_table_34 ?_
    refine g_iconst C dX12_table_35 ?_
    refine g_iast C dX12_table_36 (YO_a4 ..) (by omega) ?_
    rw [pZ_u4]
    show G κ (YO (pZ s sc (up (pk zS (fun _ => 0)) 0 1)) M) n _ _ _ _ _
    rw [pk_ub (Or.inl (by decide))]
    refine s_n0_aload C dX12_table_37 ?_
    refine s_n0_aload C dX12_table_38 ?_
    refine g_bipush C dX12_table_39 (by decide) ?_
    refine g_invV C (ct_X12_isLetter (sc := sc) (q := (1, tAt (xTape X) 0)) htl htp hby hln hq (c := 116) (by omega)) (YO_o ..) cv_X12_135_12 (rmk_ok (by decide) (by decide) (by decide) (by decide)) (Nat.le_of_ble_eq_true rfl) rfl dX12_table_41 rfl (q_r0 ?_)
    refine g_invV C (ct_X12_must (sc := sc) (q := (1, tAt (xTape X) 0)) htl htp hby hln hq (v := if ((1 : Int), tAt (xTape X) 0).1 = 1 ∧ tNext ((1 : Int), tAt (xTape X) 0).2 = 116 then 1 else 0) (by split <;> omega)) (YO_o ..) cv_X12_109_12 (rmk_ok (by decide) (by decide) (by decide) (by decide)) (Nat.le_of_ble_eq_true rfl) rfl dX12_table_44 rfl (fun r M9 n9 h9 => ?_)
    obtain ⟨r9, n9e, sc2, m9, k9, p9⟩ := h9
    subst r9
    rw [n9e, m9]
    show G κ _ _ _ _ _ 0 0
    clear m9
    rw [mMu_l hby hln hq (by omega)] at p9
    refine s_n0_aload C dX12_table_47 ?_
    refine g_get C fd_X12_22_12 dX12_table_48 (YO_o ..) rfl ?_
    refine g_iconst C dX12_table_51 ?_
    refine s_n0_aload C dX12_table_52 ?_
    refine g_iconst C dX12_table_53 ?_
    refine g_bipush C dX12_table_54 (by decide) ?_
    refine g_invV C (ct_X12_number (sc := sc2) (q := (mSg (1, tAt (xTape X) 0) 116)) htl htp hby hln p9 (most := 9) (by omega)) (YO_o ..) cv_X12_116_12 (rmk_ok (by decide) (by decide) (by decide) (by decide)) (Nat.le_of_ble_eq_true rfl) rfl dX12_table_56 rfl (fun r M9 n9 h9 => ?_)
    obtain ⟨r9, n9e, sc3, m9, k9, p9⟩ := h9
    subst r9
    rw [n9e, m9]
    show G κ _ _ _ _ _ 0 0
    clear m9
    refine g_iast C dX12_table_59 (YO_a4 ..) (by omega) ?_
    rw [pZ_u4]
    show G κ (YO (pZ s sc3 (up (pk zS (up (fun _ => 0) 0 1)) 1 (mNm (mSg (1, tAt (xTape X) 0) 116) 9).1)) M) n _ _ _ _ _
    rw [pk_ub (Or.inl (by decide))]
    refine s_n0_aload C dX12_table_60 ?_
    refine g_bipush C dX12_table_61 (by decide) ?_
    refine g_invV C (ct_X12_mustSign (sc := sc3) (q := (mNm (mSg (1, tAt (xTape X) 0) 116) 9).2) htl htp hby hln p9 (c := 44) (by omega)) (YO_o ..) cv_X12_120_12 (rmk_ok (by decide) (by decide) (by decide) (by decide)) (Nat.le_of_ble_eq_true rfl) rfl dX12_table_63 rfl (fun r M9 n9 h9 => ?_)
    obtain ⟨r9, n9e, sc4, m9, k9, p9⟩ := h9
    subst r9
    rw [n9e, m9]
    show G κ _ _ _ _ _ 0 0
    clear m9
    refine s_n0_aload C dX12_table_66 ?_
    refine g_get C fd_X12_22_12 dX12_table_67 (YO_o ..) rfl ?_
    refine g_iconst C dX12_table_70 ?_
    refine s_n0_aload C dX12_table_71 ?_
    refine g_iconst C dX12_table_72 ?_
    refine g_bipush C dX12_table_73 (by decide) ?_
    refine g_invV C (ct_X12_number (sc := sc4) (q := (mSg (mNm (mSg (1, tAt (xTape X) 0) 116) 9).2 44)) htl htp hby hln p9 (most := 9) (by omega)) (YO_o ..) cv_X12_116_12 (rmk_ok (by decide) (by decide) (by decide) (by decide)) (Nat.le_of_ble_eq_true rfl) rfl dX12_table_75 rfl (fun r M9 n9 h9 => ?_)
    obtain ⟨r9, n9e, sc5, m9, k9, p9⟩ := h9
    subst r9
    rw [n9e, m9]
    show G κ _ _ _ _ _ 0 0
    clear m9
    refine g_iast C dX12_table_78 (YO_a4 ..) (by omega) ?_
    rw [pZ_u4]
    show G κ (YO (pZ s sc5 (up (pk zS (up (up (fun _ => 0) 0 1) 1 (mNm (mSg (1, tAt (xTape X) 0) 116) 9).1)) 3 (mNm (mSg (mNm (mSg (1, tAt (xTape X) 0) 116) 9).2 44) 9).1)) M) n _ _ _ _ _
    rw [pZ_u3x]
    refine s_n0_aload C dX12_table_79 ?_
    refine g_bipush C dX12_table_80 (by decide) ?_
    refine g_invV C (ct_X12_mustSign (sc := sc5) (q := (mNm (mSg (mNm (mSg (1, tAt (xTape X) 0) 116) 9).2 44) 9).2) htl htp hby hln p9 (c := 59) (by omega)) (YO_o ..) cv_X12_120_12 (rmk_ok (by decide) (by decide) (by decide) (by decide)) (Nat.le_of_ble_eq_true rfl) rfl dX12_table_82 rfl (fun r M9 n9 h9 => ?_)
    obtain ⟨r9, n9e, sc6, m9, k9, p9⟩ := h9
    subst r9
    rw [n9e, m9]
    show G κ _ _ _ _ _ 0 0
    clear m9
    refine g_iconst C dX12_table_85 ?_
    refine s_n1_istore C dX12_table_86 rfl ?_
    refine g_iconst C dX12_table_87 ?_
    refine s_n2_istore C dX12_table_88 rfl ?_
    have p9 : PK (X.2.1 0) (X.1 6) (lQ (tAt (xTape X) 0)) sc6 := p9
    obtain ⟨r1, r2, r3⟩ := rdLaw_e (tAt (xTape X) 0) zS 0
    rcases p9.f16 with ⟨e0, -⟩ | ⟨e0, -⟩
    · have era := rdAll_a (T := xTape X) (r1.trans e0)
      rw [r2] at era
      exact KG s b sc6 _ (lQ (tAt (xTape X) 0)) 0 0 hR p9 e0 era
    · have r3 := r3 e0
      have hv := mNm_b (mSg (1, tAt (xTape X) 0) 116) (most := 9) (by decide)
      have p9 : PK (X.2.1 0) (X.1 6) (1, (rdLaw (tAt (xTape X) 0) zS 0).2.1) sc6 := by rw [r2, ← e0]; exact p9
      have eS : sfOil zS (lO (tAt (xTape X) 0)) = (rdLaw (tAt (xTape X) 0) zS 0).2.2.1 := by rw [r3]
      have eK : lV (tAt (xTape X) 0) = (rdLaw (tAt (xTape X) 0) zS 0).2.2.2 := by rw [r3]
      show G κ (YO (pZ s sc6 (pk (sfOil zS (lO (tAt (xTape X) 0))) (up (up (fun _ => 0) 0 1) 1 (lV (tAt (xTape X) 0))))) M) n _ _ _ _ _
      rw [eS]
      refine KC 17 s b sc6 _ _ _ 0 0 hR p9 (by decide) (by decide) ⟨?_, ?_, ?_, fun p p0 p1 => absurd p1 (by show ¬ p < 0; omega)⟩ (by rw [r1, e0]; exact one0) rfl
      · rfl
      · rw [← eK]
        exact up_same _ _ _
      · rfl
  have K11 : ∀ (z : Nat) (k : Int) (s : YT) (b sc fr : Int → Int), yR X s b → PK (X.2.1 0) (X.1 6) (1, tAt (xTape X) 0) sc → 0 ≤ k ∧ k ≤ 95 → (95 - k).toNat = z → G κ (YO (pZ s sc (mix (fun _ => 0) fr k)) M) n [some (vr 152), some (vi k), none, none] 11 [] 0 0 := by
    intro z
    induction z using Nat.strongRecOn with
    | ind z ih =>
      intro k s b sc fr hR hq h1 hz
      refine s_n1_iload C dX12_table_11 ?_
      refine g_bipush C dX12_table_12 (by decide) ?_
      refine g_icmp_ge 30 C dX12_table_14 (by decide) (by first | assumption | (unfold iR; omega)) (by first | assumption | (unfold iR; omega)) (fun c14 => ?_) (fun c14 => ?_)
      · have e : k = 95 := by omega
        subst e
        rw [← pZ_u4 s sc fr]
        refine G.arr (f' := pk zS (fun _ => 0)) (fun j j0 j1 => by rw [mix_in _ _ j0 j1, pk_z]) ?_
        rw [pZ_u4]
        exact K30 s b sc _ hR hq
      · refine s_n0_aload C dX12_table_17 ?_
        refine g_get C fd_X12_22_12 dX12_table_18 (YO_o ..) rfl ?_
        refine s_n1_iload C dX12_table_21 ?_
        refine g_iconst C dX12_table_22 ?_
        refine g_iast C dX12_table_23 (YO_a4 ..) (by omega) ?_
        rw [pZ_u4]
        show G κ (YO (pZ s sc (up (mix (fun _ => 0) fr k) k ((fun _ => (0 : Int)) k))) M) n _ _ _ _ _
        rw [mix_s _ _ h1.1]
        refine s_w1_iinc C dX12_table_24 rfl ?_
        refine g_goto 11 C dX12_table_27 (by decide) ?_
        exact ih _ (by omega) (k + 1) s b sc fr hR hq (by omega) rfl
  refine s_n0_aload C dX12_table_0 ?_
  refine g_iconst C dX12_table_1 ?_
  refine g_put C fp_X12_44_12 dX12_table_2 (YO_o ..) (Nat.le_of_ble_eq_true rfl) (gfit_i _) ?_
  rw [YO_p0]
  obtain ⟨b, hR⟩ := h0
  have hR := hR.th 0
  generalize ((fu s0.1 0 0, s0.2) : YT) = s at hR ⊢
  refine s_n0_aload C dX12_table_5 ?_
  have htl := hR.tl
  have htp := hR.tp
  have es : YO s M = YO (pZ s s.1 (s.2 4)) M := by rw [pZ_id]
  rw [es]
  refine g_invV C (ct_X12_begin (s := s) (sc := s.1) (fr := s.2 4) (T := tAt (xTape X) 0) htl htp hby hln ⟨rfl, rfl, by show (0 : Int) ≤ 0; decide, hln.1⟩ rfl) (YO_o ..) cv_X12_132_12 (rmk_ok (by decide) (by decide) (by decide) (by decide)) (Nat.le_of_ble_eq_true rfl) rfl dX12_table_6 rfl (fun r M9 n9 h9 => ?_)
  obtain ⟨r9, n9e, sc2, m9, k9, p9⟩ := h9
  subst r9
  rw [n9e, m9]
  show G κ _ _ _ _ _ 0 0
  clear m9
  refine g_iconst C dX12_table_9 ?_
  refine s_n1_istore C dX12_table_10 rfl ?_
  have := K11 _ 0 s b sc2 (s.2 4) hR p9 (by omega) rfl
  rw [mix_0] at this
  exact this
