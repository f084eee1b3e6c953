/-! PadPolishModel: a pass is read -/
theorem and3 {x : Int} (h : 0 ≤ x ∧ x ≤ 4) : 0 ≤ bAnd x 3 ∧ bAnd x 3 ≤ 3 ∧ (x ≤ 3 → bAnd x 3 = x) := by
  rcases (show x = 0 ∨ x = 1 ∨ x = 2 ∨ x = 3 ∨ x = 4 by omega) with rfl | rfl | rfl | rfl | rfl <;> decide
theorem stepTo_nl {cell c : Int} (h : ¬ (97 ≤ c ∧ c ≤ 122)) : stepTo cell c = -1 := by
  unfold stepTo
  rw [if_neg (by omega), if_neg (by omega), if_neg (by omega), if_neg (by omega)]
theorem kB_so {c : Int} (h : isSo c) : kB c = kiOf (soCi c) ∧ 1 ≤ kB c ∧ kB c ≤ 5 := by
  rcases h with rfl | rfl | rfl | rfl | rfl <;> decide
theorem kB_no {c : Int} (h : ¬ isSo c) : kB c = -1000000 := by
  unfold isSo at h
  unfold kB
  rw [if_neg (by omega), if_neg (by omega), if_neg (by omega), if_neg (by omega), if_neg (by omega)]
theorem isSo_l {c : Int} (h : isSo c) : 97 ≤ c ∧ c ≤ 122 := by
  unfold isSo at h
  omega
def p1Q (T : TPT) (m : Int) : QT := if m = 4 then (0, tRef T 3) else (1, tAt T (T.2.2.2.1 + 1))
def p2Q (T : TPT) (m : Int) : QT := (mNm (p1Q T m) 14).2
def p3Q (T : TPT) (m : Int) : QT := if (p2Q T m).1 = 0 then p2Q T m else (1, (tRdWay (tAt T (T.2.2.2.1 + 1))).2)
def pQ (T : TPT) (m : Int) : QT := mSg (p3Q T m) 59
theorem mSg_f {q : QT} (h : q.1 = 0) (c : Int) : mSg q c = q := if_pos h
theorem p2Q_ok {T : TPT} {m : Int} (h : (p2Q T m).1 = 1) : ¬ m = 4 ∧ ¬ (tNum (tAt T (T.2.2.2.1 + 1)) 14).1 < 0 ∧ (mNm (p1Q T m) 14).1 = (tNum (tAt T (T.2.2.2.1 + 1)) 14).1 ∧ p2Q T m = (1, (tNum (tAt T (T.2.2.2.1 + 1)) 14).2) := by
  unfold p2Q p1Q at *
  by_cases e : m = 4
  · rw [if_pos e] at h
    exact absurd h (by show ¬ (0 : Int) = 1; decide)
  · rw [if_neg e] at h ⊢
    unfold mNm at *
    rw [if_neg (show ¬ ((1 : Int), tAt T (T.2.2.2.1 + 1)).1 = 0 by show ¬ (1 : Int) = 0; decide)] at h ⊢
    by_cases e2 : (tNum (tAt T (T.2.2.2.1 + 1)) 14).1 < 0
    · rw [if_pos e2] at h
      exact absurd h (by show ¬ (0 : Int) = 1; decide)
    · rw [if_neg e2]
      exact ⟨e, e2, rfl, rfl⟩
set_option maxRecDepth 20000 in
theorem ct_X12_readPass {s : YT} {sc : Int → Int} {by_ : Int → Int} {len : Int} {M : gM} {n : Int} (htl : s.1 11 = len) (htp : ∀ i, 0 ≤ i → i < len → s.2 7 i = by_ i) (hby : ∀ i, 0 ≤ i → i < 120 → 0 ≤ by_ i ∧ by_ i ≤ 255) (hln : 0 ≤ len ∧ len ≤ 120) {T : TPT} (hq : PK by_ len (1, T) sc) (hn : isSo (tNext T)) {S : SLT} {b : Int → Int} {ps : PST} {sk : Int} (hb : bOK 1 ps sk b) (hps : psOK ps) : CT yX12_readPass cX12_readPass 5 none (rmk 4 0 0) [vr 152] (YO (pZ s sc (pk S b)) M) n (fun r M2 n2 => r = none ∧ n2 = n ∧ ∃ sc2 fr2, M2 = YO (pZ s sc2 fr2) M ∧ PK by_ len (pQ T ps.1) sc2 ∧ ((pQ T ps.1).1 = 1 → ∃ b2, fr2 = pk S b2 ∧ bOK 1 (psAdd ps (soCi (tNext T)) (tRdWay (tAt T (T.2.2.2.1 + 1))).1 (tRdWay (tAt T (T.2.2.2.1 + 1))).2.2.1) sk b2)) := by
  refine CT.of (by decide) (fun _ => Nat.le_of_ble_eq_true rfl) (fun κ C E => ?_)
  show G κ (YO (pZ s sc (pk S b)) M) n [some (vr 152), none, none, none, none] 0 [] 0 0
  have hm := hps.1
  have hm4 := hps.2.1
  have h3 := and3 ⟨hm, hm4⟩
  have hkb := kB_so hn
  obtain ⟨kd, ekd⟩ : ∃ kd, kd = kB (tNext T) := ⟨_, rfl⟩
  obtain ⟨to, eto⟩ : ∃ to, to = 51 + 11 * bAnd ps.1 3 := ⟨_, rfl⟩
  have e5 : b 5 = ps.1 := hb.2.2.1
  have K146 : ∀ (sc2 bb : Int → Int) (q : QT) (cl k : Int), PK by_ len q sc2 → mSg q 59 = pQ T ps.1 → (∀ j, j < to ∨ to + 11 ≤ j → bb j = b j) → (q.1 = 1 → ps.1 ≤ 3 ∧ k = (tRdWay (tAt T (T.2.2.2.1 + 1))).1 ∧ (∀ i, 0 ≤ i → i < k → bb (to + 2 + i) = (tRdWay (tAt T (T.2.2.2.1 + 1))).2.2.1 i) ∧ bb to = kd) → G κ (YO (pZ s sc2 (pk S bb)) M) n [some (vr 152), some (vi kd), some (vi cl), some (vi to), some (vi k)] 146 [] 0 0 := by
    intro sc2 bb q cl k hq he hbo hok
    refine s_n0_aload C dX12_readPass_146 ?_
    refine g_bipush C dX12_readPass_147 (by decide) ?_
    refine g_invV C (ct_X12_mustSign (sc := sc2) (q := q) htl htp hby hln hq (c := 59) (by omega)) (YO_o ..) cv_X12_120_12 (rmk_ok (by decide) (by decide) (by decide) (by decide)) (Nat.le_of_ble_eq_true rfl) rfl dX12_readPass_149 rfl (fun r M9 n9 h9 => ?_)
    obtain ⟨r9, n9e, sc3, m9, k9, p9⟩ := h9
    subst r9
    rw [n9e, m9]
    show G κ _ _ _ _ _ 0 0
    clear m9
    rw [he] at p9
    have hf3 := p9.f16
    refine s_n0_aload C dX12_readPass_152 ?_
    refine g_get C fd_X12_22_12 dX12_readPass_153 (YO_o ..) rfl ?_
    refine s_n3_iload C dX12_readPass_156 ?_
    refine g_iconst C dX12_readPass_157 ?_
    refine g_iadd C dX12_readPass_158 ?_
    refine s_w4_iload C dX12_readPass_159 ?_
    refine g_iast C dX12_readPass_161 (YO_a4 ..) (by omega) ?_
    rw [pZ_u4]
    show G κ (YO (pZ s sc3 (up (pk S bb) (to + 1) k)) M) n _ _ _ _ _
    rw [pk_ub (by omega)]
    refine s_n0_aload C dX12_readPass_162 ?_
    refine g_get C fd_X12_22_12 dX12_readPass_163 (YO_o ..) rfl ?_
    refine g_iconst C dX12_readPass_166 ?_
    refine g_dup2 C dX12_readPass_167 ?_
    refine g_iald C dX12_readPass_168 (YO_a4 ..) (by omega) ?_
    show G κ _ _ _ _ (vi (pk S (up bb (to + 1) k) 5) :: _) _ _
    rw [pq_b (Or.inr (Or.inl rfl)), up_ne _ _ (by omega), hbo 5 (by omega), e5]
    refine s_n0_aload C dX12_readPass_169 ?_
    refine g_get C fd_X12_75_12 dX12_readPass_170 (YO_o ..) rfl ?_
    show G κ _ _ _ _ (vi (sc3 16) :: _) _ _
    refine g_if_ne 180 C dX12_readPass_173 (by decide) (by first | assumption | (unfold iR; omega)) (fun c173 => ?_) (fun c173 => ?_)
    · refine g_iconst C dX12_readPass_180 ?_
      refine g_iadd C dX12_readPass_181 ?_
      refine g_iast C dX12_readPass_182 (YO_a4 ..) (by omega) ?_
      rw [pZ_u4]
      show G κ (YO (pZ s sc3 (up (pk S (up bb (to + 1) k)) 5 (ps.1 + 0))) M) n _ _ _ _ _
      rw [pk_ub (by omega)]
      refine g_vret C E dX12_readPass_183 (by decide) ?_
      exact ⟨rfl, rfl, sc3, _, rfl, p9, fun h => by omega⟩
    · refine g_iconst C dX12_readPass_176 ?_
      refine g_goto 181 C dX12_readPass_177 (by decide) ?_
      refine g_iadd C dX12_readPass_181 ?_
      refine g_iast C dX12_readPass_182 (YO_a4 ..) (by omega) ?_
      rw [pZ_u4]
      show G κ (YO (pZ s sc3 (up (pk S (up bb (to + 1) k)) 5 (ps.1 + 1))) M) n _ _ _ _ _
      rw [pk_ub (by omega)]
      refine g_vret C E dX12_readPass_183 (by decide) ?_
      refine ⟨rfl, rfl, sc3, _, rfl, p9, fun _ => ⟨_, rfl, ?_⟩⟩
      have hq1 : q.1 = 1 := by
        rcases hq.f16 with ⟨z, _⟩ | ⟨z, _⟩
        · rw [mSg_f z] at he
          rw [he] at z
          omega
        · exact z
      obtain ⟨g1, g2, g3, g4⟩ := hok hq1
      have et : to = 51 + 11 * ps.1 := by omega
      refine ⟨?_, ?_, ?_, fun p p0 p1 => ?_⟩
      · rw [up_ne _ _ (by omega), up_ne _ _ (by omega), hbo 0 (by omega)]
        exact hb.1
      · rw [up_ne _ _ (by omega), up_ne _ _ (by omega), hbo 1 (by omega)]
        exact hb.2.1
      · exact up_same _ _ _
      · have p1 : p < ps.1 + 1 := p1
        dsimp only [psAdd]
        by_cases ep : p = ps.1
        · rw [if_pos ep, if_pos ep, if_pos ep]
          refine ⟨?_, ?_, fun i i0 i1 => ?_⟩
          · rw [up_ne _ _ (by omega), up_ne _ _ (by omega), show 51 + 11 * p = to by omega, g4, ekd]
            exact hkb.1
          · rw [up_ne _ _ (by omega), show 51 + 11 * p + 1 = to + 1 by omega, up_same, g2]
          · rw [up_ne _ _ (by omega), up_ne _ _ (by omega), show 51 + 11 * p + 2 + i = to + 2 + i by omega]
            exact g3 i i0 (by omega)
        · rw [if_neg ep, if_neg ep, if_neg ep]
          have hp := hb.2.2.2 p p0 (by omega)
          have hw := (hps.2.2 p p0 (by omega)).2.2.1
          refine ⟨?_, ?_, fun i i0 i1 => ?_⟩
          · rw [up_ne _ _ (by omega), up_ne _ _ (by omega), hbo _ (by omega)]
            exact hp.1
          · rw [up_ne _ _ (by omega), up_ne _ _ (by omega), hbo _ (by omega)]
            exact hp.2.1
          · rw [up_ne _ _ (by omega), up_ne _ _ (by omega), hbo _ (by omega)]
            exact hp.2.2 i i0 i1
  have lp : ∀ (f : Nat) (T2 : TPT) (cl k : Int) (sc bb : Int → Int), PK by_ len (1, T2) sc → (0 ≤ cl ∧ cl < 15) → (1 ≤ k ∧ k ≤ 9) → (f : Int) + k = 10 → ps.1 ≤ 3 → pQ T ps.1 = tSign (tRdWay (tAt T (T.2.2.2.1 + 1))).2 59 → wayN f T2 cl k = (tRdWay (tAt T (T.2.2.2.1 + 1))) → (∀ i, 0 ≤ i → i < k → bb (to + 2 + i) = T2.2.1 i) → (∀ j, j < to ∨ to + 11 ≤ j → bb j = b j) → bb to = kd → G κ (YO (pZ s sc (pk S bb)) M) n [some (vr 152), some (vi kd), some (vi cl), some (vi to), some (vi k)] 70 [] 0 0 := by
    intro f
    induction f with
    | zero => intro T2 cl k sc bb hq hc hk hf; omega
    | succ f ih =>
      intro T2 cl k sc bb hq hc hk hf h33 hpq hw hbb hbo hto
      obtain ⟨f1, lk⟩ := hq.lk rfl
      obtain ⟨z1, z2, -, z4, -⟩ := LK_nx (T := T2) hby hln hq.1 lk
      have htk := hq.2.2.1
      have hvb := hq.2.1
      unfold wayN at hw
      refine s_n0_aload C dX12_readPass_70 ?_
      refine g_get C fd_X12_75_12 dX12_readPass_71 (YO_o ..) rfl ?_
      show G κ _ _ _ _ (vi (sc 16) :: _) _ _
      refine g_if_ne 146 C dX12_readPass_74 (by decide) (by first | assumption | (unfold iR; omega)) (fun c74 => by exfalso; omega) (fun c74 => ?_)
      refine s_n0_aload C dX12_readPass_77 ?_
      refine g_get C fd_X12_99_12 dX12_readPass_78 (YO_o ..) rfl ?_
      show G κ _ _ _ _ (vi (sc 14) :: _) _ _
      refine g_iconst C dX12_readPass_81 ?_
      refine g_icmp_ne 146 C dX12_readPass_82 (by decide) (by unfold iR; omega) (by unfold iR; omega) (fun c82 => ?_) (fun c82 => ?_)
      · have hw2 : (k, T2) = (tRdWay (tAt T (T.2.2.2.1 + 1))) := by
          rw [← hw]
          by_cases e8 : 8 < k
          · rw [if_pos e8]
          · rw [if_neg e8, if_pos (by rw [stepTo_nl (by omega)]; decide)]
        refine K146 sc bb (1, T2) cl k hq ?_ hbo (fun _ => ⟨h33, by rw [← hw2], ?_, hto⟩)
        · rw [hpq, ← hw2]
          rfl
        · rw [← hw2]
          exact hbb
      · refine s_w4_iload C dX12_readPass_85 ?_
        refine g_bipush C dX12_readPass_87 (by decide) ?_
        refine g_icmp_ge 103 C dX12_readPass_89 (by decide) (by first | assumption | (unfold iR; omega)) (by first | assumption | (unfold iR; omega)) (fun c89 => ?_) (fun c89 => ?_)
        · refine g_ldc (-1000000) C wd_621 dX12_readPass_103 ?_
          refine s_n2_istore C dX12_readPass_105 rfl ?_
          refine s_n0_aload C dX12_readPass_106 ?_
          refine s_n2_iload C dX12_readPass_107 ?_
          refine g_ldc (-1000000) C wd_621 dX12_readPass_108 ?_
          refine g_icmp_eq 117 C dX12_readPass_110 (by decide) (by unfold iR; omega) (by unfold iR; omega) (fun c110 => ?_) (fun c110 => by exfalso; omega)
          refine g_iconst C dX12_readPass_117 ?_
          refine g_invV C (ct_X12_must (sc := sc) (q := (1, T2)) htl htp hby hln hq (v := 0) (by omega)) (YO_o ..) cv_X12_109_12 (rmk_ok (by decide) (by decide) (by decide) (by decide)) (Nat.le_of_ble_eq_true rfl) rfl dX12_readPass_118 rfl (fun r M9 n9 h9 => ?_)
          obtain ⟨r9, n9e, sc2, m9, k9, p9⟩ := h9
          subst r9
          rw [n9e, m9]
          show G κ _ _ _ _ _ 0 0
          clear m9
          rw [if_pos (by omega)] at hw
          have p9 : PK by_ len (0, tRef T2 1) sc2 := p9
          have hf9 := p9.f16
          dsimp only at hf9
          refine s_n0_aload C dX12_readPass_121 ?_
          refine g_get C fd_X12_75_12 dX12_readPass_122 (YO_o ..) rfl ?_
          show G κ _ _ _ _ (vi (sc2 16) :: _) _ _
          refine g_if_ne 70 C dX12_readPass_125 (by decide) (by first | assumption | (unfold iR; omega)) (fun c125 => ?_) (fun c125 => by exfalso; omega)
          refine s_n0_aload C dX12_readPass_70 ?_
          refine g_get C fd_X12_75_12 dX12_readPass_71 (YO_o ..) rfl ?_
          show G κ _ _ _ _ (vi (sc2 16) :: _) _ _
          refine g_if_ne 146 C dX12_readPass_74 (by decide) (by first | assumption | (unfold iR; omega)) (fun c74 => ?_) (fun c74 => by exfalso; omega)
          exact K146 sc2 bb (0, tRef T2 1) _ _ p9 (by rw [mSg_f rfl, hpq, ← hw]; unfold tSign; rw [if_neg (by dsimp only; omega)]) hbo (fun h => absurd h (by show ¬ (0 : Int) = 1; decide))
        · refine s_n2_iload C dX12_readPass_92 ?_
          refine s_n0_aload C dX12_readPass_93 ?_
          refine g_get C fd_X12_88_12 dX12_readPass_94 (YO_o ..) rfl ?_
          show G κ _ _ _ _ (vi (sc 15) :: _) _ _
          rw [(z2 (by omega)).1]
          refine g_invS C (ct_X12_stepFrom (cell := cl) (c := tNext T2) hc (by unfold iR; omega)) cs_X12_129 (rmk_ok (by decide) (by decide) (by decide) (by decide)) (Nat.le_of_ble_eq_true rfl) rfl dX12_readPass_97 rfl (q_r0 ?_)
          have hst := stepTo_b (c := tNext T2) hc
          have hsf : (stepTo cl (tNext T2) < 0 ∧ sFr cl (tNext T2) = -1000000) ∨ (0 ≤ stepTo cl (tNext T2) ∧ sFr cl (tNext T2) = stepTo cl (tNext T2)) := by
            unfold sFr
            split <;> omega
          refine g_goto 105 C dX12_readPass_100 (by decide) ?_
          refine s_n2_istore C dX12_readPass_105 rfl ?_
          refine s_n0_aload C dX12_readPass_106 ?_
          refine s_n2_iload C dX12_readPass_107 ?_
          refine g_ldc (-1000000) C wd_621 dX12_readPass_108 ?_
          refine g_icmp_eq 117 C dX12_readPass_110 (by decide) (by unfold iR; omega) (by unfold iR; omega) (fun c110 => ?_) (fun c110 => ?_)
          · refine g_iconst C dX12_readPass_117 ?_
            refine g_invV C (ct_X12_must (sc := sc) (q := (1, T2)) htl htp hby hln hq (v := 0) (by omega)) (YO_o ..) cv_X12_109_12 (rmk_ok (by decide) (by decide) (by decide) (by decide)) (Nat.le_of_ble_eq_true rfl) rfl dX12_readPass_118 rfl (fun r M9 n9 h9 => ?_)
            obtain ⟨r9, n9e, sc2, m9, k9, p9⟩ := h9
            subst r9
            rw [n9e, m9]
            show G κ _ _ _ _ _ 0 0
            clear m9
            rw [if_neg (by omega), if_pos (by omega)] at hw
            have p9 : PK by_ len (0, tRef T2 1) sc2 := p9
            have hf9 := p9.f16
            dsimp only at hf9
            refine s_n0_aload C dX12_readPass_121 ?_
            refine g_get C fd_X12_75_12 dX12_readPass_122 (YO_o ..) rfl ?_
            show G κ _ _ _ _ (vi (sc2 16) :: _) _ _
            refine g_if_ne 70 C dX12_readPass_125 (by decide) (by first | assumption | (unfold iR; omega)) (fun c125 => ?_) (fun c125 => by exfalso; omega)
            refine s_n0_aload C dX12_readPass_70 ?_
            refine g_get C fd_X12_75_12 dX12_readPass_71 (YO_o ..) rfl ?_
            show G κ _ _ _ _ (vi (sc2 16) :: _) _ _
            refine g_if_ne 146 C dX12_readPass_74 (by decide) (by first | assumption | (unfold iR; omega)) (fun c74 => ?_) (fun c74 => by exfalso; omega)
            exact K146 sc2 bb (0, tRef T2 1) _ _ p9 (by rw [mSg_f rfl, hpq, ← hw]; unfold tSign; rw [if_neg (by dsimp only; omega)]) hbo (fun h => absurd h (by show ¬ (0 : Int) = 1; decide))
          · refine g_iconst C dX12_readPass_113 ?_
            refine g_goto 118 C dX12_readPass_114 (by decide) ?_
            refine g_invV C (ct_X12_must (sc := sc) (q := (1, T2)) htl htp hby hln hq (v := 1) (by omega)) (YO_o ..) cv_X12_109_12 (rmk_ok (by decide) (by decide) (by decide) (by decide)) (Nat.le_of_ble_eq_true rfl) rfl dX12_readPass_118 rfl (fun r M9 n9 h9 => ?_)
            obtain ⟨r9, n9e, sc2, m9, k9, p9⟩ := h9
            subst r9
            rw [n9e, m9]
            show G κ _ _ _ _ _ 0 0
            clear m9
            have p9 : PK by_ len (1, tAt T2 (T2.2.2.2.1 + 1)) sc2 := by rw [← (z2 (by omega)).2.1]; exact p9
            have hf9 := p9.f16
            dsimp only at hf9
            refine s_n0_aload C dX12_readPass_121 ?_
            refine g_get C fd_X12_75_12 dX12_readPass_122 (YO_o ..) rfl ?_
            show G κ _ _ _ _ (vi (sc2 16) :: _) _ _
            refine g_if_ne 70 C dX12_readPass_125 (by decide) (by first | assumption | (unfold iR; omega)) (fun c125 => by exfalso; omega) (fun c125 => ?_)
            refine s_n0_aload C dX12_readPass_128 ?_
            refine g_get C fd_X12_22_12 dX12_readPass_129 (YO_o ..) rfl ?_
            refine s_n3_iload C dX12_readPass_132 ?_
            refine g_iconst C dX12_readPass_133 ?_
            refine g_iadd C dX12_readPass_134 ?_
            refine s_w4_iload C dX12_readPass_135 ?_
            refine g_iadd C dX12_readPass_137 ?_
            refine s_n2_iload C dX12_readPass_138 ?_
            refine g_iast C dX12_readPass_139 (YO_a4 ..) (by omega) ?_
            rw [pZ_u4]
            show G κ (YO (pZ s sc2 (up (pk S bb) (to + 2 + k) (sFr cl (tNext T2)))) M) n _ _ _ _ _
            rw [pk_ub (by omega)]
            refine s_w4_iinc C dX12_readPass_140 rfl ?_
            refine g_goto 70 C dX12_readPass_143 (by decide) ?_
            rw [if_neg (by omega), if_neg (by omega)] at hw
            have esf : sFr cl (tNext T2) = stepTo cl (tNext T2) := by omega
            rw [esf]
            refine ih (tAt (tWay T2 (up T2.2.1 k (stepTo cl (tNext T2)))) (T2.2.2.2.1 + 1)) (stepTo cl (tNext T2)) (k + 1) sc2 _ p9 (by omega) (by omega) (by omega) h33 hpq hw (fun i i0 i1 => ?_) (fun j j0 => ?_) ?_
            · show up bb (to + 2 + k) (stepTo cl (tNext T2)) (to + 2 + i) = up T2.2.1 k (stepTo cl (tNext T2)) i
              by_cases ei : i = k
              · rw [ei, up_same, up_same]
              · rw [up_ne _ _ ei, up_ne _ _ (by omega)]
                exact hbb i i0 (by omega)
            · rw [up_ne _ _ (by omega)]
              exact hbo j j0
            · rw [up_ne _ _ (by omega)]
              exact hto
  have hl := hq.lk rfl
  have f1 := hl.1
  obtain ⟨z1, z2, -⟩ := LK_nx (T := T) hby hln hq.1 hl.2
  have hlt := isSo_l hn
  have e12 : sc 12 = T.2.2.2.1 + 1 := (z2 (by omega)).2.1
  have e15 : sc 15 = tNext T := (z2 (by omega)).1
  refine s_n0_aload C dX12_readPass_0 ?_
  refine g_get C fd_X12_88_12 dX12_readPass_1 (YO_o ..) rfl ?_
  show G κ _ _ _ _ (vi (sc 15) :: _) _ _
  rw [e15]
  refine g_invS C (ct_X12_kindBy (c := tNext T) (by unfold iR; omega)) cs_X12_126 (rmk_ok (by decide) (by decide) (by decide) (by decide)) (Nat.le_of_ble_eq_true rfl) rfl dX12_readPass_4 rfl (q_r0 ?_)
  rw [← ekd]
  refine s_n1_istore C dX12_readPass_7 rfl ?_
  refine s_n0_aload C dX12_readPass_8 ?_
  refine g_get C fd_X12_22_12 dX12_readPass_9 (YO_o ..) rfl ?_
  refine g_iconst C dX12_readPass_12 ?_
  refine g_iald C dX12_readPass_13 (YO_a4 ..) (by omega) ?_
  show G κ _ _ _ _ (vi (pk S b 5) :: _) _ _
  rw [pq_b (Or.inr (Or.inl rfl)), e5]
  refine g_iconst C dX12_readPass_14 ?_
  refine g_icmp_ne 23 C dX12_readPass_15 (by decide) (by first | assumption | (unfold iR; omega)) (by first | assumption | (unfold iR; omega)) (fun c15 => ?_) (fun c15 => ?_)
  · refine s_n0_aload C dX12_readPass_23 ?_
    refine g_iconst C dX12_readPass_24 ?_
    refine g_invV C (ct_X12_must (sc := sc) (q := (1, T)) htl htp hby hln hq (v := 1) (by omega)) (YO_o ..) cv_X12_109_12 (rmk_ok (by decide) (by decide) (by decide) (by decide)) (Nat.le_of_ble_eq_true rfl) rfl dX12_readPass_25 rfl (fun r M9 n9 h9 => ?_)
    obtain ⟨r9, n9e, sc2, m9, k9, p9⟩ := h9
    subst r9
    rw [n9e, m9]
    show G κ _ _ _ _ _ 0 0
    clear m9
    have p9 : PK by_ len (p1Q T ps.1) sc2 := by unfold p1Q; rw [if_neg (by omega), ← e12]; exact p9
    refine s_n0_aload C dX12_readPass_28 ?_
    refine g_iconst C dX12_readPass_29 ?_
    refine g_bipush C dX12_readPass_30 (by decide) ?_
    refine g_invV C (ct_X12_number (sc := sc2) (q := p1Q T ps.1) htl htp hby hln p9 (most := 14) (by omega)) (YO_o ..) cv_X12_116_12 (rmk_ok (by decide) (by decide) (by decide) (by decide)) (Nat.le_of_ble_eq_true rfl) rfl dX12_readPass_32 rfl (fun r M9 n9 h9 => ?_)
    obtain ⟨r9, n9e, sc3, m9, k9, p9⟩ := h9
    subst r9
    rw [n9e, m9]
    show G κ _ _ _ _ _ 0 0
    clear m9
    have hcb := mNm_b (p1Q T ps.1) (most := 14) (by decide)
    refine s_n2_istore C dX12_readPass_35 rfl ?_
    refine g_bipush C dX12_readPass_36 (by decide) ?_
    refine g_bipush C dX12_readPass_38 (by decide) ?_
    refine s_n0_aload C dX12_readPass_40 ?_
    refine g_get C fd_X12_22_12 dX12_readPass_41 (YO_o ..) rfl ?_
    refine g_iconst C dX12_readPass_44 ?_
    refine g_iald C dX12_readPass_45 (YO_a4 ..) (by omega) ?_
    show G κ _ _ _ _ (vi (pk S b 5) :: _) _ _
    rw [pq_b (Or.inr (Or.inl rfl)), e5]
    refine g_iconst C dX12_readPass_46 ?_
    refine g_iand C dX12_readPass_47 ?_
    refine g_imul C dX12_readPass_48 ?_
    refine g_iadd C dX12_readPass_49 ?_
    rw [← eto]
    refine s_n3_istore C dX12_readPass_50 rfl ?_
    refine g_iconst C dX12_readPass_51 ?_
    refine s_w4_istore C dX12_readPass_52 rfl ?_
    refine s_n0_aload C dX12_readPass_54 ?_
    refine g_get C fd_X12_22_12 dX12_readPass_55 (YO_o ..) rfl ?_
    refine s_n3_iload C dX12_readPass_58 ?_
    refine s_n1_iload C dX12_readPass_59 ?_
    refine g_iast C dX12_readPass_60 (YO_a4 ..) (by omega) ?_
    rw [pZ_u4]
    show G κ (YO (pZ s sc3 (up (pk S b) to kd)) M) n _ _ _ _ _
    rw [pk_ub (by omega)]
    refine s_n0_aload C dX12_readPass_61 ?_
    refine g_get C fd_X12_22_12 dX12_readPass_62 (YO_o ..) rfl ?_
    refine s_n3_iload C dX12_readPass_65 ?_
    refine g_iconst C dX12_readPass_66 ?_
    refine g_iadd C dX12_readPass_67 ?_
    refine s_n2_iload C dX12_readPass_68 ?_
    refine g_iast C dX12_readPass_69 (YO_a4 ..) (by omega) ?_
    rw [pZ_u4]
    show G κ (YO (pZ s sc3 (up (pk S (up b to kd)) (to + 2) (mNm (p1Q T ps.1) 14).1)) M) n _ _ _ _ _
    rw [pk_ub (by omega)]
    have p9 : PK by_ len (p2Q T ps.1) sc3 := p9
    have hf9 := p9.f16
    have hbo0 : ∀ j, j < to ∨ to + 11 ≤ j → (up (up b to kd) (to + 2) (mNm (p1Q T ps.1) 14).1) j = b j := fun j j0 => by rw [up_ne _ _ (by omega), up_ne _ _ (by omega)]
    by_cases e0 : (p2Q T ps.1).1 = 0
    · refine s_n0_aload C dX12_readPass_70 ?_
      refine g_get C fd_X12_75_12 dX12_readPass_71 (YO_o ..) rfl ?_
      show G κ _ _ _ _ (vi (sc3 16) :: _) _ _
      refine g_if_ne 146 C dX12_readPass_74 (by decide) (by first | assumption | (unfold iR; omega)) (fun c74 => ?_) (fun c74 => by exfalso; omega)
      exact K146 sc3 _ (p2Q T ps.1) _ _ p9 (by unfold pQ p3Q; rw [if_pos e0]) hbo0 (fun h => by omega)
    · obtain ⟨g1, g2, g3, g4⟩ := p2Q_ok (T := T) (m := ps.1) (by omega)
      rw [g4] at p9
      have etr : tRdWay (tAt T (T.2.2.2.1 + 1)) = wayN 9 (tWay (tNum (tAt T (T.2.2.2.1 + 1)) 14).2 (up (tNum (tAt T (T.2.2.2.1 + 1)) 14).2.2.1 0 (tNum (tAt T (T.2.2.2.1 + 1)) 14).1)) (tNum (tAt T (T.2.2.2.1 + 1)) 14).1 1 := by unfold tRdWay; rw [if_neg g2]
      rw [g3] at hcb hbo0 ⊢
      refine lp 9 (tWay (tNum (tAt T (T.2.2.2.1 + 1)) 14).2 (up (tNum (tAt T (T.2.2.2.1 + 1)) 14).2.2.1 0 (tNum (tAt T (T.2.2.2.1 + 1)) 14).1)) _ 1 sc3 _ p9 (by omega) (by omega) (by decide) (by omega) ?_ etr.symm (fun i i0 i1 => ?_) hbo0 ?_
      · unfold pQ p3Q
        rw [if_neg e0]
        rfl
      · have ei : i = 0 := by omega
        subst ei
        rw [Int.add_zero, up_same]
        exact (up_same (tNum (tAt T (T.2.2.2.1 + 1)) 14).2.2.1 0 (tNum (tAt T (T.2.2.2.1 + 1)) 14).1).symm
      · rw [up_ne _ _ (by omega), up_same]
  · refine s_n0_aload C dX12_readPass_18 ?_
    refine g_iconst C dX12_readPass_19 ?_
    refine g_invV C (ct_X12_bad (sc := sc) (k := 3) (by unfold iR; omega)) (YO_o ..) cv_X12_102_12 (rmk_ok (by decide) (by decide) (by decide) (by decide)) (Nat.le_of_ble_eq_true rfl) rfl dX12_readPass_20 rfl (q_v0 ?_)
    rw [if_pos f1]
    refine s_n0_aload C dX12_readPass_23 ?_
    refine g_iconst C dX12_readPass_24 ?_
    refine g_invV C (ct_X12_must (sc := (fu (fu sc 16 3) 17 (sc 13))) (q := (0, tRef T 3)) htl htp hby hln (hq.bad (by omega)) (v := 1) (by omega)) (YO_o ..) cv_X12_109_12 (rmk_ok (by decide) (by decide) (by decide) (by decide)) (Nat.le_of_ble_eq_true rfl) rfl dX12_readPass_25 rfl (fun r M9 n9 h9 => ?_)
    obtain ⟨r9, n9e, sc2, m9, k9, p9⟩ := h9
    subst r9
    rw [n9e, m9]
    show G κ _ _ _ _ _ 0 0
    clear m9
    have p9 : PK by_ len (p1Q T ps.1) sc2 := by unfold p1Q; rw [if_pos (by omega)]; exact p9
    refine s_n0_aload C dX12_readPass_28 ?_
    refine g_iconst C dX12_readPass_29 ?_
    refine g_bipush C dX12_readPass_30 (by decide) ?_
    refine g_invV C (ct_X12_number (sc := sc2) (q := p1Q T ps.1) htl htp hby hln p9 (most := 14) (by omega)) (YO_o ..) cv_X12_116_12 (rmk_ok (by decide) (by decide) (by decide) (by decide)) (Nat.le_of_ble_eq_true rfl) rfl dX12_readPass_32 rfl (fun r M9 n9 h9 => ?_)
    obtain ⟨r9, n9e, sc3, m9, k9, p9⟩ := h9
    subst r9
    rw [n9e, m9]
    show G κ _ _ _ _ _ 0 0
    clear m9
    have hcb := mNm_b (p1Q T ps.1) (most := 14) (by decide)
    refine s_n2_istore C dX12_readPass_35 rfl ?_
    refine g_bipush C dX12_readPass_36 (by decide) ?_
    refine g_bipush C dX12_readPass_38 (by decide) ?_
    refine s_n0_aload C dX12_readPass_40 ?_
    refine g_get C fd_X12_22_12 dX12_readPass_41 (YO_o ..) rfl ?_
    refine g_iconst C dX12_readPass_44 ?_
    refine g_iald C dX12_readPass_45 (YO_a4 ..) (by omega) ?_
    show G κ _ _ _ _ (vi (pk S b 5) :: _) _ _
    rw [pq_b (Or.inr (Or.inl rfl)), e5]
    refine g_iconst C dX12_readPass_46 ?_
    refine g_iand C dX12_readPass_47 ?_
    refine g_imul C dX12_readPass_48 ?_
    refine g_iadd C dX12_readPass_49 ?_
    rw [← eto]
    refine s_n3_istore C dX12_readPass_50 rfl ?_
    refine g_iconst C dX12_readPass_51 ?_
    refine s_w4_istore C dX12_readPass_52 rfl ?_
    refine s_n0_aload C dX12_readPass_54 ?_
    refine g_get C fd_X12_22_12 dX12_readPass_55 (YO_o ..) rfl ?_
    refine s_n3_iload C dX12_readPass_58 ?_
    refine s_n1_iload C dX12_readPass_59 ?_
    refine g_iast C dX12_readPass_60 (YO_a4 ..) (by omega) ?_
    rw [pZ_u4]
    show G κ (YO (pZ s sc3 (up (pk S b) to kd)) M) n _ _ _ _ _
    rw [pk_ub (by omega)]
    refine s_n0_aload C dX12_readPass_61 ?_
    refine g_get C fd_X12_22_12 dX12_readPass_62 (YO_o ..) rfl ?_
    refine s_n3_iload C dX12_readPass_65 ?_
    refine g_iconst C dX12_readPass_66 ?_
    refine g_iadd C dX12_readPass_67 ?_
    refine s_n2_iload C dX12_readPass_68 ?_
    refine g_iast C dX12_readPass_69 (YO_a4 ..) (by omega) ?_
    rw [pZ_u4]
    show G κ (YO (pZ s sc3 (up (pk S (up b to kd)) (to + 2) (mNm (p1Q T ps.1) 14).1)) M) n _ _ _ _ _
    rw [pk_ub (by omega)]
    have p9 : PK by_ len (p2Q T ps.1) sc3 := p9
    have hf9 := p9.f16
    have hbo0 : ∀ j, j < to ∨ to + 11 ≤ j → (up (up b to kd) (to + 2) (mNm (p1Q T ps.1) 14).1) j = b j := fun j j0 => by rw [up_ne _ _ (by omega), up_ne _ _ (by omega)]
    by_cases e0 : (p2Q T ps.1).1 = 0
    · refine s_n0_aload C dX12_readPass_70 ?_
      refine g_get C fd_X12_75_12 dX12_readPass_71 (YO_o ..) rfl ?_
      show G κ _ _ _ _ (vi (sc3 16) :: _) _ _
      refine g_if_ne 146 C dX12_readPass_74 (by decide) (by first | assumption | (unfold iR; omega)) (fun c74 => ?_) (fun c74 => by exfalso; omega)
      exact K146 sc3 _ (p2Q T ps.1) _ _ p9 (by unfold pQ p3Q; rw [if_pos e0]) hbo0 (fun h => by omega)
    · obtain ⟨g1, g2, g3, g4⟩ := p2Q_ok (T := T) (m := ps.1) (by omega)
      rw [g4] at p9
      have etr : tRdWay (tAt T (T.2.2.2.1 + 1)) = wayN 9 (tWay (tNum (tAt T (T.2.2.2.1 + 1)) 14).2 (up (tNum (tAt T (T.2.2.2.1 + 1)) 14).2.2.1 0 (tNum (tAt T (T.2.2.2.1 + 1)) 14).1)) (tNum (tAt T (T.2.2.2.1 + 1)) 14).1 1 := by unfold tRdWay; rw [if_neg g2]
      rw [g3] at hcb hbo0 ⊢
      refine lp 9 (tWay (tNum (tAt T (T.2.2.2.1 + 1)) 14).2 (up (tNum (tAt T (T.2.2.2.1 + 1)) 14).2.2.1 0 (tNum (tAt T (T.2.2.2.1 + 1)) 14).1)) _ 1 sc3 _ p9 (by omega) (by omega) (by decide) (by omega) ?_ etr.symm (fun i i0 i1 => ?_) hbo0 ?_
      · unfold pQ p3Q
        rw [if_neg e0]
        rfl
      · have ei : i = 0 := by omega
        subst ei
        rw [Int.add_zero, up_same]
        exact (up_same (tNum (tAt T (T.2.2.2.1 + 1)) 14).2.2.1 0 (tNum (tAt T (T.2.2.2.1 + 1)) 14).1).symm
      · rw [up_ne _ _ (by omega), up_same]
