/-! PadPolishModel: a cell is read -/
theorem pS_uf {S : SLT} {b : Int → Int} {c x : Int} (hc : 0 ≤ c ∧ c < 15) : up (pk S b) (6 + c) x = pk (sfFilm S (up S.1 c x)) b := by
  obtain ⟨f, s, h, w, l, p⟩ := S
  exact pq_uf hc
theorem pk_ub {S : SLT} {b : Int → Int} {k x : Int} (h : k < 2 ∨ k = 5 ∨ 51 ≤ k) : up (pk S b) k x = pk S (up b k x) := by
  funext j
  unfold up pk
  dsimp only
  (repeat' split) <;> first | rfl | omega
theorem c2_num {by_ sc : Int → Int} {len : Int} {T : TPT} (hT : TK by_ len T) (h : LK by_ len T.2.2.2.1 sc) : (sc 14 = 3 ∧ sc 15 < 15 ∧ 0 ≤ sc 15 ∧ (tNum T 14).1 = sc 15) ∨ (¬ (sc 14 = 3 ∧ sc 15 < 15) ∧ (tNum T 14).1 < 0) := by
  rcases LK_num hT h 14 with ⟨t1, t2, t3, k, t4, t5, t6, t7⟩ | ⟨t1, t2⟩
  · rw [t4]
    unfold tNumV
    by_cases q : sc 15 ≤ 14
    · rw [if_pos q]
      exact Or.inl ⟨t1, by omega, t2, rfl⟩
    · rw [if_neg q]
      exact Or.inr ⟨by omega, by show (-1 : Int) < 0; decide⟩
  · rw [t2]
    exact Or.inr ⟨by omega, by show (-1 : Int) < 0; decide⟩
def c1Q (T : TPT) (k : Int) : QT := if k = 15 then (0, tRef T 3) else (1, tAt T (T.2.2.2.1 + 1))
def c2Q (T : TPT) (seen k : Int) : QT := if (c1Q T k).1 = 0 then c1Q T k else if 0 ≤ (tNum (c1Q T k).2 14).1 ∧ bAnd (bShr seen (tNum (c1Q T k).2 14).1) 1 = 1 then (0, tRef (c1Q T k).2 2) else c1Q T k
def cC (T : TPT) (seen k : Int) : Int := (mNm (c2Q T seen k) 14).1
def c4Q (T : TPT) (seen k : Int) : QT := mSg (mNm (c2Q T seen k) 14).2 44
def cF (T : TPT) (seen k : Int) : Int := (mNm (c4Q T seen k) 99).1
def cQ (T : TPT) (seen k : Int) : QT := mSg (mNm (c4Q T seen k) 99).2 59
def cS (T : TPT) (S : SLT) (seen k : Int) : SLT := if (cQ T seen k).1 = 0 then S else sfFilm S (up S.1 (cC T seen k) (cF T seen k))
theorem c2Q_15 (T : TPT) (seen : Int) : c2Q T seen 15 = (0, tRef T 3) := by
  unfold c2Q c1Q
  rw [if_pos rfl]
  exact if_pos rfl
theorem c2Q_n {T : TPT} {seen k : Int} (hk : ¬ k = 15) : c2Q T seen k = if 0 ≤ (tNum (tAt T (T.2.2.2.1 + 1)) 14).1 ∧ bAnd (bShr seen (tNum (tAt T (T.2.2.2.1 + 1)) 14).1) 1 = 1 then (0, tRef (tAt T (T.2.2.2.1 + 1)) 2) else (1, tAt T (T.2.2.2.1 + 1)) := by
  unfold c2Q c1Q
  rw [if_neg hk]
  exact if_neg (by show ¬ (1 : Int) = 0; decide)
set_option maxRecDepth 20000 in
theorem ct_X12_readCell {s : YT} {sc : Int → Int} {by_ : Int → Int} {len : Int} {M : gM} {n : Int} (htl : s.1 11 = len) (htp : ∀ i, 0 ≤ i → i < len → s.2 7 i = by_ i) (hby : ∀ i, 0 ≤ i → i < 120 → 0 ≤ by_ i ∧ by_ i ≤ 255) (hln : 0 ≤ len ∧ len ≤ 120) {T : TPT} (hq : PK by_ len (1, T) sc) (hn : tNext T = 102) {S : SLT} {b : Int → Int} {seen k : Int} (hk : 0 ≤ k ∧ k ≤ 15) : CT yX12_readCell cX12_readCell 5 none (rmk 4 0 0) [vr 152, vi seen, vi k] (YO (pZ s sc (pk S b)) M) n (fun r M2 n2 => r = none ∧ n2 = n ∧ ∃ sc2, M2 = YO (pZ s sc2 (pk (cS T S seen k) b)) M ∧ PK by_ len (cQ T seen k) sc2 ∧ ((cQ T seen k).1 = 1 → sc2 19 = cC T seen k)) := by
  refine CT.of (by decide) (fun _ => Nat.le_of_ble_eq_true rfl) (fun κ C E => ?_)
  show G κ (YO (pZ s sc (pk S b)) M) n [some (vr 152), some (vi seen), some (vi k), none, none] 0 [] 0 0
  have K57 : ∀ sc : Int → Int, PK by_ len (c2Q T seen k) sc → G κ (YO (pZ s sc (pk S b)) M) n [some (vr 152), some (vi seen), some (vi k), none, none] 57 [] 0 0 := by
    intro sc hq
    refine s_n0_aload C dX12_readCell_57 ?_
    refine g_iconst C dX12_readCell_58 ?_
    refine g_bipush C dX12_readCell_59 (by decide) ?_
    refine g_invV C (ct_X12_number (sc := sc) (q := c2Q T seen k) htl htp hby hln hq (most := 14) (by omega)) (YO_o ..) cv_X12_116_12 (rmk_ok (by decide) (by decide) (by decide) (by decide)) (Nat.le_of_ble_eq_true rfl) rfl dX12_readCell_61 rfl (fun r M9 n9 h9 => ?_)
    obtain ⟨r9, n9e, sc3, m9, k9, p9⟩ := h9
    subst r9
    rw [n9e, m9]
    show G κ _ _ _ _ _ 0 0
    clear m9
    refine s_n3_istore C dX12_readCell_64 rfl ?_
    refine s_n0_aload C dX12_readCell_65 ?_
    refine g_bipush C dX12_readCell_66 (by decide) ?_
    refine g_invV C (ct_X12_mustSign (sc := sc3) (q := (mNm (c2Q T seen k) 14).2) htl htp hby hln p9 (c := 44) (by omega)) (YO_o ..) cv_X12_120_12 (rmk_ok (by decide) (by decide) (by decide) (by decide)) (Nat.le_of_ble_eq_true rfl) rfl dX12_readCell_68 rfl (fun r M9 n9 h9 => ?_)
    obtain ⟨r9, n9e, sc4, m9, k9, p9⟩ := h9
    subst r9
    rw [n9e, m9]
    show G κ _ _ _ _ _ 0 0
    clear m9
    refine s_n0_aload C dX12_readCell_71 ?_
    refine g_iconst C dX12_readCell_72 ?_
    refine g_bipush C dX12_readCell_73 (by decide) ?_
    refine g_invV C (ct_X12_number (sc := sc4) (q := c4Q T seen k) htl htp hby hln p9 (most := 99) (by omega)) (YO_o ..) cv_X12_116_12 (rmk_ok (by decide) (by decide) (by decide) (by decide)) (Nat.le_of_ble_eq_true rfl) rfl dX12_readCell_75 rfl (fun r M9 n9 h9 => ?_)
    obtain ⟨r9, n9e, sc5, m9, k9, p9⟩ := h9
    subst r9
    rw [n9e, m9]
    show G κ _ _ _ _ _ 0 0
    clear m9
    refine s_w4_istore C dX12_readCell_78 rfl ?_
    refine s_n0_aload C dX12_readCell_80 ?_
    refine g_bipush C dX12_readCell_81 (by decide) ?_
    refine g_invV C (ct_X12_mustSign (sc := sc5) (q := (mNm (c4Q T seen k) 99).2) htl htp hby hln p9 (c := 59) (by omega)) (YO_o ..) cv_X12_120_12 (rmk_ok (by decide) (by decide) (by decide) (by decide)) (Nat.le_of_ble_eq_true rfl) rfl dX12_readCell_83 rfl (fun r M9 n9 h9 => ?_)
    obtain ⟨r9, n9e, sc6, m9, k9, p9⟩ := h9
    subst r9
    rw [n9e, m9]
    show G κ _ _ _ _ _ 0 0
    clear m9
    have p9 : PK by_ len (cQ T seen k) sc6 := p9
    have hf6 := p9.f16
    have hcb := mNm_b (c2Q T seen k) (most := 14) (by decide)
    refine s_n0_aload C dX12_readCell_86 ?_
    refine g_get C fd_X12_75_12 dX12_readCell_87 (YO_o ..) rfl ?_
    show G κ _ _ _ _ (vi (sc6 16) :: _) _ _
    refine g_if_ne 109 C dX12_readCell_90 (by decide) (by first | assumption | (unfold iR; omega)) (fun c90 => ?_) (fun c90 => ?_)
    · refine g_vret C E dX12_readCell_109 (by decide) ?_
      refine ⟨rfl, rfl, sc6, ?_, p9, fun h => by omega⟩
      unfold cS
      rw [if_pos (by omega)]
    · refine s_n0_aload C dX12_readCell_93 ?_
      refine g_get C fd_X12_22_12 dX12_readCell_94 (YO_o ..) rfl ?_
      refine g_bipush C dX12_readCell_97 (by decide) ?_
      refine s_n3_iload C dX12_readCell_99 ?_
      refine g_iadd C dX12_readCell_100 ?_
      refine s_w4_iload C dX12_readCell_101 ?_
      refine g_iast C dX12_readCell_103 (YO_a4 ..) (by omega) ?_
      rw [pZ_u4]
      show G κ (YO (pZ s sc6 (up (pk S b) (6 + cC T seen k) (cF T seen k))) M) n _ _ _ _ _
      rw [pS_uf (show 0 ≤ cC T seen k ∧ cC T seen k < 15 by unfold cC; omega)]
      refine s_n0_aload C dX12_readCell_104 ?_
      refine s_n3_iload C dX12_readCell_105 ?_
      refine g_put C fp_X12_123_12 dX12_readCell_106 (YO_o ..) (Nat.le_of_ble_eq_true rfl) (gfit_i _) ?_
      rw [pZ_p19]
      refine g_vret C E dX12_readCell_109 (by decide) ?_
      refine ⟨rfl, rfl, _, ?_, p9.l19 _, fun _ => rfl⟩
      unfold cS
      rw [if_neg (by omega)]
  have hl := hq.lk rfl
  have f1 := hl.1
  have hz := LK_nx (T := T) hby hln hq.1 hl.2
  have e12 : sc 12 = T.2.2.2.1 + 1 := (hz.2.1 (by omega)).2.1
  refine s_n2_iload C dX12_readCell_0 ?_
  refine g_bipush C dX12_readCell_1 (by decide) ?_
  refine g_icmp_ne 11 C dX12_readCell_3 (by decide) (by first | assumption | (unfold iR; omega)) (by first | assumption | (unfold iR; omega)) (fun c3 => ?_) (fun c3 => ?_)
  · refine s_n0_aload C dX12_readCell_11 ?_
    refine g_iconst C dX12_readCell_12 ?_
    refine g_invV C (ct_X12_must (sc := sc) (q := (1, T)) htl htp hby hln hq (v := 1) (by omega)) (YO_o ..) cv_X12_109_12 (rmk_ok (by decide) (by decide) (by decide) (by decide)) (Nat.le_of_ble_eq_true rfl) rfl dX12_readCell_13 rfl (fun r M9 n9 h9 => ?_)
    obtain ⟨r9, n9e, sc2, m9, k9, p9⟩ := h9
    subst r9
    rw [n9e, m9]
    show G κ _ _ _ _ _ 0 0
    clear m9
    have p9 : PK by_ len (1, tAt T (T.2.2.2.1 + 1)) sc2 := by rw [← e12]; exact p9
    obtain ⟨g16, lk⟩ := p9.lk rfl
    have hz2 := c2_num (T := tAt T (T.2.2.2.1 + 1)) p9.1 lk
    have hb2 := p9.2.1
    have ht2 := p9.2.2.1
    refine s_n0_aload C dX12_readCell_16 ?_
    refine g_get C fd_X12_75_12 dX12_readCell_17 (YO_o ..) rfl ?_
    show G κ _ _ _ _ (vi (sc2 16) :: _) _ _
    refine g_if_ne 57 C dX12_readCell_20 (by decide) (by first | assumption | (unfold iR; omega)) (fun c20 => by exfalso; omega) (fun c20 => ?_)
    refine s_n0_aload C dX12_readCell_23 ?_
    refine g_get C fd_X12_99_12 dX12_readCell_24 (YO_o ..) rfl ?_
    show G κ _ _ _ _ (vi (sc2 14) :: _) _ _
    refine g_iconst C dX12_readCell_27 ?_
    refine g_icmp_ne 57 C dX12_readCell_28 (by decide) (by first | assumption | (unfold iR; omega)) (by first | assumption | (unfold iR; omega)) (fun c28 => ?_) (fun c28 => ?_)
    · refine K57 sc2 ?_
      rw [c2Q_n c3, if_neg (fun q => by have := q.1; omega)]
      exact p9
    · refine s_n0_aload C dX12_readCell_31 ?_
      refine g_get C fd_X12_88_12 dX12_readCell_32 (YO_o ..) rfl ?_
      show G κ _ _ _ _ (vi (sc2 15) :: _) _ _
      refine g_bipush C dX12_readCell_35 (by decide) ?_
      refine g_icmp_ge 57 C dX12_readCell_37 (by decide) (by first | assumption | (unfold iR; omega)) (by first | assumption | (unfold iR; omega)) (fun c37 => ?_) (fun c37 => ?_)
      · refine K57 sc2 ?_
        rw [c2Q_n c3, if_neg (fun q => by have := q.1; omega)]
        exact p9
      · refine s_n1_iload C dX12_readCell_40 ?_
        refine s_n0_aload C dX12_readCell_41 ?_
        refine g_get C fd_X12_88_12 dX12_readCell_42 (YO_o ..) rfl ?_
        show G κ _ _ _ _ (vi (sc2 15) :: _) _ _
        refine g_ishr C dX12_readCell_45 ?_
        refine g_iconst C dX12_readCell_46 ?_
        refine g_iand C dX12_readCell_47 ?_
        refine g_iconst C dX12_readCell_48 ?_
        refine g_icmp_ne 57 C dX12_readCell_49 (by decide) (by exact bAnd_R _ _) (by unfold iR; omega) (fun c49 => ?_) (fun c49 => ?_)
        · refine K57 sc2 ?_
          rw [c2Q_n c3, if_neg (fun q => by have q2 := q.2; rw [show (tNum (tAt T (T.2.2.2.1 + 1)) 14).1 = sc2 15 by omega] at q2; exact c49 q2)]
          exact p9
        · refine s_n0_aload C dX12_readCell_52 ?_
          refine g_iconst C dX12_readCell_53 ?_
          refine g_invV C (ct_X12_bad (sc := sc2) (k := 2) (by unfold iR; omega)) (YO_o ..) cv_X12_102_12 (rmk_ok (by decide) (by decide) (by decide) (by decide)) (Nat.le_of_ble_eq_true rfl) rfl dX12_readCell_54 rfl (q_v0 ?_)
          rw [if_pos g16]
          refine K57 _ ?_
          rw [c2Q_n c3, if_pos ⟨by omega, by rw [show (tNum (tAt T (T.2.2.2.1 + 1)) 14).1 = sc2 15 by omega]; exact c49⟩]
          exact p9.bad (by omega)
  · refine s_n0_aload C dX12_readCell_6 ?_
    refine g_iconst C dX12_readCell_7 ?_
    refine g_invV C (ct_X12_bad (sc := sc) (k := 3) (by unfold iR; omega)) (YO_o ..) cv_X12_102_12 (rmk_ok (by decide) (by decide) (by decide) (by decide)) (Nat.le_of_ble_eq_true rfl) rfl dX12_readCell_8 rfl (q_v0 ?_)
    rw [if_pos f1]
    refine s_n0_aload C dX12_readCell_11 ?_
    refine g_iconst C dX12_readCell_12 ?_
    refine g_invV C (ct_X12_must (sc := (fu (fu sc 16 3) 17 (sc 13))) (q := (0, tRef T 3)) htl htp hby hln (hq.bad (by omega)) (v := 1) (by omega)) (YO_o ..) cv_X12_109_12 (rmk_ok (by decide) (by decide) (by decide) (by decide)) (Nat.le_of_ble_eq_true rfl) rfl dX12_readCell_13 rfl (fun r M9 n9 h9 => ?_)
    obtain ⟨r9, n9e, sc2, m9, k9, p9⟩ := h9
    subst r9
    rw [n9e, m9]
    show G κ _ _ _ _ _ 0 0
    clear m9
    have p9 : PK by_ len (0, tRef T 3) sc2 := p9
    have hf9 := p9.f16
    dsimp only at hf9
    refine s_n0_aload C dX12_readCell_16 ?_
    refine g_get C fd_X12_75_12 dX12_readCell_17 (YO_o ..) rfl ?_
    show G κ _ _ _ _ (vi (sc2 16) :: _) _ _
    refine g_if_ne 57 C dX12_readCell_20 (by decide) (by first | assumption | (unfold iR; omega)) (fun c20 => ?_) (fun c20 => by exfalso; omega)
    refine K57 sc2 ?_
    rw [c3, c2Q_15]
    exact p9
