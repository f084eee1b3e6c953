/-! PadPolishModel: the text is read: the steps, as the class does them -/
theorem mSg_1 (T : TPT) (c : Int) : mSg (1, T) c = tSign T c := if_neg (by show ¬ (1 : Int) = 0; decide)
theorem mSg_n {q : QT} (h : ¬ q.1 = 0) (c : Int) : mSg q c = tSign q.2 c := if_neg h
theorem mNm_f {q : QT} (h : q.1 = 0) (m : Int) : mNm q m = (0, q) := if_pos h
theorem mNm_n {q : QT} {m : Int} (h : ¬ q.1 = 0) (h2 : (tNum q.2 m).1 < 0) : mNm q m = (0, 0, (tNum q.2 m).2) := by
  unfold mNm
  rw [if_neg h, if_pos h2]
theorem mNm_p {q : QT} {m : Int} (h : ¬ q.1 = 0) (h2 : ¬ (tNum q.2 m).1 < 0) : mNm q m = ((tNum q.2 m).1, 1, (tNum q.2 m).2) := by
  unfold mNm
  rw [if_neg h, if_neg h2]
theorem one0 : ¬ (1 : Int) = 0 := by decide
theorem mSg_0 (T : TPT) (c : Int) : mSg (0, T) c = (0, T) := mSg_f (q := (0, T)) rfl c
theorem mNm_0 (T : TPT) (m : Int) : mNm (0, T) m = (0, 0, T) := mNm_f (q := (0, T)) rfl m
theorem mNm_n1 {T : TPT} {m : Int} (h : (tNum T m).1 < 0) : mNm (1, T) m = (0, 0, (tNum T m).2) := mNm_n (q := (1, T)) one0 h
theorem mNm_p1 {T : TPT} {m : Int} (h : ¬ (tNum T m).1 < 0) : mNm (1, T) m = ((tNum T m).1, 1, (tNum T m).2) := mNm_p (q := (1, T)) one0 h
def lQ (T : TPT) : QT := mSg (mNm (mSg (mNm (mSg (1, T) 116) 9).2 44) 9).2 59
def lV (T : TPT) : Int := (mNm (mSg (1, T) 116) 9).1
def lO (T : TPT) : Int := (mNm (mSg (mNm (mSg (1, T) 116) 9).2 44) 9).1
theorem rdLaw_e (T : TPT) (S : SLT) (sk : Int) : (rdLaw T S sk).1 = (lQ T).1 ∧ (rdLaw T S sk).2.1 = (lQ T).2 ∧ ((lQ T).1 = 1 → (rdLaw T S sk).2.2 = (sfOil S (lO T), lV T)) := by
  unfold rdLaw lQ lV lO
  rw [mSg_1]
  by_cases hA : (tSign T 116).1 = 0
  · rw [if_pos hA, mNm_f hA, mSg_f hA, mNm_f hA, mSg_f hA]
    exact ⟨hA.symm, rfl, fun h => by omega⟩
  rw [if_neg hA]
  by_cases hB : (tNum (tSign T 116).2 9).1 < 0
  · rw [if_pos hB, mNm_n hA hB, mSg_0, mNm_0, mSg_0]
    exact ⟨rfl, rfl, fun h => absurd h (by show ¬ (0 : Int) = 1; decide)⟩
  rw [if_neg hB, mNm_p hA hB, mSg_1]
  by_cases hC : (tSign (tNum (tSign T 116).2 9).2 44).1 = 0
  · rw [if_pos hC, mNm_f hC, mSg_f hC]
    exact ⟨hC.symm, rfl, fun h => by omega⟩
  rw [if_neg hC]
  by_cases hD : (tNum (tSign (tNum (tSign T 116).2 9).2 44).2 9).1 < 0
  · rw [if_pos hD, mNm_n hC hD, mSg_0]
    exact ⟨rfl, rfl, fun h => absurd h (by show ¬ (0 : Int) = 1; decide)⟩
  rw [if_neg hD, mNm_p hC hD, mSg_1]
  exact ⟨rfl, rfl, fun _ => rfl⟩
theorem tNum_at {T : TPT} {m : Int} (h : ¬ (tNum T m).1 < 0) : ∃ x, (tNum T m).2 = tAt T x := by
  unfold tNum tNumV at *
  by_cases h0 : tFig T T.2.2.2.1
  · rw [if_neg (not_not_intro h0)] at h ⊢
    by_cases h1 : tFig T (T.2.2.2.1 + 1)
    · rw [if_neg (not_not_intro h1)] at h ⊢
      by_cases h2 : tFig T (T.2.2.2.1 + 2)
      · rw [if_neg (not_not_intro h2)] at h
        exact absurd (by show (-1 : Int) < 0; decide) h
      · rw [if_pos h2] at h ⊢
        split at h
        · rename_i e
          rw [if_pos e]
          exact ⟨_, rfl⟩
        · exact absurd (by show (-1 : Int) < 0; decide) h
    · rw [if_pos h1] at h ⊢
      split at h
      · rename_i e
        rw [if_pos e]
        exact ⟨_, rfl⟩
      · exact absurd (by show (-1 : Int) < 0; decide) h
  · rw [if_pos h0] at h
    exact absurd (by show (-1 : Int) < 0; decide) h
theorem rcN_s {f : Nat} {T : TPT} {S : SLT} {seen k : Int} (hk : k ≤ 15) (hn : tNext T = 102) : rcN (f + 1) T S seen k = if (cQ T seen k).1 = 0 then (0, (cQ T seen k).2, S) else rcN f (cQ T seen k).2 (cS T S seen k) (bOr seen (bShl 1 (cC T seen k))) (k + 1) := by
  rw [rcN, if_neg (by omega), if_neg (not_not_intro hn)]
  by_cases h15 : k = 15
  · rw [if_pos h15]
    have e : cQ T seen k = (0, tRef T 3) := by
      unfold cQ c4Q
      rw [h15, c2Q_15, mNm_0, mSg_0, mNm_0, mSg_0]
    rw [e]
    exact (if_pos rfl).symm
  rw [if_neg h15]
  have e2 := c2Q_n (T := T) (seen := seen) h15
  by_cases hA : (tNum (tAt T (T.2.2.2.1 + 1)) 14).1 < 0
  · rw [if_pos hA]
    rw [if_neg (fun q => by have := q.1; omega)] at e2
    have e : cQ T seen k = (0, (tNum (tAt T (T.2.2.2.1 + 1)) 14).2) := by
      unfold cQ c4Q
      rw [e2, mNm_n1 hA, mSg_0, mNm_0, mSg_0]
    rw [e]
    exact (if_pos rfl).symm
  rw [if_neg hA]
  by_cases hd : bAnd (bShr seen (tNum (tAt T (T.2.2.2.1 + 1)) 14).1) 1 = 1
  · rw [if_pos hd]
    rw [if_pos ⟨by omega, hd⟩] at e2
    have e : cQ T seen k = (0, tRef (tAt T (T.2.2.2.1 + 1)) 2) := by
      unfold cQ c4Q
      rw [e2, mNm_0, mSg_0, mNm_0, mSg_0]
    rw [e]
    obtain ⟨x, hx⟩ := tNum_at hA
    rw [hx]
    exact (if_pos rfl).symm
  rw [if_neg hd]
  rw [if_neg (fun q => hd q.2)] at e2
  have e4 : c4Q T seen k = tSign (tNum (tAt T (T.2.2.2.1 + 1)) 14).2 44 := by
    unfold c4Q
    rw [e2, mNm_p1 hA, mSg_1]
  have eC : cC T seen k = (tNum (tAt T (T.2.2.2.1 + 1)) 14).1 := by
    unfold cC
    rw [e2, mNm_p1 hA]
  by_cases hB : (tSign (tNum (tAt T (T.2.2.2.1 + 1)) 14).2 44).1 = 0
  · rw [if_pos hB]
    have e : cQ T seen k = tSign (tNum (tAt T (T.2.2.2.1 + 1)) 14).2 44 := by
      unfold cQ
      rw [e4, mNm_f hB, mSg_f hB]
    rw [e, if_pos hB]
  rw [if_neg hB]
  by_cases hC : (tNum (tSign (tNum (tAt T (T.2.2.2.1 + 1)) 14).2 44).2 99).1 < 0
  · rw [if_pos hC]
    have e : cQ T seen k = (0, (tNum (tSign (tNum (tAt T (T.2.2.2.1 + 1)) 14).2 44).2 99).2) := by
      unfold cQ
      rw [e4, mNm_n hB hC, mSg_0]
    rw [e]
    exact (if_pos rfl).symm
  rw [if_neg hC]
  have e : cQ T seen k = tSign (tNum (tSign (tNum (tAt T (T.2.2.2.1 + 1)) 14).2 44).2 99).2 59 := by
    unfold cQ
    rw [e4, mNm_p hB hC, mSg_1]
  have eF : cF T seen k = (tNum (tSign (tNum (tAt T (T.2.2.2.1 + 1)) 14).2 44).2 99).1 := by
    unfold cF
    rw [e4, mNm_p hB hC]
  unfold cS
  rw [e, eC, eF]
  by_cases hD : (tSign (tNum (tSign (tNum (tAt T (T.2.2.2.1 + 1)) 14).2 44).2 99).2 59).1 = 0
  · rw [if_pos hD, if_pos hD]
  · rw [if_neg hD, if_neg hD, if_neg hD]
theorem rcN_e {f : Nat} {T : TPT} {S : SLT} {seen k : Int} (hn : ¬ tNext T = 102) : rcN f T S seen k = (1, T, S) := by
  cases f with
  | zero => rfl
  | succ f =>
    rw [rcN]
    by_cases h : 15 < k
    · rw [if_pos h]
    · rw [if_neg h, if_pos hn]
theorem wayN_ge : ∀ (f : Nat) (T : TPT) (cl k : Int), k ≤ (wayN f T cl k).1
  | 0, T, cl, k => Int.le_refl k
  | f + 1, T, cl, k => by
    unfold wayN
    split
    · exact Int.le_refl k
    · split
      · exact Int.le_refl k
      · have := wayN_ge f (tAt (tWay T (up T.2.1 k (stepTo cl (tNext T)))) (T.2.2.2.1 + 1)) (stepTo cl (tNext T)) (k + 1)
        omega
theorem rpN_s {f : Nat} {T : TPT} {ps : PST} (hm : ps.1 ≤ 4) (hn : isSo (tNext T)) : rpN (f + 1) T ps = if (pQ T ps.1).1 = 0 then (0, (pQ T ps.1).2, ps) else rpN f (pQ T ps.1).2 (psAdd ps (soCi (tNext T)) (tRdWay (tAt T (T.2.2.2.1 + 1))).1 (tRdWay (tAt T (T.2.2.2.1 + 1))).2.2.1) := by
  have hl := isSo_l hn
  have hn2 : tNext T = 103 ∨ tNext T = 115 ∨ tNext T = 100 ∨ tNext T = 99 ∨ tNext T = 114 := hn
  rw [rpN, if_neg (by omega), if_neg (by omega), if_neg (not_not_intro hn2)]
  by_cases h4 : ps.1 = 4
  · rw [if_pos h4]
    have e : pQ T ps.1 = (0, tRef T 3) := by
      unfold pQ p3Q p2Q p1Q
      rw [if_pos h4, mNm_0]
      rw [if_pos rfl, mSg_0]
    rw [e]
    exact (if_pos rfl).symm
  rw [if_neg h4]
  by_cases hA : (tNum (tAt T (T.2.2.2.1 + 1)) 14).1 < 0
  · have ew : tRdWay (tAt T (T.2.2.2.1 + 1)) = (-1, (tNum (tAt T (T.2.2.2.1 + 1)) 14).2) := by unfold tRdWay; rw [if_pos hA]
    have e : pQ T ps.1 = (0, (tNum (tAt T (T.2.2.2.1 + 1)) 14).2) := by
      unfold pQ p3Q p2Q p1Q
      rw [if_neg h4, mNm_n1 hA]
      rw [if_pos rfl, mSg_0]
    rw [e, ew]
    rw [if_pos (by show (-1 : Int) < 0; decide)]
    exact (if_pos rfl).symm
  have ew : ¬ (tRdWay (tAt T (T.2.2.2.1 + 1))).1 < 0 := by
    unfold tRdWay
    rw [if_neg hA]
    have := wayN_ge 9 (tWay (tNum (tAt T (T.2.2.2.1 + 1)) 14).2 (up (tNum (tAt T (T.2.2.2.1 + 1)) 14).2.2.1 0 (tNum (tAt T (T.2.2.2.1 + 1)) 14).1)) (tNum (tAt T (T.2.2.2.1 + 1)) 14).1 1
    omega
  rw [if_neg ew]
  have e : pQ T ps.1 = tSign (tRdWay (tAt T (T.2.2.2.1 + 1))).2 59 := by
    unfold pQ p3Q p2Q p1Q
    rw [if_neg h4, mNm_p1 hA]
    rw [if_neg one0, mSg_1]
  rw [e]
theorem rpN_e {f : Nat} {T : TPT} {ps : PST} (hm : ps.1 ≤ 4) (hn : ¬ isSo (tNext T)) : rpN (f + 1) T ps = if tNext T = -1 then (1, T, ps) else (0, tRef T 1, ps) := by
  rw [rpN, if_neg (by omega)]
  by_cases h : tNext T = -1
  · rw [if_pos h, if_pos h]
  · have hn2 : ¬ (tNext T = 103 ∨ tNext T = 115 ∨ tNext T = 100 ∨ tNext T = 99 ∨ tNext T = 114) := hn
    rw [if_neg h, if_neg h, if_pos hn2]
theorem TK.tp {by_ : Int → Int} {len : Int} {T : TPT} (hby : ∀ i, 0 ≤ i → i < 120 → 0 ≤ by_ i ∧ by_ i ≤ 255) (hln : 0 ≤ len ∧ len ≤ 120) (hT : TK by_ len T) : tpOK T := by
  refine ⟨?_, ?_, ?_, hT.2.2.1, ?_⟩
  · rw [hT.1]; exact hby
  · rw [hT.2.1]; exact hln.1
  · rw [hT.2.1]; exact hln.2
  · rw [hT.2.1]; exact hT.2.2.2
theorem mMu_l {by_ sc : Int → Int} {len : Int} {q : QT} (hby : ∀ i, 0 ≤ i → i < 120 → 0 ≤ by_ i ∧ by_ i ≤ 255) (hln : 0 ≤ len ∧ len ≤ 120) (hq : PK by_ len q sc) {c : Int} (hc : 97 ≤ c ∧ c ≤ 122) : mMu q (if q.1 = 1 ∧ tNext q.2 = c then 1 else 0) (sc 12) = mSg q c := by
  unfold mMu mSg
  rcases hq.2.2.2 with ⟨e, _⟩ | ⟨e, _, l⟩
  · rw [if_pos e, if_pos e]
  · obtain ⟨z1, z2, -⟩ := LK_nx hby hln hq.1 l
    rw [if_neg (show ¬ q.1 = 0 by omega), if_neg (show ¬ q.1 = 0 by omega)]
    unfold tSign
    by_cases h : tNext q.2 = c
    · rw [if_pos (show q.1 = 1 ∧ tNext q.2 = c from ⟨e, h⟩), if_neg one0, if_pos h, (z2 (by omega)).2.1]
    · rw [if_neg (show ¬ (q.1 = 1 ∧ tNext q.2 = c) from fun z => h z.2), if_pos rfl, if_neg h]
theorem pZ_id (s : YT) : pZ s s.1 (s.2 4) = s := by
  unfold pZ
  rw [fu_id, fu_id, fu_id, fu_id, fu_id, fu_id, fu_id, fu_id]
theorem pZ_u3x {S : SLT} {b : Int → Int} {x : Int} : up (pk S b) 3 x = pk (sfOil S x) b := by
  obtain ⟨f, s, h, w, l, p⟩ := S
  exact pq_u3
theorem pk_z (j : Int) : pk zS (fun _ => 0) j = 0 := by
  unfold pk zS
  (repeat' split) <;> rfl
theorem rdAll_a {T : TPT} (h : (rdLaw (tAt T 0) zS 0).1 = 0) : (rdAll T).1 = 0 ∧ (rdAll T).2.1 = (rdLaw (tAt T 0) zS 0).2.1 := by
  unfold rdAll
  rw [if_pos h]
  exact ⟨rfl, rfl⟩
theorem rdAll_b {T : TPT} (h : ¬ (rdLaw (tAt T 0) zS 0).1 = 0) (h2 : (rdCells (rdLaw (tAt T 0) zS 0).2.1 (rdLaw (tAt T 0) zS 0).2.2.1).1 = 0) : (rdAll T).1 = 0 ∧ (rdAll T).2.1 = (rdCells (rdLaw (tAt T 0) zS 0).2.1 (rdLaw (tAt T 0) zS 0).2.2.1).2.1 := by
  unfold rdAll
  rw [if_neg h, if_pos h2]
  exact ⟨rfl, rfl⟩
theorem rdAll_c {T : TPT} (h : ¬ (rdLaw (tAt T 0) zS 0).1 = 0) (h2 : ¬ (rdCells (rdLaw (tAt T 0) zS 0).2.1 (rdLaw (tAt T 0) zS 0).2.2.1).1 = 0) : rdAll T = ((rdPasses (rdCells (rdLaw (tAt T 0) zS 0).2.1 (rdLaw (tAt T 0) zS 0).2.2.1).2.1).1, (rdPasses (rdCells (rdLaw (tAt T 0) zS 0).2.1 (rdLaw (tAt T 0) zS 0).2.2.1).2.1).2.1, (rdCells (rdLaw (tAt T 0) zS 0).2.1 (rdLaw (tAt T 0) zS 0).2.2.1).2.2, (rdLaw (tAt T 0) zS 0).2.2.2, (rdPasses (rdCells (rdLaw (tAt T 0) zS 0).2.1 (rdLaw (tAt T 0) zS 0).2.2.1).2.1).2.2) := by
  unfold rdAll
  rw [if_neg h, if_neg h2]
