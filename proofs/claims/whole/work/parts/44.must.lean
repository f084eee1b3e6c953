/-! PadPolishModel: what the reader of tokens does, held against the class's tape -/
abbrev QT : Type := Int × TPT
def TK (by_ : Int → Int) (len : Int) (T : TPT) : Prop := T.1 = by_ ∧ T.2.2.1 = len ∧ 0 ≤ T.2.2.2.1 ∧ T.2.2.2.1 ≤ len
def PK (by_ : Int → Int) (len : Int) (q : QT) (sc : Int → Int) : Prop := TK by_ len q.2 ∧ (-1000000 ≤ sc 15 ∧ sc 15 ≤ 255) ∧ (0 ≤ sc 14 ∧ sc 14 ≤ 4) ∧ ((q.1 = 0 ∧ sc 16 = q.2.2.2.2.2 ∧ sc 17 = q.2.2.2.2.1 ∧ 1 ≤ sc 16 ∧ sc 16 ≤ 3) ∨ (q.1 = 1 ∧ sc 16 = 0 ∧ LK by_ len q.2.2.2.2.1 sc))
theorem LK.tok {by_ sc : Int → Int} {len a : Int} (h : LK by_ len a sc) : 0 ≤ sc 14 ∧ sc 14 ≤ 4 := by
  unfold LK at h
  omega
theorem LK.cur {by_ sc : Int → Int} {len a : Int} (h : LK by_ len a sc) (ha : 0 ≤ a) : 0 ≤ sc 12 ∧ sc 12 ≤ len := by
  unfold LK fg at h
  omega
theorem PK.of {by_ sc : Int → Int} {len : Int} {T : TPT} (hT : TK by_ len T) (h16 : sc 16 = 0) (h : LK by_ len T.2.2.2.1 sc) : PK by_ len (1, T) sc := ⟨hT, h.2.1, h.tok, Or.inr ⟨rfl, h16, h⟩⟩
theorem PK.lk {by_ sc : Int → Int} {len : Int} {q : QT} (h : PK by_ len q sc) (hq : q.1 = 1) : sc 16 = 0 ∧ LK by_ len q.2.2.2.2.1 sc := by
  rcases h.2.2.2 with ⟨e, _⟩ | ⟨_, e⟩
  · omega
  · exact e
theorem PK.f16 {by_ sc : Int → Int} {len : Int} {q : QT} (h : PK by_ len q sc) : (q.1 = 0 ∧ 1 ≤ sc 16 ∧ sc 16 ≤ 3) ∨ (q.1 = 1 ∧ sc 16 = 0) := by
  rcases h.2.2.2 with ⟨e, _, _, e2⟩ | ⟨e, e2, _⟩
  · exact Or.inl ⟨e, e2⟩
  · exact Or.inr ⟨e, e2⟩
theorem PK.bad {by_ sc : Int → Int} {len : Int} {T : TPT} (h : PK by_ len (1, T) sc) {k : Int} (hk : 1 ≤ k ∧ k ≤ 3) : PK by_ len (0, tRef T k) (fu (fu sc 16 k) 17 (sc 13)) := ⟨h.1, h.2.1, h.2.2.1, Or.inl ⟨rfl, rfl, (h.lk rfl).2.1, hk⟩⟩
theorem PK.l19 {by_ sc : Int → Int} {len : Int} {q : QT} (h : PK by_ len q sc) (v : Int) : PK by_ len q (fu sc 19 v) := h
def mSg (q : QT) (c : Int) : QT := if q.1 = 0 then q else tSign q.2 c
def mNm (q : QT) (most : Int) : Int × QT := if q.1 = 0 then (0, q) else if (tNum q.2 most).1 < 0 then (0, 0, (tNum q.2 most).2) else ((tNum q.2 most).1, 1, (tNum q.2 most).2)
def mMu (q : QT) (v cu : Int) : QT := if q.1 = 0 then q else if v = 0 then (0, tRef q.2 1) else (1, tAt q.2 cu)
theorem tNum_le (T : TPT) {most : Int} (h : 0 ≤ most) : -1 ≤ (tNum T most).1 ∧ (tNum T most).1 ≤ most ∨ (tNum T most).1 < 0 := by
  unfold tNum tNumV
  (repeat' split) <;> dsimp only <;> omega
theorem mNm_b (q : QT) {most : Int} (h : 0 ≤ most) : 0 ≤ (mNm q most).1 ∧ (mNm q most).1 ≤ most := by
  have := tNum_le q.2 h
  unfold mNm
  (repeat' split) <;> dsimp only <;> omega
theorem LK_nx {by_ sc : Int → Int} {len : Int} {T : TPT} (hby : ∀ i, 0 ≤ i → i < 120 → 0 ≤ by_ i ∧ by_ i ≤ 255) (hln : 0 ≤ len ∧ len ≤ 120) (hT : TK by_ len T) (h : LK by_ len T.2.2.2.1 sc) : (sc 14 = 2 ↔ 97 ≤ tNext T ∧ tNext T ≤ 122) ∧ (sc 14 = 2 → sc 15 = tNext T ∧ sc 12 = T.2.2.2.1 + 1 ∧ T.2.2.2.1 < len) ∧ (sc 14 = 1 ↔ tNext T = -1) ∧ (sc 14 = 4 ↔ (tNext T = 44 ∨ tNext T = 59)) ∧ (sc 14 = 4 → sc 15 = tNext T ∧ sc 12 = T.2.2.2.1 + 1 ∧ T.2.2.2.1 < len) := by
  have e : tNext T = if T.2.2.2.1 < len then by_ T.2.2.2.1 else -1 := by
    unfold tNext
    rw [hT.1, hT.2.1]
  have hT3 := hT.2.2
  unfold LK at h
  by_cases c : T.2.2.2.1 < len
  · rw [if_pos c] at e
    have hb := hby T.2.2.2.1 hT3.1 (by omega)
    rw [e]
    refine ⟨?_, ?_, ?_, ?_, ?_⟩ <;> omega
  · rw [if_neg c] at e
    rw [e]
    refine ⟨?_, ?_, ?_, ?_, ?_⟩ <;> omega
theorem LK_num {by_ sc : Int → Int} {len : Int} {T : TPT} (hT : TK by_ len T) (h : LK by_ len T.2.2.2.1 sc) (most : Int) : (sc 14 = 3 ∧ 0 ≤ sc 15 ∧ sc 15 ≤ 99 ∧ ∃ k, tNum T most = tNumV T most (sc 15) k ∧ sc 12 = T.2.2.2.1 + k ∧ T.2.2.2.1 + k ≤ len ∧ 1 ≤ k) ∨ (¬ sc 14 = 3 ∧ tNum T most = (-1, tRef T 1)) := by
  have ef : ∀ p, tFig T p ↔ fg by_ len p := fun p => by
    unfold fg
    show (p < T.2.2.1 ∧ 48 ≤ T.1 p ∧ T.1 p ≤ 57) ↔ _
    rw [hT.1, hT.2.1]
  unfold LK at h
  obtain ⟨h13, hb, h⟩ := h
  rcases h with ⟨h1, h2, h3⟩ | ⟨h1, h2, h3, h4, h5, h6⟩ | ⟨h1, h2, h3, h⟩ | ⟨h1, h2, h3, h4, h5⟩ | ⟨h1, h2, h3, h4, h5, h6, h7⟩
  · refine Or.inr ⟨by omega, ?_⟩
    unfold tNum
    exact if_pos (fun q => by have q := (ef _).mp q; unfold fg at q; omega)
  · refine Or.inr ⟨by omega, ?_⟩
    unfold tNum
    exact if_pos (fun q => by have q := (ef _).mp q; unfold fg at q; omega)
  · have hf : tFig T T.2.2.2.1 := (ef _).mpr ⟨h1, h2, h3⟩
    rcases h with ⟨g1, g2, g3, g4⟩ | ⟨g1, g2, g3, g4, g5⟩ | ⟨g1, g2, g3, g4, g5⟩
    · refine Or.inl ⟨g2, by omega, by omega, 1, ?_, g4, by omega, by omega⟩
      unfold tNum
      rw [if_neg (not_not_intro hf), if_pos (fun q => g1 ((ef _).mp q)), g3, hT.1]
    · have g1' := g1
      unfold fg at g1'
      refine Or.inl ⟨g3, by omega, by omega, 2, ?_, g5, by omega, by omega⟩
      unfold tNum
      rw [if_neg (not_not_intro hf), if_neg (not_not_intro ((ef _).mpr g1)), if_pos (fun q => g2 ((ef _).mp q)), g4, hT.1]
    · refine Or.inr ⟨by omega, ?_⟩
      unfold tNum
      rw [if_neg (not_not_intro hf), if_neg (not_not_intro ((ef _).mpr g1)), if_neg (not_not_intro ((ef _).mpr g2))]
  · refine Or.inr ⟨by omega, ?_⟩
    unfold tNum
    exact if_pos (fun q => by have q := (ef _).mp q; unfold fg at q; omega)
  · refine Or.inr ⟨by omega, ?_⟩
    unfold tNum
    exact if_pos (fun q => by have q := (ef _).mp q; unfold fg at q; omega)
theorem mMu_0 {by_ sc : Int → Int} {len : Int} {q : QT} (hby : ∀ i, 0 ≤ i → i < 120 → 0 ≤ by_ i ∧ by_ i ≤ 255) (hln : 0 ≤ len ∧ len ≤ 120) (hq : PK by_ len q sc) {c cu : Int} (hc : c = 44 ∨ c = 59) (hn : ¬ (sc 14 = 4 ∧ sc 15 = c)) : mMu q 0 cu = mSg q c := by
  unfold mMu mSg
  rcases hq.2.2.2 with ⟨e, _⟩ | ⟨e, _, l⟩
  · rw [if_pos e, if_pos e]
  · obtain ⟨-, -, -, z4, z5⟩ := LK_nx hby hln hq.1 l
    rw [if_neg (by omega), if_pos rfl, if_neg (by omega)]
    unfold tSign
    rw [if_neg (by omega)]
theorem mMu_1 {by_ sc : Int → Int} {len : Int} {q : QT} (hby : ∀ i, 0 ≤ i → i < 120 → 0 ≤ by_ i ∧ by_ i ≤ 255) (hln : 0 ≤ len ∧ len ≤ 120) (hq : PK by_ len q sc) {c : Int} (hn : sc 14 = 4 ∧ sc 15 = c) : mMu q 1 (sc 12) = mSg q c := by
  unfold mMu mSg
  rcases hq.2.2.2 with ⟨e, _⟩ | ⟨e, _, l⟩
  · rw [if_pos e, if_pos e]
  · obtain ⟨-, -, -, z4, z5⟩ := LK_nx hby hln hq.1 l
    rw [if_neg (by omega), if_neg (by decide), if_neg (by omega)]
    unfold tSign
    rw [if_pos (by omega), (z5 hn.1).2.1]
set_option maxRecDepth 20000 in
theorem ct_X12_must {s : YT} {sc fr : Int → Int} {by_ : Int → Int} {len : Int} {M : gM} {n : Int} (htl : s.1 11 = len) (htp : ∀ i, 0 ≤ i → i < len → s.2 7 i = by_ i) (hby : ∀ i, 0 ≤ i → i < 120 → 0 ≤ by_ i ∧ by_ i ≤ 255) (hln : 0 ≤ len ∧ len ≤ 120) {q : QT} (hq : PK by_ len q sc) {v : Int} (hv : v = 0 ∨ v = 1) : CT yX12_must cX12_must 2 none (rmk 2 0 0) [vr 152, vi v] (YO (pZ s sc fr) M) n (fun r M2 n2 => r = none ∧ n2 = n ∧ ∃ sc2, M2 = YO (pZ s sc2 fr) M ∧ sc2 19 = sc 19 ∧ PK by_ len (mMu q v (sc 12)) sc2) := by
  refine CT.of (by decide) (fun _ => Nat.le_of_ble_eq_true rfl) (fun κ C E => ?_)
  show G κ (YO (pZ s sc fr) M) n [some (vr 152), some (vi v)] 0 [] 0 0
  have hT := hq.1
  rcases hq.2.2.2 with ⟨q1, f1, f2, f3, f4⟩ | ⟨q1, f1, f2⟩
  · refine s_n1_iload C dX12_must_0 ?_
    refine g_if_ne 9 C dX12_must_1 (by decide) (by first | assumption | (unfold iR; omega)) (fun c1 => ?_) (fun c1 => ?_)
    · refine s_n0_aload C dX12_must_9 ?_
      refine g_get C fd_X12_75_12 dX12_must_10 (YO_o ..) rfl ?_
      show G κ _ _ _ _ (vi (sc 16) :: _) _ _
      refine g_if_ne 20 C dX12_must_13 (by decide) (by first | assumption | (unfold iR; omega)) (fun c13 => ?_) (fun c13 => by exfalso; omega)
      refine g_vret C E dX12_must_20 (by decide) ?_
      exact ⟨rfl, rfl, sc, rfl, rfl, by unfold mMu; rw [if_pos q1]; exact hq⟩
    · refine s_n0_aload C dX12_must_4 ?_
      refine g_iconst C dX12_must_5 ?_
      refine g_invV C (ct_X12_bad (sc := sc) (k := 1) (by unfold iR; omega)) (YO_o ..) cv_X12_102_12 (rmk_ok (by decide) (by decide) (by decide) (by decide)) (Nat.le_of_ble_eq_true rfl) rfl dX12_must_6 rfl (q_v0 ?_)
      rw [if_neg (by omega)]
      refine s_n0_aload C dX12_must_9 ?_
      refine g_get C fd_X12_75_12 dX12_must_10 (YO_o ..) rfl ?_
      show G κ _ _ _ _ (vi (sc 16) :: _) _ _
      refine g_if_ne 20 C dX12_must_13 (by decide) (by first | assumption | (unfold iR; omega)) (fun c13 => ?_) (fun c13 => by exfalso; omega)
      refine g_vret C E dX12_must_20 (by decide) ?_
      exact ⟨rfl, rfl, sc, rfl, rfl, by unfold mMu; rw [if_pos q1]; exact hq⟩
  · have hcu := f2.cur hT.2.2.1
    refine s_n1_iload C dX12_must_0 ?_
    refine g_if_ne 9 C dX12_must_1 (by decide) (by first | assumption | (unfold iR; omega)) (fun c1 => ?_) (fun c1 => ?_)
    · refine s_n0_aload C dX12_must_9 ?_
      refine g_get C fd_X12_75_12 dX12_must_10 (YO_o ..) rfl ?_
      show G κ _ _ _ _ (vi (sc 16) :: _) _ _
      refine g_if_ne 20 C dX12_must_13 (by decide) (by first | assumption | (unfold iR; omega)) (fun c13 => by exfalso; omega) (fun c13 => ?_)
      refine s_n0_aload C dX12_must_16 ?_
      refine g_invV C (ct_X12_nextToken (sc := sc) htl htp hby hln (a := sc 12) rfl hcu) (YO_o ..) cv_X12_106_12 (rmk_ok (by decide) (by decide) (by decide) (by decide)) (Nat.le_of_ble_eq_true rfl) rfl dX12_must_17 rfl (fun r M9 n9 h9 => ?_)
      obtain ⟨r9, n9e, sc2, m9, p9, e9, -, k9⟩ := h9
      subst r9
      rw [n9e, m9]
      show G κ _ _ _ _ _ 0 0
      refine g_vret C E dX12_must_20 (by decide) ?_
      exact ⟨rfl, rfl, sc2, rfl, k9, by unfold mMu; rw [if_neg (by omega), if_neg (by omega)]; exact PK.of ⟨hT.1, hT.2.1, hcu.1, hcu.2⟩ (e9.trans f1) p9⟩
    · refine s_n0_aload C dX12_must_4 ?_
      refine g_iconst C dX12_must_5 ?_
      refine g_invV C (ct_X12_bad (sc := sc) (k := 1) (by unfold iR; omega)) (YO_o ..) cv_X12_102_12 (rmk_ok (by decide) (by decide) (by decide) (by decide)) (Nat.le_of_ble_eq_true rfl) rfl dX12_must_6 rfl (q_v0 ?_)
      rw [if_pos f1]
      refine s_n0_aload C dX12_must_9 ?_
      refine g_get C fd_X12_75_12 dX12_must_10 (YO_o ..) rfl ?_
      show G κ _ _ _ _ (vi (1 : Int) :: _) _ _
      refine g_if_ne 20 C dX12_must_13 (by decide) (by first | assumption | (unfold iR; omega)) (fun c13 => ?_) (fun c13 => by exfalso; omega)
      refine g_vret C E dX12_must_20 (by decide) ?_
      exact ⟨rfl, rfl, _, rfl, rfl, by unfold mMu; rw [if_neg (by omega), if_pos (by omega)]; exact PK.bad (T := q.2) (by rw [← q1]; exact hq) (by omega)⟩
set_option maxRecDepth 20000 in
theorem ct_X12_isLetter {s : YT} {sc fr : Int → Int} {by_ : Int → Int} {len : Int} {M : gM} {n : Int} (htl : s.1 11 = len) (htp : ∀ i, 0 ≤ i → i < len → s.2 7 i = by_ i) (hby : ∀ i, 0 ≤ i → i < 120 → 0 ≤ by_ i ∧ by_ i ≤ 255) (hln : 0 ≤ len ∧ len ≤ 120) {q : QT} (hq : PK by_ len q sc) {c : Int} (hc : 97 ≤ c ∧ c ≤ 122) : CT yX12_isLetter cX12_isLetter 2 (some .boolean) (rmk 0 0 0) [vr 152, vi c] (YO (pZ s sc fr) M) n (qr (some (vi (if q.1 = 1 ∧ tNext q.2 = c then 1 else 0))) (YO (pZ s sc fr) M) n) := by
  refine CT.of (by decide) (fun _ => Nat.le_of_ble_eq_true rfl) (fun κ C E => ?_)
  show G κ (YO (pZ s sc fr) M) n [some (vr 152), some (vi c)] 0 [] 0 0
  have hT := hq.1
  have hb := hq.2.1
  have ht := hq.2.2.1
  have hf := hq.f16
  refine s_n0_aload C dX12_isLetter_0 ?_
  refine g_get C fd_X12_75_12 dX12_isLetter_1 (YO_o ..) rfl ?_
  show G κ _ _ _ _ (vi (sc 16) :: _) _ _
  refine g_if_ne 27 C dX12_isLetter_4 (by decide) (by first | assumption | (unfold iR; omega)) (fun c4 => ?_) (fun c4 => ?_)
  · refine g_iconst C dX12_isLetter_27 ?_
    refine g_zret C E dX12_isLetter_28 (by decide) (by omega) ?_
    rw [if_neg (by omega)]
    exact ⟨rfl, rfl, rfl⟩
  · have hz := LK_nx hby hln hT (hq.lk (by omega)).2
    obtain ⟨z1, z2, -⟩ := hz
    refine s_n0_aload C dX12_isLetter_7 ?_
    refine g_get C fd_X12_99_12 dX12_isLetter_8 (YO_o ..) rfl ?_
    show G κ _ _ _ _ (vi (sc 14) :: _) _ _
    refine g_iconst C dX12_isLetter_11 ?_
    refine g_icmp_ne 27 C dX12_isLetter_12 (by decide) (by first | assumption | (unfold iR; omega)) (by first | assumption | (unfold iR; omega)) (fun c12 => ?_) (fun c12 => ?_)
    · refine g_iconst C dX12_isLetter_27 ?_
      refine g_zret C E dX12_isLetter_28 (by decide) (by omega) ?_
      rw [if_neg (by omega)]
      exact ⟨rfl, rfl, rfl⟩
    · refine s_n0_aload C dX12_isLetter_15 ?_
      refine g_get C fd_X12_88_12 dX12_isLetter_16 (YO_o ..) rfl ?_
      show G κ _ _ _ _ (vi (sc 15) :: _) _ _
      refine s_n1_iload C dX12_isLetter_19 ?_
      refine g_icmp_ne 27 C dX12_isLetter_20 (by decide) (by first | assumption | (unfold iR; omega)) (by first | assumption | (unfold iR; omega)) (fun c20 => ?_) (fun c20 => ?_)
      · refine g_iconst C dX12_isLetter_27 ?_
        refine g_zret C E dX12_isLetter_28 (by decide) (by omega) ?_
        rw [if_neg (by omega)]
        exact ⟨rfl, rfl, rfl⟩
      · refine g_iconst C dX12_isLetter_23 ?_
        refine g_goto 28 C dX12_isLetter_24 (by decide) ?_
        refine g_zret C E dX12_isLetter_28 (by decide) (by omega) ?_
        rw [if_pos (by omega)]
        exact ⟨rfl, rfl, rfl⟩
set_option maxRecDepth 20000 in
theorem ct_X12_number {s : YT} {sc fr : Int → Int} {by_ : Int → Int} {len : Int} {M : gM} {n : Int} (htl : s.1 11 = len) (htp : ∀ i, 0 ≤ i → i < len → s.2 7 i = by_ i) (hby : ∀ i, 0 ≤ i → i < 120 → 0 ≤ by_ i ∧ by_ i ≤ 255) (hln : 0 ≤ len ∧ len ≤ 120) {q : QT} (hq : PK by_ len q sc) {most : Int} (hm : 0 ≤ most ∧ most ≤ 99) : CT yX12_number cX12_number 4 (some .int) (rmk 3 0 0) [vr 152, vi 0, vi most] (YO (pZ s sc fr) M) n (fun r M2 n2 => r = some (vi (mNm q most).1) ∧ n2 = n ∧ ∃ sc2, M2 = YO (pZ s sc2 fr) M ∧ sc2 19 = sc 19 ∧ PK by_ len ((mNm q most).2) sc2) := by
  refine CT.of (by decide) (fun _ => Nat.le_of_ble_eq_true rfl) (fun κ C E => ?_)
  show G κ (YO (pZ s sc fr) M) n [some (vr 152), some (vi 0), some (vi most), none] 0 [] 0 0
  have hT := hq.1
  have hb := hq.2.1
  have ht := hq.2.2.1
  rcases hq.2.2.2 with ⟨q1, f1, f2, f3, f4⟩ | ⟨q1, f1, f2⟩
  · refine s_n0_aload C dX12_number_0 ?_
    refine g_get C fd_X12_75_12 dX12_number_1 (YO_o ..) rfl ?_
    show G κ _ _ _ _ (vi (sc 16) :: _) _ _
    refine g_if_ne 20 C dX12_number_4 (by decide) (by first | assumption | (unfold iR; omega)) (fun c4 => ?_) (fun c4 => by exfalso; omega)
    refine s_n0_aload C dX12_number_20 ?_
    refine g_get C fd_X12_75_12 dX12_number_21 (YO_o ..) rfl ?_
    show G κ _ _ _ _ (vi (sc 16) :: _) _ _
    refine g_if_ne 47 C dX12_number_24 (by decide) (by first | assumption | (unfold iR; omega)) (fun c24 => ?_) (fun c24 => by exfalso; omega)
    refine s_n0_aload C dX12_number_47 ?_
    refine g_get C fd_X12_75_12 dX12_number_48 (YO_o ..) rfl ?_
    show G κ _ _ _ _ (vi (sc 16) :: _) _ _
    refine g_if_ne 61 C dX12_number_51 (by decide) (by first | assumption | (unfold iR; omega)) (fun c51 => ?_) (fun c51 => by exfalso; omega)
    refine s_n1_iload C dX12_number_61 ?_
    refine s_n3_istore C dX12_number_62 rfl ?_
    refine s_n0_aload C dX12_number_63 ?_
    refine g_iconst C dX12_number_64 ?_
    refine g_invV C (ct_X12_must (sc := sc) (q := q) htl htp hby hln hq (v := 1) (by omega)) (YO_o ..) cv_X12_109_12 (rmk_ok (by decide) (by decide) (by decide) (by decide)) (Nat.le_of_ble_eq_true rfl) rfl dX12_number_65 rfl (fun r M9 n9 h9 => ?_)
    obtain ⟨r9, n9e, sc2, m9, k9, p9⟩ := h9
    subst r9
    rw [n9e, m9]
    show G κ _ _ _ _ _ 0 0
    clear m9
    refine s_n3_iload C dX12_number_68 ?_
    refine g_iret C E dX12_number_69 (by decide) ?_
    have e0 : mNm q most = (0, q) := by unfold mNm; rw [if_pos q1]
    have e1 : mMu q 1 (sc 12) = q := by unfold mMu; rw [if_pos q1]
    rw [e1] at p9
    exact ⟨by rw [e0], rfl, sc2, rfl, k9, by rw [e0]; exact p9⟩
  · have hq1 : PK by_ len (1, q.2) sc := by rw [← q1]; exact hq
    rcases LK_num hT f2 most with ⟨t1, t2, t3, k, t4, t5, t6, t7⟩ | ⟨t1, t2⟩
    · by_cases hm2 : sc 15 ≤ most
      · refine s_n0_aload C dX12_number_0 ?_
        refine g_get C fd_X12_75_12 dX12_number_1 (YO_o ..) rfl ?_
        show G κ _ _ _ _ (vi (sc 16) :: _) _ _
        refine g_if_ne 20 C dX12_number_4 (by decide) (by first | assumption | (unfold iR; omega)) (fun c4 => by exfalso; omega) (fun c4 => ?_)
        refine s_n0_aload C dX12_number_7 ?_
        refine g_get C fd_X12_99_12 dX12_number_8 (YO_o ..) rfl ?_
        show G κ _ _ _ _ (vi (sc 14) :: _) _ _
        refine g_iconst C dX12_number_11 ?_
        refine g_icmp_eq 20 C dX12_number_12 (by decide) (by first | assumption | (unfold iR; omega)) (by first | assumption | (unfold iR; omega)) (fun c12 => ?_) (fun c12 => by exfalso; omega)
        refine s_n0_aload C dX12_number_20 ?_
        refine g_get C fd_X12_75_12 dX12_number_21 (YO_o ..) rfl ?_
        show G κ _ _ _ _ (vi (sc 16) :: _) _ _
        refine g_if_ne 47 C dX12_number_24 (by decide) (by first | assumption | (unfold iR; omega)) (fun c24 => by exfalso; omega) (fun c24 => ?_)
        refine s_n0_aload C dX12_number_27 ?_
        refine g_get C fd_X12_88_12 dX12_number_28 (YO_o ..) rfl ?_
        show G κ _ _ _ _ (vi (sc 15) :: _) _ _
        refine g_i2l C dX12_number_31 (by first | assumption | (unfold iR; omega)) ?_
        refine s_n1_iload C dX12_number_32 ?_
        refine g_i2l C dX12_number_33 (by first | assumption | (unfold iR; omega)) ?_
        refine s_n2_iload C dX12_number_34 ?_
        refine g_i2l C dX12_number_35 (by first | assumption | (unfold iR; omega)) ?_
        refine g_invS C (ct_X12_in (v := sc 15) (by unfold lR; omega) (by unfold lR; omega) (by unfold lR; omega)) cs_X12_54 (rmk_ok (by decide) (by decide) (by decide) (by decide)) (Nat.le_of_ble_eq_true rfl) rfl dX12_number_36 rfl (q_r0 ?_)
        refine g_bifne 47 C dX12_number_39 (by decide)  (fun c39 => ?_) (fun c39 => by exfalso; omega)
        refine s_n0_aload C dX12_number_47 ?_
        refine g_get C fd_X12_75_12 dX12_number_48 (YO_o ..) rfl ?_
        show G κ _ _ _ _ (vi (sc 16) :: _) _ _
        refine g_if_ne 61 C dX12_number_51 (by decide) (by first | assumption | (unfold iR; omega)) (fun c51 => by exfalso; omega) (fun c51 => ?_)
        refine s_n0_aload C dX12_number_54 ?_
        refine g_get C fd_X12_88_12 dX12_number_55 (YO_o ..) rfl ?_
        show G κ _ _ _ _ (vi (sc 15) :: _) _ _
        refine g_goto 62 C dX12_number_58 (by decide) ?_
        refine s_n3_istore C dX12_number_62 rfl ?_
        refine s_n0_aload C dX12_number_63 ?_
        refine g_iconst C dX12_number_64 ?_
        refine g_invV C (ct_X12_must (sc := sc) (q := q) htl htp hby hln hq (v := 1) (by omega)) (YO_o ..) cv_X12_109_12 (rmk_ok (by decide) (by decide) (by decide) (by decide)) (Nat.le_of_ble_eq_true rfl) rfl dX12_number_65 rfl (fun r M9 n9 h9 => ?_)
        obtain ⟨r9, n9e, sc2, m9, k9, p9⟩ := h9
        subst r9
        rw [n9e, m9]
        show G κ _ _ _ _ _ 0 0
        clear m9
        refine s_n3_iload C dX12_number_68 ?_
        refine g_iret C E dX12_number_69 (by decide) ?_
        have e0 : mNm q most = (sc 15, 1, tAt q.2 (sc 12)) := by
          unfold mNm
          rw [if_neg (by omega), t4]
          unfold tNumV
          rw [if_pos hm2, if_neg (by dsimp only; omega), t5]
        have e1 : mMu q 1 (sc 12) = (1, tAt q.2 (sc 12)) := by unfold mMu; rw [if_neg (by omega), if_neg (by decide)]
        rw [e1] at p9
        exact ⟨by rw [e0], rfl, sc2, rfl, k9, by rw [e0]; exact p9⟩
      · refine s_n0_aload C dX12_number_0 ?_
        refine g_get C fd_X12_75_12 dX12_number_1 (YO_o ..) rfl ?_
        show G κ _ _ _ _ (vi (sc 16) :: _) _ _
        refine g_if_ne 20 C dX12_number_4 (by decide) (by first | assumption | (unfold iR; omega)) (fun c4 => by exfalso; omega) (fun c4 => ?_)
        refine s_n0_aload C dX12_number_7 ?_
        refine g_get C fd_X12_99_12 dX12_number_8 (YO_o ..) rfl ?_
        show G κ _ _ _ _ (vi (sc 14) :: _) _ _
        refine g_iconst C dX12_number_11 ?_
        refine g_icmp_eq 20 C dX12_number_12 (by decide) (by first | assumption | (unfold iR; omega)) (by first | assumption | (unfold iR; omega)) (fun c12 => ?_) (fun c12 => by exfalso; omega)
        refine s_n0_aload C dX12_number_20 ?_
        refine g_get C fd_X12_75_12 dX12_number_21 (YO_o ..) rfl ?_
        show G κ _ _ _ _ (vi (sc 16) :: _) _ _
        refine g_if_ne 47 C dX12_number_24 (by decide) (by first | assumption | (unfold iR; omega)) (fun c24 => by exfalso; omega) (fun c24 => ?_)
        refine s_n0_aload C dX12_number_27 ?_
        refine g_get C fd_X12_88_12 dX12_number_28 (YO_o ..) rfl ?_
        show G κ _ _ _ _ (vi (sc 15) :: _) _ _
        refine g_i2l C dX12_number_31 (by first | assumption | (unfold iR; omega)) ?_
        refine s_n1_iload C dX12_number_32 ?_
        refine g_i2l C dX12_number_33 (by first | assumption | (unfold iR; omega)) ?_
        refine s_n2_iload C dX12_number_34 ?_
        refine g_i2l C dX12_number_35 (by first | assumption | (unfold iR; omega)) ?_
        refine g_invS C (ct_X12_in (v := sc 15) (by unfold lR; omega) (by unfold lR; omega) (by unfold lR; omega)) cs_X12_54 (rmk_ok (by decide) (by decide) (by decide) (by decide)) (Nat.le_of_ble_eq_true rfl) rfl dX12_number_36 rfl (q_r0 ?_)
        refine g_bifne 47 C dX12_number_39 (by decide)  (fun c39 => by exfalso; omega) (fun c39 => ?_)
        refine s_n0_aload C dX12_number_42 ?_
        refine g_iconst C dX12_number_43 ?_
        refine g_invV C (ct_X12_bad (sc := sc) (k := 2) (by unfold iR; omega)) (YO_o ..) cv_X12_102_12 (rmk_ok (by decide) (by decide) (by decide) (by decide)) (Nat.le_of_ble_eq_true rfl) rfl dX12_number_44 rfl (q_v0 ?_)
        rw [if_pos f1]
        refine s_n0_aload C dX12_number_47 ?_
        refine g_get C fd_X12_75_12 dX12_number_48 (YO_o ..) rfl ?_
        show G κ _ _ _ _ (vi (2 : Int) :: _) _ _
        refine g_if_ne 61 C dX12_number_51 (by decide) (by first | assumption | (unfold iR; omega)) (fun c51 => ?_) (fun c51 => by exfalso; omega)
        refine s_n1_iload C dX12_number_61 ?_
        refine s_n3_istore C dX12_number_62 rfl ?_
        refine s_n0_aload C dX12_number_63 ?_
        refine g_iconst C dX12_number_64 ?_
        refine g_invV C (ct_X12_must (sc := (fu (fu sc 16 2) 17 (sc 13))) (q := (0, tRef q.2 2)) htl htp hby hln (hq1.bad (by omega)) (v := 1) (by omega)) (YO_o ..) cv_X12_109_12 (rmk_ok (by decide) (by decide) (by decide) (by decide)) (Nat.le_of_ble_eq_true rfl) rfl dX12_number_65 rfl (fun r M9 n9 h9 => ?_)
        obtain ⟨r9, n9e, sc2, m9, k9, p9⟩ := h9
        subst r9
        rw [n9e, m9]
        show G κ _ _ _ _ _ 0 0
        clear m9
        refine s_n3_iload C dX12_number_68 ?_
        refine g_iret C E dX12_number_69 (by decide) ?_
        have e0 : mNm q most = (0, 0, tRef q.2 2) := by
          unfold mNm
          rw [if_neg (by omega), t4]
          unfold tNumV
          rw [if_neg hm2, if_pos (by dsimp only; omega)]
        have e1 : mMu (0, tRef q.2 2) 1 ((fu (fu sc 16 2) 17 (sc 13)) 12) = (0, tRef q.2 2) := by unfold mMu; rw [if_pos rfl]
        rw [e1] at p9
        exact ⟨by rw [e0], rfl, sc2, rfl, k9, by rw [e0]; exact p9⟩
    · refine s_n0_aload C dX12_number_0 ?_
      refine g_get C fd_X12_75_12 dX12_number_1 (YO_o ..) rfl ?_
      show G κ _ _ _ _ (vi (sc 16) :: _) _ _
      refine g_if_ne 20 C dX12_number_4 (by decide) (by first | assumption | (unfold iR; omega)) (fun c4 => by exfalso; omega) (fun c4 => ?_)
      refine s_n0_aload C dX12_number_7 ?_
      refine g_get C fd_X12_99_12 dX12_number_8 (YO_o ..) rfl ?_
      show G κ _ _ _ _ (vi (sc 14) :: _) _ _
      refine g_iconst C dX12_number_11 ?_
      refine g_icmp_eq 20 C dX12_number_12 (by decide) (by first | assumption | (unfold iR; omega)) (by first | assumption | (unfold iR; omega)) (fun c12 => by exfalso; omega) (fun c12 => ?_)
      refine s_n0_aload C dX12_number_15 ?_
      refine g_iconst C dX12_number_16 ?_
      refine g_invV C (ct_X12_bad (sc := sc) (k := 1) (by unfold iR; omega)) (YO_o ..) cv_X12_102_12 (rmk_ok (by decide) (by decide) (by decide) (by decide)) (Nat.le_of_ble_eq_true rfl) rfl dX12_number_17 rfl (q_v0 ?_)
      rw [if_pos f1]
      refine s_n0_aload C dX12_number_20 ?_
      refine g_get C fd_X12_75_12 dX12_number_21 (YO_o ..) rfl ?_
      show G κ _ _ _ _ (vi (1 : Int) :: _) _ _
      refine g_if_ne 47 C dX12_number_24 (by decide) (by first | assumption | (unfold iR; omega)) (fun c24 => ?_) (fun c24 => by exfalso; omega)
      refine s_n0_aload C dX12_number_47 ?_
      refine g_get C fd_X12_75_12 dX12_number_48 (YO_o ..) rfl ?_
      show G κ _ _ _ _ (vi (1 : Int) :: _) _ _
      refine g_if_ne 61 C dX12_number_51 (by decide) (by first | assumption | (unfold iR; omega)) (fun c51 => ?_) (fun c51 => by exfalso; omega)
      refine s_n1_iload C dX12_number_61 ?_
      refine s_n3_istore C dX12_number_62 rfl ?_
      refine s_n0_aload C dX12_number_63 ?_
      refine g_iconst C dX12_number_64 ?_
      refine g_invV C (ct_X12_must (sc := (fu (fu sc 16 1) 17 (sc 13))) (q := (0, tRef q.2 1)) htl htp hby hln (hq1.bad (by omega)) (v := 1) (by omega)) (YO_o ..) cv_X12_109_12 (rmk_ok (by decide) (by decide) (by decide) (by decide)) (Nat.le_of_ble_eq_true rfl) rfl dX12_number_65 rfl (fun r M9 n9 h9 => ?_)
      obtain ⟨r9, n9e, sc2, m9, k9, p9⟩ := h9
      subst r9
      rw [n9e, m9]
      show G κ _ _ _ _ _ 0 0
      clear m9
      refine s_n3_iload C dX12_number_68 ?_
      refine g_iret C E dX12_number_69 (by decide) ?_
      have e0 : mNm q most = (0, 0, tRef q.2 1) := by
        unfold mNm
        rw [if_neg (by omega), t2, if_pos (by dsimp only; omega)]
      have e1 : mMu (0, tRef q.2 1) 1 ((fu (fu sc 16 1) 17 (sc 13)) 12) = (0, tRef q.2 1) := by unfold mMu; rw [if_pos rfl]
      rw [e1] at p9
      exact ⟨by rw [e0], rfl, sc2, rfl, k9, by rw [e0]; exact p9⟩
set_option maxRecDepth 20000 in
theorem ct_X12_mustSign {s : YT} {sc fr : Int → Int} {by_ : Int → Int} {len : Int} {M : gM} {n : Int} (htl : s.1 11 = len) (htp : ∀ i, 0 ≤ i → i < len → s.2 7 i = by_ i) (hby : ∀ i, 0 ≤ i → i < 120 → 0 ≤ by_ i ∧ by_ i ≤ 255) (hln : 0 ≤ len ∧ len ≤ 120) {q : QT} (hq : PK by_ len q sc) {c : Int} (hc : c = 44 ∨ c = 59) : CT yX12_mustSign cX12_mustSign 2 none (rmk 3 0 0) [vr 152, vi c] (YO (pZ s sc fr) M) n (fun r M2 n2 => r = none ∧ n2 = n ∧ ∃ sc2, M2 = YO (pZ s sc2 fr) M ∧ sc2 19 = sc 19 ∧ PK by_ len (mSg q c) sc2) := by
  refine CT.of (by decide) (fun _ => Nat.le_of_ble_eq_true rfl) (fun κ C E => ?_)
  show G κ (YO (pZ s sc fr) M) n [some (vr 152), some (vi c)] 0 [] 0 0
  have hb := hq.2.1
  have ht := hq.2.2.1
  refine s_n0_aload C dX12_mustSign_0 ?_
  refine s_n0_aload C dX12_mustSign_1 ?_
  refine g_get C fd_X12_99_12 dX12_mustSign_2 (YO_o ..) rfl ?_
  show G κ _ _ _ _ (vi (sc 14) :: _) _ _
  refine g_iconst C dX12_mustSign_5 ?_
  refine g_icmp_ne 21 C dX12_mustSign_6 (by decide) (by first | assumption | (unfold iR; omega)) (by first | assumption | (unfold iR; omega)) (fun c6 => ?_) (fun c6 => ?_)
  · refine g_iconst C dX12_mustSign_21 ?_
    refine g_invV C (ct_X12_must (sc := sc) (q := q) htl htp hby hln hq (v := 0) (by omega)) (YO_o ..) cv_X12_109_12 (rmk_ok (by decide) (by decide) (by decide) (by decide)) (Nat.le_of_ble_eq_true rfl) rfl dX12_mustSign_22 rfl (fun r M9 n9 h9 => ?_)
    obtain ⟨r9, n9e, sc2, m9, k9, p9⟩ := h9
    subst r9
    rw [n9e, m9]
    show G κ _ _ _ _ _ 0 0
    clear m9
    refine g_vret C E dX12_mustSign_25 (by decide) ?_
    rw [mMu_0 hby hln hq hc (by omega)] at p9
    exact ⟨rfl, rfl, sc2, rfl, k9, p9⟩
  · refine s_n0_aload C dX12_mustSign_9 ?_
    refine g_get C fd_X12_88_12 dX12_mustSign_10 (YO_o ..) rfl ?_
    show G κ _ _ _ _ (vi (sc 15) :: _) _ _
    refine s_n1_iload C dX12_mustSign_13 ?_
    refine g_icmp_ne 21 C dX12_mustSign_14 (by decide) (by first | assumption | (unfold iR; omega)) (by first | assumption | (unfold iR; omega)) (fun c14 => ?_) (fun c14 => ?_)
    · refine g_iconst C dX12_mustSign_21 ?_
      refine g_invV C (ct_X12_must (sc := sc) (q := q) htl htp hby hln hq (v := 0) (by omega)) (YO_o ..) cv_X12_109_12 (rmk_ok (by decide) (by decide) (by decide) (by decide)) (Nat.le_of_ble_eq_true rfl) rfl dX12_mustSign_22 rfl (fun r M9 n9 h9 => ?_)
      obtain ⟨r9, n9e, sc2, m9, k9, p9⟩ := h9
      subst r9
      rw [n9e, m9]
      show G κ _ _ _ _ _ 0 0
      clear m9
      refine g_vret C E dX12_mustSign_25 (by decide) ?_
      rw [mMu_0 hby hln hq hc (by omega)] at p9
      exact ⟨rfl, rfl, sc2, rfl, k9, p9⟩
    · refine g_iconst C dX12_mustSign_17 ?_
      refine g_goto 22 C dX12_mustSign_18 (by decide) ?_
      refine g_invV C (ct_X12_must (sc := sc) (q := q) htl htp hby hln hq (v := 1) (by omega)) (YO_o ..) cv_X12_109_12 (rmk_ok (by decide) (by decide) (by decide) (by decide)) (Nat.le_of_ble_eq_true rfl) rfl dX12_mustSign_22 rfl (fun r M9 n9 h9 => ?_)
      obtain ⟨r9, n9e, sc2, m9, k9, p9⟩ := h9
      subst r9
      rw [n9e, m9]
      show G κ _ _ _ _ _ 0 0
      clear m9
      refine g_vret C E dX12_mustSign_25 (by decide) ?_
      rw [mMu_1 hby hln hq (c := c) (by omega)] at p9
      exact ⟨rfl, rfl, sc2, rfl, k9, p9⟩
set_option maxRecDepth 20000 in
theorem ct_X12_begin {s : YT} {sc fr : Int → Int} {by_ : Int → Int} {len : Int} {M : gM} {n : Int} (htl : s.1 11 = len) (htp : ∀ i, 0 ≤ i → i < len → s.2 7 i = by_ i) (hby : ∀ i, 0 ≤ i → i < 120 → 0 ≤ by_ i ∧ by_ i ≤ 255) (hln : 0 ≤ len ∧ len ≤ 120) {T : TPT} (hT : TK by_ len T) (h0 : T.2.2.2.1 = 0) : CT yX12_begin cX12_begin 1 none (rmk 2 0 0) [vr 152] (YO (pZ s sc fr) M) n (fun r M2 n2 => r = none ∧ n2 = n ∧ ∃ sc2, M2 = YO (pZ s sc2 fr) M ∧ sc2 19 = sc 19 ∧ PK by_ len ((1, T)) sc2) := by
  refine CT.of (by decide) (fun _ => Nat.le_of_ble_eq_true rfl) (fun κ C E => ?_)
  show G κ (YO (pZ s sc fr) M) n [some (vr 152)] 0 [] 0 0
  refine s_n0_aload C dX12_begin_0 ?_
  refine g_iconst C dX12_begin_1 ?_
  refine g_put C fp_X12_84_12 dX12_begin_2 (YO_o ..) (Nat.le_of_ble_eq_true rfl) (gfit_i _) ?_
  rw [pZ_p12]
  refine s_n0_aload C dX12_begin_5 ?_
  refine g_iconst C dX12_begin_6 ?_
  refine g_put C fp_X12_75_12 dX12_begin_7 (YO_o ..) (Nat.le_of_ble_eq_true rfl) (gfit_i _) ?_
  rw [pZ_p16]
  refine s_n0_aload C dX12_begin_10 ?_
  refine g_invV C (ct_X12_nextToken (sc := fu (fu sc 12 0) 16 0) htl htp hby hln (a := 0) rfl (by omega)) (YO_o ..) cv_X12_106_12 (rmk_ok (by decide) (by decide) (by decide) (by decide)) (Nat.le_of_ble_eq_true rfl) rfl dX12_begin_11 rfl (fun r M9 n9 h9 => ?_)
  obtain ⟨r9, n9e, sc2, m9, p9, e9, -, k9⟩ := h9
  subst r9
  rw [n9e, m9]
  show G κ _ _ _ _ _ 0 0
  refine g_vret C E dX12_begin_14 (by decide) ?_
  exact ⟨rfl, rfl, sc2, rfl, k9, PK.of hT e9 (by rw [h0]; exact p9)⟩
def fQ (q : QT) : QT := if q.1 = 0 then q else if tNext q.2 = -1 then q else (0, tRef q.2 1)
set_option maxRecDepth 20000 in
theorem ct_X12_failed {s : YT} {sc fr : Int → Int} {by_ : Int → Int} {len : Int} {M : gM} {n : Int} (htl : s.1 11 = len) (htp : ∀ i, 0 ≤ i → i < len → s.2 7 i = by_ i) (hby : ∀ i, 0 ≤ i → i < 120 → 0 ≤ by_ i ∧ by_ i ≤ 255) (hln : 0 ≤ len ∧ len ≤ 120) {q : QT} (hq : PK by_ len q sc)  : CT yX12_failed cX12_failed 1 (some .boolean) (rmk 1 0 0) [vr 152] (YO (pZ s sc fr) M) n (fun r M2 n2 => r = some (vi (if (fQ q).1 = 0 then 1 else 0)) ∧ n2 = n ∧ ∃ sc2, M2 = YO (fu (fu (pZ s sc2 fr).1 11 0) 18 (if (fQ q).1 = 0 then (fQ q).2.2.2.2.2 else s.1 18), (pZ s sc2 fr).2) M ∧ ((fQ q).1 = 0 → sc2 17 = (fQ q).2.2.2.2.1)) := by
  refine CT.of (by decide) (fun _ => Nat.le_of_ble_eq_true rfl) (fun κ C E => ?_)
  show G κ (YO (pZ s sc fr) M) n [some (vr 152)] 0 [] 0 0
  have hT := hq.1
  have ht := hq.2.2.1
  rcases hq.2.2.2 with ⟨q1, f1, f2, f3, f4⟩ | ⟨q1, f1, f2⟩
  · refine s_n0_aload C dX12_failed_0 ?_
    refine g_get C fd_X12_75_12 dX12_failed_1 (YO_o ..) rfl ?_
    show G κ _ _ _ _ (vi (sc 16) :: _) _ _
    refine g_if_ne 20 C dX12_failed_4 (by decide) (by first | assumption | (unfold iR; omega)) (fun c4 => ?_) (fun c4 => by exfalso; omega)
    refine s_n0_aload C dX12_failed_20 ?_
    refine g_iconst C dX12_failed_21 ?_
    refine g_put C fp_X12_71_12 dX12_failed_22 (YO_o ..) (Nat.le_of_ble_eq_true rfl) (gfit_i _) ?_
    rw [YO_p11]
    refine s_n0_aload C dX12_failed_25 ?_
    refine s_n0_aload C dX12_failed_26 ?_
    refine g_get C fd_X12_75_12 dX12_failed_27 (YO_o ..) rfl ?_
    show G κ _ _ _ _ (vi (sc 16) :: _) _ _
    refine g_if_le 40 C dX12_failed_30 (by decide) (by first | assumption | (unfold iR; omega)) (fun c30 => by exfalso; omega) (fun c30 => ?_)
    refine s_n0_aload C dX12_failed_33 ?_
    refine g_get C fd_X12_75_12 dX12_failed_34 (YO_o ..) rfl ?_
    show G κ _ _ _ _ (vi (sc 16) :: _) _ _
    refine g_goto 44 C dX12_failed_37 (by decide) ?_
    refine g_put C fp_X12_113_12 dX12_failed_44 (YO_o ..) (Nat.le_of_ble_eq_true rfl) (gfit_i _) ?_
    rw [YO_p18]
    refine s_n0_aload C dX12_failed_47 ?_
    refine g_get C fd_X12_75_12 dX12_failed_48 (YO_o ..) rfl ?_
    show G κ _ _ _ _ (vi (sc 16) :: _) _ _
    refine g_if_le 58 C dX12_failed_51 (by decide) (by first | assumption | (unfold iR; omega)) (fun c51 => by exfalso; omega) (fun c51 => ?_)
    refine g_iconst C dX12_failed_54 ?_
    refine g_goto 59 C dX12_failed_55 (by decide) ?_
    refine g_zret C E dX12_failed_59 (by decide) (by exact Or.inr rfl) ?_
    have e0 : fQ q = q := by unfold fQ; rw [if_pos q1]
    rw [e0, if_pos q1, if_pos q1, ← f1]
    exact ⟨rfl, rfl, sc, rfl, fun _ => f2⟩
  · obtain ⟨z1, z2, z3, -⟩ := LK_nx hby hln hT f2
    by_cases h1 : sc 14 = 1
    · refine s_n0_aload C dX12_failed_0 ?_
      refine g_get C fd_X12_75_12 dX12_failed_1 (YO_o ..) rfl ?_
      show G κ _ _ _ _ (vi (sc 16) :: _) _ _
      refine g_if_ne 20 C dX12_failed_4 (by decide) (by first | assumption | (unfold iR; omega)) (fun c4 => by exfalso; omega) (fun c4 => ?_)
      refine s_n0_aload C dX12_failed_7 ?_
      refine g_get C fd_X12_99_12 dX12_failed_8 (YO_o ..) rfl ?_
      show G κ _ _ _ _ (vi (sc 14) :: _) _ _
      refine g_iconst C dX12_failed_11 ?_
      refine g_icmp_eq 20 C dX12_failed_12 (by decide) (by first | assumption | (unfold iR; omega)) (by first | assumption | (unfold iR; omega)) (fun c12 => ?_) (fun c12 => by exfalso; omega)
      refine s_n0_aload C dX12_failed_20 ?_
      refine g_iconst C dX12_failed_21 ?_
      refine g_put C fp_X12_71_12 dX12_failed_22 (YO_o ..) (Nat.le_of_ble_eq_true rfl) (gfit_i _) ?_
      rw [YO_p11]
      refine s_n0_aload C dX12_failed_25 ?_
      refine s_n0_aload C dX12_failed_26 ?_
      refine g_get C fd_X12_75_12 dX12_failed_27 (YO_o ..) rfl ?_
      show G κ _ _ _ _ (vi (sc 16) :: _) _ _
      refine g_if_le 40 C dX12_failed_30 (by decide) (by first | assumption | (unfold iR; omega)) (fun c30 => ?_) (fun c30 => by exfalso; omega)
      refine s_n0_aload C dX12_failed_40 ?_
      refine g_get C fd_X12_113_12 dX12_failed_41 (YO_o ..) rfl ?_
      show G κ _ _ _ _ (vi (s.1 18) :: _) _ _
      refine g_put C fp_X12_113_12 dX12_failed_44 (YO_o ..) (Nat.le_of_ble_eq_true rfl) (gfit_i _) ?_
      rw [YO_p18]
      refine s_n0_aload C dX12_failed_47 ?_
      refine g_get C fd_X12_75_12 dX12_failed_48 (YO_o ..) rfl ?_
      show G κ _ _ _ _ (vi (sc 16) :: _) _ _
      refine g_if_le 58 C dX12_failed_51 (by decide) (by first | assumption | (unfold iR; omega)) (fun c51 => ?_) (fun c51 => by exfalso; omega)
      refine g_iconst C dX12_failed_58 ?_
      refine g_zret C E dX12_failed_59 (by decide) (by exact Or.inl rfl) ?_
      have e0 : fQ q = q := by unfold fQ; rw [if_neg (by omega), if_pos (by omega)]
      rw [e0, if_neg (by omega), if_neg (by omega)]
      exact ⟨rfl, rfl, sc, rfl, fun h => by omega⟩
    · refine s_n0_aload C dX12_failed_0 ?_
      refine g_get C fd_X12_75_12 dX12_failed_1 (YO_o ..) rfl ?_
      show G κ _ _ _ _ (vi (sc 16) :: _) _ _
      refine g_if_ne 20 C dX12_failed_4 (by decide) (by first | assumption | (unfold iR; omega)) (fun c4 => by exfalso; omega) (fun c4 => ?_)
      refine s_n0_aload C dX12_failed_7 ?_
      refine g_get C fd_X12_99_12 dX12_failed_8 (YO_o ..) rfl ?_
      show G κ _ _ _ _ (vi (sc 14) :: _) _ _
      refine g_iconst C dX12_failed_11 ?_
      refine g_icmp_eq 20 C dX12_failed_12 (by decide) (by first | assumption | (unfold iR; omega)) (by first | assumption | (unfold iR; omega)) (fun c12 => by exfalso; omega) (fun c12 => ?_)
      refine s_n0_aload C dX12_failed_15 ?_
      refine g_iconst C dX12_failed_16 ?_
      refine g_invV C (ct_X12_bad (sc := sc) (k := 1) (by unfold iR; omega)) (YO_o ..) cv_X12_102_12 (rmk_ok (by decide) (by decide) (by decide) (by decide)) (Nat.le_of_ble_eq_true rfl) rfl dX12_failed_17 rfl (q_v0 ?_)
      rw [if_pos f1]
      refine s_n0_aload C dX12_failed_20 ?_
      refine g_iconst C dX12_failed_21 ?_
      refine g_put C fp_X12_71_12 dX12_failed_22 (YO_o ..) (Nat.le_of_ble_eq_true rfl) (gfit_i _) ?_
      rw [YO_p11]
      refine s_n0_aload C dX12_failed_25 ?_
      refine s_n0_aload C dX12_failed_26 ?_
      refine g_get C fd_X12_75_12 dX12_failed_27 (YO_o ..) rfl ?_
      show G κ _ _ _ _ (vi (1 : Int) :: _) _ _
      refine g_if_le 40 C dX12_failed_30 (by decide) (by first | assumption | (unfold iR; omega)) (fun c30 => by exfalso; omega) (fun c30 => ?_)
      refine s_n0_aload C dX12_failed_33 ?_
      refine g_get C fd_X12_75_12 dX12_failed_34 (YO_o ..) rfl ?_
      show G κ _ _ _ _ (vi (1 : Int) :: _) _ _
      refine g_goto 44 C dX12_failed_37 (by decide) ?_
      refine g_put C fp_X12_113_12 dX12_failed_44 (YO_o ..) (Nat.le_of_ble_eq_true rfl) (gfit_i _) ?_
      rw [YO_p18]
      refine s_n0_aload C dX12_failed_47 ?_
      refine g_get C fd_X12_75_12 dX12_failed_48 (YO_o ..) rfl ?_
      show G κ _ _ _ _ (vi (1 : Int) :: _) _ _
      refine g_if_le 58 C dX12_failed_51 (by decide) (by first | assumption | (unfold iR; omega)) (fun c51 => by exfalso; omega) (fun c51 => ?_)
      refine g_iconst C dX12_failed_54 ?_
      refine g_goto 59 C dX12_failed_55 (by decide) ?_
      refine g_zret C E dX12_failed_59 (by decide) (by exact Or.inr rfl) ?_
      have e0 : fQ q = (0, tRef q.2 1) := by unfold fQ; rw [if_neg (by omega), if_neg (by omega)]
      rw [e0]
      exact ⟨rfl, rfl, _, rfl, fun _ => f2.1⟩
def kB (c : Int) : Int := if c = 103 then 1 else if c = 115 then 2 else if c = 100 then 3 else if c = 99 then 4 else if c = 114 then 5 else -1000000
set_option maxRecDepth 20000 in
theorem ct_X12_kindBy {c : Int} {M : gM} {n : Int} (hc : iR c) : CT yX12_kindBy cX12_kindBy 1 (some .int) (rmk 0 0 0) [vi c] M n (qr (some (vi (kB c))) M n) := by
  refine CT.of (by decide) (fun _ => Nat.le_of_ble_eq_true rfl) (fun κ C E => ?_)
  show G κ M n [some (vi c)] 0 [] 0 0
  refine s_n0_iload C dX12_kindBy_0 ?_
  refine g_bipush C dX12_kindBy_1 (by decide) ?_
  refine g_icmp_ne 10 C dX12_kindBy_3 (by decide) (by exact hc) (by unfold iR; omega) (fun c3 => ?_) (fun c3 => ?_)
  · refine s_n0_iload C dX12_kindBy_10 ?_
    refine g_bipush C dX12_kindBy_11 (by decide) ?_
    refine g_icmp_ne 20 C dX12_kindBy_13 (by decide) (by exact hc) (by unfold iR; omega) (fun c13 => ?_) (fun c13 => ?_)
    · refine s_n0_iload C dX12_kindBy_20 ?_
      refine g_bipush C dX12_kindBy_21 (by decide) ?_
      refine g_icmp_ne 30 C dX12_kindBy_23 (by decide) (by exact hc) (by unfold iR; omega) (fun c23 => ?_) (fun c23 => ?_)
      · refine s_n0_iload C dX12_kindBy_30 ?_
        refine g_bipush C dX12_kindBy_31 (by decide) ?_
        refine g_icmp_ne 40 C dX12_kindBy_33 (by decide) (by exact hc) (by unfold iR; omega) (fun c33 => ?_) (fun c33 => ?_)
        · refine s_n0_iload C dX12_kindBy_40 ?_
          refine g_bipush C dX12_kindBy_41 (by decide) ?_
          refine g_icmp_ne 50 C dX12_kindBy_43 (by decide) (by exact hc) (by unfold iR; omega) (fun c43 => ?_) (fun c43 => ?_)
          · refine g_ldc (-1000000) C wd_621 dX12_kindBy_50 ?_
            refine g_iret C E dX12_kindBy_52 (by decide) ?_
            refine ⟨?_, rfl, rfl⟩
            unfold kB
            (repeat' split) <;> first | rfl | omega
          · refine g_iconst C dX12_kindBy_46 ?_
            refine g_goto 52 C dX12_kindBy_47 (by decide) ?_
            refine g_iret C E dX12_kindBy_52 (by decide) ?_
            refine ⟨?_, rfl, rfl⟩
            unfold kB
            (repeat' split) <;> first | rfl | omega
        · refine g_iconst C dX12_kindBy_36 ?_
          refine g_goto 52 C dX12_kindBy_37 (by decide) ?_
          refine g_iret C E dX12_kindBy_52 (by decide) ?_
          refine ⟨?_, rfl, rfl⟩
          unfold kB
          (repeat' split) <;> first | rfl | omega
      · refine g_iconst C dX12_kindBy_26 ?_
        refine g_goto 52 C dX12_kindBy_27 (by decide) ?_
        refine g_iret C E dX12_kindBy_52 (by decide) ?_
        refine ⟨?_, rfl, rfl⟩
        unfold kB
        (repeat' split) <;> first | rfl | omega
    · refine g_iconst C dX12_kindBy_16 ?_
      refine g_goto 52 C dX12_kindBy_17 (by decide) ?_
      refine g_iret C E dX12_kindBy_52 (by decide) ?_
      refine ⟨?_, rfl, rfl⟩
      unfold kB
      (repeat' split) <;> first | rfl | omega
  · refine g_iconst C dX12_kindBy_6 ?_
    refine g_goto 52 C dX12_kindBy_7 (by decide) ?_
    refine g_iret C E dX12_kindBy_52 (by decide) ?_
    refine ⟨?_, rfl, rfl⟩
    unfold kB
    (repeat' split) <;> first | rfl | omega
def sFr (cell c : Int) : Int := if stepTo cell c < 0 then -1000000 else stepTo cell c
set_option maxRecDepth 20000 in
theorem ct_X12_stepFrom {cell c : Int} {M : gM} {n : Int} (hk : 0 ≤ cell ∧ cell < 15) (hc : iR c) : CT yX12_stepFrom cX12_stepFrom 3 (some .int) (rmk 0 0 0) [vi cell, vi c] M n (qr (some (vi (sFr cell c))) M n) := by
  refine CT.of (by decide) (fun _ => Nat.le_of_ble_eq_true rfl) (fun κ C E => ?_)
  show G κ M n [some (vi cell), some (vi c), none] 0 [] 0 0
  refine s_n0_iload C dX12_stepFrom_0 ?_
  refine g_iconst C dX12_stepFrom_1 ?_
  refine g_irem C dX12_stepFrom_2 (by omega) ?_
  refine s_n2_istore C dX12_stepFrom_3 rfl ?_
  refine s_n1_iload C dX12_stepFrom_4 ?_
  refine g_bipush C dX12_stepFrom_5 (by decide) ?_
  refine g_icmp_ne 24 C dX12_stepFrom_7 (by decide) (by exact hc) (by unfold iR; omega) (fun c7 => ?_) (fun c7 => ?_)
  · refine s_n1_iload C dX12_stepFrom_24 ?_
    refine g_bipush C dX12_stepFrom_25 (by decide) ?_
    refine g_icmp_ne 43 C dX12_stepFrom_27 (by decide) (by exact hc) (by unfold iR; omega) (fun c27 => ?_) (fun c27 => ?_)
    · refine s_n1_iload C dX12_stepFrom_43 ?_
      refine g_bipush C dX12_stepFrom_44 (by decide) ?_
      refine g_icmp_ne 63 C dX12_stepFrom_46 (by decide) (by exact hc) (by unfold iR; omega) (fun c46 => ?_) (fun c46 => ?_)
      · refine s_n1_iload C dX12_stepFrom_63 ?_
        refine g_bipush C dX12_stepFrom_64 (by decide) ?_
        refine g_icmp_ne 81 C dX12_stepFrom_66 (by decide) (by exact hc) (by unfold iR; omega) (fun c66 => ?_) (fun c66 => ?_)
        · refine g_ldc (-1000000) C wd_621 dX12_stepFrom_81 ?_
          refine g_iret C E dX12_stepFrom_83 (by decide) ?_
          refine ⟨?_, rfl, rfl⟩
          unfold sFr stepTo
          (repeat' split) <;> first | rfl | omega
        · refine s_n0_iload C dX12_stepFrom_69 ?_
          refine g_bipush C dX12_stepFrom_70 (by decide) ?_
          refine g_icmp_ge 81 C dX12_stepFrom_72 (by decide) (by first | assumption | (unfold iR; omega)) (by first | assumption | (unfold iR; omega)) (fun c72 => ?_) (fun c72 => ?_)
          · refine g_ldc (-1000000) C wd_621 dX12_stepFrom_81 ?_
            refine g_iret C E dX12_stepFrom_83 (by decide) ?_
            refine ⟨?_, rfl, rfl⟩
            unfold sFr stepTo
            (repeat' split) <;> first | rfl | omega
          · refine s_n0_iload C dX12_stepFrom_75 ?_
            refine g_iconst C dX12_stepFrom_76 ?_
            refine g_iadd C dX12_stepFrom_77 ?_
            refine g_goto 83 C dX12_stepFrom_78 (by decide) ?_
            refine g_iret C E dX12_stepFrom_83 (by decide) ?_
            refine ⟨?_, rfl, rfl⟩
            unfold sFr stepTo
            (repeat' split) <;> first | rfl | omega
      · refine s_n0_iload C dX12_stepFrom_49 ?_
        refine g_iconst C dX12_stepFrom_50 ?_
        refine g_icmp_le 60 C dX12_stepFrom_51 (by decide) (by first | assumption | (unfold iR; omega)) (by first | assumption | (unfold iR; omega)) (fun c51 => ?_) (fun c51 => ?_)
        · refine g_ldc (-1000000) C wd_621 dX12_stepFrom_60 ?_
          refine g_iret C E dX12_stepFrom_62 (by decide) ?_
          refine ⟨?_, rfl, rfl⟩
          unfold sFr stepTo
          (repeat' split) <;> first | rfl | omega
        · refine s_n0_iload C dX12_stepFrom_54 ?_
          refine g_iconst C dX12_stepFrom_55 ?_
          refine g_isub C dX12_stepFrom_56 ?_
          refine g_goto 62 C dX12_stepFrom_57 (by decide) ?_
          refine g_iret C E dX12_stepFrom_62 (by decide) ?_
          refine ⟨?_, rfl, rfl⟩
          unfold sFr stepTo
          (repeat' split) <;> first | rfl | omega
    · refine s_n2_iload C dX12_stepFrom_30 ?_
      refine g_if_le 40 C dX12_stepFrom_31 (by decide) (by first | assumption | (unfold iR; omega)) (fun c31 => ?_) (fun c31 => ?_)
      · refine g_ldc (-1000000) C wd_621 dX12_stepFrom_40 ?_
        refine g_iret C E dX12_stepFrom_42 (by decide) ?_
        refine ⟨?_, rfl, rfl⟩
        unfold sFr stepTo
        (repeat' split) <;> first | rfl | omega
      · refine s_n0_iload C dX12_stepFrom_34 ?_
        refine g_iconst C dX12_stepFrom_35 ?_
        refine g_isub C dX12_stepFrom_36 ?_
        refine g_goto 42 C dX12_stepFrom_37 (by decide) ?_
        refine g_iret C E dX12_stepFrom_42 (by decide) ?_
        refine ⟨?_, rfl, rfl⟩
        unfold sFr stepTo
        (repeat' split) <;> first | rfl | omega
  · refine s_n2_iload C dX12_stepFrom_10 ?_
    refine g_iconst C dX12_stepFrom_11 ?_
    refine g_icmp_ge 21 C dX12_stepFrom_12 (by decide) (by first | assumption | (unfold iR; omega)) (by first | assumption | (unfold iR; omega)) (fun c12 => ?_) (fun c12 => ?_)
    · refine g_ldc (-1000000) C wd_621 dX12_stepFrom_21 ?_
      refine g_iret C E dX12_stepFrom_23 (by decide) ?_
      refine ⟨?_, rfl, rfl⟩
      unfold sFr stepTo
      (repeat' split) <;> first | rfl | omega
    · refine s_n0_iload C dX12_stepFrom_15 ?_
      refine g_iconst C dX12_stepFrom_16 ?_
      refine g_iadd C dX12_stepFrom_17 ?_
      refine g_goto 23 C dX12_stepFrom_18 (by decide) ?_
      refine g_iret C E dX12_stepFrom_23 (by decide) ?_
      refine ⟨?_, rfl, rfl⟩
      unfold sFr stepTo
      (repeat' split) <;> first | rfl | omega
