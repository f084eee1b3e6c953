/-! WHAT HOLDS OF THE OBJECT AFTER EACH CALL -/
theorem xRw_ok {X : XT} {k : Int} {R : RWT} (h : xOK X) (hR : rowOK R) : xOK (xRw X k R) := by
  refine ⟨h.1, h.2.1, h.2.2.1, h.2.2.2.1, h.2.2.2.2.1, h.2.2.2.2.2.1, fun j j1 j2 => ?_, h.sf, h.tr, h.tb⟩
  show rowOK (fu X.2.2.1 k R j)
  unfold fu
  split
  · exact hR
  · exact h.rw j j1 j2
theorem xTr_ok {X : XT} {T : TLT} (h : xOK X) (hT : tlOK T) : xOK (xTr X T) := ⟨h.1, h.2.1, h.2.2.1, h.2.2.2.1, h.2.2.2.2.1, h.2.2.2.2.2.1, h.rw, h.sf, hT, h.tb⟩
theorem rNar_R {ln v : Int} (h : iR v) : iR (rNar ln v) := by
  unfold rNar
  split
  · have := Int.bmod_lt (x := v) (m := 256) (by decide)
    have := Int.le_bmod (x := v) (m := 256) (by decide)
    unfold iR
    omega
  · split
    · have := Int.bmod_lt (x := v) (m := 65536) (by decide)
      have := Int.le_bmod (x := v) (m := 65536) (by decide)
      unfold iR
      omega
    · exact h
theorem xRow_ok {X : XT} (h : xOK X) (a b c : Int) : xOK (xRow X a b c).2 := by
  unfold xRow
  split
  · exact h
  split
  · exact h
  split
  · exact h
  split
  · exact h.xs _
  · exact (xRw_ok (k := a) (R := (fun _ => 0, b, c)) h ⟨fun _ => iR0, by dsimp only; omega, by dsimp only; omega, by dsimp only; omega, by dsimp only; omega⟩).xs 0
theorem xSet_ok {X : XT} (h : xOK X) (a i : Int) {v : Int} (hv : iR v) : xOK (xSet X a i v).2 := by
  unfold xSet
  split
  · exact h
  split
  · exact h.xs _
  split
  · exact h.xs _
  · have hr := h.rw a (by omega) (by omega)
    refine (xRw_ok (k := a) (R := (up (X.2.2.1 a).1 i (rNar (X.2.2.1 a).2.1 v), (X.2.2.1 a).2)) h ⟨fun j => ?_, hr.2⟩).xs 0
    show iR (up (X.2.2.1 a).1 i (rNar (X.2.2.1 a).2.1 v) j)
    unfold up
    split
    · exact rNar_R hv
    · exact hr.1 j
theorem xDrop_ok {X : XT} (h : xOK X) (a : Int) : xOK (xDrop X a).2 := by
  unfold xDrop
  split
  · exact h
  split
  · exact h.xs _
  · have hr := h.rw a (by omega) (by omega)
    exact (xRw_ok (k := a) (R := ((X.2.2.1 a).1, (X.2.2.1 a).2.1, -1)) h ⟨hr.1, hr.2.1, hr.2.2.1, by dsimp only; omega, by dsimp only; omega⟩).xs 0
theorem xCopy_ok {X : XT} (h : xOK X) (a i b j m : Int) : xOK (xCopy X a i b j m).2 := by
  unfold xCopy
  split
  · exact h
  split
  · exact h
  split
  · exact h.xs _
  split
  · exact h.xs _
  split
  · exact h.xs _
  split
  · exact h.xs _
  split
  · exact h.xs _
  · have hr := h.rw a (by omega) (by omega)
    have hr2 := h.rw b (by omega) (by omega)
    refine (xRw_ok (k := b) (R := (cpy (X.2.2.1 a).1 (X.2.2.1 b).1 i j m, (X.2.2.1 b).2)) h ⟨fun q => ?_, hr2.2⟩).xs 0
    show iR (cpy (X.2.2.1 a).1 (X.2.2.1 b).1 i j m q)
    unfold cpy
    split
    · exact hr.1 _
    · exact hr2.1 _
theorem xFeed_ok {X : XT} (h : xOK X) (a : Int) : xOK (xFeed X a).2 := by
  unfold xFeed
  split
  · exact h
  split
  · exact h
  · have h6 := h.tp
    refine ⟨h.1, h.2.1, h.2.2.1, h.2.2.2.1, ⟨fun i i0 i1 => ?_, ?_⟩, h.ik, h.rw, h.sf, h.tr, h.tb⟩
    · show 0 ≤ up (X.2.1 0) (X.1 6) a i ∧ up (X.2.1 0) (X.1 6) a i ≤ 255
      unfold up
      split
      · omega
      · exact h6.1 i i0 i1
    · show 0 ≤ X.1 6 + 1 ∧ X.1 6 + 1 ≤ 120
      omega
theorem xUndo_ok {X : XT} (h : xOK X) : xOK (xUndo X).2 := by
  unfold xUndo
  split
  · exact h
  · have h2 := h.na
    have h3 := h.ac
    have h5 := h.c
    exact xSf_ok (xS_ok (xS_ok h (by omega)) (by omega)) (h.sf _ (by omega) (by omega) (by omega))
theorem xCharge_ok {X : XT} (h : xOK X) (a b : Int) : xOK (xCharge X a b).2 := by
  unfold xCharge
  split
  · exact h
  split
  · exact h
  split
  · exact h
  · exact xSf_ok (xKeep_ok h) (sfSoak_ok (xKeep_ok h).cs (by omega))
theorem xMake_ok {X : XT} (h : xOK X) (a : Int) : xOK (xMake X a).2 := by
  unfold xMake
  split
  · exact h
  · exact xSf_ok (xKeep_ok h) (pGo_ok (h.ps.2.2 a (by omega) (by omega)).2 (xKeep_ok h).cs)
theorem xStand_ok {X : XT} (h : xOK X) (a : Int) : xOK (xStand X a).2 := by
  unfold xStand
  split
  · exact h
  split
  · exact h
  · exact xSf_ok (xKeep_ok h) (sfTear_ok (xKeep_ok h).cs)
theorem xRest_ok {X : XT} (h : xOK X) : xOK (xRest X).2 := by
  unfold xRest
  split
  · exact h
  · have := (xKeep_ok h).sk
    exact xSf_ok (xKeep_ok h) (sfSink_ok (xKeep_ok h).cs (by omega))
theorem xCell_ok {X : XT} (h : xOK X) (a b : Int) : xOK (xCell X a b).2 := by
  unfold xCell
  (repeat' split) <;> exact h
theorem xPath_ok {X : XT} (h : xOK X) (a b : Int) : xOK (xPath X a b).2 := by
  unfold xPath
  (repeat' split) <;> exact h
theorem xPad_ok {X : XT} (h : xOK X) (a : Int) : xOK (xPad X a).2 := by
  unfold xPad
  (repeat' split) <;> exact h
theorem xAhead_ok {X : XT} (h : xOK X) (a b c : Int) : xOK (xAhead X a b c).2 := by
  unfold xAhead
  split
  · exact h
  split
  · exact h
  split
  · exact h
  split
  · exact h
  split <;> exact xSf_ok h (xRnd_ok h (by omega))
theorem xUneven_ok {X : XT} (h : xOK X) (a : Int) : xOK (xUneven X a).2 := by
  unfold xUneven
  split
  · exact h
  split
  · exact h
  · exact xSf_ok h (xRnd_ok h (by omega))
theorem enN_ok {X : XT} (h : xOK X) (t : Int) : ∀ (f : Nat) (i : Int), 0 ≤ i → sfOK (enN f X t i).2
  | 0, i, hi => xRnd_ok h hi
  | f + 1, i, hi => by
    unfold enN
    split
    · exact xRnd_ok h hi
    split
    · exact xRnd_ok h hi
    · exact enN_ok h t f (i + 1) (by omega)
theorem xEnough_ok {X : XT} (h : xOK X) (t : Int) : xOK (xEnough X t).2 := by
  unfold xEnough
  split
  · exact h
  split
  · exact h
  · exact xSf_ok h (enN_ok h t 42 0 (by omega))
theorem xGoOn_ok {X : XT} (h : xOK X) : xOK (xGoOn X).2 := by
  unfold xGoOn
  split
  · exact h
  · have := h.sk
    exact xSf_ok h (psAll_ok h.ps (sfSink_ok h.cs (by omega)))
theorem xDone_ok {X : XT} (h : xOK X) (r i b : Int) : xOK (xDone X r i b).2 := by
  unfold xDone
  split
  · exact h
  split
  · exact h
  split
  · exact h
  split
  · exact h.xs _
  split
  · exact h.xs _
  · exact h.xs _
theorem xImage_ok {X : XT} (h : xOK X) (a : Int) : xOK (xImage X a).2 := by
  unfold xImage
  split
  · exact h
  split
  · exact h
  · have h5 := h.c
    refine ⟨h.1, h.2.1, h.2.2.1, h.2.2.2.1, h.2.2.2.2.1, fun k k0 k1 => ?_, h.rw, fun k k0 k1 k2 => ?_, h.tr, fun k k0 k1 k2 => ?_⟩
    · show up (X.2.1 2) a 1 k = 0 ∨ up (X.2.1 2) a 1 k = 1
      unfold up
      split
      · exact Or.inr rfl
      · exact h.ik k k0 k1
    · show sfOK (fu X.2.2.2.1 (27 + a) (xC X) k)
      unfold fu
      split
      · exact h.cs
      · exact h.sf k k0 k1 k2
    · show psOK (fu X.2.2.2.2.2 (2 + a) (xP X, xK X) k).1 ∧ 0 ≤ (fu X.2.2.2.2.2 (2 + a) (xP X, xK X) k).2 ∧ (fu X.2.2.2.2.2 (2 + a) (xP X, xK X) k).2 ≤ 9
      unfold fu
      split
      · exact ⟨h.ps, h.sk⟩
      · exact h.tb k k0 k1 k2
theorem xRestore_ok {X : XT} (h : xOK X) (a : Int) : xOK (xRestore X a).2 := by
  unfold xRestore
  split
  · exact h
  split
  · exact h
  · have h5 := h.c
    have hs := h.sf (27 + a) (by omega) (by omega) (by omega)
    have ht := h.tb (2 + a) (by omega) (by omega) (by omega)
    refine ⟨h.1, h.2.1, ⟨by show (0 : Int) ≤ 0; decide, by show (0 : Int) ≤ 24; decide⟩, h.2.2.2.1, h.2.2.2.2.1, h.ik, h.rw, fun k k0 k1 k2 => ?_, h.tr, fun k k0 k1 k2 => ?_⟩
    · show sfOK (fu X.2.2.2.1 (25 + X.1 5) (X.2.2.2.1 (27 + a)) k)
      unfold fu
      split
      · exact hs
      · exact h.sf k k0 k1 k2
    · show psOK (fu X.2.2.2.2.2 (X.1 5) (X.2.2.2.2.2 (2 + a)) k).1 ∧ 0 ≤ (fu X.2.2.2.2.2 (X.1 5) (X.2.2.2.2.2 (2 + a)) k).2 ∧ (fu X.2.2.2.2.2 (X.1 5) (X.2.2.2.2.2 (2 + a)) k).2 ≤ 9
      unfold fu
      split
      · exact ht
      · exact h.tb k k0 k1 k2
theorem xAs_ok {X : XT} (h : xOK X) (a k : Int) : xOK (xAs X a k).2 := by
  unfold xAs
  split
  · exact h
  split
  · exact h
  split
  · exact h.xs _
  · exact h.xs _
theorem aSc_ok {ci : Nat} {len : Int} {T : TLT} (h : tlOK T) : tlOK (aSc ci len T).2 := by
  unfold aSc
  split
  · exact aS13_ok (tlLeave_ok h 14)
  · exact aS13_ok h
theorem aMs_ok {ci : Nat} {num wet : Int} {T : TLT} (h : tlOK T) : tlOK (aMs ci num wet T).2 := by
  unfold aMs
  split
  · exact aM21_ok (num := num) (wet := wet) (tlLeave_ok h 24)
  split
  · exact aM21_ok (num := num) (wet := wet) (tlLeave_ok h 22)
  · exact aM21_ok (num := num) (wet := wet) h
theorem aMark_ok {ci : Nat} {num wet len : Int} {T : TLT} (h : tlOK T) : tlOK (aMark ci num wet len T).2 := by
  unfold aMark
  split
  · exact aSc_ok (aM20_ok (tlLeave_ok h 23))
  · exact aMs_ok h
theorem aS11_ok {ci : Nat} {num wet len : Int} {T : TLT} (h : tlOK T) : tlOK (aS11 ci num wet len T).2 := aMs_ok (aS10_ok (tlLeave_ok h 11))
theorem aSize_ok {ci : Nat} {num wet len : Int} {T : TLT} (h : tlOK T) : tlOK (aSize ci num wet len T).2 := by
  unfold aSize
  split
  · exact aSc_ok h
  split
  · exact aS11_ok (tlLeave_ok h 12)
  · exact aS11_ok h
theorem xAsk_ok {X : XT} (h : xOK X) (a b : Int) : xOK (xAsk X a b).2 := by
  have h0 : tlOK (X.2.2.2.2.1.1, (0 : Int)) := ⟨by show (0 : Int) ≤ 0; decide, by show (0 : Int) ≤ 16; decide⟩
  unfold xAsk
  split
  · exact h
  split
  · exact h
  split
  · exact xTr_ok h (aSize_ok h0)
  · exact xTr_ok h (aMark_ok h0)
theorem xCount_ok {X : XT} (h : xOK X) (a : Int) : xOK (xCount X a).2 := by
  unfold xCount
  (repeat' split) <;> exact h
theorem xCups_ok {X : XT} (h : xOK X) (a b : Int) : xOK (xCups X a b).2 := by
  unfold xCups
  (repeat' split) <;> exact h
theorem xThin_ok {X : XT} (h : xOK X) : xOK (xThin X).2 := by
  unfold xThin
  (repeat' split) <;> exact h
theorem xTrace_ok {X : XT} (h : xOK X) (a : Int) : xOK (xTrace X a).2 := by
  unfold xTrace
  (repeat' split) <;> exact h
theorem xKind_ok {X : XT} (h : xOK X) (a : Int) : xOK (xKind X a).2 := by
  unfold xKind
  (repeat' split) <;> exact h
theorem xOrder_ok {X : XT} (h : xOK X) (a : Int) : xOK (xOrder X a).2 := by
  unfold xOrder
  split
  · exact h
  split
  · exact h
  · exact h
theorem xWet_ok {X : XT} (h : xOK X) (a b : Int) : xOK (xWet X a b).2 := by
  unfold xWet
  (repeat' split) <;> exact h
theorem xOver_ok {X : XT} (h : xOK X) (a b : Int) : xOK (xOver X a b).2 := by
  unfold xOver
  split
  · exact h
  split
  · exact h
  split
  · exact h
  · exact h
theorem xEvenings_ok {X : XT} (h : xOK X) (a b c : Int) : xOK (xEvenings X a b c).2 := by
  unfold xEvenings
  split
  · exact h
  split
  · exact h
  split
  · exact h
  split
  · exact h
  · exact h
-- what a text gives
def fOK (S : SLT) : Prop := (∀ c, 0 ≤ S.1 c ∧ S.1 c ≤ 99) ∧ (∀ c, S.2.1 c = 0) ∧ (∀ c, S.2.2.1 c = 0) ∧ S.2.2.2.1 = 0 ∧ 0 ≤ S.2.2.2.2.1 ∧ S.2.2.2.2.1 ≤ 9
theorem fOK.sf {S : SLT} (h : fOK S) : sfOK S := by
  obtain ⟨h1, h2, h3, h4, h5, h6⟩ := h
  refine ⟨fun c _ _ => ?_, by omega, by omega, by omega, by omega⟩
  have a := h1 c
  have b := h2 c
  have d := h3 c
  omega
theorem rcN_f : ∀ (f : Nat) (T : TPT) (S : SLT) (seen k : Int), fOK S → fOK (rcN f T S seen k).2.2
  | 0, T, S, seen, k, h => h
  | f + 1, T, S, seen, k, h => by
    unfold rcN
    split
    · exact h
    split
    · exact h
    split
    · exact h
    split
    · exact h
    split
    · exact h
    split
    · exact h
    split
    · exact h
    split
    · exact h
    · refine rcN_f f _ _ _ _ ⟨fun c => ?_, h.2⟩
      have hb := tNum_le (tSign (tNum (tAt T (T.2.2.2.1 + 1)) 14).2 44).2 (most := 99) (by decide)
      show 0 ≤ up S.1 _ _ c ∧ up S.1 _ _ c ≤ 99
      unfold up
      split
      · omega
      · exact h.1 c
theorem rpN_ps : ∀ (f : Nat) (T : TPT) (ps : PST), tpOK T → psOK ps → psOK (rpN f T ps).2.2
  | 0, T, ps, h, hp => hp
  | f + 1, T, ps, h, hp => by
    unfold rpN
    split
    · exact hp
    split
    · exact hp
    split
    · exact hp
    split
    · exact hp
    split
    · exact hp
    split
    · exact hp
    · rename_i e1 e2 e3 e4 e5 e6
      have hlt : T.2.2.2.1 < T.2.2.1 := tNext_lt e2
      have h1 := tRdWay_ok (T := tAt T (T.2.2.2.1 + 1)) (tAt_ok h (by have := h.2.2.2.1; omega))
      exact rpN_ps f _ _ (tSign_ok h1.1 (by decide)) (psAdd_ok hp (by have := hp.2.1; omega) (soCi_ki _) (h1.2.2.resolve_left (by omega)))
theorem rdAll_ok {T : TPT} (h : tpOK (tAt T 0)) (h1 : ¬ (rdAll T).1 = 0) : sfOK (rdAll T).2.2.1 ∧ psOK (rdAll T).2.2.2.2 ∧ 0 ≤ (rdAll T).2.2.2.1 ∧ (rdAll T).2.2.2.1 ≤ 9 := by
  by_cases n1 : (rdLaw (tAt T 0) zS 0).1 = 0
  · exact absurd (rdAll_a n1).1 h1
  by_cases n2 : (rdCells (rdLaw (tAt T 0) zS 0).2.1 (rdLaw (tAt T 0) zS 0).2.2.1).1 = 0
  · exact absurd (rdAll_b n1 n2).1 h1
  rw [rdAll_c n1 n2]
  obtain ⟨r1, r2, r3⟩ := rdLaw_e (tAt T 0) zS 0
  have a1 := rdLaw_ok (S := zS) (sk := 0) h
  have a2 := rcN_ok 17 (rdLaw (tAt T 0) zS 0).2.1 (rdLaw (tAt T 0) zS 0).2.2.1 0 0 a1.1
  have r3 := r3 (by omega)
  have b1 : 0 ≤ lV (tAt T 0) ∧ lV (tAt T 0) ≤ 9 := mNm_b _ (by decide)
  have b2 : 0 ≤ lO (tAt T 0) ∧ lO (tAt T 0) ≤ 9 := mNm_b _ (by decide)
  refine ⟨(rcN_f 17 _ _ 0 0 ?_).sf, rpN_ps 6 _ _ a2.1 psOK_z, ?_⟩
  · rw [r3]
    exact ⟨fun c => ⟨by show (0 : Int) ≤ 0; decide, by show (0 : Int) ≤ 99; decide⟩, fun _ => rfl, fun _ => rfl, rfl, b2⟩
  · rw [r3]
    exact b1
theorem xTable_ok {X : XT} (h : xOK X) : xOK (xTable X).2 := by
  have h5 := h.c
  have h6 := h.tp
  unfold xTable
  by_cases e : (rdAll (xTape X)).1 = 0
  · rw [if_pos e]
    exact ⟨h.1, h.2.1, h.2.2.1, h.2.2.2.1, ⟨h6.1, by show (0 : Int) ≤ 0; decide, by show (0 : Int) ≤ 120; decide⟩, h.ik, h.rw, h.sf, h.tr, h.tb⟩
  · rw [if_neg e]
    obtain ⟨g1, g2, g3⟩ := rdAll_ok (T := xTape X) ⟨h6.1, h6.2.1, h6.2.2, by show (0 : Int) ≤ 0; decide, h6.2.1⟩ e
    refine ⟨by show 0 ≤ 1 - X.1 5 ∧ 1 - X.1 5 ≤ 1; omega, h.2.1, ⟨by show (0 : Int) ≤ 0; decide, by show (0 : Int) ≤ 24; decide⟩, Or.inr rfl, ⟨h6.1, by show (0 : Int) ≤ 0; decide, by show (0 : Int) ≤ 120; decide⟩, h.ik, h.rw, fun k k0 k1 k2 => ?_, h.tr, fun k k0 k1 k2 => ?_⟩
    · show sfOK (fu X.2.2.2.1 (26 - X.1 5) (rdAll (xTape X)).2.2.1 k)
      unfold fu
      split
      · exact g1
      · exact h.sf k k0 k1 (by assumption)
    · show psOK (fu X.2.2.2.2.2 (1 - X.1 5) ((rdAll (xTape X)).2.2.2.2, (rdAll (xTape X)).2.2.2.1) k).1 ∧ 0 ≤ (fu X.2.2.2.2.2 (1 - X.1 5) ((rdAll (xTape X)).2.2.2.2, (rdAll (xTape X)).2.2.2.1) k).2 ∧ (fu X.2.2.2.2.2 (1 - X.1 5) ((rdAll (xTape X)).2.2.2.2, (rdAll (xTape X)).2.2.2.1) k).2 ≤ 9
      unfold fu
      split
      · exact ⟨g2, g3⟩
      · exact h.tb k k0 k1 (by assumption)
theorem xEq.ok {X Y : XT} (e : xEq X Y) (h : xOK Y) (h24 : sfOK (X.2.2.2.1 24)) : xOK X := by
  obtain ⟨e1, e2, e3, e4, e5, e6, e7⟩ := e
  have f0 := e1 0 (by decide) (by decide)
  have f2 := e1 2 (by decide) (by decide)
  have f3 := e1 3 (by decide) (by decide)
  have f5 := e1 5 (by decide) (by decide)
  have f6 := e1 6 (by decide) (by decide)
  refine ⟨by rw [f5]; exact h.c, by rw [f2]; exact h.na, by rw [f3]; exact h.ac, by rw [f0]; exact h.td, ⟨by rw [e2]; exact h.tp.1, by rw [f6]; exact h.tp.2⟩, by rw [e3]; exact h.ik, by rw [e4]; exact h.rw, fun k k0 k1 k2 => ?_, by rw [e6]; exact h.tr, fun k k0 k1 k2 => ?_⟩
  · rw [f5] at k2
    by_cases q : k = 24
    · rw [q]; exact h24
    · rw [e5 k q k2]; exact h.sf k k0 k1 k2
  · rw [f5] at k2
    rw [e7 k k2]
    exact h.tb k k0 k1 k2
theorem xEq.yr {X Y : XT} {s : YT} (e : xEq X Y) (h : xOK Y) (hr : yRel Y s) : yRel X s := by
  obtain ⟨b, hr⟩ := hr
  obtain ⟨e1, e2, e3, e4, e5, e6, e7⟩ := e
  have h5 := h.c
  have f0 := e1 0 (by decide) (by decide)
  have f1 := e1 1 (by decide) (by decide)
  have f2 := e1 2 (by decide) (by decide)
  have f3 := e1 3 (by decide) (by decide)
  have f4 := e1 4 (by decide) (by decide)
  have f5 := e1 5 (by decide) (by decide)
  have f6 := e1 6 (by decide) (by decide)
  have eC : xC X = xC Y := by
    unfold xC
    rw [f5]
    exact e5 _ (by omega) (by omega)
  have eP : xP X = xP Y := by
    unfold xP
    rw [f5, e7 _ (by omega)]
  have eK : xK X = xK Y := by
    unfold xK
    rw [f5, e7 _ (by omega)]
  have eA : ∀ j, actIx X j = actIx Y j := fun j => by
    unfold actIx
    rw [f2, f3]
  refine ⟨b, by rw [f4]; exact hr.st, by rw [e4]; exact hr.rw, by rw [eC]; exact hr.tab, by rw [f0, eP, eK]; exact hr.bk, by rw [f3]; exact hr.ac, ?_, by rw [f6]; exact hr.tl, by rw [f6, e2]; exact hr.tp, by rw [f1]; exact hr.la, ?_, by rw [e6]; exact hr.tn, by rw [e6]; exact hr.tr⟩
  · intro j j0 j1 k k0 k1
    rw [f3] at j1
    rw [eA, e5 _ (by unfold actIx; omega) (by unfold actIx; omega)]
    exact hr.wa j j0 j1 k k0 k1
  · intro k k0 k1
    rw [e3, f0, e7 (2 + k) (by omega), e5 (27 + k) (by omega) (by omega)]
    exact hr.ke k k0 k1
