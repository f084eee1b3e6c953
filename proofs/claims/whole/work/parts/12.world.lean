/-! THE WORLD: cells that mean the same; overlays of objects on a heap -/
theorem arrV_congr {c : ClassId} {n : Nat} {f g : Nat → Value} (h : ∀ j, j < n → f j = g j) : arrV c n f = arrV c n g := by
  have hs : (arrV c n f).slots = (arrV c n g).slots := by
    apply Array.ext
    · rw [arrV_size, arrV_size]
    · intro i h1 h2
      have k1 : i < n := by rw [arrV_size] at h1; exact h1
      have e1 := arrV_read c f k1
      have e2 := arrV_read c g k1
      rw [Array.getElem?_eq_getElem h1] at e1
      rw [Array.getElem?_eq_getElem h2] at e2
      have e1 := Option.some.inj e1
      have e2 := Option.some.inj e2
      rw [e1, e2, h i k1]
  have hf : ∀ z : Nat → Value, arrV c n z = { cls := c, slots := (arrV c n z).slots, vm := .none } := fun z => rfl
  rw [hf f, hf g, hs]
/-- two cells that mean the same: arrays that agree in their places -/
def gEq : gE → gE → Prop
  | .inl (t, n, f), .inl (t', n', f') => t = t' ∧ n = n' ∧ ∀ k, 0 ≤ k → k < n → f k = f' k
  | e, e' => e = e'
theorem gEq.rf (e : gE) : gEq e e := by
  rcases e with ⟨t, n, f⟩ | e
  · exact ⟨rfl, rfl, fun _ _ _ => rfl⟩
  · rfl
theorem gEq.at {X : gX} {e e' : gE} (h : gEq e e') {q : Nat} {H : Heap} (ha : va_at X.1 vwCl (q, ge X e) H) : va_at X.1 vwCl (q, ge X e') H := by
  rcases e with ⟨t, n, f⟩ | e
  · rcases e' with ⟨t', n', f'⟩ | e'
    · obtain ⟨rfl, rfl, h3⟩ := h
      have ha' : H[q]? = some (vp_cell (X.2.1 t) (n.toNat, .inl (fun k : Nat => Int32.ofInt (f k)))) := ha
      show H[q]? = some (vp_cell (X.2.1 t) (n.toNat, .inl (fun k : Nat => Int32.ofInt (f' k))))
      rw [ha', vp_cell_i, vp_cell_i]
      exact congrArg some (arrV_congr fun j hj => by rw [h3 j (by omega) (by omega)])
    · cases h
  · cases h
    exact ha
def gMe (M M' : gM) : Prop := ∀ a, match M a, M' a with
  | some e, some e' => gEq e e'
  | none, none => True
  | _, _ => False
theorem gMe.P {X : gX} {M M' : gM} (h : gMe M M') {n : Int} {H : Heap} (hP : gP X M n H) : gP X M' n H := by
  refine ⟨hP.1, hP.2.1, fun a e' he' => ?_⟩
  have ha := h a
  rw [he'] at ha
  cases hm : M a with
  | none => rw [hm] at ha; exact absurd ha id
  | some e =>
    rw [hm] at ha
    obtain ⟨h1, h2, h3⟩ := hP.2.2 a e hm
    exact ⟨h1, h2, gEq.at ha h3⟩
/-- one array put in place of one that agrees with it -/
theorem gMe.gu {M : gM} {a : Int} {e e' : gE} (h : gEq e e') : gMe (gu M a e) (gu M a e') := by
  intro b
  by_cases hb : b = a
  · rw [hb, gu_same, gu_same]
    exact h
  · rw [gu_ne _ _ hb, gu_ne _ _ hb]
    cases M b with
    | none => trivial
    | some x => exact gEq.rf x
theorem G.ext {κ : gC} {M M' : gM} {n : Int} {L : List (Option gV)} {pc : Nat} {st : List gV} {cells slots : Nat} (h : gMe M M') (g : G κ M' n L pc st cells slots) : G κ M n L pc st cells slots := fun H locs ls hP hS hL => g H locs ls (h.P hP) hS hL
theorem G.arr {κ : gC} {M : gM} {n : Int} {L : List (Option gV)} {pc : Nat} {st : List gV} {cells slots : Nat} {a : Int} {t : Nat} {len : Int} {f f' : Int → Int} (h : ∀ k, 0 ≤ k → k < len → f k = f' k) (g : G κ (gu M a (gA t len f')) n L pc st cells slots) : G κ (gu M a (gA t len f)) n L pc st cells slots := G.ext (gMe.gu (e := gA t len f) (e' := gA t len f') ⟨rfl, rfl, h⟩) g
section GMM
variable {κ : gC} {y : MethodName} {cc : ByteArray} {nL : Nat} {rm : Room} {M : gM} {n : Int} {L : List (Option gV)} {pc : Nat} {st : List gV} {cells slots : Nat} {x z : Int} {ix : Nat}
theorem g_mn (C : gF κ y cc nL rm) (w1 : Cond.methodLink y.cls ix Lib.Math.min.name ∈ TB) (w2 : Cond.static Lib.Math.min.name ∈ TB) (w3 : Cond.initialized "java/lang/Math" ∈ TB) (w4 : Cond.code Lib.Math.min.name Lib.Math.min.code 2 (some .int) ∈ TB) (hR : 1 ≤ rm.frames ∧ 21 ≤ rm.locals ∧ cells ≤ rm.cells ∧ slots ≤ rm.slots) (hc : gsum st ≤ 8) (hLn : L.length = nL) (hd : decode cc pc = .ok (.invokestatic ix, 3)) (hx : iR x) (hz : iR z) (g : G κ M n L (pc + 3) (vi (min x z) :: st) cells slots) : G κ M n L pc (vi z :: vi x :: st) cells slots := by
  refine g_min C w1 w2 w3 w4 hR hc hLn hd hx hz ?_
  have e : (if z < x then z else x) = min x z := by
    by_cases h : z < x
    · rw [if_pos h]; omega
    · rw [if_neg h]; omega
  rw [e]
  exact g
theorem g_mx (C : gF κ y cc nL rm) (w1 : Cond.methodLink y.cls ix Lib.Math.max.name ∈ TB) (w2 : Cond.static Lib.Math.max.name ∈ TB) (w3 : Cond.initialized "java/lang/Math" ∈ TB) (w4 : Cond.code Lib.Math.max.name Lib.Math.max.code 2 (some .int) ∈ TB) (hR : 1 ≤ rm.frames ∧ 21 ≤ rm.locals ∧ cells ≤ rm.cells ∧ slots ≤ rm.slots) (hc : gsum st ≤ 8) (hLn : L.length = nL) (hd : decode cc pc = .ok (.invokestatic ix, 3)) (hx : iR x) (hz : iR z) (g : G κ M n L (pc + 3) (vi (max x z) :: st) cells slots) : G κ M n L pc (vi z :: vi x :: st) cells slots := by
  refine g_max C w1 w2 w3 w4 hR hc hLn hd hx hz ?_
  have e : (if x < z then z else x) = max x z := by
    by_cases h : x < z
    · rw [if_pos h]; omega
    · rw [if_neg h]; omega
  rw [e]
  exact g
end GMM
/-- a Surface: film, soft, haze; wet, oil, spent -/
abbrev SLT : Type := (Int → Int) × (Int → Int) × (Int → Int) × (Int) × (Int) × (Int)
def SL (o : Int) (S : SLT) (M : gM) : gM := fun a => if a = o then some (gO 7 [vr (o + 1), vr (o + 2), vr (o + 3), vi S.2.2.2.1, vi S.2.2.2.2.1, vi S.2.2.2.2.2]) else if a = o + 1 then some (gA 0 15 S.1) else if a = o + 2 then some (gA 0 15 S.2.1) else if a = o + 3 then some (gA 0 15 S.2.2.1) else M a
theorem SL_0 (o : Int) (f : Int → Int) (s : Int → Int) (h : Int → Int) (w : Int) (l : Int) (p : Int) (M : gM) : SL o (f, s, h, w, l, p) M (o) = some (gO 7 [vr (o + 1), vr (o + 2), vr (o + 3), vi w, vi l, vi p]) := if_pos rfl
theorem SL_1 (o : Int) (f : Int → Int) (s : Int → Int) (h : Int → Int) (w : Int) (l : Int) (p : Int) (M : gM) : SL o (f, s, h, w, l, p) M (o + 1) = some (gA 0 15 f) := by unfold SL; rw [if_neg (by omega), if_pos rfl]
theorem SL_2 (o : Int) (f : Int → Int) (s : Int → Int) (h : Int → Int) (w : Int) (l : Int) (p : Int) (M : gM) : SL o (f, s, h, w, l, p) M (o + 2) = some (gA 0 15 s) := by unfold SL; rw [if_neg (by omega), if_neg (by omega), if_pos rfl]
theorem SL_3 (o : Int) (f : Int → Int) (s : Int → Int) (h : Int → Int) (w : Int) (l : Int) (p : Int) (M : gM) : SL o (f, s, h, w, l, p) M (o + 3) = some (gA 0 15 h) := by unfold SL; rw [if_neg (by omega), if_neg (by omega), if_neg (by omega), if_pos rfl]
theorem SL_out {o a : Int} (S : SLT) (M : gM) (h : a < o ∨ o + 4 ≤ a) : SL o S M a = M a := by unfold SL; rw [if_neg (by omega), if_neg (by omega), if_neg (by omega), if_neg (by omega)]
theorem SL_p3 (o : Int) (f : Int → Int) (s : Int → Int) (h : Int → Int) (w : Int) (l : Int) (p : Int) (M : gM) (x : Int) : gu (SL o (f, s, h, w, l, p) M) (o) (gO 7 ([vr (o + 1), vr (o + 2), vr (o + 3), vi w, vi l, vi p].set 3 (vi x))) = SL o (f, s, h, x, l, p) M := by
  funext a
  by_cases h : a = o
  · rw [h, gu_same]; exact (SL_0 ..).symm
  · rw [gu_ne _ _ h]; unfold SL; simp only [if_neg h]
theorem SL_p4 (o : Int) (f : Int → Int) (s : Int → Int) (h : Int → Int) (w : Int) (l : Int) (p : Int) (M : gM) (x : Int) : gu (SL o (f, s, h, w, l, p) M) (o) (gO 7 ([vr (o + 1), vr (o + 2), vr (o + 3), vi w, vi l, vi p].set 4 (vi x))) = SL o (f, s, h, w, x, p) M := by
  funext a
  by_cases h : a = o
  · rw [h, gu_same]; exact (SL_0 ..).symm
  · rw [gu_ne _ _ h]; unfold SL; simp only [if_neg h]
theorem SL_p5 (o : Int) (f : Int → Int) (s : Int → Int) (h : Int → Int) (w : Int) (l : Int) (p : Int) (M : gM) (x : Int) : gu (SL o (f, s, h, w, l, p) M) (o) (gO 7 ([vr (o + 1), vr (o + 2), vr (o + 3), vi w, vi l, vi p].set 5 (vi x))) = SL o (f, s, h, w, l, x) M := by
  funext a
  by_cases h : a = o
  · rw [h, gu_same]; exact (SL_0 ..).symm
  · rw [gu_ne _ _ h]; unfold SL; simp only [if_neg h]
theorem SL_s1 (o : Int) (f : Int → Int) (s : Int → Int) (h : Int → Int) (w : Int) (l : Int) (p : Int) (M : gM) (x : Int → Int) : gu (SL o (f, s, h, w, l, p) M) (o + 1) (gA 0 15 x) = SL o (x, s, h, w, l, p) M := by
  funext a
  by_cases h : a = o + 1
  · rw [h, gu_same]; exact (SL_1 ..).symm
  · rw [gu_ne _ _ h]; unfold SL; simp only [if_neg h]
theorem SL_s2 (o : Int) (f : Int → Int) (s : Int → Int) (h : Int → Int) (w : Int) (l : Int) (p : Int) (M : gM) (x : Int → Int) : gu (SL o (f, s, h, w, l, p) M) (o + 2) (gA 0 15 x) = SL o (f, x, h, w, l, p) M := by
  funext a
  by_cases h : a = o + 2
  · rw [h, gu_same]; exact (SL_2 ..).symm
  · rw [gu_ne _ _ h]; unfold SL; simp only [if_neg h]
theorem SL_s3 (o : Int) (f : Int → Int) (s : Int → Int) (h : Int → Int) (w : Int) (l : Int) (p : Int) (M : gM) (x : Int → Int) : gu (SL o (f, s, h, w, l, p) M) (o + 3) (gA 0 15 x) = SL o (f, s, x, w, l, p) M := by
  funext a
  by_cases h : a = o + 3
  · rw [h, gu_same]; exact (SL_3 ..).symm
  · rw [gu_ne _ _ h]; unfold SL; simp only [if_neg h]
def SLi (o : Int) (S : SLT) (M : gM) : Prop := M (o) = some (gO 7 [vr (o + 1), vr (o + 2), vr (o + 3), vi S.2.2.2.1, vi S.2.2.2.2.1, vi S.2.2.2.2.2]) ∧ M (o + 1) = some (gA 0 15 S.1) ∧ M (o + 2) = some (gA 0 15 S.2.1) ∧ M (o + 3) = some (gA 0 15 S.2.2.1)
theorem SL_self {o : Int} {S : SLT} {M : gM} (h : SLi o S M) : SL o S M = M := by
  funext a
  unfold SL
  by_cases h0 : a = o
  · rw [if_pos h0, h0]; exact (h.1).symm
  by_cases h1 : a = o + 1
  · rw [if_neg h0, if_pos h1, h1]; exact (h.2.1).symm
  by_cases h2 : a = o + 2
  · rw [if_neg h0, if_neg h1, if_pos h2, h2]; exact (h.2.2.1).symm
  by_cases h3 : a = o + 3
  · rw [if_neg h0, if_neg h1, if_neg h2, if_pos h3, h3]; exact (h.2.2.2).symm
  rw [if_neg h0, if_neg h1, if_neg h2, if_neg h3]
theorem SL_there (o : Int) (S : SLT) (M : gM) : SLi o S (SL o S M) := ⟨SL_0 o S.1 S.2.1 S.2.2.1 S.2.2.2.1 S.2.2.2.2.1 S.2.2.2.2.2 M, SL_1 o S.1 S.2.1 S.2.2.1 S.2.2.2.1 S.2.2.2.2.1 S.2.2.2.2.2 M, SL_2 o S.1 S.2.1 S.2.2.1 S.2.2.2.1 S.2.2.2.2.1 S.2.2.2.2.2 M, SL_3 o S.1 S.2.1 S.2.2.1 S.2.2.2.1 S.2.2.2.2.1 S.2.2.2.2.2 M⟩
theorem SL_twice (o : Int) (S S2 : SLT) (M : gM) : SL o S (SL o S2 M) = SL o S M := by
  funext a
  unfold SL
  by_cases h0 : a = o
  · simp only [if_pos h0]
  by_cases h1 : a = o + 1
  · simp only [if_neg h0, if_pos h1]
  by_cases h2 : a = o + 2
  · simp only [if_neg h0, if_neg h1, if_pos h2]
  by_cases h3 : a = o + 3
  · simp only [if_neg h0, if_neg h1, if_neg h2, if_pos h3]
  simp only [if_neg h0, if_neg h1, if_neg h2, if_neg h3]
