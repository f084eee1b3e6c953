/-! THE CALCULUS: an abstract machine over whole numbers. Addresses, ints and longs are Int; the heap is a function from names to cells; a judgement G, one rule an instruction; contracts CT. -/
abbrev gX : Type := va_G × (Nat → ClassId) × Nat × Nat × Nat × Nat
/-- abstract values: an int, a long, a reference by its name (or null) -/
abbrev gV : Type := Int ⊕ (Int ⊕ Option Int)
abbrev vi (x : Int) : gV := .inl x
abbrev vl (x : Int) : gV := .inr (.inl x)
abbrev vr (a : Int) : gV := .inr (.inr (some a))
abbrev vn : gV := .inr (.inr none)
/-- a cell: an array of ints (or booleans), an array of references, an object -/
abbrev gE : Type := (Nat × Int × (Int → Int)) ⊕ ((Nat × Int × (Int → Option Int)) ⊕ (Nat × List gV))
abbrev gA (t : Nat) (n : Int) (f : Int → Int) : gE := .inl (t, n, f)
abbrev gR (t : Nat) (n : Int) (f : Int → Option Int) : gE := .inr (.inl (t, n, f))
abbrev gO (c : Nat) (fs : List gV) : gE := .inr (.inr (c, fs))
abbrev gM : Type := Int → Option gE
def gu (M : gM) (a : Int) (e : gE) : gM := fun b => if b = a then some e else M b
def up (f : Int → Int) (k x : Int) : Int → Int := fun j => if j = k then x else f j
def upq (f : Int → Option Int) (k : Int) (x : Option Int) : Int → Option Int := fun j => if j = k then x else f j
theorem gu_same (M : gM) (a : Int) (e : gE) : gu M a e a = some e := if_pos rfl
theorem gu_ne (M : gM) {a b : Int} (e : gE) (h : ¬ b = a) : gu M a e b = M b := if_neg h
theorem up_same (f : Int → Int) (k x : Int) : up f k x k = x := if_pos rfl
theorem up_ne (f : Int → Int) {k j : Int} (x : Int) (h : ¬ j = k) : up f k x j = f j := if_neg h
/-- a name's address: -1 is ArrayList's empty array, -2 is WORDS, -3 the law's script -/
def gr (X : gX) (a : Int) : Nat := if a = -1 then X.2.2.2.1 else if a = -2 then X.2.2.2.2.1 else if a = -3 then X.2.2.2.2.2 else X.2.2.1 + a.toNat
def gv (X : gX) : gV → Value
  | .inl x => .int (Int32.ofInt x)
  | .inr (.inl x) => .long (Int64.ofInt x)
  | .inr (.inr (some a)) => .ref (gr X a)
  | .inr (.inr none) => .null
def ge (X : gX) : gE → va_E
  | .inl (t, n, f) => .inl (X.2.1 t, n.toNat, .inl (fun k => Int32.ofInt (f k)))
  | .inr (.inl (t, n, f)) => .inl (X.2.1 t, n.toNat, .inr (.inr (.inr (.inr (fun k => (f k).map (gr X))))))
  | .inr (.inr (c, fs)) => .inr (c, fs.map (gv X))
def gP (X : gX) (M : gM) (n : Int) (H : Heap) : Prop := 0 ≤ n ∧ H.size = X.2.2.1 + n.toNat ∧ ∀ (a : Int) (e : gE), M a = some e → 0 ≤ a ∧ a < n ∧ va_at X.1 vwCl (gr X a, ge X e) H
def gB (X : gX) : Nat → Prop := fun q => X.2.2.1 ≤ q
theorem gr_nn (X : gX) {a : Int} (h : 0 ≤ a) : gr X a = X.2.2.1 + a.toNat := by
  unfold gr
  rw [if_neg (by omega), if_neg (by omega), if_neg (by omega)]
theorem gr_inj (X : gX) {a b : Int} (ha : 0 ≤ a) (hb : 0 ≤ b) (h : gr X a = gr X b) : a = b := by
  rw [gr_nn X ha, gr_nn X hb] at h
  omega
theorem gP_put {X : gX} {M : gM} {n : Int} {H H1 : Heap} {a : Int} {e : gE} (hP : gP X M n H) (h0 : 0 ≤ a) (h1 : a < n) (z : H1.size = H.size) (oq : ∀ q : Nat, q ≠ gr X a → H1[q]? = H[q]?) (he : va_at X.1 vwCl (gr X a, ge X e) H1) : gP X (gu M a e) n H1 := by
  obtain ⟨hn, hs, hc⟩ := hP
  refine ⟨hn, by rw [z]; exact hs, fun b e' hb => ?_⟩
  by_cases hba : b = a
  · subst hba
    rw [gu_same] at hb
    cases hb
    exact ⟨h0, h1, he⟩
  · rw [gu_ne M e hba] at hb
    obtain ⟨g0, g1, g2⟩ := hc b e' hb
    exact ⟨g0, g1, g2.kept (oq _ fun q => hba (gr_inj X g0 h0 q))⟩
theorem gP_new {X : gX} {M : gM} {n : Int} {H H1 : Heap} {e : gE} (hP : gP X M n H) (z : H1.size = H.size + 1) (o1 : ∀ q : Nat, q < H.size → H1[q]? = H[q]?) (he : va_at X.1 vwCl (H.size, ge X e) H1) : gP X (gu M n e) (n + 1) H1 := by
  obtain ⟨hn, hs, hc⟩ := hP
  refine ⟨by omega, by rw [z, hs]; omega, fun b e' hb => ?_⟩
  by_cases hba : b = n
  · subst hba
    rw [gu_same] at hb
    cases hb
    refine ⟨hn, by omega, ?_⟩
    rw [gr_nn X hn, ← hs]
    exact he
  · rw [gu_ne M e hba] at hb
    obtain ⟨g0, g1, g2⟩ := hc b e' hb
    exact ⟨g0, by omega, g2.kept (o1 _ g2.lt)⟩
theorem gP_at {X : gX} {M : gM} {n : Int} {H : Heap} {a : Int} {e : gE} (hP : gP X M n H) (h : M a = some e) : va_P X.1 vwCl [(gr X a, ge X e)] H := by
  intro k q hk
  have hz : k < 1 := (List.getElem?_eq_some_iff.mp hk).1
  rw [show k = 0 by omega] at hk
  cases hk
  exact (hP.2.2 a e h).2.2
-- the locals
def gls (X : gX) : Nat → List (Option gV) → List (Nat × Value)
  | _, [] => []
  | i, none :: t => gls X (i + 1) t
  | i, some v :: t => (i, gv X v) :: gls X (i + 1) t
def gL (X : gX) (ls : Array Slot) (L : List (Option gV)) : Prop := lv_has ls L.length (gls X 0 L)
theorem gls_get (X : gX) : ∀ (L : List (Option gV)) (i k : Nat) (v : gV), L[k]? = some (some v) → (i + k, gv X v) ∈ gls X i L
  | [], i, k, v, h => by simp at h
  | none :: t, i, k, v, h => by
    cases k with
    | zero => simp at h
    | succ k =>
      have := gls_get X t (i + 1) k v (by simpa using h)
      rw [show i + (k + 1) = i + 1 + k by omega]
      exact this
  | some w :: t, i, k, v, h => by
    cases k with
    | zero => simp at h; subst h; exact List.mem_cons_self
    | succ k =>
      have := gls_get X t (i + 1) k v (by simpa using h)
      rw [show i + (k + 1) = i + 1 + k by omega]
      exact List.mem_cons_of_mem _ this
theorem gls_of (X : gX) : ∀ (L : List (Option gV)) (i : Nat) (q : Nat × Value), q ∈ gls X i L → ∃ k v, L[k]? = some (some v) ∧ q = (i + k, gv X v)
  | [], i, q, h => by cases h
  | none :: t, i, q, h => by
    obtain ⟨k, v, h1, h2⟩ := gls_of X t (i + 1) q h
    exact ⟨k + 1, v, by simpa using h1, by rw [h2]; congr 1; omega⟩
  | some w :: t, i, q, h => by
    rcases List.mem_cons.mp h with h | h
    · exact ⟨0, w, rfl, h⟩
    · obtain ⟨k, v, h1, h2⟩ := gls_of X t (i + 1) q h
      exact ⟨k + 1, v, by simpa using h1, by rw [h2]; congr 1; omega⟩
theorem gL_get {X : gX} {ls : Array Slot} {L : List (Option gV)} (h : gL X ls L) {k : Nat} {v : gV} (hk : L[k]? = some (some v)) : ls[k]? = some (.val (gv X v)) := by
  have := h.2.2 _ (gls_get X L 0 k v hk)
  rwa [Nat.zero_add] at this
/-- fewer, or the same, in a list of the same length -/
theorem gL_sub {X : gX} {ls : Array Slot} {L : List (Option gV)} {lv : List (Nat × Value)} {nL : Nat} (h : lv_has ls nL lv) (hl : L.length = nL) (hs : ∀ k v, L[k]? = some (some v) → (k, gv X v) ∈ lv) : gL X ls L := by
  refine ⟨by rw [h.1, hl], h.2.1, fun q hq => ?_⟩
  obtain ⟨k, v, h1, h2⟩ := gls_of X L 0 q hq
  rw [h2, Nat.zero_add]
  exact h.2.2 _ (hs k v h1)
def gcat2 : Option gV → Bool
  | some (.inr (.inl _)) => true
  | _ => false
theorem gv_cat (X : gX) (v : gV) : ((gv X v).category == 2) = gcat2 (some v) := by
  rcases v with x | x | x
  · rfl
  · rfl
  · cases x <;> rfl
theorem gL_set {X : gX} {ls : Array Slot} {L : List (Option gV)} {i : Nat} {v : gV} (hp : ∀ j w, j + 1 = i → L[j]? = some w → gcat2 w = false) (hi : i < L.length)
    (h : lv_has ls L.length ((i, gv X v) :: (gls X 0 L).filter (fun q => !(q.1 == i) && !(q.1 + 1 == i && q.2.category == 2)))) : gL X ls (L.set i (some v)) := by
  refine gL_sub h (by simp) fun k w hk => ?_
  by_cases hki : i = k
  · subst hki
    rw [List.getElem?_set_self hi] at hk
    cases hk
    exact List.mem_cons_self
  · rw [List.getElem?_set_ne hki] at hk
    refine List.mem_cons_of_mem _ (List.mem_filter.mpr ⟨by have := gls_get X L 0 k w hk; rwa [Nat.zero_add] at this, ?_⟩)
    have h1 : (k == i) = false := by simp; omega
    show (!(k == i) && !(k + 1 == i && (gv X w).category == 2)) = true
    rw [h1, gv_cat]
    by_cases h2 : k + 1 = i
    · rw [hp k _ h2 hk]
      simp
    · simp [h2]
theorem gL_set2 {X : gX} {ls : Array Slot} {L : List (Option gV)} {i : Nat} {v : gV} (hp : ∀ j w, j + 1 = i → L[j]? = some w → gcat2 w = false) (hi : i + 1 < L.length)
    (h : lv_has ls L.length ((i, gv X v) :: (gls X 0 L).filter (fun q => !(q.1 == i) && (!(q.1 == i + 1) && !(q.1 + 1 == i && q.2.category == 2))))) : gL X ls ((L.set i (some v)).set (i + 1) none) := by
  refine gL_sub h (by simp) fun k w hk => ?_
  by_cases hk2 : i + 1 = k
  · subst hk2
    rw [List.getElem?_set_self (by simpa using hi)] at hk
    cases hk
  rw [List.getElem?_set_ne hk2] at hk
  by_cases hki : i = k
  · subst hki
    rw [List.getElem?_set_self (by omega)] at hk
    cases hk
    exact List.mem_cons_self
  · rw [List.getElem?_set_ne hki] at hk
    refine List.mem_cons_of_mem _ (List.mem_filter.mpr ⟨by have := gls_get X L 0 k w hk; rwa [Nat.zero_add] at this, ?_⟩)
    have h1 : (k == i) = false := by simp; omega
    have h3 : (k == i + 1) = false := by simp; omega
    show (!(k == i) && (!(k == i + 1) && !(k + 1 == i && (gv X w).category == 2))) = true
    rw [h1, h3, gv_cat]
    by_cases h2 : k + 1 = i
    · rw [hp k _ h2 hk]
      simp
    · simp [h2]
/-- the first locals: the arguments, a long with the place behind it -/
def gl0 : List gV → Nat → List (Option gV)
  | [], n => List.replicate n none
  | .inr (.inl x) :: t, n + 2 => some (vl x) :: none :: gl0 t n
  | .inr (.inl x) :: _, 1 => [some (vl x)]
  | .inr (.inl _) :: _, 0 => []
  | v :: t, n + 1 => some v :: gl0 t n
  | _ :: _, 0 => []
theorem gl0_len : ∀ (vs : List gV) (n : Nat), (gl0 vs n).length = n
  | [], n => by simp [gl0]
  | .inl x :: t, n + 1 => by simp [gl0, gl0_len t n]
  | .inl x :: t, 0 => by simp [gl0]
  | .inr (.inl x) :: t, n + 2 => by simp [gl0, gl0_len t n]
  | .inr (.inl x) :: t, 1 => by simp [gl0]
  | .inr (.inl x) :: t, 0 => by simp [gl0]
  | .inr (.inr x) :: t, n + 1 => by simp [gl0, gl0_len t n]
  | .inr (.inr x) :: t, 0 => by simp [gl0]
theorem gl0_args (X : gX) : ∀ (vs : List gV) (n i k : Nat) (v : gV), (gl0 vs n)[k]? = some (some v) → (i + k, gv X v) ∈ lv_args i (vs.map (gv X))
  | [], n, i, k, v, h => by
    rw [gl0, List.getElem?_replicate] at h
    split at h <;> cases h
  | .inl x :: t, 0, i, k, v, h => by simp [gl0] at h
  | .inr (.inr x) :: t, 0, i, k, v, h => by simp [gl0] at h
  | .inr (.inl x) :: t, 0, i, k, v, h => by simp [gl0] at h
  | .inl x :: t, n + 1, i, k, v, h => by
    cases k with
    | zero => simp [gl0] at h; subst h; exact List.mem_cons_self
    | succ k =>
      have := gl0_args X t n (i + 1) k v (by simpa [gl0] using h)
      rw [show i + (k + 1) = i + 1 + k by omega]
      exact List.mem_cons_of_mem _ this
  | .inr (.inr x) :: t, n + 1, i, k, v, h => by
    cases k with
    | zero => simp [gl0] at h; subst h; exact List.mem_cons_self
    | succ k =>
      have := gl0_args X t n (i + 1) k v (by simpa [gl0] using h)
      rw [show i + (k + 1) = i + 1 + k by omega]
      cases x <;> exact List.mem_cons_of_mem _ this
  | .inr (.inl x) :: t, 1, i, k, v, h => by
    cases k with
    | zero => simp [gl0] at h; subst h; exact List.mem_cons_self
    | succ k => simp [gl0] at h
  | .inr (.inl x) :: t, n + 2, i, k, v, h => by
    cases k with
    | zero => simp [gl0] at h; subst h; exact List.mem_cons_self
    | succ k =>
      cases k with
      | zero => simp [gl0] at h
      | succ k =>
        have := gl0_args X t n (i + 2) k v (by simpa [gl0] using h)
        rw [show i + (k + 1 + 1) = i + 2 + k by omega]
        exact List.mem_cons_of_mem _ this
