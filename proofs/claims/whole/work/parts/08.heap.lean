/-! FIELDS, ARRAYS, NEW CELLS -/
theorem ix_cl {x : Int} (h : 0 ≤ x ∧ x < 2147483648) : (Int32.ofInt x).toNatClampNeg = x.toNat := by
  show (Int32.ofInt x).toInt.toNat = x.toNat
  rw [iI_toInt ⟨by omega, h.2⟩]
theorem ix_in {x n : Int} (h : 0 ≤ x ∧ x < n) (hn : n ≤ 2147483648) : vp_in (Int32.ofInt x) n.toNat := by
  rw [vp_in_iff, iI_toInt ⟨by omega, by omega⟩]
  omega
theorem up_ok (f : Int → Int) {x v : Int} (hx : 0 ≤ x) : upd (fun k : Nat => Int32.ofInt (f k)) x.toNat (Int32.ofInt v) = (fun k : Nat => Int32.ofInt (up f x v k)) := by
  funext k
  by_cases h : (k : Int) = x
  · have h2 : k = x.toNat := by omega
    show (if k = x.toNat then Int32.ofInt v else _) = Int32.ofInt (if (k : Int) = x then v else _)
    rw [if_pos h2, if_pos h]
  · have h2 : ¬ k = x.toNat := by omega
    simp [upd, up, h, h2]
theorem upq_ok (X : gX) (f : Int → Option Int) {x : Int} {a : Int} (hx : 0 ≤ x) : va_up (fun k : Nat => (f k).map (gr X)) x.toNat (some (gr X a)) = (fun k : Nat => (upq f x (some a) k).map (gr X)) := by
  funext k
  by_cases h : (k : Int) = x
  · have h2 : k = x.toNat := by omega
    show (if k = x.toNat then some (gr X a) else _) = Option.map (gr X) (if (k : Int) = x then some a else _)
    rw [if_pos h2, if_pos h]
    rfl
  · have h2 : ¬ k = x.toNat := by omega
    simp [va_up, upq, h, h2]
def gFd (own : String) (ix ci k : Nat) : Prop := ∃ (C : String) (T : u_T) (N : Nat) (ref : String), vwCl[ci]? = some (C, T, N) ∧ k < N ∧ (∀ w ∈ u_ws C T N, w ∈ TB) ∧ Cond.fieldLink own ix ref (T k).2.1 (T k).2.2.1 ∈ TB ∧ (ref = (T k).1 ∨ Cond.sameField ref (T k).1 (T k).2.1 (T k).2.2.1 ∈ TB)
def gFdN (own : String) (ix ci k : Nat) : Prop := ∃ (C : String) (T : u_T) (N : Nat) (ref host : String), vwCl[ci]? = some (C, T, N) ∧ k < N ∧ (∀ w ∈ u_ws C T N, w ∈ TB) ∧ Cond.fieldLinkNest own ix ref (T k).2.1 (T k).2.2.1 host ∈ NB ∧ (ref = (T k).1 ∨ Cond.sameField ref (T k).1 (T k).2.1 (T k).2.2.1 ∈ TB)
def gFp (own : String) (ix ci k : Nat) (ty : FieldType) (fin : Bool) : Prop := ∃ (C : String) (T : u_T) (N : Nat) (ref : String) (ty0 : Nat → FieldType), vwCl[ci]? = some (C, T, N) ∧ k < N ∧ (∀ w ∈ u_ws C T N, w ∈ TB) ∧ Cond.fieldLink own ix ref (T k).2.1 (T k).2.2.1 ∈ TB ∧ (ref = (T k).1 ∨ Cond.sameField ref (T k).1 (T k).2.1 (T k).2.2.1 ∈ TB) ∧ (∀ j, j < N → parseFieldDescriptor (T j).2.2.1 = some (ty0 j)) ∧ (∀ a, a < N → ∀ b, b < N → a ≠ b → (T a).2.1 ≠ (T b).2.1) ∧ (T k).2.2.2 = fin ∧ parseFieldDescriptor (T k).2.2.1 = some ty ∧ (fin = true → (T k).1 = own)
def gFpN (own : String) (ix ci k : Nat) (ty : FieldType) : Prop := ∃ (C : String) (T : u_T) (N : Nat) (ref host : String) (ty0 : Nat → FieldType), vwCl[ci]? = some (C, T, N) ∧ k < N ∧ (∀ w ∈ u_ws C T N, w ∈ TB) ∧ Cond.fieldLinkNest own ix ref (T k).2.1 (T k).2.2.1 host ∈ NB ∧ (ref = (T k).1 ∨ Cond.sameField ref (T k).1 (T k).2.1 (T k).2.2.1 ∈ TB) ∧ (∀ j, j < N → parseFieldDescriptor (T j).2.2.1 = some (ty0 j)) ∧ (∀ a, a < N → ∀ b, b < N → a ≠ b → (T a).2.1 ≠ (T b).2.1) ∧ (T k).2.2.2 = false ∧ parseFieldDescriptor (T k).2.2.1 = some ty
def gfit (ty : FieldType) (v : gV) : Prop := ∀ X : gX, narrow ty (gv X v) = gv X v ∧ fits ty (gv X v) = true
theorem gfit_i (x : Int) : gfit .int (vi x) := fun _ => ⟨rfl, rfl⟩
theorem gfit_z {x : Int} (h : x = 0 ∨ x = 1) : gfit .boolean (vi x) := fun X => by
  show narrow .boolean (.int (Int32.ofInt x)) = .int (Int32.ofInt x) ∧ fits .boolean (.int (Int32.ofInt x)) = true
  rcases h with rfl | rfl <;> exact ⟨by decide, by decide⟩
theorem gfit_o (C : String) (a : Option Int) : gfit (.object C) (.inr (.inr a)) := fun _ => by cases a <;> exact ⟨rfl, rfl⟩
theorem gfit_a (t : FieldType) (a : Option Int) : gfit (.array t) (.inr (.inr a)) := fun _ => by cases a <;> exact ⟨rfl, rfl⟩
theorem g_hsame {s : State} {args : Array Value} (hts : ∀ w ∈ TB, w.before args s = true) {ref D nm d : String} (h : ref = D ∨ Cond.sameField ref D nm d ∈ TB) : ∀ x, s.fieldFound? D nm d = some x → s.fieldFound? ref nm d = some x := by
  rcases h with h | h
  · intro x hx; rw [h]; exact hx
  · intro x hx; exact u_same (hts _ h) x hx
theorem gF.nb {κ : gC} {y : MethodName} {cc : ByteArray} {nL : Nat} {rm : Room} (C : gF κ y cc nL rm) {w : Cond} (h : w ∈ NB) : w.before (ka κ) (ks κ) = true := va_Nw.use (NB_tab h) (C.S.2.2.2.2.2.2.2.1 w h)
section GH
variable {κ : gC} {y : MethodName} {cc : ByteArray} {nL : Nat} {rm : Room} {M : gM} {n : Int} {L : List (Option gV)} {pc : Nat} {st : List gV} {cells slots : Nat} {a : Int}
theorem g_get {ix ci k : Nat} {fs : List gV} {v : gV} (C : gF κ y cc nL rm) (hF : gFd y.cls ix ci k) (hd : decode cc pc = .ok (.getfield ix, 3)) (hM : M a = some (gO ci fs)) (hv : fs[k]? = some v) (g : G κ M n L (pc + 3) (v :: st) cells slots) : G κ M n L pc (vr a :: st) cells slots := by
  intro H locs ls hP hS hL
  obtain ⟨Cn, T, N, ref, h1, h2, h3, h4, h5⟩ := hF
  exact va_get C.x C.b C.ts h3 C.own C.S.1 (gP_at hP hM) 0 rfl h1 k h2 (C.ts _ h4) (g_hsame C.ts h5) (v := gv (kX κ) v) (by rw [List.getElem?_map, hv]; rfl) hd (g H locs ls hP hS hL)
theorem g_getN {ix ci k : Nat} {fs : List gV} {v : gV} (C : gF κ y cc nL rm) (hF : gFdN y.cls ix ci k) (hd : decode cc pc = .ok (.getfield ix, 3)) (hM : M a = some (gO ci fs)) (hv : fs[k]? = some v) (g : G κ M n L (pc + 3) (v :: st) cells slots) : G κ M n L pc (vr a :: st) cells slots := by
  intro H locs ls hP hS hL
  obtain ⟨Cn, T, N, ref, host, h1, h2, h3, h4, h5⟩ := hF
  exact va_getN C.x C.b C.ts h3 C.own C.S.1 (gP_at hP hM) 0 rfl h1 k h2 (C.nb h4) (g_hsame C.ts h5) (v := gv (kX κ) v) (by rw [List.getElem?_map, hv]; rfl) hd (g H locs ls hP hS hL)
theorem gP_B {X : gX} {H : Heap} {e : gE} (hP : gP X M n H) (hM : M a = some e) : gB X (gr X a) := by
  show X.2.2.1 ≤ gr X a
  rw [gr_nn X (hP.2.2 a e hM).1]
  omega
theorem g_put {ix ci k : Nat} {ty : FieldType} {fs : List gV} {v : gV} (C : gF κ y cc nL rm) (hF : gFp y.cls ix ci k ty false) (hd : decode cc pc = .ok (.putfield ix, 3)) (hM : M a = some (gO ci fs)) (hl : k < fs.length) (hv : gfit ty v) (g : G κ (gu M a (gO ci (fs.set k v))) n L (pc + 3) st cells slots) : G κ M n L pc (v :: vr a :: st) cells slots := by
  intro H locs ls hP hS0 hL
  obtain ⟨Cn, T, N, ref, ty0, hc, hk, hin, hlink, hsame, hty, hnm, hfin, hdd, -⟩ := hF
  have hK := C.S.1
  have hap := va_apart (own := y.cls) C.ts hin ty0 hty hnm hK hc
  obtain ⟨r, h1, cell, q1, q2, q3, q4⟩ := (hP.2.2 a _ hM).2.2
  have hr : r = (Cn, T, N) := Option.some.inj (h1.symm.trans hc)
  subst hr
  obtain ⟨hS, hfc, kC, hkC, hkind⟩ := hK.1 ci _ hc
  obtain ⟨cf, kf, fi, f, hi, hsl⟩ := hS k hk
  have hlay := C.ts _ (hin _ (u_in_lay hk))
  unfold u_lay at hlay
  rw [if_neg (by rw [hfin]; decide)] at hlay
  have hst := (u_facts hfc hkC (u_lays C.ts hin hk) hi).1
  have h6 := u_store hfc hkC hkind hlay hi hdd (hv (kX κ)).1 (hv (kX κ)).2
  refine W.putK C.x C.b (f := f) ⟨C.own, C.ts _ hlink, ⟨_, _, _, g_hsame C.ts hsame _ hi⟩, hst⟩ (by rw [q2]; exact h6) q1 q3 (by rw [hsl]; exact k2_hasslot (q4 k hk)) rfl rfl hd fun H' e1 e2 e3 => ?_
  rw [hsl] at e1 ⊢
  refine g H' _ ls (gP_put hP (hP.2.2 a _ hM).1 (hP.2.2 a _ hM).2.1 e2 e3 ⟨_, hc, t_OB.to (V := updV (vp_V (fs.map (gv (kX κ)))) k (gv (kX κ) v)) ⟨_, e1, q2, q3, t_set q4 hap hk _⟩ (fun j _ => ?_)⟩) (hS0.put e2 e3 (gP_B hP hM)) hL
  rw [List.map_set]
  exact vp_updV_set (by rw [List.length_map]; exact hl) _ j
theorem g_putF {ix ci k : Nat} {ty : FieldType} {fs : List gV} {v : gV} (C : gF κ y cc nL rm) (hinit : y.name = "<init>") (hF : gFp y.cls ix ci k ty true) (hd : decode cc pc = .ok (.putfield ix, 3)) (hM : M a = some (gO ci fs)) (hl : k < fs.length) (hv : gfit ty v) (g : G κ (gu M a (gO ci (fs.set k v))) n L (pc + 3) st cells slots) : G κ M n L pc (v :: vr a :: st) cells slots := by
  intro H locs ls hP hS0 hL
  obtain ⟨Cn, T, N, ref, ty0, hc, hk, hin, hlink, hsame, hty, hnm, hfin, hdd, hdecl⟩ := hF
  have hdecl := hdecl rfl
  have hK := C.S.1
  have hap := va_apart (own := y.cls) C.ts hin ty0 hty hnm hK hc
  obtain ⟨r, h1, cell, q1, q2, q3, q4⟩ := (hP.2.2 a _ hM).2.2
  have hr : r = (Cn, T, N) := Option.some.inj (h1.symm.trans hc)
  subst hr
  obtain ⟨hS, hfc, kC, hkC, hkind⟩ := hK.1 ci _ hc
  obtain ⟨cf, kf, fi, f, hi, hsl⟩ := hS k hk
  have hlay := C.ts _ (hin _ (u_in_lay hk))
  unfold u_lay at hlay
  rw [if_pos hfin] at hlay
  have hst := (u_facts hfc hkC (u_lays C.ts hin hk) hi).1
  have hcf : (km κ).cls = cf := by
    obtain ⟨_, _, c', _, _, _, -, -, hf', -, -, -, hown2, -⟩ := Cond.laysFinal_spec hlay
    have e1 : c' = cf := by have := hi.symm.trans hf'; simp at this; exact this.1.symm
    rw [hdecl] at hown2
    rw [← e1]; exact Option.some.inj (C.own.symm.trans hown2)
  have h6 := u_fits hfc hkC hkind (Or.inr hlay) hi hdd (hv (kX κ)).1 (hv (kX κ)).2
  refine W.putFinK C.x C.b C.own (C.ts _ hlink) (g_hsame C.ts hsame _ hi) hst hcf (C.nm.trans hinit) (by rw [q2]; exact h6) q1 q3 (by rw [hsl]; exact k2_hasslot (q4 k hk)) rfl rfl hd fun H' e1 e2 e3 => ?_
  rw [hsl] at e1 ⊢
  refine g H' _ ls (gP_put hP (hP.2.2 a _ hM).1 (hP.2.2 a _ hM).2.1 e2 e3 ⟨_, hc, t_OB.to (V := updV (vp_V (fs.map (gv (kX κ)))) k (gv (kX κ) v)) ⟨_, e1, q2, q3, t_set q4 hap hk _⟩ (fun j _ => ?_)⟩) (hS0.put e2 e3 (gP_B hP hM)) hL
  rw [List.map_set]
  exact vp_updV_set (by rw [List.length_map]; exact hl) _ j
theorem g_putN {ix ci k : Nat} {ty : FieldType} {fs : List gV} {v : gV} (C : gF κ y cc nL rm) (hF : gFpN y.cls ix ci k ty) (hd : decode cc pc = .ok (.putfield ix, 3)) (hM : M a = some (gO ci fs)) (hl : k < fs.length) (hv : gfit ty v) (g : G κ (gu M a (gO ci (fs.set k v))) n L (pc + 3) st cells slots) : G κ M n L pc (v :: vr a :: st) cells slots := by
  intro H locs ls hP hS0 hL
  obtain ⟨Cn, T, N, ref, host, ty0, hc, hk, hin, hlink, hsame, hty, hnm, hfin, hdd⟩ := hF
  have hK := C.S.1
  have hap := va_apart (own := y.cls) C.ts hin ty0 hty hnm hK hc
  obtain ⟨r, h1, cell, q1, q2, q3, q4⟩ := (hP.2.2 a _ hM).2.2
  have hr : r = (Cn, T, N) := Option.some.inj (h1.symm.trans hc)
  subst hr
  obtain ⟨hS, hfc, kC, hkC, hkind⟩ := hK.1 ci _ hc
  obtain ⟨cf, kf, fi, f, hi, hsl⟩ := hS k hk
  have hlay := C.ts _ (hin _ (u_in_lay hk))
  unfold u_lay at hlay
  rw [if_neg (by rw [hfin]; decide)] at hlay
  have hst := (u_facts hfc hkC (u_lays C.ts hin hk) hi).1
  have h6 := u_store hfc hkC hkind hlay hi hdd (hv (kX κ)).1 (hv (kX κ)).2
  refine va_WputK C.x C.b (f := f) C.own (C.nb hlink) (g_hsame C.ts hsame _ hi) hst (by rw [q2]; exact h6) q1 q3 (by rw [hsl]; exact k2_hasslot (q4 k hk)) rfl rfl hd fun H' e1 e2 e3 => ?_
  rw [hsl] at e1 ⊢
  refine g H' _ ls (gP_put hP (hP.2.2 a _ hM).1 (hP.2.2 a _ hM).2.1 e2 e3 ⟨_, hc, t_OB.to (V := updV (vp_V (fs.map (gv (kX κ)))) k (gv (kX κ) v)) ⟨_, e1, q2, q3, t_set q4 hap hk _⟩ (fun j _ => ?_)⟩) (hS0.put e2 e3 (gP_B hP hM)) hL
  rw [List.map_set]
  exact vp_updV_set (by rw [List.length_map]; exact hl) _ j
-- arrays
theorem g_iald {len x : Int} {f : Int → Int} (C : gF κ y cc nL rm) (hd : decode cc pc = .ok (.iaload, 1)) (hM : M a = some (gA 0 len f)) (h : 0 ≤ x ∧ x < len ∧ len ≤ 2147483648) (g : G κ M n L (pc + 1) (vi (f x) :: st) cells slots) : G κ M n L pc (vi x :: vr a :: st) cells slots := by
  intro H locs ls hP hS hL
  have g1 := g H locs ls hP hS hL
  refine va_iald C.x C.b C.S.1 (gP_at hP hM) 0 0 rfl rfl (ix_in ⟨h.1, h.2.1⟩ h.2.2) hd ?_
  rw [ix_cl ⟨h.1, by omega⟩, show ((x.toNat : Nat) : Int) = x by omega]
  exact g1
theorem g_zald {len x : Int} {f : Int → Int} (C : gF κ y cc nL rm) (hd : decode cc pc = .ok (.baload, 1)) (hM : M a = some (gA 1 len f)) (h : 0 ≤ x ∧ x < len ∧ len ≤ 2147483648) (g : G κ M n L (pc + 1) (vi (f x) :: st) cells slots) : G κ M n L pc (vi x :: vr a :: st) cells slots := by
  intro H locs ls hP hS hL
  have g1 := g H locs ls hP hS hL
  refine va_zald C.x C.b C.S.1 (gP_at hP hM) 0 1 rfl rfl (ix_in ⟨h.1, h.2.1⟩ h.2.2) hd ?_
  rw [ix_cl ⟨h.1, by omega⟩, show ((x.toNat : Nat) : Int) = x by omega]
  exact g1
theorem g_iast {len x v : Int} {f : Int → Int} (C : gF κ y cc nL rm) (hd : decode cc pc = .ok (.iastore, 1)) (hM : M a = some (gA 0 len f)) (h : 0 ≤ x ∧ x < len ∧ len ≤ 2147483648) (g : G κ (gu M a (gA 0 len (up f x v))) n L (pc + 1) st cells slots) : G κ M n L pc (vi v :: vi x :: vr a :: st) cells slots := by
  intro H locs ls hP hS hL
  have hK := C.S.1
  refine W.iast C.x C.b ((hP.2.2 a _ hM).2.2) ((hK.2 0 _ rfl).1 len.toNat (fun j => .int (Int32.ofInt (f j)))) (fun q => by cases q) (by show ¬ (_ ∨ (arrV _ _ _).slots.size ≤ _); rw [arrV_size]; exact ix_in ⟨h.1, h.2.1⟩ h.2.2) rfl rfl hd fun H1 e z oq => ?_
  refine g H1 _ ls (gP_put hP (hP.2.2 a _ hM).1 (hP.2.2 a _ hM).2.1 z oq ?_) (hS.put z oq (gP_B hP hM)) hL
  show H1[gr (kX κ) a]? = some (vp_cell _ _)
  rw [e, ← up_ok f h.1]
  show some ((vp_cell _ _).setSlot _ _) = some (vp_cell _ _)
  rw [vp_cell_i, vp_cell_i, arrV_store, ix_cl ⟨h.1, by omega⟩]
  congr 2
  funext q
  by_cases hq : q = x.toNat
  · subst hq
    simp [updV, upd]
  · simp [updV, upd, hq]
theorem g_zast {len x v : Int} {f : Int → Int} (C : gF κ y cc nL rm) (hd : decode cc pc = .ok (.bastore, 1)) (hM : M a = some (gA 1 len f)) (h : 0 ≤ x ∧ x < len ∧ len ≤ 2147483648) (hv : v = 0 ∨ v = 1) (g : G κ (gu M a (gA 1 len (up f x v))) n L (pc + 1) st cells slots) : G κ M n L pc (vi v :: vi x :: vr a :: st) cells slots := by
  intro H locs ls hP hS hL
  have hK := C.S.1
  have hn : narrow .boolean (.int (Int32.ofInt v)) = .int (Int32.ofInt v) := by rcases hv with rfl | rfl <;> decide
  refine W.zast C.x C.b ((hP.2.2 a _ hM).2.2) ((hK.2 1 _ rfl).1 len.toNat (fun j => .int (Int32.ofInt (f j)))) (fun q => by cases q) (by show ¬ (_ ∨ (arrV _ _ _).slots.size ≤ _); rw [arrV_size]; exact ix_in ⟨h.1, h.2.1⟩ h.2.2) rfl rfl hd fun H1 e z oq => ?_
  rw [hn] at e
  refine g H1 _ ls (gP_put hP (hP.2.2 a _ hM).1 (hP.2.2 a _ hM).2.1 z oq ?_) (hS.put z oq (gP_B hP hM)) hL
  show H1[gr (kX κ) a]? = some (vp_cell _ _)
  rw [e, ← up_ok f h.1]
  show some ((vp_cell _ _).setSlot _ _) = some (vp_cell _ _)
  rw [vp_cell_i, vp_cell_i, arrV_store, ix_cl ⟨h.1, by omega⟩]
  congr 2
  funext q
  by_cases hq : q = x.toNat
  · subst hq
    simp [updV, upd]
  · simp [updV, upd, hq]
theorem va_rf_gv (X : gX) (o : Option Int) : va_rf (o.map (gr X)) = gv X (.inr (.inr o)) := by cases o <;> rfl
theorem gtys_obj (X : gX) {t : Nat} (h : 2 ≤ t ∧ t ≤ 5) : ∃ C, (gtys X)[t]? = some (X.2.1 t, .object C) := by
  rcases (show t = 2 ∨ t = 3 ∨ t = 4 ∨ t = 5 by omega) with rfl | rfl | rfl | rfl <;> exact ⟨_, rfl⟩
theorem g_aald {t : Nat} {len x : Int} {f : Int → Option Int} (C : gF κ y cc nL rm) (ht : 2 ≤ t ∧ t ≤ 5) (hd : decode cc pc = .ok (.aaload, 1)) (hM : M a = some (gR t len f)) (h : 0 ≤ x ∧ x < len ∧ len ≤ 2147483648) (g : G κ M n L (pc + 1) (.inr (.inr (f x)) :: st) cells slots) : G κ M n L pc (vi x :: vr a :: st) cells slots := by
  intro H locs ls hP hS hL
  have g1 := g H locs ls hP hS hL
  obtain ⟨Cn, hC⟩ := gtys_obj (kX κ) ht
  refine va_aldq C.x C.b C.S.1 (gP_at hP hM) 0 t rfl hC (ix_in ⟨h.1, h.2.1⟩ h.2.2) hd ?_
  rw [ix_cl ⟨h.1, by omega⟩, show ((x.toNat : Nat) : Int) = x by omega, va_rf_gv]
  exact g1
theorem g_alen {t : Nat} {len : Int} {f : Int → Int} (C : gF κ y cc nL rm) (ht : t ≤ 1) (hd : decode cc pc = .ok (.arraylength, 1)) (hM : M a = some (gA t len f)) (h : 0 ≤ len) (g : G κ M n L (pc + 1) (vi len :: st) cells slots) : G κ M n L pc (vr a :: st) cells slots := by
  intro H locs ls hP hS hL
  have hC : ∃ ty, (gtys (kX κ))[t]? = some ((kX κ).2.1 t, ty) := by rcases (show t = 0 ∨ t = 1 by omega) with rfl | rfl <;> exact ⟨_, rfl⟩
  obtain ⟨ty, hC⟩ := hC
  refine va_alen C.x C.b C.S.1 (gP_at hP hM) 0 t rfl hC (v := Int32.ofInt len) ?_ hd (g H locs ls hP hS hL)
  show Int32.ofNat len.toNat = Int32.ofInt len
  rw [← Int32.ofInt_eq_ofNat]
  congr 1
  omega
theorem g_alenR {t : Nat} {len : Int} {f : Int → Option Int} (C : gF κ y cc nL rm) (ht : 2 ≤ t ∧ t ≤ 5) (hd : decode cc pc = .ok (.arraylength, 1)) (hM : M a = some (gR t len f)) (h : 0 ≤ len) (g : G κ M n L (pc + 1) (vi len :: st) cells slots) : G κ M n L pc (vr a :: st) cells slots := by
  intro H locs ls hP hS hL
  obtain ⟨ty, hC⟩ := gtys_obj (kX κ) ht
  refine va_alen C.x C.b C.S.1 (gP_at hP hM) 0 t rfl hC (v := Int32.ofInt len) ?_ hd (g H locs ls hP hS hL)
  show Int32.ofNat len.toNat = Int32.ofInt len
  rw [← Int32.ofInt_eq_ofNat]
  congr 1
  omega
/-- ArrayList's empty array has length 0 -/
theorem g_alenD (C : gF κ y cc nL rm) (hd : decode cc pc = .ok (.arraylength, 1)) (g : G κ M n L (pc + 1) (vi 0 :: st) cells slots) : G κ M n L pc (vr (-1) :: st) cells slots := by
  intro H locs ls hP hS hL
  exact va_tlen C.x C.b C.S.2.2.1 hS (v := 0) rfl hd (g H locs ls hP hS hL)
theorem g_getsD {ix : Nat} (C : gF κ y cc nL rm) (hw : Cond.fieldLink y.cls ix "java/util/ArrayList" "DEFAULTCAPACITY_EMPTY_ELEMENTDATA" "[Ljava/lang/Object;" ∈ TB) (hd : decode cc pc = .ok (.getstatic ix, 3)) (g : G κ M n L (pc + 3) (vr (-1) :: st) cells slots) : G κ M n L pc st cells slots := by
  intro H locs ls hP hS hL
  exact va_gets C.x C.b C.S.2.1 hS C.own (C.ts _ hw) (fun _ h => h) hd (g H locs ls hP hS hL)
theorem g_getsW {ix : Nat} (C : gF κ y cc nL rm) (hw : Cond.fieldLink y.cls ix "PadPolish" "WORDS" "[I" ∈ TB) (hd : decode cc pc = .ok (.getstatic ix, 3)) (g : G κ M n L (pc + 3) (vr (-2) :: st) cells slots) : G κ M n L pc st cells slots := by
  intro H locs ls hP hS hL
  exact va_gets C.x C.b C.S.2.2.2.1 hS C.own (C.ts _ hw) (fun _ h => h) hd (g H locs ls hP hS hL)
theorem g_ialdW {x : Int} (C : gF κ y cc nL rm) (hd : decode cc pc = .ok (.iaload, 1)) (h : 0 ≤ x ∧ x < 5) (g : G κ M n L (pc + 1) (vi (gWd x) :: st) cells slots) : G κ M n L pc (vi x :: vr (-2) :: st) cells slots := by
  intro H locs ls hP hS hL
  refine va_ti C.x C.b C.S.2.2.2.2.1 hS (ix_in (n := 5) ⟨h.1, h.2⟩ (by decide)) (v := .int (Int32.ofInt (gWd x))) ?_ hd (g H locs ls hP hS hL)
  show Value.int (Int32.ofInt (gWd _)) = _
  rw [ix_cl ⟨h.1, by omega⟩, show ((x.toNat : Nat) : Int) = x by omega]
end GH
