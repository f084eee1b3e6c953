/-! NEW CELLS, CALLS, CASTS -/
def gNw (own : String) (ix ci N : Nat) (fs : List gV) : Prop := ∃ (C : String) (T : u_T) (ty : Nat → FieldType), vwCl[ci]? = some (C, T, N) ∧ (∀ w ∈ u_ws C T N, w ∈ TB) ∧ (∀ j, j < N → parseFieldDescriptor (T j).2.2.1 = some (ty j)) ∧ Cond.classLink own ix C ∈ TB ∧ Cond.instantiable C N ∈ TB ∧ Cond.initialized C ∈ TB ∧ ∀ (X : gX) (j : Nat), j < N → defaultValue (ty j) = vp_V (fs.map (gv X)) j
def cpy (f g : Int → Int) (sp dp n : Int) : Int → Int := fun k => if dp ≤ k ∧ k < dp + n then f (sp + (k - dp)) else g k
theorem cpy_ok (f g : Int → Int) {sp dp n : Int} (h1 : 0 ≤ sp) (h2 : 0 ≤ dp) (h3 : 0 ≤ n) : va_cpy (fun k : Nat => Int32.ofInt (f k)) (fun k : Nat => Int32.ofInt (g k)) sp.toNat dp.toNat n.toNat = (fun k : Nat => Int32.ofInt (cpy f g sp dp n k)) := by
  funext k
  unfold va_cpy cpy
  by_cases h : dp.toNat ≤ k ∧ k < dp.toNat + n.toNat
  · rw [if_pos h, if_pos (by omega)]
    exact congrArg (fun z => Int32.ofInt (f z)) (by omega)
  · rw [if_neg h, if_neg (by omega)]
def gcat : gV → Nat
  | .inr (.inl _) => 2
  | _ => 1
def gsum : List gV → Nat
  | [] => 0
  | v :: t => gcat v + gsum t
theorem gcat_ok (X : gX) (v : gV) : (gv X v).category = gcat v := by
  rcases v with q | q | q
  · rfl
  · rfl
  · cases q <;> rfl
theorem gsum_ok (X : gX) : ∀ st : List gV, ((st.map (gv X)).map fun v => v.category).sum = gsum st
  | [] => rfl
  | v :: t => by
    rw [List.map_cons, List.map_cons, List.sum_cons, gcat_ok, gsum_ok X t]
    rfl
section GN
variable {κ : gC} {y : MethodName} {cc : ByteArray} {nL : Nat} {rm : Room} {M : gM} {n : Int} {L : List (Option gV)} {pc : Nat} {st : List gV} {cells slots : Nat} {a : Int}
theorem gP_hn {X : gX} {H : Heap} (hP : gP X M n H) : gr X n = H.size := by rw [gr_nn X hP.1, hP.2.1]
theorem g_new {ix ci N : Nat} {fs : List gV} (C : gF κ y cc nL rm) (hF : gNw y.cls ix ci N fs) (hd : decode cc pc = .ok (.new ix, 3)) (hr : cells + 1 ≤ rm.cells ∧ slots + N ≤ rm.slots) (g : G κ (gu M n (gO ci fs)) (n + 1) L (pc + 3) (vr n :: st) (cells + 1) (slots + N)) : G κ M n L pc st cells slots := by
  intro H locs ls hP hS hL
  obtain ⟨Cn, T, ty, hc, hin, hty, w1, w2, w3, hfs⟩ := hF
  have hKn := C.S.1.1 ci _ hc
  refine W.newcK C.x C.b C.own (C.ts _ w1) (C.ts _ w2) (C.ts _ w3) rfl hd (by rw [C.R]; exact hr.1) (by rw [C.R]; exact hr.2) hKn.2.1 rfl fun H1 kC hkC e1 z1 o1 => ?_
  rw [← gP_hn hP]
  refine g H1 locs ls (gP_new hP z1 o1 ⟨_, hc, (u_born ty C.ts hin hKn hkC e1 hty).to (hfs (kX κ))⟩) ⟨Nat.le_trans hS.1 (by omega), fun x h1 h2 => (o1 x (Nat.lt_of_lt_of_le h1 hS.1)).trans (hS.2.1 x h1 h2), hS.2.2⟩ hL
theorem g_newI {len : Int} (C : gF κ y cc nL rm) (hw : Cond.arrayClass .int ∈ TB) (hd : decode cc pc = .ok (.newarray ArrayType.int, 2)) (h : 0 ≤ len ∧ len ≤ 100000) (hr : cells + 1 ≤ rm.cells ∧ slots + len.toNat ≤ rm.slots) (g : G κ (gu M n (gA 0 len (fun _ => 0))) (n + 1) L (pc + 2) (vr n :: st) (cells + 1) (slots + len.toNat)) : G κ M n L pc (vi len :: st) cells slots := by
  intro H locs ls hP hS hL
  refine va_newaK (atype := ArrayType.int) C.x C.b (C.ts _ hw) rfl hd rfl (fun q => by have := (iI_lt (x := len) (z := 0) ⟨by omega, by omega⟩ iR0).mp q; omega) (ix_cl ⟨h.1, by omega⟩) (by show _ * 4 ≤ _; omega) (by rw [C.R]; exact hr.1) (by rw [C.R]; exact hr.2) rfl fun H1 cA e1 z1 o1 hAr hNm => ?_
  have hcA : (kX κ).2.1 0 = cA := Option.some.inj (((C.S.1.2 0 _ rfl).2).symm.trans hNm)
  subst hcA
  rw [← gP_hn hP]
  refine g H1 locs ls (gP_new hP z1 o1 ?_) ⟨Nat.le_trans hS.1 (by omega), fun x h1 h2 => (o1 x (Nat.lt_of_lt_of_le h1 hS.1)).trans (hS.2.1 x h1 h2), hS.2.2⟩ hL
  show H1[H.size]? = some (vp_cell _ _)
  rw [vp_cell_i]
  exact e1
theorem g_newZ {len : Int} (C : gF κ y cc nL rm) (hw : Cond.arrayClass .boolean ∈ TB) (hd : decode cc pc = .ok (.newarray .boolean, 2)) (h : 0 ≤ len ∧ len ≤ 100000) (hr : cells + 1 ≤ rm.cells ∧ slots + len.toNat ≤ rm.slots) (g : G κ (gu M n (gA 1 len (fun _ => 0))) (n + 1) L (pc + 2) (vr n :: st) (cells + 1) (slots + len.toNat)) : G κ M n L pc (vi len :: st) cells slots := by
  intro H locs ls hP hS hL
  refine va_newaK (atype := ArrayType.boolean) C.x C.b (C.ts _ hw) rfl hd rfl (fun q => by have := (iI_lt (x := len) (z := 0) ⟨by omega, by omega⟩ iR0).mp q; omega) (ix_cl ⟨h.1, by omega⟩) (by show _ * 1 ≤ _; omega) (by rw [C.R]; exact hr.1) (by rw [C.R]; exact hr.2) rfl fun H1 cA e1 z1 o1 hAr hNm => ?_
  have hcA : (kX κ).2.1 1 = cA := Option.some.inj (((C.S.1.2 1 _ rfl).2).symm.trans hNm)
  subst hcA
  rw [← gP_hn hP]
  refine g H1 locs ls (gP_new hP z1 o1 ?_) ⟨Nat.le_trans hS.1 (by omega), fun x h1 h2 => (o1 x (Nat.lt_of_lt_of_le h1 hS.1)).trans (hS.2.1 x h1 h2), hS.2.2⟩ hL
  show H1[H.size]? = some (vp_cell _ _)
  rw [vp_cell_i]
  exact e1
def gobj (t : Nat) : String := if t = 2 then "PadPolish$Row" else if t = 3 then "PadPolish$Surface" else if t = 4 then "PadPolish$Table" else "java/lang/Object"
theorem gtys_at (X : gX) {t : Nat} (h : 2 ≤ t ∧ t ≤ 5) : (gtys X)[t]? = some (X.2.1 t, .object (gobj t)) ∧ gobj t ∈ gao := by
  rcases (show t = 2 ∨ t = 3 ∨ t = 4 ∨ t = 5 by omega) with rfl | rfl | rfl | rfl <;> exact ⟨rfl, by decide⟩
theorem g_newR {ix t : Nat} {len : Int} (C : gF κ y cc nL rm) (ht : 2 ≤ t ∧ t ≤ 5) (hw : Cond.classLink y.cls ix (gobj t) ∈ TB) (hd : decode cc pc = .ok (.anewarray ix, 3)) (h : 0 ≤ len ∧ len ≤ 100000) (hr : cells + 1 ≤ rm.cells ∧ slots + len.toNat ≤ rm.slots) (g : G κ (gu M n (gR t len (fun _ => none))) (n + 1) L (pc + 3) (vr n :: st) (cells + 1) (slots + len.toNat)) : G κ M n L pc (vi len :: st) cells slots := by
  intro H locs ls hP hS hL
  obtain ⟨hT, hO⟩ := gtys_at (kX κ) ht
  have hcl : (Int32.ofInt len).toNatClampNeg = len.toNat := ix_cl ⟨h.1, by omega⟩
  refine W.anew C.x C.b C.own (C.ts _ hw) (va_AO.use (C.S.2.2.2.2.2.2.1 _ hO)) rfl hd rfl (fun q => by have := (iI_lt (x := len) (z := 0) ⟨by omega, by omega⟩ iR0).mp q; omega) (by rw [hcl]; omega) (by rw [C.R]; exact hr.1) (by rw [C.R, hcl]; exact hr.2) fun cA kA comp f1 f2 f3 f4 => ?_
  rw [hcl]
  obtain ⟨_, _, _, _, _, hNm⟩ := (C.S.1.2 t _ hT).2
  have hcA : (kX κ).2.1 t = cA := Option.some.inj (hNm.symm.trans f1)
  subst hcA
  rw [← gP_hn hP]
  generalize hH1 : H.push ({ cls := (kX κ).2.1 t, slots := Array.replicate len.toNat .null, vm := .none } : Cell) = H1
  have z1 : H1.size = H.size + 1 := by rw [← hH1, Array.size_push]
  have e1 : H1[H.size]? = some (arrV ((kX κ).2.1 t) len.toNat (fun _ => .null)) := by rw [← hH1, Array.getElem?_push_size, ← arrV_new]
  have o1 : ∀ q : Nat, q < H.size → H1[q]? = H[q]? := fun q hq => by rw [← hH1, Array.getElem?_push, if_neg (Nat.ne_of_lt hq)]
  refine g H1 locs ls (gP_new hP z1 o1 ?_) ⟨Nat.le_trans hS.1 (by omega), fun x h1 h2 => (o1 x (Nat.lt_of_lt_of_le h1 hS.1)).trans (hS.2.1 x h1 h2), hS.2.2⟩ hL
  show H1[H.size]? = some (vp_cell _ _)
  rw [vp_cell_q]
  exact e1
/-- a reference into an array of its own class, or of a class that it can be cast to -/
theorem g_aast {t ci : Nat} {len x b : Int} {f : Int → Option Int} {fs : List gV} {Cn : String} {T : u_T} {N : Nat} (C : gF κ y cc nL rm) (ht : 2 ≤ t ∧ t ≤ 5) (hc : vwCl[ci]? = some (Cn, T, N)) (hcast : Cn = gobj t ∨ Cond.castable Cn (gobj t) ∈ NB) (hd : decode cc pc = .ok (.aastore, 1)) (hM : M a = some (gR t len f)) (hb : M b = some (gO ci fs)) (h : 0 ≤ x ∧ x < len ∧ len ≤ 2147483648) (g : G κ (gu M a (gR t len (upq f x (some b)))) n L (pc + 1) st cells slots) : G κ M n L pc (vr b :: vi x :: vr a :: st) cells slots := by
  intro H locs ls hP hS hL
  obtain ⟨hT, hO⟩ := gtys_at (kX κ) ht
  have hK := C.S.1
  obtain ⟨r', hr', cellV, g1, g2, g3, -⟩ := (hP.2.2 b _ hb).2.2
  have hcls := (hK.1 ci _ hc).2
  obtain ⟨kA, comp, k1, k2, k3, -⟩ := (hK.2 t _ hT).2
  obtain ⟨kC, hkC, -⟩ := hcls.2
  have hkcomp : ∃ kk : Class, (ks κ).vm.classes[comp]? = some kk ∧ (ks κ).vm.assignable ((kX κ).1.1 ci) comp = true := by
    rcases hcast with e | e
    · rw [← e] at k3
      have : comp = (kX κ).1.1 ci := Option.some.inj (k3.symm.trans hcls.1)
      rw [this]
      exact ⟨kC, hkC, va_assign hcls⟩
    · obtain ⟨kE, hkE, -⟩ := Vm.findClass_spec k3
      obtain ⟨c0, t1, f1, f2, f3⟩ := Cond.castable_spec (C.nb e)
      have e1 : c0 = (kX κ).1.1 ci := Option.some.inj (f1.symm.trans hcls.1)
      have e2 : t1 = comp := Option.some.inj (f2.symm.trans k3)
      subst e1; subst e2
      exact ⟨kE, hkE, f3⟩
  obtain ⟨kk, hkk, hasg⟩ := hkcomp
  have hcl : (Int32.ofInt x).toNatClampNeg = x.toNat := ix_cl ⟨h.1, by omega⟩
  have hin := ix_in ⟨h.1, h.2.1⟩ h.2.2
  refine W.aast C.x C.b ((hP.2.2 a _ hM).2.2) (fun q h => by cases h) (fun h => by cases h) k1 k2 rfl hkk ⟨fun q => hin (Or.inl q), by show _ < (arrV _ _ _).slots.size; rw [arrV_size]; exact Nat.not_le.mp fun q => hin (Or.inr q)⟩ g1 (fun q h => by rw [g3] at h; cases h) (by rw [g2]; exact hkC) (by rw [g2]; exact hasg) rfl rfl hd fun H1 e z oq => ?_
  refine g H1 _ ls (gP_put hP (hP.2.2 a _ hM).1 (hP.2.2 a _ hM).2.1 z oq ?_) (hS.put z oq (gP_B hP hM)) hL
  show H1[gr (kX κ) a]? = some (vp_cell _ _)
  rw [e, ← upq_ok (kX κ) f h.1]
  show some ((vp_cell _ _).setSlot _ _) = some (vp_cell _ _)
  rw [vp_cell_q, vp_cell_q, arrV_store, hcl]
  congr 2
  funext q
  by_cases hq : q = x.toNat
  · subst hq
    simp [updV, va_up, va_rf]
  · simp [updV, va_up, hq]
/-- System.arraycopy of ints -/
theorem g_acopy {ix : Nat} {a0 : Int} {n0 n1 sp dp k : Int} {f g0 : Int → Int} (C : gF κ y cc nL rm) (w1 : Cond.methodLink y.cls ix arraycopyName ∈ TB) (w2 : Cond.native arraycopyName ∈ TB) (w3 : Cond.static arraycopyName ∈ TB) (w4 : Cond.initialized "java/lang/System" ∈ TB) (hLn : L.length = nL) (hd : decode cc pc = .ok (.invokestatic ix, 3)) (hM0 : M a0 = some (gA 0 n0 f)) (hM1 : M a = some (gA 0 n1 g0)) (h : 0 ≤ sp ∧ 0 ≤ dp ∧ 0 ≤ k ∧ sp + k ≤ n0 ∧ dp + k ≤ n1 ∧ n0 < 2147483648 ∧ n1 < 2147483648) (hr : 1 ≤ rm.frames ∧ 8 + (nativeFrameWords "java/lang/System" "arraycopy" 5 + 11) ≤ rm.locals) (hst : gsum st ≤ 8)
    (g : G κ (gu M a (gA 0 n1 (cpy f g0 sp dp k))) n L (pc + 3) st cells slots) : G κ M n L pc (vi k :: vi dp :: vr a :: vi sp :: vr a0 :: st) cells slots := by
  intro H locs ls hP hS hL
  have hK := C.S.1
  obtain ⟨h1, h2, h3, h4, h5, h6, h7⟩ := h
  have c1 : (Int32.ofInt sp).toNatClampNeg = sp.toNat := ix_cl ⟨h1, by omega⟩
  have c2 : (Int32.ofInt dp).toNatClampNeg = dp.toNat := ix_cl ⟨h2, by omega⟩
  have c3 : (Int32.ofInt k).toNatClampNeg = k.toNat := ix_cl ⟨h3, by omega⟩
  have p1 : ¬ Int32.ofInt sp < 0 := fun q => by have := (iI_lt (x := sp) (z := 0) ⟨by omega, by omega⟩ iR0).mp q; omega
  have p2 : ¬ Int32.ofInt dp < 0 := fun q => by have := (iI_lt (x := dp) (z := 0) ⟨by omega, by omega⟩ iR0).mp q; omega
  have p3 : ¬ Int32.ofInt k < 0 := fun q => by have := (iI_lt (x := k) (z := 0) ⟨by omega, by omega⟩ iR0).mp q; omega
  have i1 : (Int32.ofInt sp).toInt = sp := iI_toInt ⟨by omega, by omega⟩
  have i2 : (Int32.ofInt dp).toInt = dp := iI_toInt ⟨by omega, by omega⟩
  have i3 : (Int32.ofInt k).toInt = k := iI_toInt ⟨by omega, by omega⟩
  have hcat : ((st.map (gv (kX κ))).map fun v => v.category).sum ≤ 8 := by rw [gsum_ok]; exact hst
  intro T hT X
  have hc0 : H[gr (kX κ) a0]? = some (vp_cell ((kX κ).2.1 0) (n0.toNat, .inl (fun k : Nat => Int32.ofInt (f k)))) := (hP.2.2 a0 _ hM0).2.2
  have hc1 : H[gr (kX κ) a]? = some (vp_cell ((kX κ).2.1 0) (n1.toNat, .inl (fun k : Nat => Int32.ofInt (g0 k)))) := (hP.2.2 a _ hM1).2.2
  obtain ⟨-, k0, hk0, cm0, hkk0⟩ := (hK.2 0 _ rfl).1 n0.toNat (fun j => .int (Int32.ofInt (f j)))
  obtain ⟨-, k1, hk1, cm1, hkk1⟩ := (hK.2 0 _ rfl).1 n1.toNat (fun j => .int (Int32.ofInt (g0 j)))
  obtain ⟨vm', X', step⟩ := X.arraycopy C.x C.own (C.ts _ w1) (C.ts _ w2) (C.ts _ w3) (C.ts _ w4) (src := gr (kX κ) a0) (dst := gr (kX κ) a) (cs := vp_cell ((kX κ).2.1 0) (n0.toNat, .inl (fun k : Nat => Int32.ofInt (f k)))) (cd := vp_cell ((kX κ).2.1 0) (n1.toNat, .inl (fun k : Nat => Int32.ofInt (g0 k)))) (srcPos := Int32.ofInt sp) (destPos := Int32.ofInt dp) (n := Int32.ofInt k) (by rw [hT]; exact hc0) (by rw [hT]; exact hc1)
    (fun _ h => by cases h) (fun _ h => by cases h) (fun h => by cases h) (fun h => by cases h) hk0 hk1 hkk0 hkk1 (by simp [refKind]) p1 p2 p3
    (by rw [i1, i3]; show ¬ _ > ((arrV _ n0.toNat (fun j => .int (Int32.ofInt (f j)))).slots.size : Int); rw [arrV_size]; omega)
    (by rw [i2, i3]; show ¬ _ > ((arrV _ n1.toNat (fun j => .int (Int32.ofInt (g0 j)))).slots.size : Int); rw [arrV_size]; omega)
    (fun vm₁ _ i hi => by
      have e : (vp_cell ((kX κ).2.1 0) (n0.toNat, .inl (fun k : Nat => Int32.ofInt (f k)))).slots.getD ((Int32.ofInt sp).toNatClampNeg + i) .null = .int (Int32.ofInt (f (((Int32.ofInt sp).toNatClampNeg + i : Nat) : Int))) := by
        show (arrV _ n0.toNat (fun j => .int (Int32.ofInt (f j)))).slots.getD _ _ = _
        rw [Array.getD_eq_getD_getElem?, arrV_read _ _ (by rw [c3] at hi; rw [c1]; omega)]
        rfl
      refine ⟨?_, ?_⟩
      · rw [e]
        rfl
      · rw [e]
        exact trivial)
    (g := F0 (km κ) pc ls ((vi k :: vi dp :: vr a :: vi sp :: vr a0 :: st).map (gv (kX κ)))) rfl (by rw [C.ml, ← hLn]; exact hL.1) (rest := st.map (gv (kX κ))) rfl (by rw [C.b]; exact hd) (by rw [C.R]; exact hr.1) (by rw [C.R]; show 2 * 0 + _ + _ ≤ _; omega)
  have e1 : copied (vp_cell ((kX κ).2.1 0) (n0.toNat, .inl (fun k : Nat => Int32.ofInt (f k)))) (vp_cell ((kX κ).2.1 0) (n1.toNat, .inl (fun k : Nat => Int32.ofInt (g0 k)))) (Int32.ofInt sp) (Int32.ofInt dp) (Int32.ofInt k) = vp_cell ((kX κ).2.1 0) (n1.toNat, .inl (fun j : Nat => Int32.ofInt (cpy f g0 sp dp k j))) := by
    rw [← cpy_ok f g0 h1 h2 h3, ← c1, ← c2, ← c3]
    have hle : (Int32.ofInt sp).toNatClampNeg + (Int32.ofInt k).toNatClampNeg ≤ n0.toNat := by rw [c1, c3]; omega
    exact va_copied (n1 := n1.toNat) (dp := (Int32.ofInt dp).toNatClampNeg) (fun z => .int z) ((kX κ).2.1 0) ((kX κ).2.1 0) (fun k : Nat => Int32.ofInt (f k)) (fun k : Nat => Int32.ofInt (g0 k)) hle
  rw [e1] at X' step
  have hl : gr (kX κ) a < H.size := (Array.getElem?_eq_some_iff.mp hc1).1
  generalize hcell : vp_cell ((kX κ).2.1 0) (n1.toNat, .inl (fun j : Nat => Int32.ofInt (cpy f g0 sp dp k j))) = cell at X' step
  have hheap : ((T.setVm vm').setCell (gr (kX κ) a) cell).heap = H.setIfInBounds (gr (kX κ) a) cell := by rw [← hT]; rfl
  have oq : ∀ q : Nat, q ≠ gr (kX κ) a → (H.setIfInBounds (gr (kX κ) a) cell)[q]? = H[q]? := fun q hq => by simp [Array.getElem?_setIfInBounds, Ne.symm hq]
  obtain ⟨t, a1, b1⟩ := g _ _ ls (gP_put hP (hP.2.2 a _ hM1).1 (hP.2.2 a _ hM1).2.1 (by simp) oq (show (H.setIfInBounds (gr (kX κ) a) cell)[gr (kX κ) a]? = some _ by rw [← hcell]; simp [Array.getElem?_setIfInBounds, hl])) ⟨by simp; exact hS.1, fun q g1 g2 => by
      rw [oq q (fun e => g2 (by rw [e]; exact gP_B hP hM1))]
      exact hS.2.1 q g1 g2, fun q hq => by
      rcases List.mem_append.mp hq with h | h
      · exact hS.2.2 q h
      · obtain ⟨z, -, hz⟩ := List.mem_map.mp h
        rw [← hz]
        exact gP_B hP hM1⟩ hL _ hheap X'
  exact ⟨t, step t a1, b1⟩
end GN
/-! calls -/
section GCALL
variable {κ : gC} {y : MethodName} {cc : ByteArray} {nL : Nat} {rm : Room} {M : gM} {n : Int} {L : List (Option gV)} {pc : Nat} {st rest : List gV} {cells slots : Nat} {a : Int} {av : List gV}
  {y' : MethodName} {cc' : ByteArray} {nL' : Nat} {ret' : Option FieldType} {rm' : Room} {Q' : gPost}
theorem g_cont {mc ms : Nat} {H : Heap} {locs : List Loc} {ls : Array Slot} {av : Array Value} (hr : va_Run (kp κ) (kl κ) (ke κ) (kR κ) (ks κ) (km κ) (ka κ) (kb κ) (kt κ) (kc κ) H locs cells slots mc ms (F0 (km κ) pc ls (st.map (gv (kX κ)))) (rest.map (gv (kX κ))) (gQc (kX κ) Q' av) (gB (kX κ))) (hS : va_S (gB (kX κ)) (ks κ).heap H locs) (hL : gL (kX κ) ls L)
    (g : ∀ r M' n', Q' r M' n' → G κ M' n' L (pc + 3) (r.toList ++ rest) (cells + mc) (slots + ms)) : W (kp κ) (kl κ) (ke κ) (kR κ) (ks κ) (km κ) (ka κ) (kb κ) (kt κ) (kc κ) H locs cells slots (kQ κ) (F0 (km κ) pc ls (st.map (gv (kX κ)))) := by
  intro T hT X
  obtain ⟨v, st₀, t, T', Lc, h0, X', hLc, e1, e2, ⟨⟨r, M', n', hv, hq, hP'⟩, hz, hk⟩, stp⟩ := hr T hT X
  have hv := Outcome.returned.inj hv
  subst hv
  rw [h0] at hz hk
  have hS' : va_S (gB (kX κ)) (ks κ).heap T'.heap (locs ++ Lc) := ⟨Nat.le_trans hS.1 (by rw [e1]; exact hz), fun q h1 h2 => by rw [e1, hk q (Nat.lt_of_lt_of_le h1 hS.1) h2]; exact hS.2.1 q h1 h2, fun q hq => by
      rcases List.mem_append.mp hq with h | h
      · exact hS.2.2 q h
      · exact hLc q h⟩
  obtain ⟨t2, a1, b1⟩ := g r M' n' hq T'.heap (locs ++ Lc) ls (by rw [e1]; exact hP') hS' hL T' rfl X'
  refine ⟨t2, stp t2 ?_, b1⟩
  cases r <;> exact a1
def gmh (y : MethodName) (k : Nat) : Prop := y.cls ≠ "java/lang/invoke/MethodHandle" ∧ y.cls ≠ "java/lang/invoke/VarHandle" ∧ (parseMethodDescriptor y.desc).map (fun d => d.parameters.length) = some k
def gwS (own : String) (ix : Nat) (y : MethodName) (cc : ByteArray) (nL : Nat) (ret : Option FieldType) (k : Nat) : Prop := Cond.methodLink own ix y ∈ TB ∧ Cond.static y ∈ TB ∧ Cond.initialized y.cls ∈ TB ∧ Cond.code y cc nL ret ∈ TB ∧ gmh y k
def gwV (own : String) (ix ci : Nat) (y : MethodName) (cc : ByteArray) (nL : Nat) (ret : Option FieldType) (k : Nat) : Prop := ∃ (C : String) (T : u_T) (N : Nat), vwCl[ci]? = some (C, T, N) ∧ y.cls = C ∧ Cond.methodLink own ix y ∈ TB ∧ Cond.instanceMethod y ∈ TB ∧ Cond.selects C y y ∈ TB ∧ Cond.initialized C ∈ TB ∧ Cond.code y cc nL ret ∈ TB ∧ gmh y k
def gwI (own : String) (ix : Nat) (y : MethodName) (cc : ByteArray) (nL : Nat) (k : Nat) : Prop := Cond.methodLink own ix y ∈ TB ∧ Cond.instanceMethod y ∈ TB ∧ y.name = "<init>" ∧ Cond.initialized y.cls ∈ TB ∧ Cond.code y cc nL none ∈ TB ∧ gmh y k
def gwIN (own : String) (ix : Nat) (y : MethodName) (cc : ByteArray) (nL : Nat) (k : Nat) : Prop := (∃ host, Cond.methodLinkNest own ix y host ∈ NB) ∧ Cond.instanceMethod y ∈ TB ∧ y.name = "<init>" ∧ Cond.initialized y.cls ∈ TB ∧ Cond.code y cc nL none ∈ TB ∧ gmh y k
/-- an inherited or overriding method: x is named, y is selected for the class ci -/
def gwU (own : String) (ix ci : Nat) (y : MethodName) (cc : ByteArray) (nL : Nat) (ret : Option FieldType) (k : Nat) : Prop := ∃ (C : String) (T : u_T) (N : Nat) (owner : String) (x : MethodName), vwCl[ci]? = some (C, T, N) ∧ Cond.methodLink own ix x ∈ TB ∧ Cond.sameMethod x.cls owner x.name x.desc ∈ TB ∧ Cond.selects C x y ∈ TB ∧ Cond.instanceMethod y ∈ TB ∧ Cond.initialized y.cls ∈ TB ∧ Cond.code y cc nL ret ∈ TB ∧ (y = ⟨owner, x.name, x.desc⟩ ∨ Cond.declares ⟨owner, x.name, x.desc⟩ ∈ NB ∨ (Cond.instanceMethod ⟨owner, x.name, x.desc⟩ ∈ TB ∧ ∃ b0 m0 r0, Cond.code ⟨owner, x.name, x.desc⟩ b0 m0 r0 ∈ TB)) ∧ (owner ≠ "java/lang/invoke/MethodHandle" ∧ owner ≠ "java/lang/invoke/VarHandle" ∧ (parseMethodDescriptor x.desc).map (fun d => d.parameters.length) = some k)
def gwSU (own : String) (ix : Nat) (y : MethodName) (cc : ByteArray) (nL : Nat) (ret : Option FieldType) (k : Nat) : Prop := Cond.methodLink own ix y ∈ TB ∧ Cond.sameMethod y.cls y.cls y.name y.desc ∈ TB ∧ Cond.superclass own y.cls ∈ TB ∧ Cond.instanceMethod y ∈ TB ∧ Cond.initialized y.cls ∈ TB ∧ Cond.code y cc nL ret ∈ TB ∧ y.name ≠ "<init>" ∧ (parseMethodDescriptor y.desc).map (fun d => d.parameters.length) = some k
def gRm (rm rm' : Room) (nL' cells slots : Nat) : Prop := rm'.frames + 1 ≤ rm.frames ∧ 8 + (nL' + 11) + rm'.locals ≤ rm.locals ∧ cells + rm'.cells ≤ rm.cells ∧ slots + rm'.slots ≤ rm.slots
theorem g_blind (X : gX) (av : List gV) : FrameBlind (va_Pc (av.map (gv X)) (fun U => gP X M n U.heap ∧ gS X U U.heap)) := by
  intro a U g mk h
  obtain ⟨h1, h2, h3⟩ := h
  exact ⟨h1, h2, gS.same (u := U) (U := U.calling g mk a) rfl h3⟩
theorem g_pre {κ : gC} {y : MethodName} {cc : ByteArray} {nL : Nat} {rm : Room} (C : gF κ y cc nL rm) {H : Heap} {locs : List Loc} (hP : gP (kX κ) M n H) (hS : va_S (gB (kX κ)) (ks κ).heap H locs) (av : List gV) : ∀ U : State, U.heap = H → (ks κ).WarmedH U.vm → va_Pc (av.map (gv (kX κ))) (fun U => gP (kX κ) M n U.heap ∧ gS (kX κ) U U.heap) (av.map (gv (kX κ))).toArray U := by
  intro U hU hW
  exact ⟨rfl, by rw [hU]; exact hP, by rw [hU]; exact (C.S.kept hS.2.1).warm hW⟩
theorem g_recv {κ : gC} {y : MethodName} {cc : ByteArray} {nL : Nat} {rm : Room} (C : gF κ y cc nL rm) {H : Heap} (hP : gP (kX κ) M n H) {ci : Nat} {fs : List gV} (hM : M a = some (gO ci fs)) {Cn : String} {T : u_T} {N : Nat} (hc : vwCl[ci]? = some (Cn, T, N)) : ∃ cell : Cell, H[gr (kX κ) a]? = some cell ∧ cell.vm.isStatics = false ∧ (ks κ).vm.findClass Cn = some cell.cls := va_recv C.S.1 (gP_at hP hM) hc (q0 := 0) rfl
theorem g_invS {ix : Nat} (C : gF κ y cc nL rm) (h : CT y' cc' nL' ret' rm' av M n Q') (w : gwS y.cls ix y' cc' nL' ret' av.length) (hR : gRm rm rm' nL' cells slots) (hc : gsum rest ≤ 8) (hLn : L.length = nL) (hd : decode cc pc = .ok (.invokestatic ix, 3)) (hst : st = av.reverse ++ rest)
    (g : ∀ r M' n', Q' r M' n' → G κ M' n' L (pc + 3) (r.toList ++ rest) (cells + rm'.cells) (slots + rm'.slots)) : G κ M n L pc st cells slots := by
  intro H locs ls hP hS hL
  obtain ⟨w1, w2, w3, w4, w5⟩ := w
  refine g_cont (va_runS (ws := Cond.code y' cc' nL' ret' :: TB) (As := av.map (gv (kX κ))) C.fix (h (kl κ) (kX κ)) (va_cwS av.length C.ts (fun x hx => ?_) rfl rfl rfl w5 (by rw [C.R]; exact ⟨hR.1, hR.2.1⟩)) ⟨g_blind _ av, g_pre C hP hS av⟩ rfl (by simp) (by rw [← hLn]; exact hL.1) (by rw [hst]; simp) (lv_room (by rw [gsum_ok]; exact hc)) hd (by rw [C.R]; exact hR.2.2)) hS hL g
  unfold va_wsS at hx
  simp only [List.cons_append, List.nil_append, List.mem_cons] at hx
  rcases hx with rfl | rfl | rfl | rfl | hx
  · exact TB_good _ w1
  · exact TB_good _ w2
  · exact TB_good _ w3
  · exact TB_good _ w4
  · exact TB_good _ hx
theorem g_invV {ix ci : Nat} {fs : List gV} (C : gF κ y cc nL rm) (h : CT y' cc' nL' ret' rm' (vr a :: av) M n Q') (hM : M a = some (gO ci fs)) (w : gwV y.cls ix ci y' cc' nL' ret' av.length) (hR : gRm rm rm' nL' cells slots) (hc : gsum rest ≤ 8) (hLn : L.length = nL) (hd : decode cc pc = .ok (.invokevirtual ix, 3)) (hst : st = av.reverse ++ vr a :: rest)
    (g : ∀ r M' n', Q' r M' n' → G κ M' n' L (pc + 3) (r.toList ++ rest) (cells + rm'.cells) (slots + rm'.slots)) : G κ M n L pc st cells slots := by
  intro H locs ls hP hS hL
  obtain ⟨Cn, T, N, hcl, hy, w1, w2, w3, w3b, w4, w5⟩ := w
  refine g_cont (va_runV (ws := Cond.code y' cc' nL' ret' :: TB) (C := Cn) (b := gr (kX κ) a) (As := av.map (gv (kX κ))) C.fix (h (kl κ) (kX κ)) (cwV av.length C.ts (fun x hx => ?_) rfl rfl rfl ⟨hy, w5⟩ (by rw [C.R]; exact ⟨hR.1, hR.2.1⟩)) ⟨g_blind _ _, g_recv C hP hM hcl, g_pre C hP hS _⟩ rfl (by simp) (by rw [← hLn]; exact hL.1) (by rw [hst]; simp; rfl) (lv_room (by rw [gsum_ok]; exact hc)) hd (by rw [C.R]; exact hR.2.2)) hS hL g
  unfold wsV at hx
  simp only [List.cons_append, List.nil_append, List.mem_cons] at hx
  rcases hx with rfl | rfl | rfl | rfl | rfl | hx
  · exact TB_good _ w1
  · exact TB_good _ w2
  · exact TB_good _ w3
  · exact TB_good _ w3b
  · exact TB_good _ w4
  · exact TB_good _ hx
theorem g_invI {ix : Nat} (C : gF κ y cc nL rm) (h : CT y' cc' nL' none rm' (vr a :: av) M n Q') (w : gwI y.cls ix y' cc' nL' av.length) (hR : gRm rm rm' nL' cells slots) (hc : gsum rest ≤ 8) (hLn : L.length = nL) (hd : decode cc pc = .ok (.invokespecial ix, 3)) (hst : st = av.reverse ++ vr a :: rest)
    (g : ∀ r M' n', Q' r M' n' → G κ M' n' L (pc + 3) (r.toList ++ rest) (cells + rm'.cells) (slots + rm'.slots)) : G κ M n L pc st cells slots := by
  intro H locs ls hP hS hL
  obtain ⟨w1, w2, w3, w3b, w4, w5⟩ := w
  exact g_cont (va_runI (ws := Cond.code y' cc' nL' none :: TB) (b := gr (kX κ) a) (As := av.map (gv (kX κ))) C.fix (h (kl κ) (kX κ)) (cwI av.length C.ts (TB_cons w4) rfl rfl rfl (C.ts _ w3b) (C.ts _ w1) (C.ts _ w2) w3 w5 (by rw [C.R]; exact ⟨hR.1, hR.2.1⟩)) ⟨g_blind _ _, g_pre C hP hS _⟩ rfl (by simp) (by rw [← hLn]; exact hL.1) (by rw [hst]; simp; rfl) (lv_room (by rw [gsum_ok]; exact hc)) hd (by rw [C.R]; exact hR.2.2)) hS hL g
theorem g_invIN {ix : Nat} (C : gF κ y cc nL rm) (h : CT y' cc' nL' none rm' (vr a :: av) M n Q') (w : gwIN y.cls ix y' cc' nL' av.length) (hR : gRm rm rm' nL' cells slots) (hc : gsum rest ≤ 8) (hLn : L.length = nL) (hd : decode cc pc = .ok (.invokespecial ix, 3)) (hst : st = av.reverse ++ vr a :: rest)
    (g : ∀ r M' n', Q' r M' n' → G κ M' n' L (pc + 3) (r.toList ++ rest) (cells + rm'.cells) (slots + rm'.slots)) : G κ M n L pc st cells slots := by
  intro H locs ls hP hS hL
  obtain ⟨⟨host, w1⟩, w2, w3, w3b, w4, w5⟩ := w
  exact g_cont (va_runIN (ws := Cond.code y' cc' nL' none :: TB) (b := gr (kX κ) a) (As := av.map (gv (kX κ))) C.fix (h (kl κ) (kX κ)) ⟨va_cnB av.length C.ts (TB_cons w4) rfl rfl rfl (C.S.2.2.2.2.2.2.2.1 _ w1) (C.ts _ w3b) w5 (by rw [C.R]; exact ⟨hR.1, hR.2.1⟩), w3, C.ts _ w2⟩ ⟨g_blind _ _, g_pre C hP hS _⟩ rfl (by simp) (by rw [← hLn]; exact hL.1) (by rw [hst]; simp; rfl) (lv_room (by rw [gsum_ok]; exact hc)) hd (by rw [C.R]; exact hR.2.2)) hS hL g
theorem g_invU {ix ci : Nat} {fs : List gV} (C : gF κ y cc nL rm) (h : CT y' cc' nL' ret' rm' (vr a :: av) M n Q') (hM : M a = some (gO ci fs)) (w : gwU y.cls ix ci y' cc' nL' ret' av.length) (hR : gRm rm rm' nL' cells slots) (hc : gsum rest ≤ 8) (hLn : L.length = nL) (hd : decode cc pc = .ok (.invokevirtual ix, 3)) (hst : st = av.reverse ++ vr a :: rest)
    (g : ∀ r M' n', Q' r M' n' → G κ M' n' L (pc + 3) (r.toList ++ rest) (cells + rm'.cells) (slots + rm'.slots)) : G κ M n L pc st cells slots := by
  intro H locs ls hP hS hL
  obtain ⟨Cn, T, N, owner, x, hcl, w1, w2, w3, w4, w4b, w5, hyx, hmh⟩ := w
  have hT : GoodIn TB (va_wsU y.cls ix Cn owner x y' (Cond.code y' cc' nL' ret' :: TB)) := by
    intro z hx
    unfold va_wsU at hx
    simp only [List.cons_append, List.nil_append, List.mem_cons] at hx
    rcases hx with rfl | rfl | rfl | rfl | rfl | rfl | hx
    · exact TB_good _ w1
    · exact TB_good _ w2
    · exact TB_good _ w3
    · exact TB_good _ w4
    · exact TB_good _ w4b
    · exact TB_good _ w5
    · exact TB_good _ hx
  have hT2 : Cond.instanceMethod ⟨owner, x.name, x.desc⟩ ∈ TB → GoodIn TB (va_wsO y.cls ix Cn owner x y' (Cond.code y' cc' nL' ret' :: TB)) := by
    intro w0 z hx
    unfold va_wsO at hx
    simp only [List.cons_append, List.nil_append, List.mem_cons] at hx
    rcases hx with rfl | rfl | rfl | rfl | rfl | rfl | rfl | hx
    · exact TB_good _ w1
    · exact TB_good _ w2
    · exact TB_good _ w0
    · exact TB_good _ w3
    · exact TB_good _ w4
    · exact TB_good _ w4b
    · exact TB_good _ w5
    · exact TB_good _ hx
  have hcu : va_CU (kR κ) (ks κ) (ka κ) y.cls Cn owner ix x y' cc' nL' ret' (Cond.code y' cc' nL' ret' :: TB) rm' rm'.cells rm'.slots av.length := by
    rcases hyx with e | e | ⟨e0, b0, m0, r0, e⟩
    · exact va_cwU av.length C.ts hT rfl rfl rfl e hmh (by rw [C.R]; exact ⟨hR.1, hR.2.1⟩)
    · exact va_cwA av.length C.ts hT rfl rfl rfl (C.S.2.2.2.2.2.2.2.1 _ e) hmh (by rw [C.R]; exact ⟨hR.1, hR.2.1⟩)
    · exact va_cwO av.length C.ts (hT2 e0) rfl rfl rfl e hmh (by rw [C.R]; exact ⟨hR.1, hR.2.1⟩)
  exact g_cont (va_runU (ws := Cond.code y' cc' nL' ret' :: TB) (C := Cn) (b := gr (kX κ) a) (As := av.map (gv (kX κ))) C.fix (h (kl κ) (kX κ)) hcu ⟨g_blind _ _, g_recv C hP hM hcl, g_pre C hP hS _⟩ rfl (by simp) (by rw [← hLn]; exact hL.1) (by rw [hst]; simp; rfl) (lv_room (by rw [gsum_ok]; exact hc)) hd (by rw [C.R]; exact hR.2.2)) hS hL g
theorem g_invSU {ix ci : Nat} {fs : List gV} {Cn : String} {T : u_T} {N : Nat} (C : gF κ y cc nL rm) (h : CT y' cc' nL' ret' rm' (vr a :: av) M n Q') (hM : M a = some (gO ci fs)) (hcl : vwCl[ci]? = some (Cn, T, N)) (w : gwSU y.cls ix y' cc' nL' ret' av.length) (hR : gRm rm rm' nL' cells slots) (hc : gsum rest ≤ 8) (hLn : L.length = nL) (hd : decode cc pc = .ok (.invokespecial ix, 3)) (hst : st = av.reverse ++ vr a :: rest)
    (g : ∀ r M' n', Q' r M' n' → G κ M' n' L (pc + 3) (r.toList ++ rest) (cells + rm'.cells) (slots + rm'.slots)) : G κ M n L pc st cells slots := by
  intro H locs ls hP hS hL
  obtain ⟨w1, w2, w3, w4, w4b, w5, hnm, hmh⟩ := w
  have hT : GoodIn TB (va_wsSU y.cls ix y' (Cond.code y' cc' nL' ret' :: TB)) := by
    intro z hx
    unfold va_wsSU at hx
    simp only [List.cons_append, List.nil_append, List.mem_cons] at hx
    rcases hx with rfl | rfl | rfl | rfl | rfl | rfl | hx
    · exact TB_good _ w1
    · exact TB_good _ w2
    · exact TB_good _ w3
    · exact TB_good _ w4
    · exact TB_good _ w4b
    · exact TB_good _ w5
    · exact TB_good _ hx
  exact g_cont (va_runSU (ws := Cond.code y' cc' nL' ret' :: TB) (C := Cn) (b := gr (kX κ) a) (As := av.map (gv (kX κ))) (C.S.1.1 ci _ hcl).2 C.fix (h (kl κ) (kX κ)) (va_cwSU av.length C.ts hT rfl rfl rfl ⟨hnm, hmh⟩ (by rw [C.R]; exact ⟨hR.1, hR.2.1⟩)) ⟨g_blind _ _, g_recv C hP hM hcl, g_pre C hP hS _⟩ rfl (by simp) (by rw [← hLn]; exact hL.1) (by rw [hst]; simp; rfl) (lv_room (by rw [gsum_ok]; exact hc)) hd (by rw [C.R]; exact hR.2.2)) hS hL g
/-- Object's constructor -/
theorem g_objInit {ix : Nat} (C : gF κ y cc nL rm) (w1 : Cond.methodLink y.cls ix objectInit ∈ TB) (w2 : Cond.instanceMethod objectInit ∈ TB) (w3 : Cond.code objectInit ⟨#[0xb1]⟩ 1 none ∈ TB) (hR : 1 ≤ rm.frames ∧ 20 ≤ rm.locals) (hc : gsum st ≤ 8) (hLn : L.length = nL) (hd : decode cc pc = .ok (.invokespecial ix, 3)) (g : G κ M n L (pc + 3) st cells slots) : G κ M n L pc (vr a :: st) cells slots := by
  intro H locs ls hP hS hL
  have hk := gsum_ok (kX κ) st
  refine W.objInit C.x C.b C.own (C.ts _ w1) (C.ts _ w2) (C.ts _ w3) rfl (by rw [C.ml, ← hLn]; exact hL.1) rfl hd (by rw [C.R]; exact hR.1) (by rw [C.R]; show 2 * 0 + _ + _ ≤ _; omega) ?_
  exact g H locs ls hP hS hL
/-- Math.min, Math.max -/
theorem g_min {ix : Nat} {x z : Int} (C : gF κ y cc nL rm) (w1 : Cond.methodLink y.cls ix Lib.Math.min.name ∈ TB) (w2 : Cond.static Lib.Math.min.name ∈ TB) (w3 : Cond.initialized "java/lang/Math" ∈ TB) (w4 : Cond.code Lib.Math.min.name Lib.Math.min.code 2 (some .int) ∈ TB) (hR : 1 ≤ rm.frames ∧ 21 ≤ rm.locals ∧ cells ≤ rm.cells ∧ slots ≤ rm.slots) (hc : gsum st ≤ 8) (hLn : L.length = nL) (hd : decode cc pc = .ok (.invokestatic ix, 3)) (hx : iR x) (hz : iR z) (g : G κ M n L (pc + 3) (vi (if z < x then z else x) :: st) cells slots) : G κ M n L pc (vi z :: vi x :: st) cells slots := by
  intro H locs ls hP hS hL
  have hk := gsum_ok (kX κ) st
  refine va_mmin C.x C.b (by rw [C.ml, ← hLn]; exact hL.1.symm) C.own (C.ts _ w1) (C.ts _ w2) (C.ts _ w3) (C.ts _ w4) (by rw [C.R]; exact hR.1) (by rw [C.R, hk]; omega) (by rw [C.R]; exact hR.2.2.1) (by rw [C.R]; exact hR.2.2.2) hd ?_
  have g1 := g H locs ls hP hS hL
  by_cases h : z < x
  · rw [if_pos ((iI_lt hz hx).mpr h)]
    rw [if_pos h] at g1
    exact g1
  · rw [if_neg (fun q => h ((iI_lt hz hx).mp q))]
    rw [if_neg h] at g1
    exact g1
theorem g_max {ix : Nat} {x z : Int} (C : gF κ y cc nL rm) (w1 : Cond.methodLink y.cls ix Lib.Math.max.name ∈ TB) (w2 : Cond.static Lib.Math.max.name ∈ TB) (w3 : Cond.initialized "java/lang/Math" ∈ TB) (w4 : Cond.code Lib.Math.max.name Lib.Math.max.code 2 (some .int) ∈ TB) (hR : 1 ≤ rm.frames ∧ 21 ≤ rm.locals ∧ cells ≤ rm.cells ∧ slots ≤ rm.slots) (hc : gsum st ≤ 8) (hLn : L.length = nL) (hd : decode cc pc = .ok (.invokestatic ix, 3)) (hx : iR x) (hz : iR z) (g : G κ M n L (pc + 3) (vi (if x < z then z else x) :: st) cells slots) : G κ M n L pc (vi z :: vi x :: st) cells slots := by
  intro H locs ls hP hS hL
  have hk := gsum_ok (kX κ) st
  refine va_mmax C.x C.b (by rw [C.ml, ← hLn]; exact hL.1.symm) C.own (C.ts _ w1) (C.ts _ w2) (C.ts _ w3) (C.ts _ w4) (by rw [C.R]; exact hR.1) (by rw [C.R, hk]; omega) (by rw [C.R]; exact hR.2.2.1) (by rw [C.R]; exact hR.2.2.2) hd ?_
  have g1 := g H locs ls hP hS hL
  by_cases h : x < z
  · rw [if_pos ((iI_lt hx hz).mpr h)]
    rw [if_pos h] at g1
    exact g1
  · rw [if_neg (fun q => h ((iI_lt hx hz).mp q))]
    rw [if_neg h] at g1
    exact g1
theorem g_cast {ix ci : Nat} {fs : List gV} {Cn nm : String} {T : u_T} {N : Nat} (C : gF κ y cc nL rm) (hcl : vwCl[ci]? = some (Cn, T, N)) (w1 : Cond.classLink y.cls ix nm ∈ TB) (w2 : Cond.castable Cn nm ∈ NB) (hM : M a = some (gO ci fs)) (hd : decode cc pc = .ok (.checkcast ix, 3)) (g : G κ M n L (pc + 3) (vr a :: st) cells slots) : G κ M n L pc (vr a :: st) cells slots := by
  intro H locs ls hP hS hL
  exact va_castY C.x C.b C.own (C.ts _ w1) (C.S.2.2.2.2.2.2.2.1 _ w2) (g_recv C hP hM hcl) hd (g H locs ls hP hS hL)
theorem g_castS {ix ci : Nat} {fs : List gV} {Cn : String} {T : u_T} {N : Nat} (C : gF κ y cc nL rm) (hcl : vwCl[ci]? = some (Cn, T, N)) (w1 : Cond.classLink y.cls ix Cn ∈ TB) (hM : M a = some (gO ci fs)) (hd : decode cc pc = .ok (.checkcast ix, 3)) (g : G κ M n L (pc + 3) (vr a :: st) cells slots) : G κ M n L pc (vr a :: st) cells slots := by
  intro H locs ls hP hS hL
  exact va_castS C.x C.b C.own (C.ts _ w1) (C.S.1.1 ci _ hcl).2 (g_recv C hP hM hcl) hd (g H locs ls hP hS hL)
theorem g_castN {ix : Nat} (C : gF κ y cc nL rm) (hd : decode cc pc = .ok (.checkcast ix, 3)) (g : G κ M n L (pc + 3) (vn :: st) cells slots) : G κ M n L pc (vn :: st) cells slots := fun H locs ls hP hS hL => lv_castN C.x C.b hd (g H locs ls hP hS hL)
theorem g_instY {ix ci : Nat} {fs : List gV} {Cn nm : String} {T : u_T} {N : Nat} (C : gF κ y cc nL rm) (hcl : vwCl[ci]? = some (Cn, T, N)) (w1 : Cond.classLink y.cls ix nm ∈ TB) (w2 : Cond.castable Cn nm ∈ NB) (hM : M a = some (gO ci fs)) (hd : decode cc pc = .ok (.instanceof ix, 3)) (g : G κ M n L (pc + 3) (vi 1 :: st) cells slots) : G κ M n L pc (vr a :: st) cells slots := by
  intro H locs ls hP hS hL
  exact va_instY C.x C.b C.own (C.ts _ w1) (C.S.2.2.2.2.2.2.2.1 _ w2) (g_recv C hP hM hcl) hd (g H locs ls hP hS hL)
theorem g_instS {ix ci : Nat} {fs : List gV} {Cn : String} {T : u_T} {N : Nat} (C : gF κ y cc nL rm) (hcl : vwCl[ci]? = some (Cn, T, N)) (w1 : Cond.classLink y.cls ix Cn ∈ TB) (hM : M a = some (gO ci fs)) (hd : decode cc pc = .ok (.instanceof ix, 3)) (g : G κ M n L (pc + 3) (vi 1 :: st) cells slots) : G κ M n L pc (vr a :: st) cells slots := by
  intro H locs ls hP hS hL
  exact va_instS C.x C.b C.own (C.ts _ w1) (C.S.1.1 ci _ hcl).2 (g_recv C hP hM hcl) hd (g H locs ls hP hS hL)
theorem g_instNo {ix ci : Nat} {fs : List gV} {Cn nm : String} {T : u_T} {N : Nat} (C : gF κ y cc nL rm) (hcl : vwCl[ci]? = some (Cn, T, N)) (w1 : Cond.classLink y.cls ix nm ∈ TB) (w2 : (Cn, nm) ∈ gnc) (hM : M a = some (gO ci fs)) (hd : decode cc pc = .ok (.instanceof ix, 3)) (g : G κ M n L (pc + 3) (vi 0 :: st) cells slots) : G κ M n L pc (vr a :: st) cells slots := by
  intro H locs ls hP hS hL
  exact va_instNo C.x C.b C.own (C.ts _ w1) (C.S.2.2.2.2.2.1 _ w2) (g_recv C hP hM hcl) hd (g H locs ls hP hS hL)
/-- two references compared: by names, where they stand for own cells or ArrayList's empty array -/
theorem g_acmp_eqD {b : Int} {off : Int} (tgt : Nat) (C : gF κ y cc nL rm) (hd : decode cc pc = .ok (.if_acmp .eq off, 3)) (ht : (pc : Int) + off = (tgt : Int)) (g : G κ M n L tgt st cells slots) : G κ M n L pc (vr b :: vr b :: st) cells slots := by
  intro H locs ls hP hS hL
  exact lv_acmp_eq (rx := some (gr (kX κ) b)) (ry := some (gr (kX κ) b)) C.x C.b hd ht (fun _ => g H locs ls hP hS hL) (fun q => absurd rfl q)
end GCALL
