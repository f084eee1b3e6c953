/-! THE LAW: its rules -/
def yLw (nm : String) : MethodName := ⟨RL, nm, "([I)Z"⟩
def scI (xs : Nat → Int32) : Int → Int := fun k => (xs k.toNat).toInt
theorem scR (xs : Nat → Int32) (k : Int) : iR (scI xs k) := iR_of _
/-- the script stands at the name -3 -/
def gScr (κ : gC) (Ls : Int) (xs : Nat → Int32) : Prop := 0 ≤ Ls ∧ va_X (gr (kX κ) (-3)) Ls.toNat xs (ks κ) (ks κ).heap ∧ gr (kX κ) (-3) < (ks κ).heap.size ∧ ¬ gB (kX κ) (gr (kX κ) (-3))
theorem rml {k nL' c s c0 s0 : Nat} (h : k ≤ 11) (hn : 36 * k + nL' ≤ 427) (h1 : c0 + c ≤ 600000) (h2 : s0 + s ≤ 7302250) : gRm room_1 (rmk k c s) nL' c0 s0 := ⟨by show k + 1 ≤ 12; omega, by show 8 + (nL' + 11) + 36 * k ≤ 446; omega, h1, h2⟩
section GLAW
variable {κ : gC} {y : MethodName} {cc : ByteArray} {nL : Nat} {rm : Room} {M : gM} {n : Int} {L : List (Option gV)} {pc : Nat} {st rest : List gV} {cells slots : Nat}
theorem g_sld {x Ls : Int} {xs : Nat → Int32} (C : gF κ y cc nL rm) (S : gScr κ Ls xs) (hd : decode cc pc = .ok (.iaload, 1)) (h : 0 ≤ x ∧ x < Ls ∧ Ls ≤ 3072) (g : G κ M n L (pc + 1) (vi (scI xs x) :: st) cells slots) : G κ M n L pc (vi x :: vr (-3) :: st) cells slots := by
  intro H locs ls hP hS hL
  have g1 := g H locs ls hP hS hL
  refine va_sld C.x C.b S.2.1 S.2.2.1 S.2.2.2 hS (ix_in ⟨h.1, h.2.1⟩ (by omega)) hd ?_
  rw [ix_cl ⟨h.1, by omega⟩, ← iI_of (xs x.toNat)]
  exact g1
theorem g_slen {Ls : Int} {xs : Nat → Int32} (C : gF κ y cc nL rm) (S : gScr κ Ls xs) (hd : decode cc pc = .ok (.arraylength, 1)) (g : G κ M n L (pc + 1) (vi Ls :: st) cells slots) : G κ M n L pc (vr (-3) :: st) cells slots := by
  intro H locs ls hP hS hL
  have g1 := g H locs ls hP hS hL
  refine va_slen C.x C.b S.2.1 S.2.2.1 S.2.2.2 hS hd ?_
  have e : Int32.ofNat Ls.toNat = Int32.ofInt Ls := by
    rw [← Int32.ofInt_eq_ofNat]
    congr 1
    have := S.1
    omega
  rw [e]
  exact g1
theorem g_icmp_same {x off : Int} (tgt : Nat) (C : gF κ y cc nL rm) (hd : decode cc pc = .ok (.if_icmp .eq off, 3)) (ht : (pc : Int) + off = (tgt : Int)) (g : G κ M n L tgt st cells slots) : G κ M n L pc (vi x :: vi x :: st) cells slots := fun H locs ls hP hS hL => lv_icmp_eq C.x C.b hd ht (fun _ => g H locs ls hP hS hL) (fun h => absurd rfl h)
theorem g_lcmp_same {x : Int} (C : gF κ y cc nL rm) (hd : decode cc pc = .ok (.lcmp, 1)) (g : G κ M n L (pc + 1) (vi 0 :: st) cells slots) : G κ M n L pc (vl x :: vl x :: st) cells slots := fun H locs ls hP hS hL => W.lcmp C.x C.b hd (by
  have g1 := g H locs ls hP hS hL
  have e : lg_cmp (Int64.ofInt x) (Int64.ofInt x) = Int32.ofInt 0 := by
    unfold lg_cmp
    simp
  rw [e]
  exact g1)
theorem q_x {res : Int × XT} {F : gM} (h : ∀ (ℓ1 : Int → Int) (X1 : XT) (M1 : gM) (n1 : Int), XL X1 ℓ1 F n1 M1 → xEq X1 res.2 → sfOK (X1.2.2.2.1 24) → G κ M1 n1 L pc (vi res.1 :: rest) cells slots) : ∀ r M' n', xR res F r M' n' → G κ M' n' L pc (r.toList ++ rest) cells slots := by
  intro r M1 n1 q
  obtain ⟨rfl, ℓ1, X1, h1, h2, h3⟩ := q
  exact h ℓ1 X1 M1 n1 h1 h2 h3
theorem q_y {res : Int × XT} {M1 : gM} {n1 : Int} (h : ∀ s2 : YT, yRel res.2 s2 → G κ (YO s2 M1) n1 L pc (vi res.1 :: rest) cells slots) : ∀ r M' n', yP res M1 n1 r M' n' → G κ M' n' L pc (r.toList ++ rest) cells slots := by
  intro r M' n' q
  obtain ⟨rfl, rfl, s2, rfl, h1⟩ := q
  exact h s2 h1
theorem q_d {X : XT} {x : Int} {M1 : gM} {n1 : Int} (h : ∀ s2 : YT, yRel X s2 → G κ (YO s2 M1) n1 L pc (vl x :: rest) cells slots) : ∀ r M' n', (r = some (vl x) ∧ n' = n1 ∧ ∃ s', M' = YO s' M1 ∧ yRel X s') → G κ M' n' L pc (r.toList ++ rest) cells slots := by
  intro r M' n' q
  obtain ⟨rfl, rfl, s2, rfl, h1⟩ := q
  exact h s2 h1
end GLAW
