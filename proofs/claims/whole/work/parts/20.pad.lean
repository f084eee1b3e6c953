/-! PadPolish: all cells of the object -/
section GLW
variable {κ : gC} {y : MethodName} {cc : ByteArray} {nL : Nat} {rm : Room} {M : gM} {n : Int} {L : List (Option gV)} {pc : Nat} {st : List gV} {cells slots : Nat}
theorem g_ldcw {ix : Nat} (k : Int) (C : gF κ y cc nL rm) (hw : Cond.constant y.cls ix (Int32.ofInt k) ∈ TB) (hd : decode cc pc = .ok (.ldc_w ix, 3)) (g : G κ M n L (pc + 3) (vi k :: st) cells slots) : G κ M n L pc st cells slots := fun H locs ls hP hS hL => lv_ldcw C.x C.b C.own (C.ts _ hw) hd (g H locs ls hP hS hL)
end GLW
def fu {α : Type} (f : Int → α) (k : Int) (x : α) : Int → α := fun j => if j = k then x else f j
theorem fu_same {α : Type} (f : Int → α) (k : Int) (x : α) : fu f k x k = x := if_pos rfl
theorem fu_ne {α : Type} (f : Int → α) {k j : Int} (x : α) (h : ¬ j = k) : fu f k x j = f j := if_neg h
abbrev XT : Type := (Int → Int) × (Int → Int → Int) × (Int → RWT) × (Int → SLT) × TLT × (Int → PST × Int)
def sA (k : Int) : Int := if k < 24 then 56 + 4 * k else if k = 24 then 8 else if k < 27 then 17 + 6 * (k - 25) else 45 + 6 * (k - 27)
def tA (k : Int) : Int := if k < 2 then 16 + 6 * k else 32 + 6 * k
def xTape (X : XT) : TPT := (X.2.1 0, X.2.1 1, X.1 6, X.1 7, X.1 8)
def xObj (sc : Int → Int) : List gV := [vr 1, vr 2, vr 5, vr 6, vr 7, vr 8, vr 12, vr 14, vr 15, vr (16 + 6 * sc 5), vr (22 - 6 * sc 5), vi (sc 0), vi (sc 1), vi (sc 2), vi (sc 3), vi (sc 4)]
def XL (X : XT) (ℓ : Int → Int) (F : gM) (n : Int) (M : gM) : Prop :=
  M 0 = some (gO 11 (xObj X.1)) ∧ M 1 = some (gR 2 8 (fun i => some (28 + 2 * i))) ∧ M 5 = some (gR 4 2 (fun i => some (44 + 6 * i))) ∧ M 7 = some (gR 3 24 (fun i => some (56 + 4 * i))) ∧ TPi 2 (xTape X) M ∧ M 6 = some (gA 1 2 (X.2.1 2)) ∧ M 14 = some (gA 0 4 (X.2.1 3)) ∧ M 15 = some (gA 0 4 (X.2.1 4)) ∧ (∀ k, 0 ≤ k → k < 8 → RWi (28 + 2 * k) (X.2.2.1 k) M) ∧ (∀ k, 0 ≤ k → k < 29 → SLi (sA k) (X.2.2.2.1 k) M) ∧ TLi 12 X.2.2.2.2.1 M ∧ (∀ k, 0 ≤ k → k < 4 → M (tA k) = some (gO 8 [vr (tA k + 1), vr (ℓ k), vi (X.2.2.2.2.2 k).2])) ∧ (∀ k, 0 ≤ k → k < 4 → lsI M (ℓ k) (X.2.2.2.2.2 k).1) ∧ (∀ a, 152 ≤ a → a < 164 → M a = F a) ∧ 164 ≤ n ∧ ∀ a, n ≤ a → M a = none
theorem SLi.ag {o : Int} {S : SLT} {M M' : gM} (h : SLi o S M) (g : ∀ a, o ≤ a → a < o + 4 → M' a = M a) : SLi o S M' := ⟨(g _ (by omega) (by omega)).trans h.1, (g _ (by omega) (by omega)).trans h.2.1, (g _ (by omega) (by omega)).trans h.2.2.1, (g _ (by omega) (by omega)).trans h.2.2.2⟩
theorem RWi.ag {o : Int} {S : RWT} {M M' : gM} (h : RWi o S M) (g : ∀ a, o ≤ a → a < o + 2 → M' a = M a) : RWi o S M' := ⟨(g _ (by omega) (by omega)).trans h.1, (g _ (by omega) (by omega)).trans h.2⟩
theorem TLi.ag {o : Int} {S : TLT} {M M' : gM} (h : TLi o S M) (g : ∀ a, o ≤ a → a < o + 2 → M' a = M a) : TLi o S M' := ⟨(g _ (by omega) (by omega)).trans h.1, (g _ (by omega) (by omega)).trans h.2⟩
theorem TPi.ag {o : Int} {S : TPT} {M M' : gM} (h : TPi o S M) (g : ∀ a, o ≤ a → a < o + 3 → M' a = M a) : TPi o S M' := ⟨(g _ (by omega) (by omega)).trans h.1, (g _ (by omega) (by omega)).trans h.2.1, (g _ (by omega) (by omega)).trans h.2.2⟩
theorem sA_b {k : Int} (h0 : 0 ≤ k) (h1 : k < 29) : 8 ≤ sA k ∧ sA k + 4 ≤ 152 ∧ (sA k + 4 ≤ 12 ∨ 17 ≤ sA k) ∧ (sA k + 4 ≤ 21 ∨ 22 < sA k) ∧ (sA k + 4 ≤ 27 ∨ 44 < sA k) ∧ (sA k + 4 ≤ 49 ∨ 50 < sA k) ∧ (sA k + 4 ≤ 55 ∨ 56 ≤ sA k) := by
  unfold sA
  (repeat' split) <;> omega
theorem sA_ne {k j : Int} (h0 : 0 ≤ k) (h1 : k < 29) (j0 : 0 ≤ j) (j1 : j < 29) (h : ¬ k = j) : sA k + 4 ≤ sA j ∨ sA j + 4 ≤ sA k := by
  unfold sA
  (repeat' split) <;> omega
theorem tA_b {k : Int} (h0 : 0 ≤ k) (h1 : k < 4) : tA k = 16 ∨ tA k = 22 ∨ tA k = 44 ∨ tA k = 50 := by
  unfold tA
  split <;> omega
theorem tA_ne {k j : Int} (h0 : 0 ≤ k) (h1 : k < 4) (j0 : 0 ≤ j) (j1 : j < 4) (h : ¬ k = j) : ¬ tA k = tA j := by
  unfold tA
  (repeat' split) <;> omega
section XP
variable {X : XT} {ℓ : Int → Int} {F : gM} {n : Int} {M : gM}
theorem XL.o (h : XL X ℓ F n M) : M 0 = some (gO 11 (xObj X.1)) := h.1
theorem XL.r1 (h : XL X ℓ F n M) : M 1 = some (gR 2 8 (fun i => some (28 + 2 * i))) := h.2.1
theorem XL.r5 (h : XL X ℓ F n M) : M 5 = some (gR 4 2 (fun i => some (44 + 6 * i))) := h.2.2.1
theorem XL.r7 (h : XL X ℓ F n M) : M 7 = some (gR 3 24 (fun i => some (56 + 4 * i))) := h.2.2.2.1
theorem XL.tp (h : XL X ℓ F n M) : TPi 2 (xTape X) M := h.2.2.2.2.1
theorem XL.b6 (h : XL X ℓ F n M) : M 6 = some (gA 1 2 (X.2.1 2)) := h.2.2.2.2.2.1
theorem XL.t14 (h : XL X ℓ F n M) : M 14 = some (gA 0 4 (X.2.1 3)) := h.2.2.2.2.2.2.1
theorem XL.t15 (h : XL X ℓ F n M) : M 15 = some (gA 0 4 (X.2.1 4)) := h.2.2.2.2.2.2.2.1
theorem XL.rw (h : XL X ℓ F n M) : ∀ k, 0 ≤ k → k < 8 → RWi (28 + 2 * k) (X.2.2.1 k) M := h.2.2.2.2.2.2.2.2.1
theorem XL.sf (h : XL X ℓ F n M) : ∀ k, 0 ≤ k → k < 29 → SLi (sA k) (X.2.2.2.1 k) M := h.2.2.2.2.2.2.2.2.2.1
theorem XL.tr (h : XL X ℓ F n M) : TLi 12 X.2.2.2.2.1 M := h.2.2.2.2.2.2.2.2.2.2.1
theorem XL.tb (h : XL X ℓ F n M) : ∀ k, 0 ≤ k → k < 4 → M (tA k) = some (gO 8 [vr (tA k + 1), vr (ℓ k), vi (X.2.2.2.2.2 k).2]) := h.2.2.2.2.2.2.2.2.2.2.2.1
theorem XL.ls (h : XL X ℓ F n M) : ∀ k, 0 ≤ k → k < 4 → lsI M (ℓ k) (X.2.2.2.2.2 k).1 := h.2.2.2.2.2.2.2.2.2.2.2.2.1
theorem XL.rf (h : XL X ℓ F n M) : ∀ a, 152 ≤ a → a < 164 → M a = F a := h.2.2.2.2.2.2.2.2.2.2.2.2.2.1
theorem XL.n1 (h : XL X ℓ F n M) : 164 ≤ n := h.2.2.2.2.2.2.2.2.2.2.2.2.2.2.1
theorem XL.fr (h : XL X ℓ F n M) : ∀ a, n ≤ a → M a = none := h.2.2.2.2.2.2.2.2.2.2.2.2.2.2.2
theorem XL.cur (h : XL X ℓ F n M) (hc : 0 ≤ X.1 5 ∧ X.1 5 ≤ 1) : M (16 + 6 * X.1 5) = some (gO 8 [vr (16 + 6 * X.1 5 + 1), vr (ℓ (X.1 5)), vi (X.2.2.2.2.2 (X.1 5)).2]) := by
  have e : tA (X.1 5) = 16 + 6 * X.1 5 := by unfold tA; rw [if_pos (by omega)]
  have := h.tb (X.1 5) hc.1 (by omega)
  rwa [e] at this
theorem XL.csf (h : XL X ℓ F n M) (hc : 0 ≤ X.1 5 ∧ X.1 5 ≤ 1) : SLi (16 + 6 * X.1 5 + 1) (X.2.2.2.1 (25 + X.1 5)) M := by
  have e : sA (25 + X.1 5) = 16 + 6 * X.1 5 + 1 := by unfold sA; rw [if_neg (by omega), if_neg (by omega), if_pos (by omega)]; omega
  have := h.sf (25 + X.1 5) (by omega) (by omega)
  rwa [e] at this
theorem XL.dft (h : XL X ℓ F n M) (hc : 0 ≤ X.1 5 ∧ X.1 5 ≤ 1) : M (22 - 6 * X.1 5) = some (gO 8 [vr (22 - 6 * X.1 5 + 1), vr (ℓ (1 - X.1 5)), vi (X.2.2.2.2.2 (1 - X.1 5)).2]) := by
  have e : tA (1 - X.1 5) = 22 - 6 * X.1 5 := by unfold tA; rw [if_pos (by omega)]; omega
  have := h.tb (1 - X.1 5) (by omega) (by omega)
  rwa [e] at this
theorem XL.dsf (h : XL X ℓ F n M) (hc : 0 ≤ X.1 5 ∧ X.1 5 ≤ 1) : SLi (22 - 6 * X.1 5 + 1) (X.2.2.2.1 (26 - X.1 5)) M := by
  have e : sA (26 - X.1 5) = 22 - 6 * X.1 5 + 1 := by unfold sA; rw [if_neg (by omega), if_neg (by omega), if_pos (by omega)]; omega
  have := h.sf (26 - X.1 5) (by omega) (by omega)
  rwa [e] at this
theorem XL.act (h : XL X ℓ F n M) {k : Int} (h0 : 0 ≤ k) (h1 : k < 24) : SLi (56 + 4 * k) (X.2.2.2.1 k) M := by
  have e : sA k = 56 + 4 * k := by unfold sA; rw [if_pos h1]
  have := h.sf k h0 (by omega)
  rwa [e] at this
theorem XL.gs (h : XL X ℓ F n M) : SLi 8 (X.2.2.2.1 24) M := h.sf 24 (by decide) (by decide)
theorem XL.img (h : XL X ℓ F n M) {k : Int} (h0 : 0 ≤ k) (h1 : k < 2) : M (44 + 6 * k) = some (gO 8 [vr (44 + 6 * k + 1), vr (ℓ (2 + k)), vi (X.2.2.2.2.2 (2 + k)).2]) := by
  have e : tA (2 + k) = 44 + 6 * k := by unfold tA; rw [if_neg (by omega)]; omega
  have := h.tb (2 + k) (by omega) (by omega)
  rwa [e] at this
theorem XL.isf (h : XL X ℓ F n M) {k : Int} (h0 : 0 ≤ k) (h1 : k < 2) : SLi (44 + 6 * k + 1) (X.2.2.2.1 (27 + k)) M := by
  have e : sA (27 + k) = 44 + 6 * k + 1 := by unfold sA; rw [if_neg (by omega), if_neg (by omega), if_neg (by omega)]; omega
  have := h.sf (27 + k) (by omega) (by omega)
  rwa [e] at this
theorem XL.uo (h : XL X ℓ F n M) {sc : Int → Int} (h6 : sc 6 = X.1 6 ∧ sc 7 = X.1 7 ∧ sc 8 = X.1 8) : XL (sc, X.2) ℓ F n (gu M 0 (gO 11 (xObj sc))) := by
  have ag : ∀ a, ¬ a = 0 → gu M 0 (gO 11 (xObj sc)) a = M a := fun a ha => gu_ne _ _ ha
  refine ⟨?_, ?_, ?_, ?_, ?_, ?_, ?_, ?_, ?_, ?_, ?_, ?_, ?_, ?_, ?_, ?_⟩
  · exact gu_same ..
  · exact (ag _ (by omega)).trans h.r1
  · exact (ag _ (by omega)).trans h.r5
  · exact (ag _ (by omega)).trans h.r7
  · have e : xTape (sc, X.2) = xTape X := by unfold xTape; dsimp only; rw [h6.1, h6.2.1, h6.2.2]
    rw [e]
    exact h.tp.ag (fun a a1 a2 => ag a (by omega))
  · exact (ag _ (by omega)).trans h.b6
  · exact (ag _ (by omega)).trans h.t14
  · exact (ag _ (by omega)).trans h.t15
  · exact fun k k1 k2 => (h.rw k k1 k2).ag (fun a a1 a2 => ag a (by omega))
  · exact fun k k1 k2 => (h.sf k k1 k2).ag (fun a a1 a2 => by have b := sA_b k1 k2; exact ag a (by omega))
  · exact h.tr.ag (fun a a1 a2 => ag a (by omega))
  · exact fun k k1 k2 => by have b := tA_b k1 k2; exact (ag _ (by omega)).trans (h.tb k k1 k2)
  · exact fun k k1 k2 => (h.ls k k1 k2).keep (fun a a1 _ => by unfold LR at a1; exact ag a (by omega))
  · exact fun a a1 a2 => (ag a (by omega)).trans (h.rf a a1 a2)
  · exact h.n1
  · exact fun a a1 => by have := h.n1; exact (ag a (by omega)).trans (h.fr a a1)
theorem XL.ut (h : XL X ℓ F n M) (T : TPT) : XL (fu (fu (fu X.1 6 T.2.2.1) 7 T.2.2.2.1) 8 T.2.2.2.2, fu (fu X.2.1 0 T.1) 1 T.2.1, X.2.2) ℓ F n (TP 2 T M) := by
  have ag : ∀ a, (a < 2 ∨ 5 ≤ a) → TP 2 T M a = M a := fun a ha => TP_out _ _ (by omega)
  refine ⟨?_, ?_, ?_, ?_, ?_, ?_, ?_, ?_, ?_, ?_, ?_, ?_, ?_, ?_, ?_, ?_⟩
  · exact (ag _ (by omega)).trans h.o
  · exact (ag _ (by omega)).trans h.r1
  · exact (ag _ (by omega)).trans h.r5
  · exact (ag _ (by omega)).trans h.r7
  · exact TP_there ..
  · exact (ag _ (by omega)).trans h.b6
  · exact (ag _ (by omega)).trans h.t14
  · exact (ag _ (by omega)).trans h.t15
  · exact fun k k1 k2 => (h.rw k k1 k2).ag (fun a a1 a2 => ag a (by omega))
  · exact fun k k1 k2 => (h.sf k k1 k2).ag (fun a a1 a2 => by have b := sA_b k1 k2; exact ag a (by omega))
  · exact h.tr.ag (fun a a1 a2 => ag a (by omega))
  · exact fun k k1 k2 => by have b := tA_b k1 k2; exact (ag _ (by omega)).trans (h.tb k k1 k2)
  · exact fun k k1 k2 => (h.ls k k1 k2).keep (fun a a1 _ => by unfold LR at a1; exact ag a (by omega))
  · exact fun a a1 a2 => (ag a (by omega)).trans (h.rf a a1 a2)
  · exact h.n1
  · exact fun a a1 => by have := h.n1; exact (ag a (by omega)).trans (h.fr a a1)
theorem XL.us (h : XL X ℓ F n M) {k0 : Int} (S : SLT) (c0 : 0 ≤ k0) (c1 : k0 < 29) : XL (X.1, X.2.1, X.2.2.1, fu X.2.2.2.1 k0 S, X.2.2.2.2) ℓ F n (SL (sA k0) S M) := by
  have b0 := sA_b c0 c1
  have ag : ∀ a, (a < sA k0 ∨ sA k0 + 4 ≤ a) → SL (sA k0) S M a = M a := fun a ha => SL_out _ _ ha
  refine ⟨?_, ?_, ?_, ?_, ?_, ?_, ?_, ?_, ?_, ?_, ?_, ?_, ?_, ?_, ?_, ?_⟩
  · exact (ag _ (by omega)).trans h.o
  · exact (ag _ (by omega)).trans h.r1
  · exact (ag _ (by omega)).trans h.r5
  · exact (ag _ (by omega)).trans h.r7
  · exact h.tp.ag (fun a a1 a2 => ag a (by omega))
  · exact (ag _ (by omega)).trans h.b6
  · exact (ag _ (by omega)).trans h.t14
  · exact (ag _ (by omega)).trans h.t15
  · exact fun k k1 k2 => (h.rw k k1 k2).ag (fun a a1 a2 => ag a (by omega))
  · intro k k1 k2
    by_cases e : k = k0
    · rw [e]
      show SLi _ (fu X.2.2.2.1 k0 S k0) _
      rw [fu_same]
      exact SL_there ..
    · show SLi _ (fu X.2.2.2.1 k0 S k) _
      rw [fu_ne _ _ e]
      have b := sA_ne k1 k2 c0 c1 e
      exact (h.sf k k1 k2).ag (fun a a1 a2 => ag a (by omega))
  · exact h.tr.ag (fun a a1 a2 => ag a (by omega))
  · intro k k1 k2
    have b := tA_b k1 k2
    have b2 : tA k < sA k0 ∨ sA k0 + 4 ≤ tA k := by unfold sA; (repeat' split) <;> omega
    exact (ag _ b2).trans (h.tb k k1 k2)
  · exact fun k k1 k2 => (h.ls k k1 k2).keep (fun a a1 _ => by unfold LR at a1; exact ag a (by omega))
  · exact fun a a1 a2 => (ag a (by omega)).trans (h.rf a a1 a2)
  · exact h.n1
  · exact fun a a1 => by have := h.n1; exact (ag a (by omega)).trans (h.fr a a1)
theorem XL.ur (h : XL X ℓ F n M) {k0 : Int} (R : RWT) (c0 : 0 ≤ k0) (c1 : k0 < 8) : XL (X.1, X.2.1, fu X.2.2.1 k0 R, X.2.2.2) ℓ F n (RW (28 + 2 * k0) R M) := by
  have ag : ∀ a, (a < 28 + 2 * k0 ∨ 28 + 2 * k0 + 2 ≤ a) → RW (28 + 2 * k0) R M a = M a := fun a ha => RW_out _ _ ha
  refine ⟨?_, ?_, ?_, ?_, ?_, ?_, ?_, ?_, ?_, ?_, ?_, ?_, ?_, ?_, ?_, ?_⟩
  · exact (ag _ (by omega)).trans h.o
  · exact (ag _ (by omega)).trans h.r1
  · exact (ag _ (by omega)).trans h.r5
  · exact (ag _ (by omega)).trans h.r7
  · exact h.tp.ag (fun a a1 a2 => ag a (by omega))
  · exact (ag _ (by omega)).trans h.b6
  · exact (ag _ (by omega)).trans h.t14
  · exact (ag _ (by omega)).trans h.t15
  · intro k k1 k2
    by_cases e : k = k0
    · rw [e]
      show RWi _ (fu X.2.2.1 k0 R k0) _
      rw [fu_same]
      exact RW_there ..
    · show RWi _ (fu X.2.2.1 k0 R k) _
      rw [fu_ne _ _ e]
      exact (h.rw k k1 k2).ag (fun a a1 a2 => ag a (by omega))
  · exact fun k k1 k2 => (h.sf k k1 k2).ag (fun a a1 a2 => by have b := sA_b k1 k2; exact ag a (by omega))
  · exact h.tr.ag (fun a a1 a2 => ag a (by omega))
  · exact fun k k1 k2 => by have b := tA_b k1 k2; exact (ag _ (by omega)).trans (h.tb k k1 k2)
  · exact fun k k1 k2 => (h.ls k k1 k2).keep (fun a a1 _ => by unfold LR at a1; exact ag a (by omega))
  · exact fun a a1 a2 => (ag a (by omega)).trans (h.rf a a1 a2)
  · exact h.n1
  · exact fun a a1 => by have := h.n1; exact (ag a (by omega)).trans (h.fr a a1)
theorem XL.ux (h : XL X ℓ F n M) (T : TLT) : XL (X.1, X.2.1, X.2.2.1, X.2.2.2.1, T, X.2.2.2.2.2) ℓ F n (TL 12 T M) := by
  have ag : ∀ a, (a < 12 ∨ 14 ≤ a) → TL 12 T M a = M a := fun a ha => TL_out _ _ (by omega)
  refine ⟨?_, ?_, ?_, ?_, ?_, ?_, ?_, ?_, ?_, ?_, ?_, ?_, ?_, ?_, ?_, ?_⟩
  · exact (ag _ (by omega)).trans h.o
  · exact (ag _ (by omega)).trans h.r1
  · exact (ag _ (by omega)).trans h.r5
  · exact (ag _ (by omega)).trans h.r7
  · exact h.tp.ag (fun a a1 a2 => ag a (by omega))
  · exact (ag _ (by omega)).trans h.b6
  · exact (ag _ (by omega)).trans h.t14
  · exact (ag _ (by omega)).trans h.t15
  · exact fun k k1 k2 => (h.rw k k1 k2).ag (fun a a1 a2 => ag a (by omega))
  · exact fun k k1 k2 => (h.sf k k1 k2).ag (fun a a1 a2 => by have b := sA_b k1 k2; exact ag a (by omega))
  · exact TL_there ..
  · exact fun k k1 k2 => by have b := tA_b k1 k2; exact (ag _ (by omega)).trans (h.tb k k1 k2)
  · exact fun k k1 k2 => (h.ls k k1 k2).keep (fun a a1 _ => by unfold LR at a1; exact ag a (by omega))
  · exact fun a a1 a2 => (ag a (by omega)).trans (h.rf a a1 a2)
  · exact h.n1
  · exact fun a a1 => by have := h.n1; exact (ag a (by omega)).trans (h.fr a a1)
theorem XL.u6 (h : XL X ℓ F n M) (f : Int → Int) : XL (X.1, fu X.2.1 2 f, X.2.2) ℓ F n (gu M 6 (gA 1 2 f)) := by
  have ag : ∀ a, ¬ a = 6 → gu M 6 (gA 1 2 f) a = M a := fun a ha => gu_ne _ _ ha
  refine ⟨?_, ?_, ?_, ?_, ?_, ?_, ?_, ?_, ?_, ?_, ?_, ?_, ?_, ?_, ?_, ?_⟩
  · exact (ag _ (by omega)).trans h.o
  · exact (ag _ (by omega)).trans h.r1
  · exact (ag _ (by omega)).trans h.r5
  · exact (ag _ (by omega)).trans h.r7
  · exact h.tp.ag (fun a a1 a2 => ag a (by omega))
  · exact gu_same ..
  · exact (ag _ (by omega)).trans h.t14
  · exact (ag _ (by omega)).trans h.t15
  · exact fun k k1 k2 => (h.rw k k1 k2).ag (fun a a1 a2 => ag a (by omega))
  · exact fun k k1 k2 => (h.sf k k1 k2).ag (fun a a1 a2 => by have b := sA_b k1 k2; exact ag a (by omega))
  · exact h.tr.ag (fun a a1 a2 => ag a (by omega))
  · exact fun k k1 k2 => by have b := tA_b k1 k2; exact (ag _ (by omega)).trans (h.tb k k1 k2)
  · exact fun k k1 k2 => (h.ls k k1 k2).keep (fun a a1 _ => by unfold LR at a1; exact ag a (by omega))
  · exact fun a a1 a2 => (ag a (by omega)).trans (h.rf a a1 a2)
  · exact h.n1
  · exact fun a a1 => by have := h.n1; exact (ag a (by omega)).trans (h.fr a a1)
theorem XL.u14 (h : XL X ℓ F n M) (f : Int → Int) : XL (X.1, fu X.2.1 3 f, X.2.2) ℓ F n (gu M 14 (gA 0 4 f)) := by
  have ag : ∀ a, ¬ a = 14 → gu M 14 (gA 0 4 f) a = M a := fun a ha => gu_ne _ _ ha
  refine ⟨?_, ?_, ?_, ?_, ?_, ?_, ?_, ?_, ?_, ?_, ?_, ?_, ?_, ?_, ?_, ?_⟩
  · exact (ag _ (by omega)).trans h.o
  · exact (ag _ (by omega)).trans h.r1
  · exact (ag _ (by omega)).trans h.r5
  · exact (ag _ (by omega)).trans h.r7
  · exact h.tp.ag (fun a a1 a2 => ag a (by omega))
  · exact (ag _ (by omega)).trans h.b6
  · exact gu_same ..
  · exact (ag _ (by omega)).trans h.t15
  · exact fun k k1 k2 => (h.rw k k1 k2).ag (fun a a1 a2 => ag a (by omega))
  · exact fun k k1 k2 => (h.sf k k1 k2).ag (fun a a1 a2 => by have b := sA_b k1 k2; exact ag a (by omega))
  · exact h.tr.ag (fun a a1 a2 => ag a (by omega))
  · exact fun k k1 k2 => by have b := tA_b k1 k2; exact (ag _ (by omega)).trans (h.tb k k1 k2)
  · exact fun k k1 k2 => (h.ls k k1 k2).keep (fun a a1 _ => by unfold LR at a1; exact ag a (by omega))
  · exact fun a a1 a2 => (ag a (by omega)).trans (h.rf a a1 a2)
  · exact h.n1
  · exact fun a a1 => by have := h.n1; exact (ag a (by omega)).trans (h.fr a a1)
theorem XL.u15 (h : XL X ℓ F n M) (f : Int → Int) : XL (X.1, fu X.2.1 4 f, X.2.2) ℓ F n (gu M 15 (gA 0 4 f)) := by
  have ag : ∀ a, ¬ a = 15 → gu M 15 (gA 0 4 f) a = M a := fun a ha => gu_ne _ _ ha
  refine ⟨?_, ?_, ?_, ?_, ?_, ?_, ?_, ?_, ?_, ?_, ?_, ?_, ?_, ?_, ?_, ?_⟩
  · exact (ag _ (by omega)).trans h.o
  · exact (ag _ (by omega)).trans h.r1
  · exact (ag _ (by omega)).trans h.r5
  · exact (ag _ (by omega)).trans h.r7
  · exact h.tp.ag (fun a a1 a2 => ag a (by omega))
  · exact (ag _ (by omega)).trans h.b6
  · exact (ag _ (by omega)).trans h.t14
  · exact gu_same ..
  · exact fun k k1 k2 => (h.rw k k1 k2).ag (fun a a1 a2 => ag a (by omega))
  · exact fun k k1 k2 => (h.sf k k1 k2).ag (fun a a1 a2 => by have b := sA_b k1 k2; exact ag a (by omega))
  · exact h.tr.ag (fun a a1 a2 => ag a (by omega))
  · exact fun k k1 k2 => by have b := tA_b k1 k2; exact (ag _ (by omega)).trans (h.tb k k1 k2)
  · exact fun k k1 k2 => (h.ls k k1 k2).keep (fun a a1 _ => by unfold LR at a1; exact ag a (by omega))
  · exact fun a a1 a2 => (ag a (by omega)).trans (h.rf a a1 a2)
  · exact h.n1
  · exact fun a a1 => by have := h.n1; exact (ag a (by omega)).trans (h.fr a a1)
theorem XL.ub (h : XL X ℓ F n M) {k0 ℓ0 sk : Int} {ps : PST} (c0 : 0 ≤ k0) (c1 : k0 < 4) (hl : lsI M ℓ0 ps) : XL (X.1, X.2.1, X.2.2.1, X.2.2.2.1, X.2.2.2.2.1, fu X.2.2.2.2.2 k0 (ps, sk)) (fu ℓ k0 ℓ0) F n (gu M (tA k0) (gO 8 [vr (tA k0 + 1), vr ℓ0, vi sk])) := by
  have b0 := tA_b c0 c1
  have ag : ∀ a, ¬ a = tA k0 → gu M (tA k0) (gO 8 [vr (tA k0 + 1), vr ℓ0, vi sk]) a = M a := fun a ha => gu_ne _ _ ha
  refine ⟨?_, ?_, ?_, ?_, ?_, ?_, ?_, ?_, ?_, ?_, ?_, ?_, ?_, ?_, ?_, ?_⟩
  · exact (ag _ (by omega)).trans h.o
  · exact (ag _ (by omega)).trans h.r1
  · exact (ag _ (by omega)).trans h.r5
  · exact (ag _ (by omega)).trans h.r7
  · exact h.tp.ag (fun a a1 a2 => ag a (by omega))
  · exact (ag _ (by omega)).trans h.b6
  · exact (ag _ (by omega)).trans h.t14
  · exact (ag _ (by omega)).trans h.t15
  · exact fun k k1 k2 => (h.rw k k1 k2).ag (fun a a1 a2 => ag a (by omega))
  · intro k k1 k2
    have b2 : ∀ a, sA k ≤ a → a < sA k + 4 → ¬ a = tA k0 := fun a a1 a2 => by unfold sA at a1 a2; split at a1 <;> (try split at a1) <;> (try split at a1) <;> (try split at a2) <;> (try split at a2) <;> (try split at a2) <;> omega
    exact (h.sf k k1 k2).ag (fun a a1 a2 => ag a (b2 a a1 a2))
  · exact h.tr.ag (fun a a1 a2 => ag a (by omega))
  · intro k k1 k2
    by_cases e : k = k0
    · rw [e, gu_same]
      show _ = some (gO 8 [_, vr (fu ℓ k0 ℓ0 k0), vi (fu X.2.2.2.2.2 k0 (ps, sk) k0).2])
      rw [fu_same, fu_same]
    · show _ = some (gO 8 [_, vr (fu ℓ k0 ℓ0 k), vi (fu X.2.2.2.2.2 k0 (ps, sk) k).2])
      rw [fu_ne _ _ e, fu_ne _ _ e, gu_ne _ _ (tA_ne k1 k2 c0 c1 e)]
      exact h.tb k k1 k2
  · intro k k1 k2
    have hk : ∀ a, LR a → M a ≠ none → gu M (tA k0) (gO 8 [vr (tA k0 + 1), vr ℓ0, vi sk]) a = M a := fun a a1 _ => by unfold LR at a1; exact ag a (by omega)
    by_cases e : k = k0
    · rw [e]
      show lsI _ (fu ℓ k0 ℓ0 k0) (fu X.2.2.2.2.2 k0 (ps, sk) k0).1
      rw [fu_same, fu_same]
      exact hl.keep hk
    · show lsI _ (fu ℓ k0 ℓ0 k) (fu X.2.2.2.2.2 k0 (ps, sk) k).1
      rw [fu_ne _ _ e, fu_ne _ _ e]
      exact (h.ls k k1 k2).keep hk
  · exact fun a a1 a2 => (ag a (by omega)).trans (h.rf a a1 a2)
  · exact h.n1
  · exact fun a a1 => by have := h.n1; exact (ag a (by omega)).trans (h.fr a a1)
end XP
