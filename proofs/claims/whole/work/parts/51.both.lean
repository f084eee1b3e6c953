/-! BOTH: what holds of the object and of the model between two calls of the law -/
theorem XL.uy {X : XT} {ℓ : Int → Int} {F : gM} {n : Int} {M : gM} (h : XL X ℓ F n M) (s : YT) : XL X ℓ (YO s M) n (YO s M) := by
  have ag : ∀ a, (a < 152 ∨ 164 ≤ a) → YO s M a = M a := fun a ha => YO_out _ _ ha
  refine ⟨?_, ?_, ?_, ?_, ?_, ?_, ?_, ?_, ?_, ?_, ?_, ?_, ?_, ?_, ?_, ?_⟩
  · exact (ag _ (by omega)).trans h.o
  · exact (ag _ (by omega)).trans h.r1
  · exact (ag _ (by omega)).trans h.r5
  · exact (ag _ (by omega)).trans h.r7
  · exact h.tp.ag (fun a a1 a2 => ag a (by omega))
  · exact (ag _ (by omega)).trans h.b6
  · exact (ag _ (by omega)).trans h.t14
  · exact (ag _ (by omega)).trans h.t15
  · exact fun k k1 k2 => (h.rw k k1 k2).ag (fun a a1 a2 => ag a (by omega))
  · exact fun k k1 k2 => (h.sf k k1 k2).ag (fun a a1 a2 => by have b := sA_b k1 k2; exact ag a (by omega))
  · exact h.tr.ag (fun a a1 a2 => ag a (by omega))
  · exact fun k k1 k2 => by have b := tA_b k1 k2; exact (ag _ (by omega)).trans (h.tb k k1 k2)
  · exact fun k k1 k2 => (h.ls k k1 k2).keep (fun a a1 _ => by unfold LR at a1; exact ag a (by omega))
  · exact fun a a1 a2 => rfl
  · exact h.n1
  · exact fun a a1 => by have := h.n1; exact (ag a (by omega)).trans (h.fr a a1)
theorem YOi.of {s : YT} {M M' : gM} (h : YOi s M) (e : ∀ a, 152 ≤ a → a < 164 → M' a = M a) : YOi s M' := by
  intro a a0 a1
  rw [e a a0 a1, ← h a a0 a1]
  rcases (show a = 152 ∨ a = 153 ∨ a = 154 ∨ a = 155 ∨ a = 156 ∨ a = 157 ∨ a = 158 ∨ a = 159 ∨ a = 160 ∨ a = 161 ∨ a = 162 ∨ a = 163 by omega) with rfl | rfl | rfl | rfl | rfl | rfl | rfl | rfl | rfl | rfl | rfl | rfl <;> rfl
theorem YOi_YO (s : YT) (M : gM) : YOi s (YO s M) := by
  intro a a0 a1
  rcases (show a = 152 ∨ a = 153 ∨ a = 154 ∨ a = 155 ∨ a = 156 ∨ a = 157 ∨ a = 158 ∨ a = 159 ∨ a = 160 ∨ a = 161 ∨ a = 162 ∨ a = 163 by omega) with rfl | rfl | rfl | rfl | rfl | rfl | rfl | rfl | rfl | rfl | rfl | rfl <;> rfl
/-- between two calls: the object's cells hold X, the model's hold s, X is sound, and s is X's image -/
def LI (X : XT) (ℓ : Int → Int) (s : YT) (n : Int) (M : gM) : Prop := XL X ℓ M n M ∧ YOi s M ∧ xOK X ∧ yRel X s
theorem LI.step {X1 Y : XT} {ℓ1 : Int → Int} {s2 : YT} {F : gM} {n1 : Int} {M1 : gM} (hX : XL X1 ℓ1 F n1 M1) (he : xEq X1 Y) (hs : sfOK (X1.2.2.2.1 24)) (hO : xOK Y) (hr : yRel Y s2) : LI X1 ℓ1 s2 n1 (YO s2 M1) := ⟨hX.uy s2, YOi_YO s2 M1, he.ok hO hs, he.yr hO hr⟩
theorem xEq.rf (X : XT) : xEq X X := ⟨fun _ _ _ => rfl, rfl, rfl, rfl, fun _ _ _ => rfl, rfl, fun _ _ => rfl⟩
theorem xPost.R {res : Int × XT} {F : gM} {n : Int} {r : Option gV} {M : gM} {n' : Int} (h : xPost res F n r M n') (hO : xOK res.2) : xR res F r M n' := by
  obtain ⟨h1, h2, ℓ, h3⟩ := h
  subst h2
  exact ⟨h1, ℓ, res.2, h3, xEq.rf _, hO.gs⟩
theorem xQ.R {res : Int × XT} {F : gM} {n : Int} {r : Option gV} {M : gM} {n' : Int} (h : xQ res F n r M n') : xR res F r M n' := by
  obtain ⟨h1, h2, ℓ, S, t, b, hS, h3⟩ := h
  subst h2
  refine ⟨h1, ℓ, xG res.2 S t b, h3, ⟨fun _ _ _ => rfl, ?_, ?_, rfl, fun k k1 _ => fu_ne _ _ k1, rfl, fun _ _ => rfl⟩, ?_⟩
  · show fu (fu res.2.2.1 3 t) 4 b 0 = res.2.2.1 0
    rw [fu_ne _ _ (by decide), fu_ne _ _ (by decide)]
  · show fu (fu res.2.2.1 3 t) 4 b 2 = res.2.2.1 2
    rw [fu_ne _ _ (by decide), fu_ne _ _ (by decide)]
  · show sfOK (fu res.2.2.2.2.1 24 S 24)
    rw [fu_same]
    exact hS
