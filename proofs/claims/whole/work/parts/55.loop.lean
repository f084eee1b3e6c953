/-! THE LAW: its loop -/
set_option maxRecDepth 20000 in
theorem lw_loop {κ : gC} {nm : String} {Ls : Int} {xs : Nat → Int32} (C : gF κ (yLw nm) cL_law 4 room_1) (S : gScr κ Ls xs) (hLs : 0 ≤ Ls ∧ Ls ≤ 3072) (hE : ∀ (M : gM) (n : Int) (L : List (Option gV)) (c s : Nat), c ≤ 600000 → s ≤ 7302250 → G κ M n L 1181 [vi 1] c s) : ∀ (f : Nat) (i : Int) (X : XT) (ℓ : Int → Int) (s : YT) (n : Int) (M : gM), 0 ≤ i → i ≤ Ls → Ls - i < 6 * (f : Int) → LI X ℓ s n M → G κ M n [some (vr (-3)), some (vr 0), some (vr 152), some (vi i)] 18 [] (200 + 13 * i.toNat) (6000 + 87 * i.toNat) := by
  intro f
  induction f with
  | zero =>
    intro i X ℓ s n M h0 h1 h2
    exfalso
    omega
  | succ f ih =>
    intro i X ℓ s n M h0 h1 h2 hI
    refine s_n3_iload C dL_law_18 ?_
    refine s_n0_aload C dL_law_19 ?_
    refine g_slen C S dL_law_20 ?_
    refine g_bipush C dL_law_21 (by decide) ?_
    refine g_isub C dL_law_23 ?_
    refine g_icmp_gt 1180 C dL_law_24 (by decide) (by unfold iR; omega) (by unfold iR; omega) (fun _ => ?_) (fun h => ?_)
    · refine g_iconst C dL_law_1180 ?_
      exact hE _ _ _ _ _ (by omega) (by omega)
    have K : ∀ X' ℓ' s' n' M', LI X' ℓ' s' n' M' → G κ M' n' [some (vr (-3)), some (vr 0), some (vr 152), some (vi i)] 1174 [] (200 + 13 * i.toNat + 13) (6000 + 87 * i.toNat + 87) := by
      intro X' ℓ' s' n' M' h'
      refine s_w3_iinc C dL_law_1174 rfl ?_
      refine g_goto 18 C dL_law_1177 (by decide) ?_
      exact G.widen (by omega) (by omega) (ih (i + 6) X' ℓ' s' n' M' (by omega) (by omega) (by omega) h')
    have hi : 0 ≤ i ∧ i + 6 ≤ Ls ∧ Ls ≤ 3072 := by omega
    have hr : 200 + 13 * i.toNat + 13 ≤ 600000 ∧ 6000 + 87 * i.toNat + 87 ≤ 7302250 := by omega
    refine s_n0_aload C dL_law_27 ?_
    refine s_n3_iload C dL_law_28 ?_
    refine g_sld C S dL_law_29 (by omega) ?_
    refine g_bipush C dL_law_30 (by decide) ?_
    refine g_iand C dL_law_32 ?_
    have hx := bAnd_R (scI xs i) 63
    generalize bAnd (scI xs i) 63 = x at hx ⊢
    rcases (show x = 0 ∨ x = 1 ∨ x = 2 ∨ x = 3 ∨ x = 4 ∨ x = 5 ∨ x = 6 ∨ x = 7 ∨ x = 8 ∨ x = 9 ∨ x = 10 ∨ x = 11 ∨ x = 12 ∨ x = 13 ∨ x = 14 ∨ x = 15 ∨ x = 16 ∨ x = 17 ∨ x = 18 ∨ x = 19 ∨ x = 20 ∨ x = 21 ∨ x = 22 ∨ x = 23 ∨ x = 24 ∨ x = 25 ∨ x = 26 ∨ x = 27 ∨ x = 28 ∨ x = 29 ∨ x = 30 ∨ x = 31 ∨ x = 32 ∨ x = 33 ∨ x = 34 ∨ (x < 0 ∨ 34 < x) by omega) with w | w | w | w | w | w | w | w | w | w | w | w | w | w | w | w | w | w | w | w | w | w | w | w | w | w | w | w | w | w | w | w | w | w | w | w
    · refine g_tswI 188 C dL_law_33 hx (by omega) (by omega) (by rw [w]; rfl) (by decide) ?_
      exact lw_c0 C S hi hr hI K
    · refine g_tswI 231 C dL_law_33 hx (by omega) (by omega) (by rw [w]; rfl) (by decide) ?_
      exact lw_c1 C S hi hr hI K
    · refine g_tswI 274 C dL_law_33 hx (by omega) (by omega) (by rw [w]; rfl) (by decide) ?_
      exact lw_c2 C S hi hr hI K
    · refine g_tswI 337 C dL_law_33 hx (by omega) (by omega) (by rw [w]; rfl) (by decide) ?_
      exact lw_c3 C S hi hr hI K
    · refine g_tswI 360 C dL_law_33 hx (by omega) (by omega) (by rw [w]; rfl) (by decide) ?_
      exact lw_c4 C S hi hr hI K
    · refine g_tswI 383 C dL_law_33 hx (by omega) (by omega) (by rw [w]; rfl) (by decide) ?_
      exact lw_c5 C S hi hr hI K
    · refine g_tswI 396 C dL_law_33 hx (by omega) (by omega) (by rw [w]; rfl) (by decide) ?_
      exact lw_c6 C S hi hr hI K
    · refine g_tswI 409 C dL_law_33 hx (by omega) (by omega) (by rw [w]; rfl) (by decide) ?_
      exact lw_c7 C S hi hr hI K
    · refine g_tswI 422 C dL_law_33 hx (by omega) (by omega) (by rw [w]; rfl) (by decide) ?_
      exact lw_c8 C S hi hr hI K
    · refine g_tswI 455 C dL_law_33 hx (by omega) (by omega) (by rw [w]; rfl) (by decide) ?_
      exact lw_c9 C S hi hr hI K
    · refine g_tswI 478 C dL_law_33 hx (by omega) (by omega) (by rw [w]; rfl) (by decide) ?_
      exact lw_c10 C S hi hr hI K
    · refine g_tswI 501 C dL_law_33 hx (by omega) (by omega) (by rw [w]; rfl) (by decide) ?_
      exact lw_c11 C S hi hr hI K
    · refine g_tswI 514 C dL_law_33 hx (by omega) (by omega) (by rw [w]; rfl) (by decide) ?_
      exact lw_c12 C S hi hr hI K
    · refine g_tswI 547 C dL_law_33 hx (by omega) (by omega) (by rw [w]; rfl) (by decide) ?_
      exact lw_c13 C S hi hr hI K
    · refine g_tswI 580 C dL_law_33 hx (by omega) (by omega) (by rw [w]; rfl) (by decide) ?_
      exact lw_c14 C S hi hr hI K
    · refine g_tswI 603 C dL_law_33 hx (by omega) (by omega) (by rw [w]; rfl) (by decide) ?_
      exact lw_c15 C S hi hr hI K
    · refine g_tswI 646 C dL_law_33 hx (by omega) (by omega) (by rw [w]; rfl) (by decide) ?_
      exact lw_c16 C S hi hr hI K
    · refine g_tswI 669 C dL_law_33 hx (by omega) (by omega) (by rw [w]; rfl) (by decide) ?_
      exact lw_c17 C S hi hr hI K
    · refine g_tswI 692 C dL_law_33 hx (by omega) (by omega) (by rw [w]; rfl) (by decide) ?_
      exact lw_c18 C S hi hr hI K
    · refine g_tswI 715 C dL_law_33 hx (by omega) (by omega) (by rw [w]; rfl) (by decide) ?_
      exact lw_c19 C S hi hr hI K
    · refine g_tswI 748 C dL_law_33 hx (by omega) (by omega) (by rw [w]; rfl) (by decide) ?_
      exact lw_c20 C S hi hr hI K
    · refine g_tswI 781 C dL_law_33 hx (by omega) (by omega) (by rw [w]; rfl) (by decide) ?_
      exact lw_c21 C S hi hr hI K
    · refine g_tswI 794 C dL_law_33 hx (by omega) (by omega) (by rw [w]; rfl) (by decide) ?_
      exact lw_c22 C S hi hr hI K
    · refine g_tswI 837 C dL_law_33 hx (by omega) (by omega) (by rw [w]; rfl) (by decide) ?_
      exact lw_c23 C S hi hr hI K
    · refine g_tswI 870 C dL_law_33 hx (by omega) (by omega) (by rw [w]; rfl) (by decide) ?_
      exact lw_c24 C S hi hr hI K
    · refine g_tswI 883 C dL_law_33 hx (by omega) (by omega) (by rw [w]; rfl) (by decide) ?_
      exact lw_c25 C S hi hr hI K
    · refine g_tswI 937 C dL_law_33 hx (by omega) (by omega) (by rw [w]; rfl) (by decide) ?_
      exact lw_c26 C S hi hr hI K
    · refine g_tswI 980 C dL_law_33 hx (by omega) (by omega) (by rw [w]; rfl) (by decide) ?_
      exact lw_c27 C S hi hr hI K
    · refine g_tswI 1003 C dL_law_33 hx (by omega) (by omega) (by rw [w]; rfl) (by decide) ?_
      exact lw_c28 C S hi hr hI K
    · refine g_tswI 1026 C dL_law_33 hx (by omega) (by omega) (by rw [w]; rfl) (by decide) ?_
      exact lw_c29 C S hi hr hI K
    · refine g_tswI 1049 C dL_law_33 hx (by omega) (by omega) (by rw [w]; rfl) (by decide) ?_
      exact lw_c30 C S hi hr hI K
    · refine g_tswI 1082 C dL_law_33 hx (by omega) (by omega) (by rw [w]; rfl) (by decide) ?_
      exact lw_c31 C S hi hr hI K
    · refine g_tswI 1115 C dL_law_33 hx (by omega) (by omega) (by rw [w]; rfl) (by decide) ?_
      exact lw_c32 C S hi hr hI K
    · refine g_tswI 1138 C dL_law_33 hx (by omega) (by omega) (by rw [w]; rfl) (by decide) ?_
      exact lw_c33 C S hi hr hI K
    · refine g_tswI 1161 C dL_law_33 hx (by omega) (by omega) (by rw [w]; rfl) (by decide) ?_
      exact lw_c34 C S hi hr hI K
    · refine g_tswO 1174 C dL_law_33 hx w (by decide) ?_
      exact G.widen (Nat.le_add_right _ _) (Nat.le_add_right _ _) (K _ _ _ _ _ hI)
