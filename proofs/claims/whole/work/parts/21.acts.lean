/-! PadPolish: rows, acts -/
section GBI
variable {κ : gC} {y : MethodName} {cc : ByteArray} {nL : Nat} {rm : Room} {M : gM} {n : Int} {L : List (Option gV)} {pc : Nat} {st : List gV} {cells slots : Nat}
theorem g_bifeq {p : Prop} [Decidable p] {off : Int} (tgt : Nat) (C : gF κ y cc nL rm) (hd : decode cc pc = .ok (.ifCond .eq off, 3)) (ht : (pc : Int) + off = (tgt : Int)) (a : ¬ p → G κ M n L tgt st cells slots) (b : p → G κ M n L (pc + 3) st cells slots) : G κ M n L pc (vi (if p then 1 else 0) :: st) cells slots := by
  by_cases hp : p
  · rw [if_pos hp]
    exact g_if_eq tgt C hd ht (by unfold iR; omega) (fun q => absurd q (by decide)) (fun _ => b hp)
  · rw [if_neg hp]
    exact g_if_eq tgt C hd ht (by unfold iR; omega) (fun _ => a hp) (fun q => absurd rfl q)
theorem g_bifne {p : Prop} [Decidable p] {off : Int} (tgt : Nat) (C : gF κ y cc nL rm) (hd : decode cc pc = .ok (.ifCond .ne off, 3)) (ht : (pc : Int) + off = (tgt : Int)) (a : p → G κ M n L tgt st cells slots) (b : ¬ p → G κ M n L (pc + 3) st cells slots) : G κ M n L pc (vi (if p then 1 else 0) :: st) cells slots := by
  by_cases hp : p
  · rw [if_pos hp]
    exact g_if_ne tgt C hd ht (by unfold iR; omega) (fun _ => a hp) (fun q => absurd q (by decide))
  · rw [if_neg hp]
    exact g_if_ne tgt C hd ht (by unfold iR; omega) (fun q => absurd rfl q) (fun _ => b hp)
end GBI
theorem fu_ev {α : Type} (f : Int → α) (k : Int) (x : α) (j : Int) : fu f k x j = if j = k then x else f j := rfl
def xOK (X : XT) : Prop := (0 ≤ X.1 5 ∧ X.1 5 ≤ 1) ∧ (0 ≤ X.1 2 ∧ X.1 2 < 24) ∧ (0 ≤ X.1 3 ∧ X.1 3 ≤ 24) ∧ (X.1 0 = 0 ∨ X.1 0 = 1) ∧ ((∀ i, 0 ≤ i → i < 120 → 0 ≤ X.2.1 0 i ∧ X.2.1 0 i ≤ 255) ∧ 0 ≤ X.1 6 ∧ X.1 6 ≤ 120) ∧ (∀ k, 0 ≤ k → k < 2 → X.2.1 2 k = 0 ∨ X.2.1 2 k = 1) ∧ (∀ k, 0 ≤ k → k < 8 → rowOK (X.2.2.1 k)) ∧ (∀ k, 0 ≤ k → k < 29 → ¬ k = 26 - X.1 5 → sfOK (X.2.2.2.1 k)) ∧ tlOK X.2.2.2.2.1 ∧ ∀ k, 0 ≤ k → k < 4 → ¬ k = 1 - X.1 5 → psOK (X.2.2.2.2.2 k).1 ∧ 0 ≤ (X.2.2.2.2.2 k).2 ∧ (X.2.2.2.2.2 k).2 ≤ 9
def xC (X : XT) : SLT := X.2.2.2.1 (25 + X.1 5)
def xP (X : XT) : PST := (X.2.2.2.2.2 (X.1 5)).1
def xK (X : XT) : Int := (X.2.2.2.2.2 (X.1 5)).2
abbrev xS (X : XT) (k v : Int) : XT := (fu X.1 k v, X.2)
abbrev xSf (X : XT) (k : Int) (S : SLT) : XT := (X.1, X.2.1, X.2.2.1, fu X.2.2.2.1 k S, X.2.2.2.2)
abbrev xRw (X : XT) (k : Int) (R : RWT) : XT := (X.1, X.2.1, fu X.2.2.1 k R, X.2.2.2)
section XO
variable {X : XT} (h : xOK X)
theorem xOK.c (h : xOK X) : 0 ≤ X.1 5 ∧ X.1 5 ≤ 1 := h.1
theorem xOK.na (h : xOK X) : 0 ≤ X.1 2 ∧ X.1 2 < 24 := h.2.1
theorem xOK.ac (h : xOK X) : 0 ≤ X.1 3 ∧ X.1 3 ≤ 24 := h.2.2.1
theorem xOK.td (h : xOK X) : X.1 0 = 0 ∨ X.1 0 = 1 := h.2.2.2.1
theorem xOK.tp (h : xOK X) : (∀ i, 0 ≤ i → i < 120 → 0 ≤ X.2.1 0 i ∧ X.2.1 0 i ≤ 255) ∧ 0 ≤ X.1 6 ∧ X.1 6 ≤ 120 := h.2.2.2.2.1
theorem xOK.ik (h : xOK X) : ∀ k, 0 ≤ k → k < 2 → X.2.1 2 k = 0 ∨ X.2.1 2 k = 1 := h.2.2.2.2.2.1
theorem xOK.rw (h : xOK X) : ∀ k, 0 ≤ k → k < 8 → rowOK (X.2.2.1 k) := h.2.2.2.2.2.2.1
theorem xOK.sf (h : xOK X) : ∀ k, 0 ≤ k → k < 29 → ¬ k = 26 - X.1 5 → sfOK (X.2.2.2.1 k) := h.2.2.2.2.2.2.2.1
theorem xOK.tr (h : xOK X) : tlOK X.2.2.2.2.1 := h.2.2.2.2.2.2.2.2.1
theorem xOK.tb (h : xOK X) : ∀ k, 0 ≤ k → k < 4 → ¬ k = 1 - X.1 5 → psOK (X.2.2.2.2.2 k).1 ∧ 0 ≤ (X.2.2.2.2.2 k).2 ∧ (X.2.2.2.2.2 k).2 ≤ 9 := h.2.2.2.2.2.2.2.2.2
theorem xOK.cs (h : xOK X) : sfOK (xC X) := h.sf _ (by have := h.c; omega) (by have := h.c; omega) (by have := h.c; omega)
theorem xOK.ps (h : xOK X) : psOK (xP X) := (h.tb _ h.c.1 (by have := h.c; omega) (by have := h.c; omega)).1
theorem xOK.sk (h : xOK X) : 0 ≤ xK X ∧ xK X ≤ 9 := (h.tb _ h.c.1 (by have := h.c; omega) (by have := h.c; omega)).2
theorem xOK.gs (h : xOK X) : sfOK (X.2.2.2.1 24) := h.sf _ (by decide) (by decide) (by have := h.c; omega)
end XO
def xPost (res : Int × XT) (F : gM) (n : Int) : gPost := fun r M n' => r = some (vi res.1) ∧ n' = n ∧ ∃ ℓ, XL res.2 ℓ F n M
theorem xs11 (sc : Int → Int) (x : Int) : gO 11 ((xObj sc).set 11 (vi x)) = gO 11 (xObj (fu sc 0 x)) := rfl
theorem xs12 (sc : Int → Int) (x : Int) : gO 11 ((xObj sc).set 12 (vi x)) = gO 11 (xObj (fu sc 1 x)) := rfl
theorem xs13 (sc : Int → Int) (x : Int) : gO 11 ((xObj sc).set 13 (vi x)) = gO 11 (xObj (fu sc 2 x)) := rfl
theorem xs14 (sc : Int → Int) (x : Int) : gO 11 ((xObj sc).set 14 (vi x)) = gO 11 (xObj (fu sc 3 x)) := rfl
theorem xs15 (sc : Int → Int) (x : Int) : gO 11 ((xObj sc).set 15 (vi x)) = gO 11 (xObj (fu sc 4 x)) := rfl
theorem k_begin {o : Int} {R : RWT} {M : gM} {n a b : Int} : CT yX3_begin cX3_begin 3 none (rmk 1 0 0) [vr o, vi a, vi b] (RW o R M) n (qr none (RW o (fun _ => 0, a, b) M) n) := by
  obtain ⟨t, ln, k⟩ := R
  exact ct_X3_begin
theorem k_isMissing {o : Int} {R : RWT} {M : gM} {n : Int} (h : RWi o R M) (hR : rowOK R) : CT yX3_isMissing cX3_isMissing 1 (some .boolean) (rmk 0 0 0) [vr o] M n (qr (some (vi (if R.2.2 = -1 then 1 else 0))) M n) := by
  have h2 : RW o R M = M := RW_self h
  obtain ⟨t, ln, k⟩ := R
  have := ct_X3_isMissing (o := o) (t := t) (ln := ln) (k := k) (M := M) (n := n) ⟨hR.2.2.2.1, hR.2.2.2.2⟩
  rwa [h2] at this
theorem CT.mono {y : MethodName} {cc : ByteArray} {nL : Nat} {ret : Option FieldType} {rm : Room} {av : List gV} {M : gM} {n : Int} {Q Q' : gPost} (h : CT y cc nL ret rm av M n Q) (hq : ∀ r M n, Q r M n → Q' r M n) : CT y cc nL ret rm av M n Q' := by
  intro l X p e ha hc hk s m args below hf happ hP hK
  obtain ⟨k, o, h1, h2, h3, ⟨⟨r, M', n', e1, e2, e3⟩, e4⟩, h5⟩ := h l X p e ha hc hk s m args below hf happ hP hK
  exact ⟨k, o, h1, h2, h3, ⟨⟨r, M', n', e1, hq _ _ _ e2, e3⟩, e4⟩, h5⟩
theorem k_reaches {o : Int} {R : RWT} {M : gM} {n i m : Int} (h : RWi o R M) (hR : rowOK R) (hi : iR i) (hm : iR m) : CT yX3_reaches cX3_reaches 3 (some .boolean) (rmk 0 0 0) [vr o, vi i, vi m] M n (qr (some (vi (if 0 ≤ i ∧ 0 ≤ m ∧ m ≤ R.2.2 - i then 1 else 0))) M n) := by
  have h2 : RW o R M = M := RW_self h
  obtain ⟨t, ln, k⟩ := R
  have := ct_X3_reaches (o := o) (t := t) (ln := ln) (k := k) (M := M) (n := n) ⟨hR.2.2.2.1, hR.2.2.2.2⟩ hi hm
  rw [h2] at this
  refine this.mono (fun r M2 n2 hq => ?_)
  obtain ⟨e1, e2, e3⟩ := hq
  rcases e3 with ⟨e3, e4⟩ | ⟨e3, e4⟩
  · exact ⟨by rw [e3, if_pos (show 0 ≤ i ∧ 0 ≤ m ∧ m ≤ k - i from e4)], e1, e2⟩
  · exact ⟨by rw [e3, if_neg (show ¬ (0 ≤ i ∧ 0 ≤ m ∧ m ≤ k - i) from e4)], e1, e2⟩
theorem k_put {o : Int} {R : RWT} {M : gM} {n i v : Int} (hR : rowOK R) (hi : 0 ≤ i ∧ i < 40) : CT yX3_put cX3_put 3 (some .int) (rmk 0 0 0) [vr o, vi i, vi v] (RW o R M) n (qr (some (vi (rNar R.2.1 v))) (RW o (up R.1 i (rNar R.2.1 v), R.2) M) n) := by
  obtain ⟨t, ln, k⟩ := R
  exact ct_X3_put ⟨hR.2.1, hR.2.2.1⟩ hi
set_option maxRecDepth 20000 in
theorem ct_X11_isWithin {v lo hi : Int} {M : gM} {n : Int} (hv : iR v) (hl : iR lo) (hh : iR hi) : CT yX11_isWithin cX11_isWithin 3 (some .boolean) (rmk 0 0 0) [vi v, vi lo, vi hi] M n (qr (some (vi (if lo ≤ v ∧ v ≤ hi then 1 else 0))) M n) := by
  refine CT.of (by decide) (fun _ => Nat.le_of_ble_eq_true rfl) (fun κ C E => ?_)
  show G κ M n [some (vi v), some (vi lo), some (vi hi)] 0 [] 0 0
  refine s_n0_iload C dX11_isWithin_0 ?_
  refine s_n1_iload C dX11_isWithin_1 ?_
  refine g_icmp_lt 14 C dX11_isWithin_2 (by decide) (by exact hv) (by exact hl) (fun c2 => ?_) (fun c2 => ?_)
  · refine g_iconst C dX11_isWithin_14 ?_
    refine g_zret C E dX11_isWithin_15 (by decide) (by omega) ?_
    rw [if_neg (by omega)]
    exact ⟨rfl, rfl, rfl⟩
  · refine s_n0_iload C dX11_isWithin_5 ?_
    refine s_n2_iload C dX11_isWithin_6 ?_
    refine g_icmp_gt 14 C dX11_isWithin_7 (by decide) (by exact hv) (by exact hh) (fun c7 => ?_) (fun c7 => ?_)
    · refine g_iconst C dX11_isWithin_14 ?_
      refine g_zret C E dX11_isWithin_15 (by decide) (by omega) ?_
      rw [if_neg (by omega)]
      exact ⟨rfl, rfl, rfl⟩
    · refine g_iconst C dX11_isWithin_10 ?_
      refine g_goto 15 C dX11_isWithin_11 (by decide) ?_
      refine g_zret C E dX11_isWithin_15 (by decide) (by omega) ?_
      rw [if_pos (by omega)]
      exact ⟨rfl, rfl, rfl⟩
set_option maxRecDepth 20000 in
theorem ct_X11_isRow {v : Int} {M : gM} {n : Int} (hv : iR v) : CT yX11_isRow cX11_isRow 1 (some .boolean) (rmk 1 0 0) [vi v] M n (qr (some (vi (if 0 ≤ v ∧ v ≤ 7 then 1 else 0))) M n) := by
  refine CT.of (by decide) (fun _ => Nat.le_of_ble_eq_true rfl) (fun κ C E => ?_)
  show G κ M n [some (vi v)] 0 [] 0 0
  refine s_n0_iload C dX11_isRow_0 ?_
  refine g_iconst C dX11_isRow_1 ?_
  refine g_bipush C dX11_isRow_2 (by decide) ?_
  refine g_invS C (ct_X11_isWithin hv (by unfold iR; omega) (by unfold iR; omega)) cs_X11_70 (rmk_ok (by decide) (by decide) (by decide) (by decide)) (Nat.le_of_ble_eq_true rfl) rfl dX11_isRow_4 rfl (q_r0 ?_)
  refine g_zret C E dX11_isRow_7 (by decide) (by split <;> omega) ?_
  exact ⟨rfl, rfl, rfl⟩
set_option maxRecDepth 20000 in
theorem ct_X11_isCell {v : Int} {M : gM} {n : Int} (hv : iR v) : CT yX11_isCell cX11_isCell 1 (some .boolean) (rmk 1 0 0) [vi v] M n (qr (some (vi (if 0 ≤ v ∧ v ≤ 14 then 1 else 0))) M n) := by
  refine CT.of (by decide) (fun _ => Nat.le_of_ble_eq_true rfl) (fun κ C E => ?_)
  show G κ M n [some (vi v)] 0 [] 0 0
  refine s_n0_iload C dX11_isCell_0 ?_
  refine g_iconst C dX11_isCell_1 ?_
  refine g_bipush C dX11_isCell_2 (by decide) ?_
  refine g_invS C (ct_X11_isWithin hv (by unfold iR; omega) (by unfold iR; omega)) cs_X11_70 (rmk_ok (by decide) (by decide) (by decide) (by decide)) (Nat.le_of_ble_eq_true rfl) rfl dX11_isCell_4 rfl (q_r0 ?_)
  refine g_zret C E dX11_isCell_7 (by decide) (by split <;> omega) ?_
  exact ⟨rfl, rfl, rfl⟩
set_option maxRecDepth 20000 in
theorem ct_X11_found {X : XT} {ℓ : Int → Int} {F : gM} {n : Int} {M : gM} (hX : XL X ℓ F n M) {k : Int} : CT yX11_found cX11_found 2 (some .int) (rmk 0 0 0) [vr 0, vi k] M n (qr (some (vi (-1000010 - k))) (gu M 0 (gO 11 (xObj (fu X.1 4 k)))) n) := by
  refine CT.of (by decide) (fun _ => Nat.le_of_ble_eq_true rfl) (fun κ C E => ?_)
  show G κ M n [some (vr 0), some (vi k)] 0 [] 0 0
  refine s_n0_aload C dX11_found_0 ?_
  refine s_n1_iload C dX11_found_1 ?_
  refine g_put C fp_X11_312_11 dX11_found_2 hX.o (Nat.le_of_ble_eq_true rfl) (gfit_i _) ?_
  rw [xs15]
  refine g_ldcw (-1000010) C wd_574 dX11_found_5 ?_
  refine s_n1_iload C dX11_found_8 ?_
  refine g_isub C dX11_found_9 ?_
  refine g_iret C E dX11_found_10 (by decide) ?_
  exact ⟨rfl, rfl, rfl⟩
set_option maxRecDepth 20000 in
theorem ct_X11_unfound {X : XT} {ℓ : Int → Int} {F : gM} {n : Int} {M : gM} (hX : XL X ℓ F n M) {k : Int} : CT yX11_unfound cX11_unfound 2 (some .int) (rmk 0 0 0) [vr 0, vi k] M n (qr (some (vi k)) (gu M 0 (gO 11 (xObj (fu X.1 4 0)))) n) := by
  refine CT.of (by decide) (fun _ => Nat.le_of_ble_eq_true rfl) (fun κ C E => ?_)
  show G κ M n [some (vr 0), some (vi k)] 0 [] 0 0
  refine s_n0_aload C dX11_unfound_0 ?_
  refine g_iconst C dX11_unfound_1 ?_
  refine g_put C fp_X11_312_11 dX11_unfound_2 hX.o (Nat.le_of_ble_eq_true rfl) (gfit_i _) ?_
  rw [xs15]
  refine s_n1_iload C dX11_unfound_5 ?_
  refine g_iret C E dX11_unfound_6 (by decide) ?_
  exact ⟨rfl, rfl, rfl⟩
set_option maxRecDepth 20000 in
theorem ct_X11_forgetActs {X : XT} {ℓ : Int → Int} {F : gM} {n : Int} {M : gM} (hX : XL X ℓ F n M)  : CT yX11_forgetActs cX11_forgetActs 1 none (rmk 0 0 0) [vr 0] M n (qr none (gu M 0 (gO 11 (xObj (fu X.1 3 0)))) n) := by
  refine CT.of (by decide) (fun _ => Nat.le_of_ble_eq_true rfl) (fun κ C E => ?_)
  show G κ M n [some (vr 0)] 0 [] 0 0
  refine s_n0_aload C dX11_forgetActs_0 ?_
  refine g_iconst C dX11_forgetActs_1 ?_
  refine g_put C fp_X11_150_11 dX11_forgetActs_2 hX.o (Nat.le_of_ble_eq_true rfl) (gfit_i _) ?_
  rw [xs14]
  refine g_vret C E dX11_forgetActs_5 (by decide) ?_
  exact ⟨rfl, rfl, rfl⟩
def xRow (X : XT) (a b c : Int) : Int × XT := if ¬ (0 ≤ a ∧ a ≤ 7) then (-1000001, X) else if ¬ (0 ≤ b ∧ b ≤ 2) then (-1000001, X) else if 40 < c then (-1000001, X) else if c < 0 then (-1000014, xS X 4 4) else (c, xS (xRw X a (fun _ => 0, b, c)) 4 0)
set_option maxRecDepth 20000 in
theorem ct_X11_row {X : XT} {ℓ : Int → Int} {F : gM} {n : Int} {M : gM} (hX : XL X ℓ F n M) (hO : xOK X) {a b c : Int} (ha : iR a) (hb : iR b) (hc : iR c) : CT yX11_row cX11_row 4 (some .int) (rmk 2 0 0) [vr 0, vi a, vi b, vi c] M n (xPost (xRow X a b c) F n) := by
  refine CT.of (by decide) (fun _ => Nat.le_of_ble_eq_true rfl) (fun κ C E => ?_)
  show G κ M n [some (vr 0), some (vi a), some (vi b), some (vi c)] 0 [] 0 0
  have hc := hO.c
  refine s_n1_iload C dX11_row_0 ?_
  refine g_invS C (ct_X11_isRow (by assumption)) cs_X11_66 (rmk_ok (by decide) (by decide) (by decide) (by decide)) (Nat.le_of_ble_eq_true rfl) rfl dX11_row_1 rfl (q_r0 ?_)
  refine g_bifeq 22 C dX11_row_4 (by decide)  (fun c4 => ?_) (fun c4 => ?_)
  · refine g_ldc (-1000001) C wd_364 dX11_row_22 ?_
    refine g_iret C E dX11_row_24 (by decide) ?_
    unfold xRow
    rw [if_pos c4]
    exact ⟨rfl, rfl, _, hX⟩
  · refine s_n2_iload C dX11_row_7 ?_
    refine g_iconst C dX11_row_8 ?_
    refine g_iconst C dX11_row_9 ?_
    refine g_invS C (ct_X11_isWithin (by first | assumption | (unfold iR; omega)) (by first | assumption | (unfold iR; omega)) (by first | assumption | (unfold iR; omega))) cs_X11_70 (rmk_ok (by decide) (by decide) (by decide) (by decide)) (Nat.le_of_ble_eq_true rfl) rfl dX11_row_10 rfl (q_r0 ?_)
    refine g_bifeq 22 C dX11_row_13 (by decide)  (fun c13 => ?_) (fun c13 => ?_)
    · refine g_ldc (-1000001) C wd_364 dX11_row_22 ?_
      refine g_iret C E dX11_row_24 (by decide) ?_
      unfold xRow
      rw [if_neg (not_not_intro c4), if_pos c13]
      exact ⟨rfl, rfl, _, hX⟩
    · refine s_n3_iload C dX11_row_16 ?_
      refine g_bipush C dX11_row_17 (by decide) ?_
      refine g_icmp_le 25 C dX11_row_19 (by decide) (by first | assumption | (unfold iR; omega)) (by first | assumption | (unfold iR; omega)) (fun c19 => ?_) (fun c19 => ?_)
      · refine s_n3_iload C dX11_row_25 ?_
        refine g_if_ge 35 C dX11_row_26 (by decide) (by first | assumption | (unfold iR; omega)) (fun c26 => ?_) (fun c26 => ?_)
        · refine s_n0_aload C dX11_row_35 ?_
          refine g_get C fd_X11_11_11 dX11_row_36 hX.o rfl ?_
          refine s_n1_iload C dX11_row_39 ?_
          refine g_aald C (by decide) dX11_row_40 hX.r1 (by omega) ?_
          refine s_n2_iload C dX11_row_41 ?_
          refine s_n3_iload C dX11_row_42 ?_
          refine g_invV C ((k_begin (R := X.2.2.1 a)).conv (RW_self (hX.rw a c4.1 (by omega))) rfl) (hX.rw a c4.1 (by omega)).1 cv_X11_79_3 (rmk_ok (by decide) (by decide) (by decide) (by decide)) (Nat.le_of_ble_eq_true rfl) rfl dX11_row_43 rfl (q_v0 ?_)
          have hX := hX.ur (k0 := a) (fun _ => 0, b, c) c4.1 (by omega)
          refine s_n0_aload C dX11_row_46 ?_
          refine s_n3_iload C dX11_row_47 ?_
          refine g_invV C (ct_X11_unfound hX) hX.o cv_X11_83_11 (rmk_ok (by decide) (by decide) (by decide) (by decide)) (Nat.le_of_ble_eq_true rfl) rfl dX11_row_48 rfl (q_r0 ?_)
          have hX := hX.uo (sc := fu X.1 4 0) ⟨rfl, rfl, rfl⟩
          refine g_iret C E dX11_row_51 (by decide) ?_
          unfold xRow
          rw [if_neg (not_not_intro c4), if_neg (not_not_intro c13), if_neg (by omega), if_neg (by omega)]
          exact ⟨rfl, rfl, _, hX⟩
        · refine s_n0_aload C dX11_row_29 ?_
          refine g_iconst C dX11_row_30 ?_
          refine g_invV C (ct_X11_found hX) hX.o cv_X11_75_11 (rmk_ok (by decide) (by decide) (by decide) (by decide)) (Nat.le_of_ble_eq_true rfl) rfl dX11_row_31 rfl (q_r0 ?_)
          have hX := hX.uo (sc := fu X.1 4 4) ⟨rfl, rfl, rfl⟩
          refine g_iret C E dX11_row_34 (by decide) ?_
          unfold xRow
          rw [if_neg (not_not_intro c4), if_neg (not_not_intro c13), if_neg (by omega), if_pos c26]
          exact ⟨rfl, rfl, _, hX⟩
      · refine g_ldc (-1000001) C wd_364 dX11_row_22 ?_
        refine g_iret C E dX11_row_24 (by decide) ?_
        unfold xRow
        rw [if_neg (not_not_intro c4), if_neg (not_not_intro c13), if_pos c19]
        exact ⟨rfl, rfl, _, hX⟩
def xSet (X : XT) (a i v : Int) : Int × XT := if ¬ (0 ≤ a ∧ a ≤ 7) then (-1000001, X) else if (X.2.2.1 a).2.2 = -1 then (-1000011, xS X 4 1) else if ¬ (0 ≤ i ∧ 0 ≤ (1 : Int) ∧ 1 ≤ (X.2.2.1 a).2.2 - i) then (-1000012, xS X 4 2) else (rNar (X.2.2.1 a).2.1 v, xS (xRw X a (up (X.2.2.1 a).1 i (rNar (X.2.2.1 a).2.1 v), (X.2.2.1 a).2)) 4 0)
set_option maxRecDepth 20000 in
theorem ct_X11_set {X : XT} {ℓ : Int → Int} {F : gM} {n : Int} {M : gM} (hX : XL X ℓ F n M) (hO : xOK X) {a i v : Int} (ha : iR a) (hi : iR i) (hv : iR v) : CT yX11_set cX11_set 5 (some .int) (rmk 2 0 0) [vr 0, vi a, vi i, vi v] M n (xPost (xSet X a i v) F n) := by
  refine CT.of (by decide) (fun _ => Nat.le_of_ble_eq_true rfl) (fun κ C E => ?_)
  show G κ M n [some (vr 0), some (vi a), some (vi i), some (vi v), none] 0 [] 0 0
  have hc := hO.c
  refine s_n1_iload C dX11_set_0 ?_
  refine g_invS C (ct_X11_isRow (by assumption)) cs_X11_66 (rmk_ok (by decide) (by decide) (by decide) (by decide)) (Nat.le_of_ble_eq_true rfl) rfl dX11_set_1 rfl (q_r0 ?_)
  refine g_bifne 10 C dX11_set_4 (by decide)  (fun c4 => ?_) (fun c4 => ?_)
  · refine s_n0_aload C dX11_set_10 ?_
    refine g_get C fd_X11_11_11 dX11_set_11 hX.o rfl ?_
    refine s_n1_iload C dX11_set_14 ?_
    refine g_aald C (by decide) dX11_set_15 hX.r1 (by omega) ?_
    refine s_w4_astore C dX11_set_16 rfl ?_
    refine s_w4_aload C dX11_set_18 ?_
    refine g_invV C (k_isMissing (hX.rw a (by omega) (by omega)) (hO.rw a (by omega) (by omega))) (hX.rw a (by omega) (by omega)).1 cv_X11_86_3 (rmk_ok (by decide) (by decide) (by decide) (by decide)) (Nat.le_of_ble_eq_true rfl) rfl dX11_set_20 rfl (q_r0 ?_)
    refine g_bifeq 32 C dX11_set_23 (by decide)  (fun c23 => ?_) (fun c23 => ?_)
    · refine s_w4_aload C dX11_set_32 ?_
      refine s_n2_iload C dX11_set_34 ?_
      refine g_iconst C dX11_set_35 ?_
      refine g_invV C (k_reaches (hX.rw a (by omega) (by omega)) (hO.rw a (by omega) (by omega)) (by first | assumption | (unfold iR; omega)) (by first | assumption | (unfold iR; omega))) (hX.rw a (by omega) (by omega)).1 cv_X11_90_3 (rmk_ok (by decide) (by decide) (by decide) (by decide)) (Nat.le_of_ble_eq_true rfl) rfl dX11_set_36 rfl (q_r0 ?_)
      refine g_bifne 48 C dX11_set_39 (by decide)  (fun c39 => ?_) (fun c39 => ?_)
      · refine s_n0_aload C dX11_set_48 ?_
        refine s_w4_aload C dX11_set_49 ?_
        refine s_n2_iload C dX11_set_51 ?_
        refine s_n3_iload C dX11_set_52 ?_
        have hrw := hO.rw a c4.1 (by omega)
        have hr40 := hrw.2.2.2.2
        refine g_invV C ((k_put (R := X.2.2.1 a) hrw ⟨c39.1, by omega⟩).conv (RW_self (hX.rw a (by omega) (by omega))) rfl) (hX.rw a (by omega) (by omega)).1 cv_X11_94_3 (rmk_ok (by decide) (by decide) (by decide) (by decide)) (Nat.le_of_ble_eq_true rfl) rfl dX11_set_53 rfl (q_r0 ?_)
        have hX := hX.ur (k0 := a) (up (X.2.2.1 a).1 i (rNar (X.2.2.1 a).2.1 v), (X.2.2.1 a).2) c4.1 (by omega)
        refine g_invV C (ct_X11_unfound hX) hX.o cv_X11_83_11 (rmk_ok (by decide) (by decide) (by decide) (by decide)) (Nat.le_of_ble_eq_true rfl) rfl dX11_set_56 rfl (q_r0 ?_)
        have hX := hX.uo (sc := fu X.1 4 0) ⟨rfl, rfl, rfl⟩
        refine g_iret C E dX11_set_59 (by decide) ?_
        unfold xSet
        rw [if_neg (not_not_intro c4), if_neg c23, if_neg (not_not_intro c39)]
        exact ⟨rfl, rfl, _, hX⟩
      · refine s_n0_aload C dX11_set_42 ?_
        refine g_iconst C dX11_set_43 ?_
        refine g_invV C (ct_X11_found hX) hX.o cv_X11_75_11 (rmk_ok (by decide) (by decide) (by decide) (by decide)) (Nat.le_of_ble_eq_true rfl) rfl dX11_set_44 rfl (q_r0 ?_)
        have hX := hX.uo (sc := fu X.1 4 2) ⟨rfl, rfl, rfl⟩
        refine g_iret C E dX11_set_47 (by decide) ?_
        unfold xSet
        rw [if_neg (not_not_intro c4), if_neg c23, if_pos c39]
        exact ⟨rfl, rfl, _, hX⟩
    · refine s_n0_aload C dX11_set_26 ?_
      refine g_iconst C dX11_set_27 ?_
      refine g_invV C (ct_X11_found hX) hX.o cv_X11_75_11 (rmk_ok (by decide) (by decide) (by decide) (by decide)) (Nat.le_of_ble_eq_true rfl) rfl dX11_set_28 rfl (q_r0 ?_)
      have hX := hX.uo (sc := fu X.1 4 1) ⟨rfl, rfl, rfl⟩
      refine g_iret C E dX11_set_31 (by decide) ?_
      unfold xSet
      rw [if_neg (not_not_intro c4), if_pos c23]
      exact ⟨rfl, rfl, _, hX⟩
  · refine g_ldc (-1000001) C wd_364 dX11_set_7 ?_
    refine g_iret C E dX11_set_9 (by decide) ?_
    unfold xSet
    rw [if_pos c4]
    exact ⟨rfl, rfl, _, hX⟩
def xDrop (X : XT) (a : Int) : Int × XT := if ¬ (0 ≤ a ∧ a ≤ 7) then (-1000001, X) else if (X.2.2.1 a).2.2 = -1 then (-1000011, xS X 4 1) else ((X.2.2.1 a).2.2, xS (xRw X a ((X.2.2.1 a).1, (X.2.2.1 a).2.1, -1)) 4 0)
theorem RWg_len {o : Int} {R : RWT} {M : gM} (h : RWi o R M) (x : Int) : gu M o (gO 3 ([vr (o + 1), vi R.2.1, vi R.2.2].set 2 (vi x))) = RW o (R.1, R.2.1, x) M := by
  have h2 := RW_self h
  obtain ⟨t, ln, k⟩ := R
  have e := RW_p2 o t ln k M x
  rw [h2] at e
  exact e
theorem RWg_items {o : Int} {R : RWT} {M : gM} (h : RWi o R M) (f : Int → Int) : gu M (o + 1) (gA 0 40 f) = RW o (f, R.2) M := by
  have h2 := RW_self h
  obtain ⟨t, ln, k⟩ := R
  have e := RW_s1 o t ln k M f
  rw [h2] at e
  exact e
set_option maxRecDepth 20000 in
theorem ct_X11_drop {X : XT} {ℓ : Int → Int} {F : gM} {n : Int} {M : gM} (hX : XL X ℓ F n M) (hO : xOK X) {a : Int} (ha : iR a) : CT yX11_drop cX11_drop 4 (some .int) (rmk 2 0 0) [vr 0, vi a] M n (xPost (xDrop X a) F n) := by
  refine CT.of (by decide) (fun _ => Nat.le_of_ble_eq_true rfl) (fun κ C E => ?_)
  show G κ M n [some (vr 0), some (vi a), none, none] 0 [] 0 0
  have hc := hO.c
  refine s_n1_iload C dX11_drop_0 ?_
  refine g_invS C (ct_X11_isRow (by assumption)) cs_X11_66 (rmk_ok (by decide) (by decide) (by decide) (by decide)) (Nat.le_of_ble_eq_true rfl) rfl dX11_drop_1 rfl (q_r0 ?_)
  refine g_bifne 10 C dX11_drop_4 (by decide)  (fun c4 => ?_) (fun c4 => ?_)
  · refine s_n0_aload C dX11_drop_10 ?_
    refine g_get C fd_X11_11_11 dX11_drop_11 hX.o rfl ?_
    refine s_n1_iload C dX11_drop_14 ?_
    refine g_aald C (by decide) dX11_drop_15 hX.r1 (by omega) ?_
    refine s_n2_astore C dX11_drop_16 rfl ?_
    refine s_n2_aload C dX11_drop_17 ?_
    refine g_invV C (k_isMissing (hX.rw a (by omega) (by omega)) (hO.rw a (by omega) (by omega))) (hX.rw a (by omega) (by omega)).1 cv_X11_86_3 (rmk_ok (by decide) (by decide) (by decide) (by decide)) (Nat.le_of_ble_eq_true rfl) rfl dX11_drop_18 rfl (q_r0 ?_)
    refine g_bifeq 30 C dX11_drop_21 (by decide)  (fun c21 => ?_) (fun c21 => ?_)
    · refine s_n2_aload C dX11_drop_30 ?_
      refine g_getN C fd_X11_111_3 dX11_drop_31 (hX.rw a (by omega) (by omega)).1 rfl ?_
      refine s_n3_istore C dX11_drop_34 rfl ?_
      refine s_n2_aload C dX11_drop_35 ?_
      refine g_iconst C dX11_drop_36 ?_
      refine g_putN C fp_X11_111_3 dX11_drop_37 (hX.rw a (by omega) (by omega)).1 (Nat.le_of_ble_eq_true rfl) (gfit_i _) ?_
      rw [RWg_len (hX.rw a (by omega) (by omega))]
      have hX := hX.ur (k0 := a) ((X.2.2.1 a).1, (X.2.2.1 a).2.1, -1) c4.1 (by omega)
      refine s_n0_aload C dX11_drop_40 ?_
      refine s_n3_iload C dX11_drop_41 ?_
      refine g_invV C (ct_X11_unfound hX) hX.o cv_X11_83_11 (rmk_ok (by decide) (by decide) (by decide) (by decide)) (Nat.le_of_ble_eq_true rfl) rfl dX11_drop_42 rfl (q_r0 ?_)
      have hX := hX.uo (sc := fu X.1 4 0) ⟨rfl, rfl, rfl⟩
      refine g_iret C E dX11_drop_45 (by decide) ?_
      unfold xDrop
      rw [if_neg (not_not_intro c4), if_neg c21]
      exact ⟨rfl, rfl, _, hX⟩
    · refine s_n0_aload C dX11_drop_24 ?_
      refine g_iconst C dX11_drop_25 ?_
      refine g_invV C (ct_X11_found hX) hX.o cv_X11_75_11 (rmk_ok (by decide) (by decide) (by decide) (by decide)) (Nat.le_of_ble_eq_true rfl) rfl dX11_drop_26 rfl (q_r0 ?_)
      have hX := hX.uo (sc := fu X.1 4 1) ⟨rfl, rfl, rfl⟩
      refine g_iret C E dX11_drop_29 (by decide) ?_
      unfold xDrop
      rw [if_neg (not_not_intro c4), if_pos c21]
      exact ⟨rfl, rfl, _, hX⟩
  · refine g_ldc (-1000001) C wd_364 dX11_drop_7 ?_
    refine g_iret C E dX11_drop_9 (by decide) ?_
    unfold xDrop
    rw [if_pos c4]
    exact ⟨rfl, rfl, _, hX⟩
def xCopy (X : XT) (a i b j m : Int) : Int × XT := if ¬ (0 ≤ a ∧ a ≤ 7) then (-1000001, X) else if ¬ (0 ≤ b ∧ b ≤ 7) then (-1000001, X) else if (X.2.2.1 a).2.2 = -1 then (-1000011, xS X 4 1) else if (X.2.2.1 b).2.2 = -1 then (-1000011, xS X 4 1) else if ¬ (X.2.2.1 a).2.1 = (X.2.2.1 b).2.1 then (-1000015, xS X 4 5) else if ¬ (0 ≤ i ∧ 0 ≤ m ∧ m ≤ (X.2.2.1 a).2.2 - i) then (-1000012, xS X 4 2) else if ¬ (0 ≤ j ∧ 0 ≤ m ∧ m ≤ (X.2.2.1 b).2.2 - j) then (-1000012, xS X 4 2) else (m, xS (xRw X b (cpy (X.2.2.1 a).1 (X.2.2.1 b).1 i j m, (X.2.2.1 b).2)) 4 0)
set_option maxRecDepth 20000 in
theorem ct_X11_copy {X : XT} {ℓ : Int → Int} {F : gM} {n : Int} {M : gM} (hX : XL X ℓ F n M) (hO : xOK X) {a i b j m : Int} (ha : iR a) (hi : iR i) (hb : iR b) (hj : iR j) (hm : iR m) : CT yX11_copy cX11_copy 8 (some .int) (rmk 2 0 0) [vr 0, vi a, vi i, vi b, vi j, vi m] M n (xPost (xCopy X a i b j m) F n) := by
  refine CT.of (by decide) (fun _ => Nat.le_of_ble_eq_true rfl) (fun κ C E => ?_)
  show G κ M n [some (vr 0), some (vi a), some (vi i), some (vi b), some (vi j), some (vi m), none, none] 0 [] 0 0
  have hc := hO.c
  refine s_n1_iload C dX11_copy_0 ?_
  refine g_invS C (ct_X11_isRow (by assumption)) cs_X11_66 (rmk_ok (by decide) (by decide) (by decide) (by decide)) (Nat.le_of_ble_eq_true rfl) rfl dX11_copy_1 rfl (q_r0 ?_)
  refine g_bifeq 14 C dX11_copy_4 (by decide)  (fun c4 => ?_) (fun c4 => ?_)
  · refine g_ldc (-1000001) C wd_364 dX11_copy_14 ?_
    refine g_iret C E dX11_copy_16 (by decide) ?_
    unfold xCopy
    rw [if_pos c4]
    exact ⟨rfl, rfl, _, hX⟩
  · refine s_n3_iload C dX11_copy_7 ?_
    refine g_invS C (ct_X11_isRow (by assumption)) cs_X11_66 (rmk_ok (by decide) (by decide) (by decide) (by decide)) (Nat.le_of_ble_eq_true rfl) rfl dX11_copy_8 rfl (q_r0 ?_)
    refine g_bifne 17 C dX11_copy_11 (by decide)  (fun c11 => ?_) (fun c11 => ?_)
    · refine s_n0_aload C dX11_copy_17 ?_
      refine g_get C fd_X11_11_11 dX11_copy_18 hX.o rfl ?_
      refine s_n1_iload C dX11_copy_21 ?_
      refine g_aald C (by decide) dX11_copy_22 hX.r1 (by omega) ?_
      refine s_w6_astore C dX11_copy_23 rfl ?_
      refine s_n0_aload C dX11_copy_25 ?_
      refine g_get C fd_X11_11_11 dX11_copy_26 hX.o rfl ?_
      refine s_n3_iload C dX11_copy_29 ?_
      refine g_aald C (by decide) dX11_copy_30 hX.r1 (by omega) ?_
      refine s_w7_astore C dX11_copy_31 rfl ?_
      refine s_w6_aload C dX11_copy_33 ?_
      refine g_invV C (k_isMissing (hX.rw a (by omega) (by omega)) (hO.rw a (by omega) (by omega))) (hX.rw a (by omega) (by omega)).1 cv_X11_86_3 (rmk_ok (by decide) (by decide) (by decide) (by decide)) (Nat.le_of_ble_eq_true rfl) rfl dX11_copy_35 rfl (q_r0 ?_)
      refine g_bifne 49 C dX11_copy_38 (by decide)  (fun c38 => ?_) (fun c38 => ?_)
      · refine s_n0_aload C dX11_copy_49 ?_
        refine g_iconst C dX11_copy_50 ?_
        refine g_invV C (ct_X11_found hX) hX.o cv_X11_75_11 (rmk_ok (by decide) (by decide) (by decide) (by decide)) (Nat.le_of_ble_eq_true rfl) rfl dX11_copy_51 rfl (q_r0 ?_)
        have hX := hX.uo (sc := fu X.1 4 1) ⟨rfl, rfl, rfl⟩
        refine g_iret C E dX11_copy_54 (by decide) ?_
        unfold xCopy
        rw [if_neg (not_not_intro c4), if_neg (not_not_intro c11), if_pos c38]
        exact ⟨rfl, rfl, _, hX⟩
      · refine s_w7_aload C dX11_copy_41 ?_
        refine g_invV C (k_isMissing (hX.rw b (by omega) (by omega)) (hO.rw b (by omega) (by omega))) (hX.rw b (by omega) (by omega)).1 cv_X11_86_3 (rmk_ok (by decide) (by decide) (by decide) (by decide)) (Nat.le_of_ble_eq_true rfl) rfl dX11_copy_43 rfl (q_r0 ?_)
        refine g_bifeq 55 C dX11_copy_46 (by decide)  (fun c46 => ?_) (fun c46 => ?_)
        · have hra := hO.rw a c4.1 (by omega)
          have hrb := hO.rw b c11.1 (by omega)
          have hra2 := hra.2
          have hrb2 := hrb.2
          refine s_w6_aload C dX11_copy_55 ?_
          refine g_getN C fd_X11_98_3 dX11_copy_57 (hX.rw a (by omega) (by omega)).1 rfl ?_
          refine s_w7_aload C dX11_copy_60 ?_
          refine g_getN C fd_X11_98_3 dX11_copy_62 (hX.rw b (by omega) (by omega)).1 rfl ?_
          refine g_icmp_eq 74 C dX11_copy_65 (by decide) (by unfold iR; omega) (by unfold iR; omega) (fun c65 => ?_) (fun c65 => ?_)
          · refine s_w6_aload C dX11_copy_74 ?_
            refine s_n2_iload C dX11_copy_76 ?_
            refine s_w5_iload C dX11_copy_77 ?_
            refine g_invV C (k_reaches (hX.rw a (by omega) (by omega)) (hO.rw a (by omega) (by omega)) (by first | assumption | (unfold iR; omega)) (by first | assumption | (unfold iR; omega))) (hX.rw a (by omega) (by omega)).1 cv_X11_90_3 (rmk_ok (by decide) (by decide) (by decide) (by decide)) (Nat.le_of_ble_eq_true rfl) rfl dX11_copy_79 rfl (q_r0 ?_)
            refine g_bifeq 97 C dX11_copy_82 (by decide)  (fun c82 => ?_) (fun c82 => ?_)
            · refine s_n0_aload C dX11_copy_97 ?_
              refine g_iconst C dX11_copy_98 ?_
              refine g_invV C (ct_X11_found hX) hX.o cv_X11_75_11 (rmk_ok (by decide) (by decide) (by decide) (by decide)) (Nat.le_of_ble_eq_true rfl) rfl dX11_copy_99 rfl (q_r0 ?_)
              have hX := hX.uo (sc := fu X.1 4 2) ⟨rfl, rfl, rfl⟩
              refine g_iret C E dX11_copy_102 (by decide) ?_
              unfold xCopy
              rw [if_neg (not_not_intro c4), if_neg (not_not_intro c11), if_neg c38, if_neg c46, if_neg (not_not_intro c65), if_pos c82]
              exact ⟨rfl, rfl, _, hX⟩
            · refine s_w7_aload C dX11_copy_85 ?_
              refine s_w4_iload C dX11_copy_87 ?_
              refine s_w5_iload C dX11_copy_89 ?_
              refine g_invV C (k_reaches (hX.rw b (by omega) (by omega)) (hO.rw b (by omega) (by omega)) (by first | assumption | (unfold iR; omega)) (by first | assumption | (unfold iR; omega))) (hX.rw b (by omega) (by omega)).1 cv_X11_90_3 (rmk_ok (by decide) (by decide) (by decide) (by decide)) (Nat.le_of_ble_eq_true rfl) rfl dX11_copy_91 rfl (q_r0 ?_)
              refine g_bifne 103 C dX11_copy_94 (by decide)  (fun c94 => ?_) (fun c94 => ?_)
              · refine s_w6_aload C dX11_copy_103 ?_
                refine g_getN C fd_X11_102_3 dX11_copy_105 (hX.rw a (by omega) (by omega)).1 rfl ?_
                refine s_n2_iload C dX11_copy_108 ?_
                refine s_w7_aload C dX11_copy_109 ?_
                refine g_getN C fd_X11_102_3 dX11_copy_111 (hX.rw b (by omega) (by omega)).1 rfl ?_
                refine s_w4_iload C dX11_copy_114 ?_
                refine s_w5_iload C dX11_copy_116 ?_
                refine g_acopy C wd_391 wd_163 wd_164 wd_165 rfl dX11_copy_118 (hX.rw a (by omega) (by omega)).2 (hX.rw b (by omega) (by omega)).2 (by omega) (by decide) (Nat.le_of_ble_eq_true rfl) ?_
                rw [RWg_items (hX.rw b (by omega) (by omega))]
                have hX := hX.ur (k0 := b) (cpy (X.2.2.1 a).1 (X.2.2.1 b).1 i j m, (X.2.2.1 b).2) c11.1 (by omega)
                refine s_n0_aload C dX11_copy_121 ?_
                refine s_w5_iload C dX11_copy_122 ?_
                refine g_invV C (ct_X11_unfound hX) hX.o cv_X11_83_11 (rmk_ok (by decide) (by decide) (by decide) (by decide)) (Nat.le_of_ble_eq_true rfl) rfl dX11_copy_124 rfl (q_r0 ?_)
                have hX := hX.uo (sc := fu X.1 4 0) ⟨rfl, rfl, rfl⟩
                refine g_iret C E dX11_copy_127 (by decide) ?_
                unfold xCopy
                rw [if_neg (not_not_intro c4), if_neg (not_not_intro c11), if_neg c38, if_neg c46, if_neg (not_not_intro c65), if_neg (not_not_intro c82), if_neg (not_not_intro c94)]
                exact ⟨rfl, rfl, _, hX⟩
              · refine s_n0_aload C dX11_copy_97 ?_
                refine g_iconst C dX11_copy_98 ?_
                refine g_invV C (ct_X11_found hX) hX.o cv_X11_75_11 (rmk_ok (by decide) (by decide) (by decide) (by decide)) (Nat.le_of_ble_eq_true rfl) rfl dX11_copy_99 rfl (q_r0 ?_)
                have hX := hX.uo (sc := fu X.1 4 2) ⟨rfl, rfl, rfl⟩
                refine g_iret C E dX11_copy_102 (by decide) ?_
                unfold xCopy
                rw [if_neg (not_not_intro c4), if_neg (not_not_intro c11), if_neg c38, if_neg c46, if_neg (not_not_intro c65), if_neg (not_not_intro c82), if_pos c94]
                exact ⟨rfl, rfl, _, hX⟩
          · refine s_n0_aload C dX11_copy_68 ?_
            refine g_iconst C dX11_copy_69 ?_
            refine g_invV C (ct_X11_found hX) hX.o cv_X11_75_11 (rmk_ok (by decide) (by decide) (by decide) (by decide)) (Nat.le_of_ble_eq_true rfl) rfl dX11_copy_70 rfl (q_r0 ?_)
            have hX := hX.uo (sc := fu X.1 4 5) ⟨rfl, rfl, rfl⟩
            refine g_iret C E dX11_copy_73 (by decide) ?_
            unfold xCopy
            rw [if_neg (not_not_intro c4), if_neg (not_not_intro c11), if_neg c38, if_neg c46, if_pos c65]
            exact ⟨rfl, rfl, _, hX⟩
        · refine s_n0_aload C dX11_copy_49 ?_
          refine g_iconst C dX11_copy_50 ?_
          refine g_invV C (ct_X11_found hX) hX.o cv_X11_75_11 (rmk_ok (by decide) (by decide) (by decide) (by decide)) (Nat.le_of_ble_eq_true rfl) rfl dX11_copy_51 rfl (q_r0 ?_)
          have hX := hX.uo (sc := fu X.1 4 1) ⟨rfl, rfl, rfl⟩
          refine g_iret C E dX11_copy_54 (by decide) ?_
          unfold xCopy
          rw [if_neg (not_not_intro c4), if_neg (not_not_intro c11), if_neg c38, if_pos c46]
          exact ⟨rfl, rfl, _, hX⟩
    · refine g_ldc (-1000001) C wd_364 dX11_copy_14 ?_
      refine g_iret C E dX11_copy_16 (by decide) ?_
      unfold xCopy
      rw [if_neg (not_not_intro c4), if_pos c11]
      exact ⟨rfl, rfl, _, hX⟩
