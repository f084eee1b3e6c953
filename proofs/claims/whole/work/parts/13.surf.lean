/-! PadPolish$Surface -/
/-- a for loop from 0 on -/
def itr {α : Type} (g : Int → α → α) (a : α) : Nat → α
  | 0 => a
  | k + 1 => g k (itr g a k)
def itI {α : Type} (g : Int → α → α) (a : α) (i : Int) : α := itr g a i.toNat
theorem itI_0 {α : Type} (g : Int → α → α) (a : α) : itI g a 0 = a := rfl
theorem itI_s {α : Type} (g : Int → α → α) (a : α) {i : Int} (h : 0 ≤ i) : itI g a (i + 1) = g i (itI g a i) := by
  unfold itI
  rw [show (i + 1).toNat = i.toNat + 1 by omega]
  show g (i.toNat : Int) _ = _
  rw [show ((i.toNat : Nat) : Int) = i by omega]
theorem itI_inv {α : Type} {g : Int → α → α} {a : α} (P : Int → α → Prop) (h0 : P 0 a) (hs : ∀ i x, 0 ≤ i → P i x → P (i + 1) (g i x)) {i : Int} (hi : 0 ≤ i) : P i (itI g a i) := by
  have key : ∀ k : Nat, P k (itr g a k) := by
    intro k
    induction k with
    | zero => exact h0
    | succ k ih => exact hs k _ (by omega) ih
  have := key i.toNat
  rwa [show ((i.toNat : Nat) : Int) = i by omega] at this
def sfOK (S : SLT) : Prop := (∀ c, 0 ≤ c → c < 15 → 0 ≤ S.1 c ∧ S.1 c ≤ 999 ∧ 0 ≤ S.2.1 c ∧ S.2.1 c ≤ S.1 c ∧ 0 ≤ S.2.2.1 c ∧ S.2.2.1 c ≤ 99) ∧ 0 ≤ S.2.2.2.1 ∧ S.2.2.2.1 ≤ 99 ∧ 0 ≤ S.2.2.2.2.1 ∧ S.2.2.2.2.1 ≤ 99
def sfDry (S : SLT) : SLT := (S.1, S.2.1, S.2.2.1, max (S.2.2.2.1 - 1) 0, S.2.2.2.2)
def sfLay (S : SLT) (c a : Int) : SLT := (up S.1 c (S.1 c + min a (999 - S.1 c)), up S.2.1 c (S.2.1 c + min a (999 - S.1 c)), S.2.2)
def sfHaze (S : SLT) (c : Int) : SLT := (S.1, S.2.1, up S.2.2.1 c (min (S.2.2.1 c + S.2.2.2.2.1 / 4) 99), S.2.2.2)
def sfTakeHaze (S : SLT) (c k : Int) : SLT := (S.1, S.2.1, up S.2.2.1 c (max (S.2.2.1 c - k) 0), S.2.2.2)
def sfTakeSoft (S : SLT) (c k : Int) : SLT := (up S.1 c (S.1 c - k), up S.2.1 c (S.2.1 c - k), S.2.2)
def sfScratch (S : SLT) (c : Int) : SLT := (up S.1 c (max (S.1 c - 2) 0), up S.2.1 c (min (S.2.1 c) (max (S.1 c - 2) 0)), S.2.2)
def sfTear (S : SLT) (c : Int) : SLT := (up S.1 c (max (S.1 c - 10) 0), up S.2.1 c 0, S.2.2)
def sfSoak (S : SLT) (mw mo : Int) : SLT := (S.1, S.2.1, S.2.2.1, S.2.2.2.1 + min mw (99 - S.2.2.2.1), min (S.2.2.2.2.1 + mo) 99, S.2.2.2.2.2 + min mw (99 - S.2.2.2.1))
def sfSinkAt (k : Int) (c : Int) (S : SLT) : SLT := sfTakeHaze (up S.1 c (max (S.1 c - k) 0), up S.2.1 c 0, S.2.2) c 1
def sfSink (S : SLT) (k : Int) : SLT := itI (sfSinkAt k) S 15
def sfAll (S : SLT) : Int := itI (fun i a => a + S.1 i) 0 15
def sfThin (S : SLT) : Int := itI (fun i m => min m (S.1 i)) 999 15
def sfThick (S : SLT) : Int := itI (fun i m => max m (S.1 i)) 0 15
def sfUneven (S : SLT) : Int := sfThick S - sfThin S
def sfThinCells (S : SLT) : Int := itI (fun i c => if S.1 i = sfThin S then bOr c (bShl 1 i) else c) 0 15
def sfLack (S : SLT) (t cells : Int) : Int := itI (fun i a => if bAnd (bShr cells i) 1 = 1 then a + max (t - S.1 i) 0 else a) 0 15
theorem sfThin_b {S : SLT} (h : sfOK S) : 0 ≤ sfThin S ∧ sfThin S ≤ 999 := by
  have := itI_inv (g := fun i m => min m (S.1 i)) (a := 999) (fun i m => i ≤ 15 → 0 ≤ m ∧ m ≤ 999) (by omega) (fun i x hi hx h15 => by have := h.1 i hi (by omega); have := hx (by omega); omega) (i := 15) (by decide)
  exact this (by decide)
theorem sfThick_b {S : SLT} (h : sfOK S) : 0 ≤ sfThick S ∧ sfThick S ≤ 999 := by
  have := itI_inv (g := fun i m => max m (S.1 i)) (a := 0) (fun i m => i ≤ 15 → 0 ≤ m ∧ m ≤ 999) (by omega) (fun i x hi hx h15 => by have := h.1 i hi (by omega); have := hx (by omega); omega) (i := 15) (by decide)
  exact this (by decide)
theorem up_lt {f : Int → Int} {k x j : Int} {P : Int → Prop} (h1 : j = k → P x) (h2 : ¬ j = k → P (f j)) : P (up f k x j) := by
  unfold up
  by_cases h : j = k
  · rw [if_pos h]; exact h1 h
  · rw [if_neg h]; exact h2 h
theorem up3 (f s h : Int → Int) (c x1 x2 x3 j : Int) : (j = c ∧ up f c x1 j = x1 ∧ up s c x2 j = x2 ∧ up h c x3 j = x3) ∨ (¬ j = c ∧ up f c x1 j = f j ∧ up s c x2 j = s j ∧ up h c x3 j = h j) := by
  unfold up
  by_cases e : j = c
  · left; simp [e]
  · right; simp [e]
theorem sfSinkAt_ok1 {f s h : Int → Int} {w l p c k : Int} (h0 : sfOK (f, s, h, w, l, p)) (hc : 0 ≤ c ∧ c < 15) (hk : 0 ≤ k ∧ k ≤ 99) : sfOK (up f c (max (f c - k) 0), up s c 0, h, w, l, p) := by
  refine ⟨fun j h1 h2 => ?_, h0.2⟩
  have b : 0 ≤ f j ∧ f j ≤ 999 ∧ 0 ≤ s j ∧ s j ≤ f j ∧ 0 ≤ h j ∧ h j ≤ 99 := h0.1 j h1 h2
  show 0 ≤ up f c (max (f c - k) 0) j ∧ up f c (max (f c - k) 0) j ≤ 999 ∧ 0 ≤ up s c 0 j ∧ up s c 0 j ≤ up f c (max (f c - k) 0) j ∧ 0 ≤ h j ∧ h j ≤ 99
  rcases up3 f s h c (max (f c - k) 0) 0 0 j with ⟨e, e1, e2, -⟩ | ⟨e, e1, e2, -⟩
  · rw [e1, e2]; subst e; omega
  · rw [e1, e2]; omega
theorem sfSinkAt_ok {f s h : Int → Int} {w l p c k : Int} (h0 : sfOK (f, s, h, w, l, p)) (hc : 0 ≤ c ∧ c < 15) (hk : 0 ≤ k ∧ k ≤ 99) : sfOK (up f c (max (f c - k) 0), up s c 0, up h c (max (h c - 1) 0), w, l, p) := by
  refine ⟨fun j h1 h2 => ?_, h0.2⟩
  have b : 0 ≤ f j ∧ f j ≤ 999 ∧ 0 ≤ s j ∧ s j ≤ f j ∧ 0 ≤ h j ∧ h j ≤ 99 := h0.1 j h1 h2
  show 0 ≤ up f c (max (f c - k) 0) j ∧ up f c (max (f c - k) 0) j ≤ 999 ∧ 0 ≤ up s c 0 j ∧ up s c 0 j ≤ up f c (max (f c - k) 0) j ∧ 0 ≤ up h c (max (h c - 1) 0) j ∧ up h c (max (h c - 1) 0) j ≤ 99
  rcases up3 f s h c (max (f c - k) 0) 0 (max (h c - 1) 0) j with ⟨e, e1, e2, e3⟩ | ⟨e, e1, e2, e3⟩
  · rw [e1, e2, e3]; subst e; omega
  · rw [e1, e2, e3]; omega
theorem bAnd_R (x z : Int) : iR (bAnd x z) := iR_of _
theorem bOr_R (x z : Int) : iR (bOr x z) := iR_of _
theorem bXor_R (x z : Int) : iR (bXor x z) := iR_of _
theorem bShl_R (x z : Int) : iR (bShl x z) := iR_of _
theorem bShr_R (x z : Int) : iR (bShr x z) := iR_of _
theorem cpy_all {f g : Int → Int} {len k : Int} (h1 : 0 ≤ k) (h2 : k < len) : cpy f g 0 0 len k = f k := by
  unfold cpy
  rw [if_pos (by omega)]
  exact congrArg f (by omega)
def flt (f : Int → Int) (v i : Int) : Int → Int := fun j => if 0 ≤ j ∧ j < i then v else f j
theorem flt_0 (f : Int → Int) (v : Int) : flt f v 0 = f := by
  funext j
  unfold flt
  rw [if_neg (by omega)]
theorem flt_s (f : Int → Int) (v : Int) {i : Int} (h : 0 ≤ i) : up (flt f v i) i v = flt f v (i + 1) := by
  funext j
  unfold flt up
  by_cases e : j = i
  · rw [if_pos e, if_pos (by omega)]
  · rw [if_neg e]
    dsimp only
    by_cases e2 : 0 ≤ j ∧ j < i
    · rw [if_pos e2, if_pos (by omega)]
    · rw [if_neg e2, if_neg (by omega)]
theorem gu_gu (M : gM) (a : Int) (e e' : gE) : gu (gu M a e) a e' = gu M a e' := by
  funext b
  by_cases h : b = a
  · rw [h, gu_same, gu_same]
  · rw [gu_ne _ _ h, gu_ne _ _ h, gu_ne _ _ h]
theorem gu_self {M : gM} {a : Int} {e : gE} (h : M a = some e) : gu M a e = M := by
  funext b
  by_cases hb : b = a
  · rw [hb, gu_same, h]
  · rw [gu_ne _ _ hb]
theorem gu_comm (M : gM) {a b : Int} (e e' : gE) (h : ¬ a = b) : gu (gu M a e) b e' = gu (gu M b e') a e := by
  funext c
  unfold gu
  by_cases h1 : c = b
  · rw [if_pos h1, if_neg (by omega), if_pos h1]
  · rw [if_neg h1, if_neg h1]
set_option maxRecDepth 20000 in
theorem ct_X7_dryPad {o : Int} {f s h : Int → Int} {w l p : Int} {M : gM} {n : Int} (hS : sfOK (f, s, h, w, l, p)) : CT yX7_dryPad cX7_dryPad 1 none (rmk 1 0 0) [vr o] (SL o (f, s, h, w, l, p) M) n (qr none (SL o (sfDry (f, s, h, w, l, p)) M) n) := by
  refine CT.of (by decide) (fun _ => Nat.le_of_ble_eq_true rfl) (fun κ C E => ?_)
  show G κ (SL o (f, s, h, w, l, p) M) n [some (vr o)] 0 [] 0 0
  have bw : 0 ≤ w ∧ w ≤ 99 ∧ 0 ≤ l ∧ l ≤ 99 := hS.2
  refine s_n0_aload C dX7_dryPad_0 ?_
  refine s_n0_aload C dX7_dryPad_1 ?_
  refine g_get C fd_X7_27_7 dX7_dryPad_2 (SL_0 ..) rfl ?_
  refine g_iconst C dX7_dryPad_5 ?_
  refine g_isub C dX7_dryPad_6 ?_
  refine g_iconst C dX7_dryPad_7 ?_
  refine g_mx C wd_171 wd_172 wd_22 wd_173 (by decide) (Nat.le_of_ble_eq_true rfl) rfl dX7_dryPad_8 (by unfold iR; omega) (by unfold iR; omega) ?_
  refine g_put C fp_X7_27_7 dX7_dryPad_11 (SL_0 ..) (Nat.le_of_ble_eq_true rfl) (gfit_i _) ?_
  rw [SL_p3]
  refine g_vret C E dX7_dryPad_14 (by decide) ?_
  exact ⟨rfl, rfl, rfl⟩
set_option maxRecDepth 20000 in
theorem ct_X7_layFilm {o : Int} {f s h : Int → Int} {w l p : Int} {M : gM} {n : Int} {c a : Int} (hS : sfOK (f, s, h, w, l, p)) (hc : 0 ≤ c ∧ c < 15) (ha : 0 ≤ a ∧ a ≤ 1000) : CT yX7_layFilm cX7_layFilm 4 none (rmk 1 0 0) [vr o, vi c, vi a] (SL o (f, s, h, w, l, p) M) n (qr none (SL o (sfLay (f, s, h, w, l, p) c a) M) n) := by
  refine CT.of (by decide) (fun _ => Nat.le_of_ble_eq_true rfl) (fun κ C E => ?_)
  show G κ (SL o (f, s, h, w, l, p) M) n [some (vr o), some (vi c), some (vi a), none] 0 [] 0 0
  have b : 0 ≤ f c ∧ f c ≤ 999 ∧ 0 ≤ s c ∧ s c ≤ f c ∧ 0 ≤ h c ∧ h c ≤ 99 := hS.1 c hc.1 hc.2
  refine s_n2_iload C dX7_layFilm_0 ?_
  refine g_sipush C dX7_layFilm_1 (by decide) ?_
  refine s_n0_aload C dX7_layFilm_4 ?_
  refine g_get C fd_X7_9_7 dX7_layFilm_5 (SL_0 ..) rfl ?_
  refine s_n1_iload C dX7_layFilm_8 ?_
  refine g_iald C dX7_layFilm_9 (SL_1 ..) (by omega) ?_
  refine g_isub C dX7_layFilm_10 ?_
  refine g_mn C wd_170 wd_21 wd_22 wd_23 (by decide) (Nat.le_of_ble_eq_true rfl) rfl dX7_layFilm_11 (by unfold iR; omega) (by unfold iR; omega) ?_
  refine s_n3_istore C dX7_layFilm_14 rfl ?_
  refine s_n0_aload C dX7_layFilm_15 ?_
  refine g_get C fd_X7_9_7 dX7_layFilm_16 (SL_0 ..) rfl ?_
  refine s_n1_iload C dX7_layFilm_19 ?_
  refine g_dup2 C dX7_layFilm_20 ?_
  refine g_iald C dX7_layFilm_21 (SL_1 ..) (by omega) ?_
  refine s_n3_iload C dX7_layFilm_22 ?_
  refine g_iadd C dX7_layFilm_23 ?_
  refine g_iast C dX7_layFilm_24 (SL_1 ..) (by omega) ?_
  rw [SL_s1]
  refine s_n0_aload C dX7_layFilm_25 ?_
  refine g_get C fd_X7_15_7 dX7_layFilm_26 (SL_0 ..) rfl ?_
  refine s_n1_iload C dX7_layFilm_29 ?_
  refine g_dup2 C dX7_layFilm_30 ?_
  refine g_iald C dX7_layFilm_31 (SL_2 ..) (by omega) ?_
  refine s_n3_iload C dX7_layFilm_32 ?_
  refine g_iadd C dX7_layFilm_33 ?_
  refine g_iast C dX7_layFilm_34 (SL_2 ..) (by omega) ?_
  rw [SL_s2]
  refine g_vret C E dX7_layFilm_35 (by decide) ?_
  exact ⟨rfl, rfl, rfl⟩
set_option maxRecDepth 20000 in
theorem ct_X7_layHaze {o : Int} {f s h : Int → Int} {w l p : Int} {M : gM} {n : Int} {c : Int} (hS : sfOK (f, s, h, w, l, p)) (hc : 0 ≤ c ∧ c < 15) : CT yX7_layHaze cX7_layHaze 2 none (rmk 1 0 0) [vr o, vi c] (SL o (f, s, h, w, l, p) M) n (qr none (SL o (sfHaze (f, s, h, w, l, p) c) M) n) := by
  refine CT.of (by decide) (fun _ => Nat.le_of_ble_eq_true rfl) (fun κ C E => ?_)
  show G κ (SL o (f, s, h, w, l, p) M) n [some (vr o), some (vi c)] 0 [] 0 0
  have b : 0 ≤ f c ∧ f c ≤ 999 ∧ 0 ≤ s c ∧ s c ≤ f c ∧ 0 ≤ h c ∧ h c ≤ 99 := hS.1 c hc.1 hc.2
  have bw : 0 ≤ w ∧ w ≤ 99 ∧ 0 ≤ l ∧ l ≤ 99 := hS.2
  refine s_n0_aload C dX7_layHaze_0 ?_
  refine g_get C fd_X7_18_7 dX7_layHaze_1 (SL_0 ..) rfl ?_
  refine s_n1_iload C dX7_layHaze_4 ?_
  refine s_n0_aload C dX7_layHaze_5 ?_
  refine g_get C fd_X7_18_7 dX7_layHaze_6 (SL_0 ..) rfl ?_
  refine s_n1_iload C dX7_layHaze_9 ?_
  refine g_iald C dX7_layHaze_10 (SL_3 ..) (by omega) ?_
  refine s_n0_aload C dX7_layHaze_11 ?_
  refine g_get C fd_X7_31_7 dX7_layHaze_12 (SL_0 ..) rfl ?_
  refine g_iconst C dX7_layHaze_15 ?_
  refine g_idiv C dX7_layHaze_16 (by omega) ?_
  refine g_iadd C dX7_layHaze_17 ?_
  refine g_bipush C dX7_layHaze_18 (by decide) ?_
  refine g_mn C wd_170 wd_21 wd_22 wd_23 (by decide) (Nat.le_of_ble_eq_true rfl) rfl dX7_layHaze_20 (by unfold iR; omega) (by unfold iR; omega) ?_
  refine g_iast C dX7_layHaze_23 (SL_3 ..) (by omega) ?_
  rw [SL_s3]
  refine g_vret C E dX7_layHaze_24 (by decide) ?_
  exact ⟨rfl, rfl, rfl⟩
set_option maxRecDepth 20000 in
theorem ct_X7_takeHaze {o : Int} {f s h : Int → Int} {w l p : Int} {M : gM} {n : Int} {c k : Int} (hS : sfOK (f, s, h, w, l, p)) (hc : 0 ≤ c ∧ c < 15) (hk : 0 ≤ k ∧ k ≤ 1000) : CT yX7_takeHaze cX7_takeHaze 3 none (rmk 1 0 0) [vr o, vi c, vi k] (SL o (f, s, h, w, l, p) M) n (qr none (SL o (sfTakeHaze (f, s, h, w, l, p) c k) M) n) := by
  refine CT.of (by decide) (fun _ => Nat.le_of_ble_eq_true rfl) (fun κ C E => ?_)
  show G κ (SL o (f, s, h, w, l, p) M) n [some (vr o), some (vi c), some (vi k)] 0 [] 0 0
  have b : 0 ≤ f c ∧ f c ≤ 999 ∧ 0 ≤ s c ∧ s c ≤ f c ∧ 0 ≤ h c ∧ h c ≤ 99 := hS.1 c hc.1 hc.2
  refine s_n0_aload C dX7_takeHaze_0 ?_
  refine g_get C fd_X7_18_7 dX7_takeHaze_1 (SL_0 ..) rfl ?_
  refine s_n1_iload C dX7_takeHaze_4 ?_
  refine s_n0_aload C dX7_takeHaze_5 ?_
  refine g_get C fd_X7_18_7 dX7_takeHaze_6 (SL_0 ..) rfl ?_
  refine s_n1_iload C dX7_takeHaze_9 ?_
  refine g_iald C dX7_takeHaze_10 (SL_3 ..) (by omega) ?_
  refine s_n2_iload C dX7_takeHaze_11 ?_
  refine g_isub C dX7_takeHaze_12 ?_
  refine g_iconst C dX7_takeHaze_13 ?_
  refine g_mx C wd_171 wd_172 wd_22 wd_173 (by decide) (Nat.le_of_ble_eq_true rfl) rfl dX7_takeHaze_14 (by unfold iR; omega) (by unfold iR; omega) ?_
  refine g_iast C dX7_takeHaze_17 (SL_3 ..) (by omega) ?_
  rw [SL_s3]
  refine g_vret C E dX7_takeHaze_18 (by decide) ?_
  exact ⟨rfl, rfl, rfl⟩
set_option maxRecDepth 20000 in
theorem ct_X7_takeSoft {o : Int} {f s h : Int → Int} {w l p : Int} {M : gM} {n : Int} {c k : Int} (hc : 0 ≤ c ∧ c < 15) : CT yX7_takeSoft cX7_takeSoft 3 none (rmk 0 0 0) [vr o, vi c, vi k] (SL o (f, s, h, w, l, p) M) n (qr none (SL o (sfTakeSoft (f, s, h, w, l, p) c k) M) n) := by
  refine CT.of (by decide) (fun _ => Nat.le_of_ble_eq_true rfl) (fun κ C E => ?_)
  show G κ (SL o (f, s, h, w, l, p) M) n [some (vr o), some (vi c), some (vi k)] 0 [] 0 0
  refine s_n0_aload C dX7_takeSoft_0 ?_
  refine g_get C fd_X7_9_7 dX7_takeSoft_1 (SL_0 ..) rfl ?_
  refine s_n1_iload C dX7_takeSoft_4 ?_
  refine g_dup2 C dX7_takeSoft_5 ?_
  refine g_iald C dX7_takeSoft_6 (SL_1 ..) (by omega) ?_
  refine s_n2_iload C dX7_takeSoft_7 ?_
  refine g_isub C dX7_takeSoft_8 ?_
  refine g_iast C dX7_takeSoft_9 (SL_1 ..) (by omega) ?_
  rw [SL_s1]
  refine s_n0_aload C dX7_takeSoft_10 ?_
  refine g_get C fd_X7_15_7 dX7_takeSoft_11 (SL_0 ..) rfl ?_
  refine s_n1_iload C dX7_takeSoft_14 ?_
  refine g_dup2 C dX7_takeSoft_15 ?_
  refine g_iald C dX7_takeSoft_16 (SL_2 ..) (by omega) ?_
  refine s_n2_iload C dX7_takeSoft_17 ?_
  refine g_isub C dX7_takeSoft_18 ?_
  refine g_iast C dX7_takeSoft_19 (SL_2 ..) (by omega) ?_
  rw [SL_s2]
  refine g_vret C E dX7_takeSoft_20 (by decide) ?_
  exact ⟨rfl, rfl, rfl⟩
set_option maxRecDepth 20000 in
theorem ct_X7_scratch {o : Int} {f s h : Int → Int} {w l p : Int} {M : gM} {n : Int} {c : Int} (hS : sfOK (f, s, h, w, l, p)) (hc : 0 ≤ c ∧ c < 15) : CT yX7_scratch cX7_scratch 2 none (rmk 1 0 0) [vr o, vi c] (SL o (f, s, h, w, l, p) M) n (qr none (SL o (sfScratch (f, s, h, w, l, p) c) M) n) := by
  refine CT.of (by decide) (fun _ => Nat.le_of_ble_eq_true rfl) (fun κ C E => ?_)
  show G κ (SL o (f, s, h, w, l, p) M) n [some (vr o), some (vi c)] 0 [] 0 0
  have b : 0 ≤ f c ∧ f c ≤ 999 ∧ 0 ≤ s c ∧ s c ≤ f c ∧ 0 ≤ h c ∧ h c ≤ 99 := hS.1 c hc.1 hc.2
  refine s_n0_aload C dX7_scratch_0 ?_
  refine g_get C fd_X7_9_7 dX7_scratch_1 (SL_0 ..) rfl ?_
  refine s_n1_iload C dX7_scratch_4 ?_
  refine s_n0_aload C dX7_scratch_5 ?_
  refine g_get C fd_X7_9_7 dX7_scratch_6 (SL_0 ..) rfl ?_
  refine s_n1_iload C dX7_scratch_9 ?_
  refine g_iald C dX7_scratch_10 (SL_1 ..) (by omega) ?_
  refine g_iconst C dX7_scratch_11 ?_
  refine g_isub C dX7_scratch_12 ?_
  refine g_iconst C dX7_scratch_13 ?_
  refine g_mx C wd_171 wd_172 wd_22 wd_173 (by decide) (Nat.le_of_ble_eq_true rfl) rfl dX7_scratch_14 (by unfold iR; omega) (by unfold iR; omega) ?_
  refine g_iast C dX7_scratch_17 (SL_1 ..) (by omega) ?_
  rw [SL_s1]
  refine s_n0_aload C dX7_scratch_18 ?_
  refine g_get C fd_X7_15_7 dX7_scratch_19 (SL_0 ..) rfl ?_
  refine s_n1_iload C dX7_scratch_22 ?_
  refine s_n0_aload C dX7_scratch_23 ?_
  refine g_get C fd_X7_15_7 dX7_scratch_24 (SL_0 ..) rfl ?_
  refine s_n1_iload C dX7_scratch_27 ?_
  refine g_iald C dX7_scratch_28 (SL_2 ..) (by omega) ?_
  refine s_n0_aload C dX7_scratch_29 ?_
  refine g_get C fd_X7_9_7 dX7_scratch_30 (SL_0 ..) rfl ?_
  refine s_n1_iload C dX7_scratch_33 ?_
  refine g_iald C dX7_scratch_34 (SL_1 ..) (by omega) ?_
  rw [up_same]
  refine g_mn C wd_170 wd_21 wd_22 wd_23 (by decide) (Nat.le_of_ble_eq_true rfl) rfl dX7_scratch_35 (by unfold iR; omega) (by unfold iR; omega) ?_
  refine g_iast C dX7_scratch_38 (SL_2 ..) (by omega) ?_
  rw [SL_s2]
  refine g_vret C E dX7_scratch_39 (by decide) ?_
  exact ⟨rfl, rfl, rfl⟩
set_option maxRecDepth 20000 in
theorem ct_X7_tearAt {o : Int} {f s h : Int → Int} {w l p : Int} {M : gM} {n : Int} {c : Int} (hS : sfOK (f, s, h, w, l, p)) (hc : 0 ≤ c ∧ c < 15) : CT yX7_tearAt cX7_tearAt 2 none (rmk 1 0 0) [vr o, vi c] (SL o (f, s, h, w, l, p) M) n (qr none (SL o (sfTear (f, s, h, w, l, p) c) M) n) := by
  refine CT.of (by decide) (fun _ => Nat.le_of_ble_eq_true rfl) (fun κ C E => ?_)
  show G κ (SL o (f, s, h, w, l, p) M) n [some (vr o), some (vi c)] 0 [] 0 0
  have b : 0 ≤ f c ∧ f c ≤ 999 ∧ 0 ≤ s c ∧ s c ≤ f c ∧ 0 ≤ h c ∧ h c ≤ 99 := hS.1 c hc.1 hc.2
  refine s_n0_aload C dX7_tearAt_0 ?_
  refine g_get C fd_X7_9_7 dX7_tearAt_1 (SL_0 ..) rfl ?_
  refine s_n1_iload C dX7_tearAt_4 ?_
  refine s_n0_aload C dX7_tearAt_5 ?_
  refine g_get C fd_X7_9_7 dX7_tearAt_6 (SL_0 ..) rfl ?_
  refine s_n1_iload C dX7_tearAt_9 ?_
  refine g_iald C dX7_tearAt_10 (SL_1 ..) (by omega) ?_
  refine g_bipush C dX7_tearAt_11 (by decide) ?_
  refine g_isub C dX7_tearAt_13 ?_
  refine g_iconst C dX7_tearAt_14 ?_
  refine g_mx C wd_171 wd_172 wd_22 wd_173 (by decide) (Nat.le_of_ble_eq_true rfl) rfl dX7_tearAt_15 (by unfold iR; omega) (by unfold iR; omega) ?_
  refine g_iast C dX7_tearAt_18 (SL_1 ..) (by omega) ?_
  rw [SL_s1]
  refine s_n0_aload C dX7_tearAt_19 ?_
  refine g_get C fd_X7_15_7 dX7_tearAt_20 (SL_0 ..) rfl ?_
  refine s_n1_iload C dX7_tearAt_23 ?_
  refine g_iconst C dX7_tearAt_24 ?_
  refine g_iast C dX7_tearAt_25 (SL_2 ..) (by omega) ?_
  rw [SL_s2]
  refine g_vret C E dX7_tearAt_26 (by decide) ?_
  exact ⟨rfl, rfl, rfl⟩
set_option maxRecDepth 20000 in
theorem ct_X7_soakPad {o : Int} {f s h : Int → Int} {w l p : Int} {M : gM} {n : Int} {mw mo : Int} (hS : sfOK (f, s, h, w, l, p)) (hm : 0 ≤ mw ∧ mw ≤ 99 ∧ 0 ≤ mo ∧ mo ≤ 99) : CT yX7_soakPad cX7_soakPad 4 none (rmk 1 0 0) [vr o, vi mw, vi mo] (SL o (f, s, h, w, l, p) M) n (qr none (SL o (sfSoak (f, s, h, w, l, p) mw mo) M) n) := by
  refine CT.of (by decide) (fun _ => Nat.le_of_ble_eq_true rfl) (fun κ C E => ?_)
  show G κ (SL o (f, s, h, w, l, p) M) n [some (vr o), some (vi mw), some (vi mo), none] 0 [] 0 0
  have bw : 0 ≤ w ∧ w ≤ 99 ∧ 0 ≤ l ∧ l ≤ 99 := hS.2
  refine s_n1_iload C dX7_soakPad_0 ?_
  refine g_bipush C dX7_soakPad_1 (by decide) ?_
  refine s_n0_aload C dX7_soakPad_3 ?_
  refine g_get C fd_X7_27_7 dX7_soakPad_4 (SL_0 ..) rfl ?_
  refine g_isub C dX7_soakPad_7 ?_
  refine g_mn C wd_170 wd_21 wd_22 wd_23 (by decide) (Nat.le_of_ble_eq_true rfl) rfl dX7_soakPad_8 (by unfold iR; omega) (by unfold iR; omega) ?_
  refine s_n3_istore C dX7_soakPad_11 rfl ?_
  refine s_n0_aload C dX7_soakPad_12 ?_
  refine g_dup C dX7_soakPad_13 rfl ?_
  refine g_get C fd_X7_27_7 dX7_soakPad_14 (SL_0 ..) rfl ?_
  refine s_n3_iload C dX7_soakPad_17 ?_
  refine g_iadd C dX7_soakPad_18 ?_
  refine g_put C fp_X7_27_7 dX7_soakPad_19 (SL_0 ..) (Nat.le_of_ble_eq_true rfl) (gfit_i _) ?_
  rw [SL_p3]
  refine s_n0_aload C dX7_soakPad_22 ?_
  refine g_dup C dX7_soakPad_23 rfl ?_
  refine g_get C fd_X7_34_7 dX7_soakPad_24 (SL_0 ..) rfl ?_
  refine s_n3_iload C dX7_soakPad_27 ?_
  refine g_iadd C dX7_soakPad_28 ?_
  refine g_put C fp_X7_34_7 dX7_soakPad_29 (SL_0 ..) (Nat.le_of_ble_eq_true rfl) (gfit_i _) ?_
  rw [SL_p5]
  refine s_n0_aload C dX7_soakPad_32 ?_
  refine s_n0_aload C dX7_soakPad_33 ?_
  refine g_get C fd_X7_31_7 dX7_soakPad_34 (SL_0 ..) rfl ?_
  refine s_n2_iload C dX7_soakPad_37 ?_
  refine g_iadd C dX7_soakPad_38 ?_
  refine g_bipush C dX7_soakPad_39 (by decide) ?_
  refine g_mn C wd_170 wd_21 wd_22 wd_23 (by decide) (Nat.le_of_ble_eq_true rfl) rfl dX7_soakPad_41 (by unfold iR; omega) (by unfold iR; omega) ?_
  refine g_put C fp_X7_31_7 dX7_soakPad_44 (SL_0 ..) (Nat.le_of_ble_eq_true rfl) (gfit_i _) ?_
  rw [SL_p4]
  refine g_vret C E dX7_soakPad_47 (by decide) ?_
  exact ⟨rfl, rfl, rfl⟩
set_option maxRecDepth 20000 in
theorem ct_X7_sinkBy {o : Int} {f s h : Int → Int} {w l p : Int} {M : gM} {n : Int} {k0 : Int} (hS : sfOK (f, s, h, w, l, p)) (hk0 : 0 ≤ k0 ∧ k0 ≤ 99) : CT yX7_sinkBy cX7_sinkBy 3 none (rmk 2 0 0) [vr o, vi k0] (SL o (f, s, h, w, l, p) M) n (qr none (SL o (sfSink (f, s, h, w, l, p) k0) M) n) := by
  refine CT.of (by decide) (fun _ => Nat.le_of_ble_eq_true rfl) (fun κ C E => ?_)
  show G κ (SL o (f, s, h, w, l, p) M) n [some (vr o), some (vi k0), none] 0 [] 0 0
  have lp : ∀ (k : Nat) (i : Int) (ff ss hh : Int → Int), 0 ≤ i ∧ i ≤ 15 → (ff, ss, hh, w, l, p) = itI (sfSinkAt k0) (f, s, h, w, l, p) i → sfOK (ff, ss, hh, w, l, p) → (15 - i).toNat = k → G κ (SL o (ff, ss, hh, w, l, p) M) n [some (vr o), some (vi k0), some (vi i)] 2 [] 0 0 := by
    intro k
    induction k using Nat.strongRecOn with
    | ind k ih =>
      intro i ff ss hh h1 h2 h3 hk
      refine s_n2_iload C dX7_sinkBy_2 ?_
      refine g_bipush C dX7_sinkBy_3 (by decide) ?_
      refine g_icmp_ge 45 C dX7_sinkBy_5 (by decide) (by unfold iR; omega) (by unfold iR; omega) (fun c5 => ?_) (fun c5 => ?_)
      · refine g_vret C E dX7_sinkBy_45 (by decide) ?_
        have e : i = 15 := by omega
        subst e
        refine ⟨rfl, ?_, rfl⟩
        rw [h2]
        rfl
      · have b : 0 ≤ ff i ∧ ff i ≤ 999 ∧ 0 ≤ ss i ∧ ss i ≤ ff i ∧ 0 ≤ hh i ∧ hh i ≤ 99 := h3.1 i h1.1 (by omega)
        refine s_n0_aload C dX7_sinkBy_8 ?_
        refine g_get C fd_X7_9_7 dX7_sinkBy_9 (SL_0 ..) rfl ?_
        refine s_n2_iload C dX7_sinkBy_12 ?_
        refine s_n0_aload C dX7_sinkBy_13 ?_
        refine g_get C fd_X7_9_7 dX7_sinkBy_14 (SL_0 ..) rfl ?_
        refine s_n2_iload C dX7_sinkBy_17 ?_
        refine g_iald C dX7_sinkBy_18 (SL_1 ..) (by omega) ?_
        refine s_n1_iload C dX7_sinkBy_19 ?_
        refine g_isub C dX7_sinkBy_20 ?_
        refine g_iconst C dX7_sinkBy_21 ?_
        refine g_mx C wd_171 wd_172 wd_22 wd_173 (by decide) (Nat.le_of_ble_eq_true rfl) rfl dX7_sinkBy_22 (by unfold iR; omega) (by unfold iR; omega) ?_
        refine g_iast C dX7_sinkBy_25 (SL_1 ..) (by omega) ?_
        rw [SL_s1]
        refine s_n0_aload C dX7_sinkBy_26 ?_
        refine g_get C fd_X7_15_7 dX7_sinkBy_27 (SL_0 ..) rfl ?_
        refine s_n2_iload C dX7_sinkBy_30 ?_
        refine g_iconst C dX7_sinkBy_31 ?_
        refine g_iast C dX7_sinkBy_32 (SL_2 ..) (by omega) ?_
        rw [SL_s2]
        refine s_n0_aload C dX7_sinkBy_33 ?_
        refine s_n2_iload C dX7_sinkBy_34 ?_
        refine g_iconst C dX7_sinkBy_35 ?_
        refine g_invV C (ct_X7_takeHaze (sfSinkAt_ok1 h3 ⟨h1.1, by omega⟩ hk0) (by omega) (by omega)) (SL_0 ..) cv_X7_52_7 (rmk_ok (by decide) (by decide) (by decide) (by decide)) (Nat.le_of_ble_eq_true rfl) rfl dX7_sinkBy_36 rfl (q_v ?_)
        refine s_w2_iinc C dX7_sinkBy_39 rfl ?_
        refine g_goto 2 C dX7_sinkBy_42 (by decide) ?_
        exact ih _ (by omega) (i + 1) _ _ _ (by omega) (by rw [itI_s _ _ h1.1, ← h2]; rfl) (sfSinkAt_ok h3 ⟨h1.1, by omega⟩ hk0) rfl
  refine g_iconst C dX7_sinkBy_0 ?_
  refine s_n2_istore C dX7_sinkBy_1 rfl ?_
  exact lp _ 0 f s h (by omega) rfl hS rfl
set_option maxRecDepth 20000 in
theorem ct_X7_allFilm {o : Int} {f s h : Int → Int} {w l p : Int} {M : gM} {n : Int}  : CT yX7_allFilm cX7_allFilm 6 (some .int) (rmk 0 0 0) [vr o] (SL o (f, s, h, w, l, p) M) n (qr (some (vi (sfAll (f, s, h, w, l, p)))) (SL o (f, s, h, w, l, p) M) n) := by
  refine CT.of (by decide) (fun _ => Nat.le_of_ble_eq_true rfl) (fun κ C E => ?_)
  show G κ (SL o (f, s, h, w, l, p) M) n [some (vr o), none, none, none, none, none] 0 [] 0 0
  have lp : ∀ (k : Nat) (i a : Int) (z : Option gV), 0 ≤ i ∧ i ≤ 15 → a = itI (fun i a => a + f i) 0 i → (15 - i).toNat = k → G κ (SL o (f, s, h, w, l, p) M) n [some (vr o), some (vi a), some (vr (o + 1)), some (vi 15), some (vi i), z] 13 [] 0 0 := by
    intro k
    induction k using Nat.strongRecOn with
    | ind k ih =>
      intro i a z h1 h2 hk
      refine s_w4_iload C dX7_allFilm_13 ?_
      refine s_n3_iload C dX7_allFilm_15 ?_
      refine g_icmp_ge 36 C dX7_allFilm_16 (by decide) (by unfold iR; omega) (by unfold iR; omega) (fun c16 => ?_) (fun c16 => ?_)
      · refine s_n1_iload C dX7_allFilm_36 ?_
        refine g_iret C E dX7_allFilm_37 (by decide) ?_
        have e : i = 15 := by omega
        subst e
        refine ⟨?_, rfl, rfl⟩
        rw [h2]
        rfl
      · refine s_n2_aload C dX7_allFilm_19 ?_
        refine s_w4_iload C dX7_allFilm_20 ?_
        refine g_iald C dX7_allFilm_22 (SL_1 ..) (by omega) ?_
        refine s_w5_istore C dX7_allFilm_23 rfl ?_
        refine s_n1_iload C dX7_allFilm_25 ?_
        refine s_w5_iload C dX7_allFilm_26 ?_
        refine g_iadd C dX7_allFilm_28 ?_
        refine s_n1_istore C dX7_allFilm_29 rfl ?_
        refine s_w4_iinc C dX7_allFilm_30 rfl ?_
        refine g_goto 13 C dX7_allFilm_33 (by decide) ?_
        exact ih _ (by omega) (i + 1) _ _ (by omega) (by rw [itI_s _ _ h1.1, ← h2]) rfl
  refine g_iconst C dX7_allFilm_0 ?_
  refine s_n1_istore C dX7_allFilm_1 rfl ?_
  refine s_n0_aload C dX7_allFilm_2 ?_
  refine g_get C fd_X7_9_7 dX7_allFilm_3 (SL_0 ..) rfl ?_
  refine s_n2_astore C dX7_allFilm_6 rfl ?_
  refine s_n2_aload C dX7_allFilm_7 ?_
  refine g_alen C (by decide) dX7_allFilm_8 (SL_1 ..) (by omega) ?_
  refine s_n3_istore C dX7_allFilm_9 rfl ?_
  refine g_iconst C dX7_allFilm_10 ?_
  refine s_w4_istore C dX7_allFilm_11 rfl ?_
  exact lp _ 0 0 none (by omega) rfl rfl
set_option maxRecDepth 20000 in
theorem ct_X7_thinnest {o : Int} {f s h : Int → Int} {w l p : Int} {M : gM} {n : Int} (hS : sfOK (f, s, h, w, l, p)) : CT yX7_thinnest cX7_thinnest 6 (some .int) (rmk 1 0 0) [vr o] (SL o (f, s, h, w, l, p) M) n (qr (some (vi (sfThin (f, s, h, w, l, p)))) (SL o (f, s, h, w, l, p) M) n) := by
  refine CT.of (by decide) (fun _ => Nat.le_of_ble_eq_true rfl) (fun κ C E => ?_)
  show G κ (SL o (f, s, h, w, l, p) M) n [some (vr o), none, none, none, none, none] 0 [] 0 0
  have lp : ∀ (k : Nat) (i a : Int) (z : Option gV), 0 ≤ i ∧ i ≤ 15 → a = itI (fun i a => min a (f i)) 999 i → 0 ≤ a ∧ a ≤ 999 → (15 - i).toNat = k → G κ (SL o (f, s, h, w, l, p) M) n [some (vr o), some (vi a), some (vr (o + 1)), some (vi 15), some (vi i), z] 15 [] 0 0 := by
    intro k
    induction k using Nat.strongRecOn with
    | ind k ih =>
      intro i a z h1 h2 h3 hk
      have bb := fun (q : i < 15) => hS.1 i h1.1 q
      dsimp only at bb
      refine s_w4_iload C dX7_thinnest_15 ?_
      refine s_n3_iload C dX7_thinnest_17 ?_
      refine g_icmp_ge 40 C dX7_thinnest_18 (by decide) (by unfold iR; omega) (by unfold iR; omega) (fun c18 => ?_) (fun c18 => ?_)
      · refine s_n1_iload C dX7_thinnest_40 ?_
        refine g_iret C E dX7_thinnest_41 (by decide) ?_
        have e : i = 15 := by omega
        subst e
        refine ⟨?_, rfl, rfl⟩
        rw [h2]
        rfl
      · have b := bb (by omega)
        refine s_n2_aload C dX7_thinnest_21 ?_
        refine s_w4_iload C dX7_thinnest_22 ?_
        refine g_iald C dX7_thinnest_24 (SL_1 ..) (by omega) ?_
        refine s_w5_istore C dX7_thinnest_25 rfl ?_
        refine s_n1_iload C dX7_thinnest_27 ?_
        refine s_w5_iload C dX7_thinnest_28 ?_
        refine g_mn C wd_170 wd_21 wd_22 wd_23 (by decide) (Nat.le_of_ble_eq_true rfl) rfl dX7_thinnest_30 (by unfold iR; omega) (by unfold iR; omega) ?_
        refine s_n1_istore C dX7_thinnest_33 rfl ?_
        refine s_w4_iinc C dX7_thinnest_34 rfl ?_
        refine g_goto 15 C dX7_thinnest_37 (by decide) ?_
        exact ih _ (by omega) (i + 1) _ _ (by omega) (by rw [itI_s _ _ h1.1, ← h2]) (by have := bb (by omega); omega) rfl
  refine g_sipush C dX7_thinnest_0 (by decide) ?_
  refine s_n1_istore C dX7_thinnest_3 rfl ?_
  refine s_n0_aload C dX7_thinnest_4 ?_
  refine g_get C fd_X7_9_7 dX7_thinnest_5 (SL_0 ..) rfl ?_
  refine s_n2_astore C dX7_thinnest_8 rfl ?_
  refine s_n2_aload C dX7_thinnest_9 ?_
  refine g_alen C (by decide) dX7_thinnest_10 (SL_1 ..) (by omega) ?_
  refine s_n3_istore C dX7_thinnest_11 rfl ?_
  refine g_iconst C dX7_thinnest_12 ?_
  refine s_w4_istore C dX7_thinnest_13 rfl ?_
  exact lp _ 0 999 none (by omega) rfl (by omega) rfl
set_option maxRecDepth 20000 in
theorem ct_X7_unevenness {o : Int} {f s h : Int → Int} {w l p : Int} {M : gM} {n : Int} (hS : sfOK (f, s, h, w, l, p)) : CT yX7_unevenness cX7_unevenness 6 (some .int) (rmk 2 0 0) [vr o] (SL o (f, s, h, w, l, p) M) n (qr (some (vi (sfUneven (f, s, h, w, l, p)))) (SL o (f, s, h, w, l, p) M) n) := by
  refine CT.of (by decide) (fun _ => Nat.le_of_ble_eq_true rfl) (fun κ C E => ?_)
  show G κ (SL o (f, s, h, w, l, p) M) n [some (vr o), none, none, none, none, none] 0 [] 0 0
  have lp : ∀ (k : Nat) (i a : Int) (z : Option gV), 0 ≤ i ∧ i ≤ 15 → a = itI (fun i a => max a (f i)) 0 i → 0 ≤ a ∧ a ≤ 999 → (15 - i).toNat = k → G κ (SL o (f, s, h, w, l, p) M) n [some (vr o), some (vi a), some (vr (o + 1)), some (vi 15), some (vi i), z] 13 [] 0 0 := by
    intro k
    induction k using Nat.strongRecOn with
    | ind k ih =>
      intro i a z h1 h2 h3 hk
      have bb := fun (q : i < 15) => hS.1 i h1.1 q
      dsimp only at bb
      refine s_w4_iload C dX7_unevenness_13 ?_
      refine s_n3_iload C dX7_unevenness_15 ?_
      refine g_icmp_ge 38 C dX7_unevenness_16 (by decide) (by unfold iR; omega) (by unfold iR; omega) (fun c16 => ?_) (fun c16 => ?_)
      · refine s_n1_iload C dX7_unevenness_38 ?_
        refine s_n0_aload C dX7_unevenness_39 ?_
        refine g_invV C (ct_X7_thinnest hS) (SL_0 ..) cv_X7_56_7 (rmk_ok (by decide) (by decide) (by decide) (by decide)) (Nat.le_of_ble_eq_true rfl) rfl dX7_unevenness_40 rfl (q_r ?_)
        refine g_isub C dX7_unevenness_43 ?_
        refine g_iret C E dX7_unevenness_44 (by decide) ?_
        have e : i = 15 := by omega
        subst e
        refine ⟨?_, rfl, rfl⟩
        rw [h2]
        rfl
      · have b := bb (by omega)
        refine s_n2_aload C dX7_unevenness_19 ?_
        refine s_w4_iload C dX7_unevenness_20 ?_
        refine g_iald C dX7_unevenness_22 (SL_1 ..) (by omega) ?_
        refine s_w5_istore C dX7_unevenness_23 rfl ?_
        refine s_n1_iload C dX7_unevenness_25 ?_
        refine s_w5_iload C dX7_unevenness_26 ?_
        refine g_mx C wd_171 wd_172 wd_22 wd_173 (by decide) (Nat.le_of_ble_eq_true rfl) rfl dX7_unevenness_28 (by unfold iR; omega) (by unfold iR; omega) ?_
        refine s_n1_istore C dX7_unevenness_31 rfl ?_
        refine s_w4_iinc C dX7_unevenness_32 rfl ?_
        refine g_goto 13 C dX7_unevenness_35 (by decide) ?_
        exact ih _ (by omega) (i + 1) _ _ (by omega) (by rw [itI_s _ _ h1.1, ← h2]) (by have := bb (by omega); omega) rfl
  refine g_iconst C dX7_unevenness_0 ?_
  refine s_n1_istore C dX7_unevenness_1 rfl ?_
  refine s_n0_aload C dX7_unevenness_2 ?_
  refine g_get C fd_X7_9_7 dX7_unevenness_3 (SL_0 ..) rfl ?_
  refine s_n2_astore C dX7_unevenness_6 rfl ?_
  refine s_n2_aload C dX7_unevenness_7 ?_
  refine g_alen C (by decide) dX7_unevenness_8 (SL_1 ..) (by omega) ?_
  refine s_n3_istore C dX7_unevenness_9 rfl ?_
  refine g_iconst C dX7_unevenness_10 ?_
  refine s_w4_istore C dX7_unevenness_11 rfl ?_
  exact lp _ 0 0 none (by omega) rfl (by omega) rfl
set_option maxRecDepth 20000 in
theorem ct_J7_fill_53178 {a v len : Int} {f : Int → Int} {M : gM} {n : Int} (hM : M a = some (gA 0 len f)) (hl : 0 ≤ len ∧ len ≤ 100000) : CT yJ7_fill_53178 cJ7_fill_53178 4 none (rmk 0 0 0) [vr a, vi v] M n (qr none (gu M a (gA 0 len (fun _ => v))) n) := by
  refine CT.of (by decide) (fun _ => Nat.le_of_ble_eq_true rfl) (fun κ C E => ?_)
  show G κ M n [some (vr a), some (vi v), none, none] 0 [] 0 0
  have lp : ∀ (k : Nat) (i : Int), 0 ≤ i ∧ i ≤ len → (len - i).toNat = k → G κ (gu M a (gA 0 len (flt f v i))) n [some (vr a), some (vi v), some (vi i), some (vi len)] 5 [] 0 0 := by
    intro k
    induction k using Nat.strongRecOn with
    | ind k ih =>
      intro i h1 hk
      refine s_n2_iload C dJ7_fill_53178_5 ?_
      refine s_n3_iload C dJ7_fill_53178_6 ?_
      refine g_icmp_ge 20 C dJ7_fill_53178_7 (by decide) (by unfold iR; omega) (by unfold iR; omega) (fun c7 => ?_) (fun c7 => ?_)
      · have e : i = len := by omega
        subst e
        refine G.arr (f' := fun _ => v) (fun k h1 h2 => if_pos ⟨h1, h2⟩) ?_
        refine g_vret C E dJ7_fill_53178_20 (by decide) ?_
        exact ⟨rfl, rfl, rfl⟩
      · refine s_n0_aload C dJ7_fill_53178_10 ?_
        refine s_n2_iload C dJ7_fill_53178_11 ?_
        refine s_n1_iload C dJ7_fill_53178_12 ?_
        refine g_iast C dJ7_fill_53178_13 (gu_same ..) (by omega) ?_
        rw [gu_gu, flt_s _ _ h1.1]
        refine s_w2_iinc C dJ7_fill_53178_14 rfl ?_
        refine g_goto 5 C dJ7_fill_53178_17 (by decide) ?_
        exact ih _ (by omega) (i + 1) (by omega) rfl
  refine g_iconst C dJ7_fill_53178_0 ?_
  refine s_n2_istore C dJ7_fill_53178_1 rfl ?_
  refine s_n0_aload C dJ7_fill_53178_2 ?_
  refine g_alen C (by decide) dJ7_fill_53178_3 hM (by omega) ?_
  refine s_n3_istore C dJ7_fill_53178_4 rfl ?_
  have e0 : M = gu M a (gA 0 len (flt f v 0)) := by rw [flt_0, gu_self hM]
  rw [e0]
  exact lp _ 0 (by omega) rfl
set_option maxRecDepth 20000 in
theorem ct_X7_wipe {o : Int} {f s h : Int → Int} {w l p : Int} {M : gM} {n : Int} : CT yX7_wipe cX7_wipe 1 none (rmk 1 0 0) [vr o] (SL o (f, s, h, w, l, p) M) n (qr none (SL o ((fun _ => 0), (fun _ => 0), (fun _ => 0), 0, 0, 0) M) n) := by
  refine CT.of (by decide) (fun _ => Nat.le_of_ble_eq_true rfl) (fun κ C E => ?_)
  show G κ (SL o (f, s, h, w, l, p) M) n [some (vr o)] 0 [] 0 0
  refine s_n0_aload C dX7_wipe_0 ?_
  refine g_get C fd_X7_9_7 dX7_wipe_1 (SL_0 ..) rfl ?_
  refine g_iconst C dX7_wipe_4 ?_
  refine g_invS C (ct_J7_fill_53178 (SL_1 ..) (by omega)) cs_X7_37 (rmk_ok (by decide) (by decide) (by decide) (by decide)) (Nat.le_of_ble_eq_true rfl) rfl dX7_wipe_5 rfl (q_v ?_)
  rw [SL_s1]
  refine s_n0_aload C dX7_wipe_8 ?_
  refine g_get C fd_X7_15_7 dX7_wipe_9 (SL_0 ..) rfl ?_
  refine g_iconst C dX7_wipe_12 ?_
  refine g_invS C (ct_J7_fill_53178 (SL_2 ..) (by omega)) cs_X7_37 (rmk_ok (by decide) (by decide) (by decide) (by decide)) (Nat.le_of_ble_eq_true rfl) rfl dX7_wipe_13 rfl (q_v ?_)
  rw [SL_s2]
  refine s_n0_aload C dX7_wipe_16 ?_
  refine g_get C fd_X7_18_7 dX7_wipe_17 (SL_0 ..) rfl ?_
  refine g_iconst C dX7_wipe_20 ?_
  refine g_invS C (ct_J7_fill_53178 (SL_3 ..) (by omega)) cs_X7_37 (rmk_ok (by decide) (by decide) (by decide) (by decide)) (Nat.le_of_ble_eq_true rfl) rfl dX7_wipe_21 rfl (q_v ?_)
  rw [SL_s3]
  refine s_n0_aload C dX7_wipe_24 ?_
  refine g_iconst C dX7_wipe_25 ?_
  refine g_put C fp_X7_27_7 dX7_wipe_26 (SL_0 ..) (Nat.le_of_ble_eq_true rfl) (gfit_i _) ?_
  rw [SL_p3]
  refine s_n0_aload C dX7_wipe_29 ?_
  refine g_iconst C dX7_wipe_30 ?_
  refine g_put C fp_X7_31_7 dX7_wipe_31 (SL_0 ..) (Nat.le_of_ble_eq_true rfl) (gfit_i _) ?_
  rw [SL_p4]
  refine s_n0_aload C dX7_wipe_34 ?_
  refine g_iconst C dX7_wipe_35 ?_
  refine g_put C fp_X7_34_7 dX7_wipe_36 (SL_0 ..) (Nat.le_of_ble_eq_true rfl) (gfit_i _) ?_
  rw [SL_p5]
  refine g_vret C E dX7_wipe_39 (by decide) ?_
  exact ⟨rfl, rfl, rfl⟩
set_option maxRecDepth 20000 in
theorem ct_X7_become {o : Int} {f s h : Int → Int} {w l p : Int} {M : gM} {n : Int} {q : Int} {T : SLT} (hq : SLi q T M) (hd : q + 4 ≤ o ∨ o + 4 ≤ q) : CT yX7_become cX7_become 2 none (rmk 1 0 0) [vr o, vr q] (SL o (f, s, h, w, l, p) M) n (qr none (SL o T M) n) := by
  refine CT.of (by decide) (fun _ => Nat.le_of_ble_eq_true rfl) (fun κ C E => ?_)
  show G κ (SL o (f, s, h, w, l, p) M) n [some (vr o), some (vr q)] 0 [] 0 0
  refine s_n1_aload C dX7_become_0 ?_
  refine g_get C fd_X7_9_7 dX7_become_1 ((SL_out _ _ (by omega)).trans hq.1) rfl ?_
  refine g_iconst C dX7_become_4 ?_
  refine s_n0_aload C dX7_become_5 ?_
  refine g_get C fd_X7_9_7 dX7_become_6 (SL_0 ..) rfl ?_
  refine g_iconst C dX7_become_9 ?_
  refine g_bipush C dX7_become_10 (by decide) ?_
  refine g_acopy C wd_162 wd_163 wd_164 wd_165 rfl dX7_become_12 ((SL_out _ _ (by omega)).trans hq.2.1) (SL_1 ..) (by omega) (by decide) (Nat.le_of_ble_eq_true rfl) ?_
  refine G.arr (f' := T.1) (fun k h1 h2 => cpy_all h1 h2) ?_
  rw [SL_s1]
  refine s_n1_aload C dX7_become_15 ?_
  refine g_get C fd_X7_15_7 dX7_become_16 ((SL_out _ _ (by omega)).trans hq.1) rfl ?_
  refine g_iconst C dX7_become_19 ?_
  refine s_n0_aload C dX7_become_20 ?_
  refine g_get C fd_X7_15_7 dX7_become_21 (SL_0 ..) rfl ?_
  refine g_iconst C dX7_become_24 ?_
  refine g_bipush C dX7_become_25 (by decide) ?_
  refine g_acopy C wd_162 wd_163 wd_164 wd_165 rfl dX7_become_27 ((SL_out _ _ (by omega)).trans hq.2.2.1) (SL_2 ..) (by omega) (by decide) (Nat.le_of_ble_eq_true rfl) ?_
  refine G.arr (f' := T.2.1) (fun k h1 h2 => cpy_all h1 h2) ?_
  rw [SL_s2]
  refine s_n1_aload C dX7_become_30 ?_
  refine g_get C fd_X7_18_7 dX7_become_31 ((SL_out _ _ (by omega)).trans hq.1) rfl ?_
  refine g_iconst C dX7_become_34 ?_
  refine s_n0_aload C dX7_become_35 ?_
  refine g_get C fd_X7_18_7 dX7_become_36 (SL_0 ..) rfl ?_
  refine g_iconst C dX7_become_39 ?_
  refine g_bipush C dX7_become_40 (by decide) ?_
  refine g_acopy C wd_162 wd_163 wd_164 wd_165 rfl dX7_become_42 ((SL_out _ _ (by omega)).trans hq.2.2.2) (SL_3 ..) (by omega) (by decide) (Nat.le_of_ble_eq_true rfl) ?_
  refine G.arr (f' := T.2.2.1) (fun k h1 h2 => cpy_all h1 h2) ?_
  rw [SL_s3]
  refine s_n0_aload C dX7_become_45 ?_
  refine s_n1_aload C dX7_become_46 ?_
  refine g_get C fd_X7_27_7 dX7_become_47 ((SL_out _ _ (by omega)).trans hq.1) rfl ?_
  refine g_put C fp_X7_27_7 dX7_become_50 (SL_0 ..) (Nat.le_of_ble_eq_true rfl) (gfit_i _) ?_
  rw [SL_p3]
  refine s_n0_aload C dX7_become_53 ?_
  refine s_n1_aload C dX7_become_54 ?_
  refine g_get C fd_X7_31_7 dX7_become_55 ((SL_out _ _ (by omega)).trans hq.1) rfl ?_
  refine g_put C fp_X7_31_7 dX7_become_58 (SL_0 ..) (Nat.le_of_ble_eq_true rfl) (gfit_i _) ?_
  rw [SL_p4]
  refine s_n0_aload C dX7_become_61 ?_
  refine s_n1_aload C dX7_become_62 ?_
  refine g_get C fd_X7_34_7 dX7_become_63 ((SL_out _ _ (by omega)).trans hq.1) rfl ?_
  refine g_put C fp_X7_34_7 dX7_become_66 (SL_0 ..) (Nat.le_of_ble_eq_true rfl) (gfit_i _) ?_
  rw [SL_p5]
  refine g_vret C E dX7_become_69 (by decide) ?_
  exact ⟨rfl, rfl, rfl⟩
set_option maxRecDepth 20000 in
theorem ct_X7_thinnestCells {o : Int} {f s h : Int → Int} {w l p : Int} {M : gM} {n : Int} (hS : sfOK (f, s, h, w, l, p)) : CT yX7_thinnestCells cX7_thinnestCells 4 (some .int) (rmk 2 0 0) [vr o] (SL o (f, s, h, w, l, p) M) n (qr (some (vi (sfThinCells (f, s, h, w, l, p)))) (SL o (f, s, h, w, l, p) M) n) := by
  refine CT.of (by decide) (fun _ => Nat.le_of_ble_eq_true rfl) (fun κ C E => ?_)
  show G κ (SL o (f, s, h, w, l, p) M) n [some (vr o), none, none, none] 0 [] 0 0
  have bt := sfThin_b hS
  have lp : ∀ (k : Nat) (i a : Int), 0 ≤ i ∧ i ≤ 15 → a = itI (fun i c => if f i = sfThin (f, s, h, w, l, p) then bOr c (bShl 1 i) else c) 0 i → (15 - i).toNat = k → G κ (SL o (f, s, h, w, l, p) M) n [some (vr o), some (vi (sfThin (f, s, h, w, l, p))), some (vi a), some (vi i)] 9 [] 0 0 := by
    intro k
    induction k using Nat.strongRecOn with
    | ind k ih =>
      intro i a h1 h2 hk
      have bb := fun (q : i < 15) => hS.1 i h1.1 q
      dsimp only at bb
      refine s_n3_iload C dX7_thinnestCells_9 ?_
      refine g_bipush C dX7_thinnestCells_10 (by decide) ?_
      refine g_icmp_ge 37 C dX7_thinnestCells_12 (by decide) (by unfold iR; omega) (by unfold iR; omega) (fun c12 => ?_) (fun c12 => ?_)
      · refine s_n2_iload C dX7_thinnestCells_37 ?_
        refine g_iret C E dX7_thinnestCells_38 (by decide) ?_
        have e : i = 15 := by omega
        subst e
        refine ⟨?_, rfl, rfl⟩
        rw [h2]
        rfl
      · have b := bb (by omega)
        refine s_n0_aload C dX7_thinnestCells_15 ?_
        refine g_get C fd_X7_9_7 dX7_thinnestCells_16 (SL_0 ..) rfl ?_
        refine s_n3_iload C dX7_thinnestCells_19 ?_
        refine g_iald C dX7_thinnestCells_20 (SL_1 ..) (by omega) ?_
        refine s_n1_iload C dX7_thinnestCells_21 ?_
        refine g_icmp_ne 31 C dX7_thinnestCells_22 (by decide) (by unfold iR; omega) (by unfold iR; omega) (fun c22 => ?_) (fun c22 => ?_)
        · refine s_w3_iinc C dX7_thinnestCells_31 rfl ?_
          refine g_goto 9 C dX7_thinnestCells_34 (by decide) ?_
          exact ih _ (by omega) (i + 1) _ (by omega) (by rw [itI_s _ _ h1.1, ← h2, if_neg c22]) rfl
        · refine s_n2_iload C dX7_thinnestCells_25 ?_
          refine g_iconst C dX7_thinnestCells_26 ?_
          refine s_n3_iload C dX7_thinnestCells_27 ?_
          refine g_ishl C dX7_thinnestCells_28 ?_
          refine g_ior C dX7_thinnestCells_29 ?_
          refine s_n2_istore C dX7_thinnestCells_30 rfl ?_
          refine s_w3_iinc C dX7_thinnestCells_31 rfl ?_
          refine g_goto 9 C dX7_thinnestCells_34 (by decide) ?_
          exact ih _ (by omega) (i + 1) _ (by omega) (by rw [itI_s _ _ h1.1, ← h2, if_pos c22]) rfl
  refine s_n0_aload C dX7_thinnestCells_0 ?_
  refine g_invV C (ct_X7_thinnest hS) (SL_0 ..) cv_X7_56_7 (rmk_ok (by decide) (by decide) (by decide) (by decide)) (Nat.le_of_ble_eq_true rfl) rfl dX7_thinnestCells_1 rfl (q_r ?_)
  refine s_n1_istore C dX7_thinnestCells_4 rfl ?_
  refine g_iconst C dX7_thinnestCells_5 ?_
  refine s_n2_istore C dX7_thinnestCells_6 rfl ?_
  refine g_iconst C dX7_thinnestCells_7 ?_
  refine s_n3_istore C dX7_thinnestCells_8 rfl ?_
  exact lp _ 0 0 (by omega) rfl rfl
set_option maxRecDepth 20000 in
theorem ct_X7_lackTo {o : Int} {f s h : Int → Int} {w l p : Int} {M : gM} {n : Int} {t cs : Int} (hS : sfOK (f, s, h, w, l, p)) (ht : 0 ≤ t ∧ t ≤ 999) : CT yX7_lackTo cX7_lackTo 5 (some .int) (rmk 1 0 0) [vr o, vi t, vi cs] (SL o (f, s, h, w, l, p) M) n (qr (some (vi (sfLack (f, s, h, w, l, p) t cs))) (SL o (f, s, h, w, l, p) M) n) := by
  refine CT.of (by decide) (fun _ => Nat.le_of_ble_eq_true rfl) (fun κ C E => ?_)
  show G κ (SL o (f, s, h, w, l, p) M) n [some (vr o), some (vi t), some (vi cs), none, none] 0 [] 0 0
  have lp : ∀ (k : Nat) (i a : Int), 0 ≤ i ∧ i ≤ 15 → a = itI (fun i a => if bAnd (bShr cs i) 1 = 1 then a + max (t - f i) 0 else a) 0 i → (15 - i).toNat = k → G κ (SL o (f, s, h, w, l, p) M) n [some (vr o), some (vi t), some (vi cs), some (vi a), some (vi i)] 5 [] 0 0 := by
    intro k
    induction k using Nat.strongRecOn with
    | ind k ih =>
      intro i a h1 h2 hk
      have bb := fun (q : i < 15) => hS.1 i h1.1 q
      dsimp only at bb
      refine s_w4_iload C dX7_lackTo_5 ?_
      refine g_bipush C dX7_lackTo_7 (by decide) ?_
      refine g_icmp_ge 44 C dX7_lackTo_9 (by decide) (by unfold iR; omega) (by unfold iR; omega) (fun c9 => ?_) (fun c9 => ?_)
      · refine s_n3_iload C dX7_lackTo_44 ?_
        refine g_iret C E dX7_lackTo_45 (by decide) ?_
        have e : i = 15 := by omega
        subst e
        refine ⟨?_, rfl, rfl⟩
        rw [h2]
        rfl
      · refine s_n2_iload C dX7_lackTo_12 ?_
        refine s_w4_iload C dX7_lackTo_13 ?_
        refine g_ishr C dX7_lackTo_15 ?_
        refine g_iconst C dX7_lackTo_16 ?_
        refine g_iand C dX7_lackTo_17 ?_
        refine g_iconst C dX7_lackTo_18 ?_
        refine g_icmp_ne 38 C dX7_lackTo_19 (by decide) (by exact bAnd_R _ _) (by unfold iR; omega) (fun c19 => ?_) (fun c19 => ?_)
        · refine s_w4_iinc C dX7_lackTo_38 rfl ?_
          refine g_goto 5 C dX7_lackTo_41 (by decide) ?_
          exact ih _ (by omega) (i + 1) _ (by omega) (by rw [itI_s _ _ h1.1, ← h2, if_neg c19]) rfl
        · have b := bb (by omega)
          refine s_n3_iload C dX7_lackTo_22 ?_
          refine s_n1_iload C dX7_lackTo_23 ?_
          refine s_n0_aload C dX7_lackTo_24 ?_
          refine g_get C fd_X7_9_7 dX7_lackTo_25 (SL_0 ..) rfl ?_
          refine s_w4_iload C dX7_lackTo_28 ?_
          refine g_iald C dX7_lackTo_30 (SL_1 ..) (by omega) ?_
          refine g_isub C dX7_lackTo_31 ?_
          refine g_iconst C dX7_lackTo_32 ?_
          refine g_mx C wd_171 wd_172 wd_22 wd_173 (by decide) (Nat.le_of_ble_eq_true rfl) rfl dX7_lackTo_33 (by unfold iR; omega) (by unfold iR; omega) ?_
          refine g_iadd C dX7_lackTo_36 ?_
          refine s_n3_istore C dX7_lackTo_37 rfl ?_
          refine s_w4_iinc C dX7_lackTo_38 rfl ?_
          refine g_goto 5 C dX7_lackTo_41 (by decide) ?_
          exact ih _ (by omega) (i + 1) _ (by omega) (by rw [itI_s _ _ h1.1, ← h2, if_pos c19]) rfl
  refine g_iconst C dX7_lackTo_0 ?_
  refine s_n3_istore C dX7_lackTo_1 rfl ?_
  refine g_iconst C dX7_lackTo_2 ?_
  refine s_w4_istore C dX7_lackTo_3 rfl ?_
  exact lp _ 0 0 (by omega) rfl rfl
set_option maxRecDepth 20000 in
theorem ct_X7_init {M : gM} {n : Int} : CT yX7_init cX7_init 1 none (rmk 1 3 45) [vr n] (gu M n (gO 7 [vn, vn, vn, vi 0, vi 0, vi 0])) (n + 1) (qr none (SL n ((fun _ => 0), (fun _ => 0), (fun _ => 0), 0, 0, 0) M) (n + 4)) := by
  refine CT.of (by decide) (fun _ => Nat.le_of_ble_eq_true rfl) (fun κ C E => ?_)
  show G κ (gu M n (gO 7 [vn, vn, vn, vi 0, vi 0, vi 0])) (n + 1) [some (vr n)] 0 [] 0 0
  refine s_n0_aload C dX7_init_0 ?_
  refine g_objInit C wd_158 wd_70 wdObj (by decide) (Nat.le_of_ble_eq_true rfl) rfl dX7_init_1 ?_
  refine s_n0_aload C dX7_init_4 ?_
  refine g_bipush C dX7_init_5 (by decide) ?_
  refine g_newI C wd_1178 dX7_init_7 (by omega) (by decide) ?_
  refine g_putF C rfl fp_X7_9_7 dX7_init_9 ((gu_ne _ _ (by omega)).trans (gu_same ..)) (Nat.le_of_ble_eq_true rfl) (gfit_a _ _) ?_
  refine s_n0_aload C dX7_init_12 ?_
  refine g_bipush C dX7_init_13 (by decide) ?_
  refine g_newI C wd_1178 dX7_init_15 (by omega) (by decide) ?_
  refine g_putF C rfl fp_X7_15_7 dX7_init_17 ((gu_ne _ _ (by omega)).trans (gu_same ..)) (Nat.le_of_ble_eq_true rfl) (gfit_a _ _) ?_
  refine s_n0_aload C dX7_init_20 ?_
  refine g_bipush C dX7_init_21 (by decide) ?_
  refine g_newI C wd_1178 dX7_init_23 (by omega) (by decide) ?_
  refine g_putF C rfl fp_X7_18_7 dX7_init_25 ((gu_ne _ _ (by omega)).trans (gu_same ..)) (Nat.le_of_ble_eq_true rfl) (gfit_a _ _) ?_
  refine g_vret C E dX7_init_28 (by decide) ?_
  refine ⟨rfl, ?_, by omega⟩
  funext a
  simp only [Int.add_assoc, Int.reduceAdd]
  unfold SL gu
  (repeat' split) <;> first | rfl | omega
