/-! PadPolish: acts and what is done -/
theorem cuP_goAlong {ci : Nat} (hk : isKi ci) : gwU RX11 177 ci yX2_goAlong cX2_goAlong 6 none 1 := by
  rcases hk with rfl | rfl | rfl | rfl | rfl
  · exact cu_X11_177_1
  · exact cu_X11_177_2
  · exact cu_X11_177_4
  · exact cu_X11_177_5
  · exact cu_X11_177_6
theorem fdP_way {ci : Nat} (hk : isKi ci) : gFdN RX11 210 ci 1 := by
  rcases hk with rfl | rfl | rfl | rfl | rfl
  · exact fd_X11_210_1
  · exact fd_X11_210_2
  · exact fd_X11_210_4
  · exact fd_X11_210_5
  · exact fd_X11_210_6
section XQ
variable {X : XT} {ℓ : Int → Int} {F : gM} {n : Int} {M : gM}
theorem XL.ug (h : XL X ℓ F n M) (S : SLT) : XL (xSf X 24 S) ℓ F n (SL 8 S M) := h.us (k0 := 24) S (by decide) (by decide)
theorem XL.uc (h : XL X ℓ F n M) (hc : 0 ≤ X.1 5 ∧ X.1 5 ≤ 1) (S : SLT) : XL (xSf X (25 + X.1 5) S) ℓ F n (SL (16 + 6 * X.1 5 + 1) S M) := by
  have e : sA (25 + X.1 5) = 16 + 6 * X.1 5 + 1 := by unfold sA; rw [if_neg (by omega), if_neg (by omega), if_pos (by omega)]; omega
  have := h.us (k0 := 25 + X.1 5) S (by omega) (by omega)
  rwa [e] at this
theorem XL.ua (h : XL X ℓ F n M) {k : Int} (h0 : 0 ≤ k) (h1 : k < 24) (S : SLT) : XL (xSf X k S) ℓ F n (SL (56 + 4 * k) S M) := by
  have e : sA k = 56 + 4 * k := by unfold sA; rw [if_pos h1]
  have := h.us (k0 := k) S h0 (by omega)
  rwa [e] at this
end XQ
theorem k_allR {o : Int} {S : SLT} {M : gM} {n : Int} (h : SLi o S M) : CT yX7_allFilm cX7_allFilm 6 (some .int) (rmk 0 0 0) [vr o] M n (qr (some (vi (sfAll S))) M n) := by
  have := k_all (o := o) (S := S) (M := M) (n := n)
  rwa [SL_self h] at this
theorem k_unevenR {o : Int} {S : SLT} {M : gM} {n : Int} (h : SLi o S M) (hS : sfOK S) : CT yX7_unevenness cX7_unevenness 6 (some .int) (rmk 2 0 0) [vr o] M n (qr (some (vi (sfUneven S))) M n) := by
  have := k_uneven (o := o) (S := S) (M := M) (n := n) hS
  rwa [SL_self h] at this
theorem k_thinR {o : Int} {S : SLT} {M : gM} {n : Int} (h : SLi o S M) (hS : sfOK S) : CT yX7_thinnestCells cX7_thinnestCells 4 (some .int) (rmk 2 0 0) [vr o] M n (qr (some (vi (sfThinCells S))) M n) := by
  have := k_thinCells (o := o) (S := S) (M := M) (n := n) hS
  rwa [SL_self h] at this
theorem k_lackR {o : Int} {S : SLT} {M : gM} {n t cs : Int} (h : SLi o S M) (hS : sfOK S) (ht : 0 ≤ t ∧ t ≤ 999) : CT yX7_lackTo cX7_lackTo 5 (some .int) (rmk 1 0 0) [vr o, vi t, vi cs] M n (qr (some (vi (sfLack S t cs))) M n) := by
  have := k_lack (o := o) (S := S) (M := M) (n := n) (t := t) (cs := cs) hS ht
  rwa [SL_self h] at this
def xKeep (X : XT) : XT := xS (xS (xSf X (X.1 2) (xC X)) 2 ((X.1 2 + 1) % 24)) 3 (min (X.1 3 + 1) 24)
theorem xSf_ok {X : XT} {k : Int} {S : SLT} (h : xOK X) (hS : sfOK S) : xOK (xSf X k S) := by
  refine ⟨h.1, h.2.1, h.2.2.1, h.2.2.2.1, h.2.2.2.2.1, h.2.2.2.2.2.1, h.2.2.2.2.2.2.1, fun j j1 j2 j3 => ?_, h.2.2.2.2.2.2.2.2⟩
  show sfOK (fu X.2.2.2.1 k S j)
  unfold fu
  split
  · exact hS
  · exact h.sf j j1 j2 j3
theorem xS_ok {X : XT} {k v : Int} (h : xOK X) (h0 : k = 1 ∨ k = 4 ∨ k = 7 ∨ k = 8 ∨ (k = 2 ∧ 0 ≤ v ∧ v < 24) ∨ (k = 3 ∧ 0 ≤ v ∧ v ≤ 24)) : xOK (xS X k v) := by
  have e5 : fu X.1 k v 5 = X.1 5 := fu_ne _ _ (by omega)
  have e0 : fu X.1 k v 0 = X.1 0 := fu_ne _ _ (by omega)
  have e6 : fu X.1 k v 6 = X.1 6 := fu_ne _ _ (by omega)
  refine ⟨?_, ?_, ?_, ?_, ⟨h.tp.1, ?_⟩, h.ik, h.rw, ?_, h.tr, ?_⟩
  · show 0 ≤ fu X.1 k v 5 ∧ fu X.1 k v 5 ≤ 1; rw [e5]; exact h.c
  · show 0 ≤ fu X.1 k v 2 ∧ fu X.1 k v 2 < 24
    unfold fu
    have := h.na
    split <;> omega
  · show 0 ≤ fu X.1 k v 3 ∧ fu X.1 k v 3 ≤ 24
    unfold fu
    have := h.ac
    split <;> omega
  · show fu X.1 k v 0 = 0 ∨ fu X.1 k v 0 = 1; rw [e0]; exact h.td
  · show 0 ≤ fu X.1 k v 6 ∧ fu X.1 k v 6 ≤ 120; rw [e6]; exact h.tp.2
  · show ∀ j, 0 ≤ j → j < 29 → ¬ j = 26 - fu X.1 k v 5 → sfOK (X.2.2.2.1 j); rw [e5]; exact h.sf
  · show ∀ j, 0 ≤ j → j < 4 → ¬ j = 1 - fu X.1 k v 5 → _; rw [e5]; exact h.tb
theorem xKeep_ok {X : XT} (h : xOK X) : xOK (xKeep X) := by
  have b1 := h.na
  have b2 := h.ac
  exact xS_ok (xS_ok (xSf_ok h h.cs) (by omega)) (by omega)
set_option maxRecDepth 20000 in
theorem ct_X11_keepAct {X : XT} {ℓ : Int → Int} {F : gM} {n : Int} {M : gM} (hX : XL X ℓ F n M) (hO : xOK X)  : CT yX11_keepAct cX11_keepAct 1 none (rmk 2 0 0) [vr 0] M n (fun r M2 n2 => r = none ∧ n2 = n ∧ XL (xKeep X) ℓ F n M2 ∧ ∀ a, 164 ≤ a → M2 a = M a) := by
  refine CT.of (by decide) (fun _ => Nat.le_of_ble_eq_true rfl) (fun κ C E => ?_)
  show G κ M n [some (vr 0)] 0 [] 0 0
  have hc := hO.c
  have hna := hO.na
  have hac := hO.ac
  refine s_n0_aload C dX11_keepAct_0 ?_
  refine g_get C fd_X11_34_11 dX11_keepAct_1 hX.o rfl ?_
  refine s_n0_aload C dX11_keepAct_4 ?_
  refine g_get C fd_X11_154_11 dX11_keepAct_5 hX.o rfl ?_
  refine g_aald C (by decide) dX11_keepAct_8 hX.r7 (by omega) ?_
  refine s_n0_aload C dX11_keepAct_9 ?_
  refine g_get C fd_X11_58_11 dX11_keepAct_10 hX.o rfl ?_
  refine g_getN C fd_X11_157_8 dX11_keepAct_13 (hX.cur hO.c) rfl ?_
  refine g_invV C ((k_become (S := X.2.2.2.1 (X.1 2)) (hX.csf hc) (by omega)).conv (SL_self (hX.act hna.1 hna.2)) rfl) (hX.act hna.1 hna.2).1 cv_X11_160_7 (rmk_ok (by decide) (by decide) (by decide) (by decide)) (Nat.le_of_ble_eq_true rfl) rfl dX11_keepAct_16 rfl (q_v0 ?_)
  have hX := hX.ua hna.1 hna.2 (xC X)
  refine s_n0_aload C dX11_keepAct_19 ?_
  refine s_n0_aload C dX11_keepAct_20 ?_
  refine g_get C fd_X11_154_11 dX11_keepAct_21 hX.o rfl ?_
  refine g_iconst C dX11_keepAct_24 ?_
  refine g_iadd C dX11_keepAct_25 ?_
  refine g_bipush C dX11_keepAct_26 (by decide) ?_
  refine g_irem C dX11_keepAct_28 (by show 0 ≤ X.1 2 + 1 ∧ X.1 2 + 1 < 2147483648 ∧ (0 : Int) < 24 ∧ (24 : Int) < 2147483648; omega) ?_
  refine g_put C fp_X11_154_11 dX11_keepAct_29 hX.o (Nat.le_of_ble_eq_true rfl) (gfit_i _) ?_
  rw [xs13]
  have hX := hX.uo (sc := fu X.1 2 ((X.1 2 + 1) % 24)) ⟨rfl, rfl, rfl⟩
  refine s_n0_aload C dX11_keepAct_32 ?_
  refine s_n0_aload C dX11_keepAct_33 ?_
  refine g_get C fd_X11_150_11 dX11_keepAct_34 hX.o rfl ?_
  refine g_iconst C dX11_keepAct_37 ?_
  refine g_iadd C dX11_keepAct_38 ?_
  refine g_bipush C dX11_keepAct_39 (by decide) ?_
  refine g_mn C wd_575 wd_21 wd_22 wd_23 (by decide) (Nat.le_of_ble_eq_true rfl) rfl dX11_keepAct_41 (by show iR (X.1 3 + 1); unfold iR; omega) (by first | assumption | (unfold iR; omega)) ?_
  refine g_put C fp_X11_150_11 dX11_keepAct_44 hX.o (Nat.le_of_ble_eq_true rfl) (gfit_i _) ?_
  rw [xs14]
  have hX := hX.uo (sc := fu (fu X.1 2 ((X.1 2 + 1) % 24)) 3 (min (X.1 3 + 1) 24)) ⟨rfl, rfl, rfl⟩
  refine g_vret C E dX11_keepAct_47 (by decide) ?_
  refine ⟨rfl, rfl, hX, fun a ha => ?_⟩
  rw [gu_ne _ _ (by omega), gu_ne _ _ (by omega), SL_out _ _ (by omega)]
def xUndo (X : XT) : Int × XT := if X.1 3 = 0 then (-1000002, X) else (X.1 3 - 1, xSf (xS (xS X 2 ((X.1 2 + 24 - 1) % 24)) 3 (X.1 3 - 1)) (25 + X.1 5) (X.2.2.2.1 ((X.1 2 + 24 - 1) % 24)))
set_option maxRecDepth 20000 in
theorem ct_X11_undo {X : XT} {ℓ : Int → Int} {F : gM} {n : Int} {M : gM} (hX : XL X ℓ F n M) (hO : xOK X)  : CT yX11_undo cX11_undo 1 (some .int) (rmk 2 0 0) [vr 0] M n (xPost (xUndo X) F n) := by
  refine CT.of (by decide) (fun _ => Nat.le_of_ble_eq_true rfl) (fun κ C E => ?_)
  show G κ M n [some (vr 0)] 0 [] 0 0
  have hc := hO.c
  have hna := hO.na
  have hac := hO.ac
  refine s_n0_aload C dX11_undo_0 ?_
  refine g_get C fd_X11_150_11 dX11_undo_1 hX.o rfl ?_
  refine g_if_ne 10 C dX11_undo_4 (by decide) (by first | assumption | (unfold iR; omega)) (fun c4 => ?_) (fun c4 => ?_)
  · refine s_n0_aload C dX11_undo_10 ?_
    refine s_n0_aload C dX11_undo_11 ?_
    refine g_get C fd_X11_154_11 dX11_undo_12 hX.o rfl ?_
    refine g_bipush C dX11_undo_15 (by decide) ?_
    refine g_iadd C dX11_undo_17 ?_
    refine g_iconst C dX11_undo_18 ?_
    refine g_isub C dX11_undo_19 ?_
    refine g_bipush C dX11_undo_20 (by decide) ?_
    refine g_irem C dX11_undo_22 (by omega) ?_
    refine g_put C fp_X11_154_11 dX11_undo_23 hX.o (Nat.le_of_ble_eq_true rfl) (gfit_i _) ?_
    rw [xs13]
    have hX := hX.uo (sc := fu X.1 2 ((X.1 2 + 24 - 1) % 24)) ⟨rfl, rfl, rfl⟩
    refine s_n0_aload C dX11_undo_26 ?_
    refine g_dup C dX11_undo_27 rfl ?_
    refine g_get C fd_X11_150_11 dX11_undo_28 hX.o rfl ?_
    refine g_iconst C dX11_undo_31 ?_
    refine g_isub C dX11_undo_32 ?_
    refine g_put C fp_X11_150_11 dX11_undo_33 hX.o (Nat.le_of_ble_eq_true rfl) (gfit_i _) ?_
    rw [xs14]
    have hX := hX.uo (sc := fu (fu X.1 2 ((X.1 2 + 24 - 1) % 24)) 3 (X.1 3 - 1)) ⟨rfl, rfl, rfl⟩
    refine s_n0_aload C dX11_undo_36 ?_
    refine g_get C fd_X11_58_11 dX11_undo_37 hX.o rfl ?_
    refine g_getN C fd_X11_157_8 dX11_undo_40 (hX.cur hc) rfl ?_
    refine s_n0_aload C dX11_undo_43 ?_
    refine g_get C fd_X11_34_11 dX11_undo_44 hX.o rfl ?_
    refine s_n0_aload C dX11_undo_47 ?_
    refine g_get C fd_X11_154_11 dX11_undo_48 hX.o rfl ?_
    refine g_aald C (by decide) dX11_undo_51 hX.r7 (by show 0 ≤ (X.1 2 + 24 - 1) % 24 ∧ (X.1 2 + 24 - 1) % 24 < 24 ∧ _; omega) ?_
    refine g_invV C ((k_become (S := xC X) (T := X.2.2.2.1 ((X.1 2 + 24 - 1) % 24)) (hX.act (k := (X.1 2 + 24 - 1) % 24) (by omega) (by omega)) (by show _ + 4 ≤ 16 + 6 * X.1 5 + 1 ∨ 16 + 6 * X.1 5 + 1 + 4 ≤ _; omega)).conv (SL_self (hX.csf hc)) rfl) (hX.csf hc).1 cv_X11_160_7 (rmk_ok (by decide) (by decide) (by decide) (by decide)) (Nat.le_of_ble_eq_true rfl) rfl dX11_undo_52 rfl (q_v0 ?_)
    have hX := hX.uc hc (X.2.2.2.1 ((X.1 2 + 24 - 1) % 24))
    refine s_n0_aload C dX11_undo_55 ?_
    refine g_get C fd_X11_150_11 dX11_undo_56 hX.o rfl ?_
    refine g_iret C E dX11_undo_59 (by decide) ?_
    unfold xUndo
    rw [if_neg c4]
    exact ⟨rfl, rfl, _, hX⟩
  · refine g_ldc (-1000002) C wd_415 dX11_undo_7 ?_
    refine g_iret C E dX11_undo_9 (by decide) ?_
    unfold xUndo
    rw [if_pos c4]
    exact ⟨rfl, rfl, _, hX⟩
set_option maxRecDepth 20000 in
theorem ct_X11_passOf {X : XT} {ℓ : Int → Int} {F : gM} {n : Int} {M : gM} (hX : XL X ℓ F n M) (hO : xOK X) {a : Int} (ha : iR a) : CT yX11_passOf cX11_passOf 2 (some (.object "PadPolish$Pass")) (rmk 3 0 0) [vr 0, vi a] M n (fun r M2 n2 => M2 = M ∧ n2 = n ∧ ((0 ≤ a ∧ a < (xP X).1 ∧ ∃ pa wy, r = some (vr pa) ∧ 164 ≤ pa ∧ 164 ≤ wy ∧ isKi ((xP X).2.1 a) ∧ waOK ((xP X).2.2.1 a) ((xP X).2.2.2 a) ∧ paI M pa ((xP X).2.1 a) a wy ((xP X).2.2.1 a) ((xP X).2.2.2 a)) ∨ (¬ (0 ≤ a ∧ a < (xP X).1) ∧ r = some vn))) := by
  refine CT.of (by decide) (fun _ => Nat.le_of_ble_eq_true rfl) (fun κ C E => ?_)
  show G κ M n [some (vr 0), some (vi a)] 0 [] 0 0
  have hc := hO.c
  have hp := hO.ps
  have hp1 := hp.1
  have hp2 := hp.2.1
  obtain ⟨mc, e, er, pa, wy, l1, l2, l3, l4⟩ := hX.ls (X.1 5) hc.1 (by omega)
  refine s_n1_iload C dX11_passOf_0 ?_
  refine g_iconst C dX11_passOf_1 ?_
  refine s_n0_aload C dX11_passOf_2 ?_
  refine g_get C fd_X11_58_11 dX11_passOf_3 hX.o rfl ?_
  refine g_getN C fd_X11_140_8 dX11_passOf_6 (hX.cur hO.c) rfl ?_
  refine g_invV C (ct_Jx4a65c_size_8abf5 l2) l2 cv_X11_144_0 (rmk_ok (by decide) (by decide) (by decide) (by decide)) (Nat.le_of_ble_eq_true rfl) rfl dX11_passOf_9 rfl (q_r0 ?_)
  refine g_iconst C dX11_passOf_12 ?_
  refine g_isub C dX11_passOf_13 ?_
  refine g_invS C (ct_X11_isWithin ha (by unfold iR; omega) (by show iR ((xP X).1 - 1); unfold iR; omega)) cs_X11_70 (rmk_ok (by decide) (by decide) (by decide) (by decide)) (Nat.le_of_ble_eq_true rfl) rfl dX11_passOf_14 rfl (q_r0 ?_)
  refine g_bifeq 37 C dX11_passOf_17 (by decide)  (fun c17 => ?_) (fun c17 => ?_)
  · refine g_null C dX11_passOf_37 ?_
    refine g_aret C E (Or.inl ⟨_, rfl⟩) dX11_passOf_38 (by decide) ?_
    exact ⟨rfl, rfl, Or.inr ⟨fun q => c17 ⟨q.1, by have : a < (X.2.2.2.2.2 (X.1 5)).1.1 := q.2; omega⟩, rfl⟩⟩
  · have hlt : a < (X.2.2.2.2.2 (X.1 5)).1.1 := by have := c17.2; omega
    obtain ⟨g1, g2, g3, g4⟩ := l4 a c17.1 hlt
    obtain ⟨hki, hwa⟩ := hp.2.2 a c17.1 hlt
    have he : M e = some (gR 5 10 er) := (l3.resolve_left (fun q => by have := q.1; omega)).2
    refine s_n0_aload C dX11_passOf_20 ?_
    refine g_get C fd_X11_58_11 dX11_passOf_21 hX.o rfl ?_
    refine g_getN C fd_X11_140_8 dX11_passOf_24 (hX.cur hO.c) rfl ?_
    refine s_n1_iload C dX11_passOf_27 ?_
    refine g_invV C (ct_Jx4a65c_get_915e3 l2 he ⟨c17.1, hlt⟩ (by show (xP X).1 ≤ 10; omega)) l2 cv_X11_278_0 (rmk_ok (by decide) (by decide) (by decide) (by decide)) (Nat.le_of_ble_eq_true rfl) rfl dX11_passOf_28 rfl (q_r0 ?_)
    rw [g1]
    refine g_castK C (ca_pass hki) wd_520 g4.1 dX11_passOf_31 ?_
    refine g_goto 38 C dX11_passOf_34 (by decide) ?_
    refine g_aret C E (Or.inl ⟨_, rfl⟩) dX11_passOf_38 (by decide) ?_
    exact ⟨rfl, rfl, Or.inl ⟨c17.1, hlt, pa a, wy a, rfl, g2, g3, hki, hwa, g4⟩⟩
set_option maxRecDepth 20000 in
theorem ct_X11_allPasses {X : XT} {ℓ : Int → Int} {F : gM} {n : Int} {M : gM} (hX : XL X ℓ F n M) (hO : xOK X)  : CT yX11_allPasses cX11_allPasses 1 (some .int) (rmk 1 0 0) [vr 0] M n (qr (some (vi (bShl 1 (xP X).1 - 1))) M n) := by
  refine CT.of (by decide) (fun _ => Nat.le_of_ble_eq_true rfl) (fun κ C E => ?_)
  show G κ M n [some (vr 0)] 0 [] 0 0
  have hc := hO.c
  obtain ⟨mc, e, er, pa, wy, l1, l2, l3, l4⟩ := hX.ls (X.1 5) hc.1 (by omega)
  refine g_iconst C dX11_allPasses_0 ?_
  refine s_n0_aload C dX11_allPasses_1 ?_
  refine g_get C fd_X11_58_11 dX11_allPasses_2 hX.o rfl ?_
  refine g_getN C fd_X11_140_8 dX11_allPasses_5 (hX.cur hO.c) rfl ?_
  refine g_invV C (ct_Jx4a65c_size_8abf5 l2) l2 cv_X11_144_0 (rmk_ok (by decide) (by decide) (by decide) (by decide)) (Nat.le_of_ble_eq_true rfl) rfl dX11_allPasses_8 rfl (q_r0 ?_)
  refine g_ishl C dX11_allPasses_11 ?_
  refine g_iconst C dX11_allPasses_12 ?_
  refine g_isub C dX11_allPasses_13 ?_
  refine g_iret C E dX11_allPasses_14 (by decide) ?_
  exact ⟨rfl, rfl, rfl⟩
def xSetC (X : XT) (S : SLT) : XT := xSf X (25 + X.1 5) S
def xCharge (X : XT) (a b : Int) : Int × XT := if X.1 0 = 0 then (-1000002, X) else if ¬ (0 ≤ a ∧ a ≤ 99) then (-1000001, X) else if ¬ (0 ≤ b ∧ b ≤ 99) then (-1000001, X) else ((xC (xSetC (xKeep X) (sfSoak (xC (xKeep X)) a b))).2.2.2.1, xSetC (xKeep X) (sfSoak (xC (xKeep X)) a b))
def xMake (X : XT) (a : Int) : Int × XT := if ¬ (0 ≤ a ∧ a < (xP X).1) then (-1000001, X) else ((xC (xSetC (xKeep X) (pGo ((xP X).2.1 a) ((xP X).2.2.1 a) ((xP X).2.2.2 a) (xC (xKeep X))))).2.2.2.1, xSetC (xKeep X) (pGo ((xP X).2.1 a) ((xP X).2.2.1 a) ((xP X).2.2.2 a) (xC (xKeep X))))
def xStand (X : XT) (a : Int) : Int × XT := if X.1 0 = 0 then (-1000002, X) else if ¬ (0 ≤ a ∧ a ≤ 14) then (-1000001, X) else ((xC (xSetC (xKeep X) (sfTear (xC (xKeep X)) a))).1 a, xSetC (xKeep X) (sfTear (xC (xKeep X)) a))
def xRest (X : XT) : Int × XT := if X.1 0 = 0 then (-1000002, X) else (sfAll (xC (xSetC (xKeep X) (sfSink (xC (xKeep X)) (xK (xKeep X))))), xSetC (xKeep X) (sfSink (xC (xKeep X)) (xK (xKeep X))))
set_option maxRecDepth 20000 in
theorem ct_X11_charge {X : XT} {ℓ : Int → Int} {F : gM} {n : Int} {M : gM} (hX : XL X ℓ F n M) (hO : xOK X) {a b : Int} (ha : iR a) (hb : iR b) : CT yX11_charge cX11_charge 3 (some .int) (rmk 3 0 0) [vr 0, vi a, vi b] M n (xPost (xCharge X a b) F n) := by
  refine CT.of (by decide) (fun _ => Nat.le_of_ble_eq_true rfl) (fun κ C E => ?_)
  show G κ M n [some (vr 0), some (vi a), some (vi b)] 0 [] 0 0
  have hc := hO.c
  have htd := hO.td
  refine s_n0_aload C dX11_charge_0 ?_
  refine g_get C fd_X11_133_11 dX11_charge_1 hX.o rfl ?_
  refine g_if_ne 10 C dX11_charge_4 (by decide) (by first | assumption | (unfold iR; omega)) (fun c4 => ?_) (fun c4 => ?_)
  · refine s_n1_iload C dX11_charge_10 ?_
    refine g_iconst C dX11_charge_11 ?_
    refine g_bipush C dX11_charge_12 (by decide) ?_
    refine g_invS C (ct_X11_isWithin (by first | assumption | (unfold iR; omega)) (by first | assumption | (unfold iR; omega)) (by first | assumption | (unfold iR; omega))) cs_X11_70 (rmk_ok (by decide) (by decide) (by decide) (by decide)) (Nat.le_of_ble_eq_true rfl) rfl dX11_charge_14 rfl (q_r0 ?_)
    refine g_bifeq 30 C dX11_charge_17 (by decide)  (fun c17 => ?_) (fun c17 => ?_)
    · refine g_ldc (-1000001) C wd_364 dX11_charge_30 ?_
      refine g_iret C E dX11_charge_32 (by decide) ?_
      unfold xCharge
      rw [if_neg c4, if_pos c17]
      exact ⟨rfl, rfl, _, hX⟩
    · refine s_n2_iload C dX11_charge_20 ?_
      refine g_iconst C dX11_charge_21 ?_
      refine g_bipush C dX11_charge_22 (by decide) ?_
      refine g_invS C (ct_X11_isWithin (by first | assumption | (unfold iR; omega)) (by first | assumption | (unfold iR; omega)) (by first | assumption | (unfold iR; omega))) cs_X11_70 (rmk_ok (by decide) (by decide) (by decide) (by decide)) (Nat.le_of_ble_eq_true rfl) rfl dX11_charge_24 rfl (q_r0 ?_)
      refine g_bifne 33 C dX11_charge_27 (by decide)  (fun c27 => ?_) (fun c27 => ?_)
      · refine s_n0_aload C dX11_charge_33 ?_
        refine g_invV C (ct_X11_keepAct hX hO) hX.o cv_X11_164_11 (rmk_ok (by decide) (by decide) (by decide) (by decide)) (Nat.le_of_ble_eq_true rfl) rfl dX11_charge_34 rfl (fun r M9 n9 hq => ?_)
        obtain ⟨hr9, hn9, hX, hk9⟩ := hq
        subst hr9
        rw [hn9]
        show G κ _ _ _ _ _ 0 0
        have hO := xKeep_ok hO
        have hc := hO.c
        refine s_n0_aload C dX11_charge_37 ?_
        refine g_get C fd_X11_58_11 dX11_charge_38 hX.o rfl ?_
        refine g_getN C fd_X11_157_8 dX11_charge_41 (hX.cur hc) rfl ?_
        refine s_n1_iload C dX11_charge_44 ?_
        refine s_n2_iload C dX11_charge_45 ?_
        refine g_invV C ((k_soak (S := xC (xKeep X)) hO.cs (by omega)).conv (SL_self (hX.csf hc)) rfl) (hX.csf hc).1 cv_X11_167_7 (rmk_ok (by decide) (by decide) (by decide) (by decide)) (Nat.le_of_ble_eq_true rfl) rfl dX11_charge_46 rfl (q_v0 ?_)
        have hX := hX.uc hc (sfSoak (xC (xKeep X)) a b)
        refine s_n0_aload C dX11_charge_49 ?_
        refine g_get C fd_X11_58_11 dX11_charge_50 hX.o rfl ?_
        refine g_getN C fd_X11_157_8 dX11_charge_53 (hX.cur hc) rfl ?_
        refine g_getN C fd_X11_170_7 dX11_charge_56 (hX.csf hc).1 rfl ?_
        refine g_iret C E dX11_charge_59 (by decide) ?_
        unfold xCharge
        rw [if_neg c4, if_neg (not_not_intro c17), if_neg (not_not_intro c27)]
        exact ⟨rfl, rfl, _, hX⟩
      · refine g_ldc (-1000001) C wd_364 dX11_charge_30 ?_
        refine g_iret C E dX11_charge_32 (by decide) ?_
        unfold xCharge
        rw [if_neg c4, if_neg (not_not_intro c17), if_pos c27]
        exact ⟨rfl, rfl, _, hX⟩
  · refine g_ldc (-1000002) C wd_415 dX11_charge_7 ?_
    refine g_iret C E dX11_charge_9 (by decide) ?_
    unfold xCharge
    rw [if_pos c4]
    exact ⟨rfl, rfl, _, hX⟩
set_option maxRecDepth 20000 in
theorem ct_X11_make {X : XT} {ℓ : Int → Int} {F : gM} {n : Int} {M : gM} (hX : XL X ℓ F n M) (hO : xOK X) {a : Int} (ha : iR a) : CT yX11_make cX11_make 3 (some .int) (rmk 5 0 0) [vr 0, vi a] M n (xPost (xMake X a) F n) := by
  refine CT.of (by decide) (fun _ => Nat.le_of_ble_eq_true rfl) (fun κ C E => ?_)
  show G κ M n [some (vr 0), some (vi a), none] 0 [] 0 0
  have hc := hO.c
  refine s_n0_aload C dX11_make_0 ?_
  refine s_n1_iload C dX11_make_1 ?_
  refine g_invV C (ct_X11_passOf hX hO (by assumption)) hX.o cv_X11_173_11 (rmk_ok (by decide) (by decide) (by decide) (by decide)) (Nat.le_of_ble_eq_true rfl) rfl dX11_make_2 rfl (fun r M9 n9 hq => ?_)
  obtain ⟨hm9, hn9, hq⟩ := hq
  rw [hm9, hn9]
  show G κ _ _ _ _ _ 0 0
  rcases hq with ⟨p1, p2, pa, wy, hr9, p3, p4, hki, hwa, hpa⟩ | ⟨p1, hr9⟩
  · subst hr9
    refine s_n2_astore C dX11_make_5 rfl ?_
    refine s_n2_aload C dX11_make_6 ?_
    refine g_ifnonnull 13 C dX11_make_7 (by decide) ?_
    refine s_n0_aload C dX11_make_13 ?_
    refine g_invV C (ct_X11_keepAct hX hO) hX.o cv_X11_164_11 (rmk_ok (by decide) (by decide) (by decide) (by decide)) (Nat.le_of_ble_eq_true rfl) rfl dX11_make_14 rfl (fun r M9 n9 hq => ?_)
    obtain ⟨hr9, hn9, hX, hk9⟩ := hq
    subst hr9
    rw [hn9]
    show G κ _ _ _ _ _ 0 0
    have hO := xKeep_ok hO
    have hc := hO.c
    refine s_n2_aload C dX11_make_17 ?_
    refine s_n0_aload C dX11_make_18 ?_
    refine g_get C fd_X11_58_11 dX11_make_19 hX.o rfl ?_
    refine g_getN C fd_X11_157_8 dX11_make_22 (hX.cur hc) rfl ?_
    refine g_invU C ((ct_goAlong (S := xC (xKeep X)) hki hO.cs hwa ⟨(hk9 _ p3).trans hpa.1, (hk9 _ p4).trans hpa.2⟩ ⟨by omega, by omega⟩).conv (SL_self (hX.csf hc)) rfl) ((hk9 _ p3).trans hpa.1) (cuP_goAlong hki) (rmk_ok (by decide) (by decide) (by decide) (by decide)) (Nat.le_of_ble_eq_true rfl) rfl dX11_make_25 rfl (q_v0 ?_)
    have hX := hX.uc hc (pGo ((xP X).2.1 a) ((xP X).2.2.1 a) ((xP X).2.2.2 a) (xC (xKeep X)))
    refine s_n0_aload C dX11_make_28 ?_
    refine g_get C fd_X11_58_11 dX11_make_29 hX.o rfl ?_
    refine g_getN C fd_X11_157_8 dX11_make_32 (hX.cur hc) rfl ?_
    refine g_getN C fd_X11_170_7 dX11_make_35 (hX.csf hc).1 rfl ?_
    refine g_iret C E dX11_make_38 (by decide) ?_
    unfold xMake
    rw [if_neg (not_not_intro ⟨p1, p2⟩)]
    exact ⟨rfl, rfl, _, hX⟩
  · subst hr9
    refine s_n2_astore C dX11_make_5 rfl ?_
    refine s_n2_aload C dX11_make_6 ?_
    refine g_ifnonnullN C dX11_make_7 ?_
    refine g_ldc (-1000001) C wd_364 dX11_make_10 ?_
    refine g_iret C E dX11_make_12 (by decide) ?_
    unfold xMake
    rw [if_pos p1]
    exact ⟨rfl, rfl, _, hX⟩
set_option maxRecDepth 20000 in
theorem ct_X11_stand {X : XT} {ℓ : Int → Int} {F : gM} {n : Int} {M : gM} (hX : XL X ℓ F n M) (hO : xOK X) {a : Int} (ha : iR a) : CT yX11_stand cX11_stand 2 (some .int) (rmk 3 0 0) [vr 0, vi a] M n (xPost (xStand X a) F n) := by
  refine CT.of (by decide) (fun _ => Nat.le_of_ble_eq_true rfl) (fun κ C E => ?_)
  show G κ M n [some (vr 0), some (vi a)] 0 [] 0 0
  have hc := hO.c
  have htd := hO.td
  refine s_n0_aload C dX11_stand_0 ?_
  refine g_get C fd_X11_133_11 dX11_stand_1 hX.o rfl ?_
  refine g_if_ne 10 C dX11_stand_4 (by decide) (by first | assumption | (unfold iR; omega)) (fun c4 => ?_) (fun c4 => ?_)
  · refine s_n1_iload C dX11_stand_10 ?_
    refine g_invS C (ct_X11_isCell (by assumption)) cs_X11_182 (rmk_ok (by decide) (by decide) (by decide) (by decide)) (Nat.le_of_ble_eq_true rfl) rfl dX11_stand_11 rfl (q_r0 ?_)
    refine g_bifne 20 C dX11_stand_14 (by decide)  (fun c14 => ?_) (fun c14 => ?_)
    · refine s_n0_aload C dX11_stand_20 ?_
      refine g_invV C (ct_X11_keepAct hX hO) hX.o cv_X11_164_11 (rmk_ok (by decide) (by decide) (by decide) (by decide)) (Nat.le_of_ble_eq_true rfl) rfl dX11_stand_21 rfl (fun r M9 n9 hq => ?_)
      obtain ⟨hr9, hn9, hX, hk9⟩ := hq
      subst hr9
      rw [hn9]
      show G κ _ _ _ _ _ 0 0
      have hO := xKeep_ok hO
      have hc := hO.c
      refine s_n0_aload C dX11_stand_24 ?_
      refine g_get C fd_X11_58_11 dX11_stand_25 hX.o rfl ?_
      refine g_getN C fd_X11_157_8 dX11_stand_28 (hX.cur hc) rfl ?_
      refine s_n1_iload C dX11_stand_31 ?_
      refine g_invV C ((k_tear (S := xC (xKeep X)) hO.cs (by omega)).conv (SL_self (hX.csf hc)) rfl) (hX.csf hc).1 cv_X11_185_7 (rmk_ok (by decide) (by decide) (by decide) (by decide)) (Nat.le_of_ble_eq_true rfl) rfl dX11_stand_32 rfl (q_v0 ?_)
      have hX := hX.uc hc (sfTear (xC (xKeep X)) a)
      refine s_n0_aload C dX11_stand_35 ?_
      refine g_get C fd_X11_58_11 dX11_stand_36 hX.o rfl ?_
      refine g_getN C fd_X11_157_8 dX11_stand_39 (hX.cur hc) rfl ?_
      refine g_getN C fd_X11_189_7 dX11_stand_42 (hX.csf hc).1 rfl ?_
      refine s_n1_iload C dX11_stand_45 ?_
      refine g_iald C dX11_stand_46 (hX.csf hc).2.1 (by omega) ?_
      refine g_iret C E dX11_stand_47 (by decide) ?_
      unfold xStand
      rw [if_neg c4, if_neg (not_not_intro c14)]
      exact ⟨rfl, rfl, _, hX⟩
    · refine g_ldc (-1000001) C wd_364 dX11_stand_17 ?_
      refine g_iret C E dX11_stand_19 (by decide) ?_
      unfold xStand
      rw [if_neg c4, if_pos c14]
      exact ⟨rfl, rfl, _, hX⟩
  · refine g_ldc (-1000002) C wd_415 dX11_stand_7 ?_
    refine g_iret C E dX11_stand_9 (by decide) ?_
    unfold xStand
    rw [if_pos c4]
    exact ⟨rfl, rfl, _, hX⟩
set_option maxRecDepth 20000 in
theorem ct_X11_rest {X : XT} {ℓ : Int → Int} {F : gM} {n : Int} {M : gM} (hX : XL X ℓ F n M) (hO : xOK X)  : CT yX11_rest cX11_rest 1 (some .int) (rmk 3 0 0) [vr 0] M n (xPost (xRest X) F n) := by
  refine CT.of (by decide) (fun _ => Nat.le_of_ble_eq_true rfl) (fun κ C E => ?_)
  show G κ M n [some (vr 0)] 0 [] 0 0
  have hc := hO.c
  have htd := hO.td
  refine s_n0_aload C dX11_rest_0 ?_
  refine g_get C fd_X11_133_11 dX11_rest_1 hX.o rfl ?_
  refine g_if_ne 10 C dX11_rest_4 (by decide) (by first | assumption | (unfold iR; omega)) (fun c4 => ?_) (fun c4 => ?_)
  · refine s_n0_aload C dX11_rest_10 ?_
    refine g_invV C (ct_X11_keepAct hX hO) hX.o cv_X11_164_11 (rmk_ok (by decide) (by decide) (by decide) (by decide)) (Nat.le_of_ble_eq_true rfl) rfl dX11_rest_11 rfl (fun r M9 n9 hq => ?_)
    obtain ⟨hr9, hn9, hX, hk9⟩ := hq
    subst hr9
    rw [hn9]
    show G κ _ _ _ _ _ 0 0
    have hO := xKeep_ok hO
    have hc := hO.c
    refine s_n0_aload C dX11_rest_14 ?_
    refine g_get C fd_X11_58_11 dX11_rest_15 hX.o rfl ?_
    refine g_getN C fd_X11_157_8 dX11_rest_18 (hX.cur hc) rfl ?_
    refine s_n0_aload C dX11_rest_21 ?_
    refine g_get C fd_X11_58_11 dX11_rest_22 hX.o rfl ?_
    refine g_getN C fd_X11_192_8 dX11_rest_25 (hX.cur hc) rfl ?_
    refine g_invV C ((k_sink (S := xC (xKeep X)) (k := xK (xKeep X)) hO.cs (by have := hO.sk; omega)).conv (SL_self (hX.csf hc)) rfl) (hX.csf hc).1 cv_X11_195_7 (rmk_ok (by decide) (by decide) (by decide) (by decide)) (Nat.le_of_ble_eq_true rfl) rfl dX11_rest_28 rfl (q_v0 ?_)
    have hX := hX.uc hc (sfSink (xC (xKeep X)) (xK (xKeep X)))
    refine s_n0_aload C dX11_rest_31 ?_
    refine g_get C fd_X11_58_11 dX11_rest_32 hX.o rfl ?_
    refine g_getN C fd_X11_157_8 dX11_rest_35 (hX.cur hc) rfl ?_
    refine g_invV C (k_allR (hX.csf hc)) (hX.csf hc).1 cv_X11_198_7 (rmk_ok (by decide) (by decide) (by decide) (by decide)) (Nat.le_of_ble_eq_true rfl) rfl dX11_rest_38 rfl (q_r0 ?_)
    refine g_iret C E dX11_rest_41 (by decide) ?_
    unfold xRest
    rw [if_neg c4]
    exact ⟨rfl, rfl, _, hX⟩
  · refine g_ldc (-1000002) C wd_415 dX11_rest_7 ?_
    refine g_iret C E dX11_rest_9 (by decide) ?_
    unfold xRest
    rw [if_pos c4]
    exact ⟨rfl, rfl, _, hX⟩
def xFeed (X : XT) (a : Int) : Int × XT := if ¬ (0 ≤ a ∧ a ≤ 255) then (-1000001, X) else if 120 ≤ X.1 6 then (-1000003, X) else (X.1 6 + 1, (fu X.1 6 (X.1 6 + 1), fu X.2.1 0 (up (X.2.1 0) (X.1 6) a), X.2.2))
set_option maxRecDepth 20000 in
theorem ct_X11_feed {X : XT} {ℓ : Int → Int} {F : gM} {n : Int} {M : gM} (hX : XL X ℓ F n M) (hO : xOK X) {a : Int} (ha : iR a) : CT yX11_feed cX11_feed 2 (some .int) (rmk 1 0 0) [vr 0, vi a] M n (xPost (xFeed X a) F n) := by
  refine CT.of (by decide) (fun _ => Nat.le_of_ble_eq_true rfl) (fun κ C E => ?_)
  show G κ M n [some (vr 0), some (vi a)] 0 [] 0 0
  have hc := hO.c
  have h6 := hO.tp.2
  refine s_n1_iload C dX11_feed_0 ?_
  refine g_iconst C dX11_feed_1 ?_
  refine g_sipush C dX11_feed_2 (by decide) ?_
  refine g_invS C (ct_X11_isWithin (by first | assumption | (unfold iR; omega)) (by first | assumption | (unfold iR; omega)) (by first | assumption | (unfold iR; omega))) cs_X11_70 (rmk_ok (by decide) (by decide) (by decide) (by decide)) (Nat.le_of_ble_eq_true rfl) rfl dX11_feed_5 rfl (q_r0 ?_)
  refine g_bifne 14 C dX11_feed_8 (by decide)  (fun c8 => ?_) (fun c8 => ?_)
  · refine s_n0_aload C dX11_feed_14 ?_
    refine g_get C fd_X11_18_11 dX11_feed_15 hX.o rfl ?_
    refine s_n1_iload C dX11_feed_18 ?_
    refine g_invV C ((ct_X9_append (b := X.2.1 0) (wy := X.2.1 1) (ln := X.1 6) (at_ := X.1 7) (fn := X.1 8) (x := a) hO.tp.2).conv (TP_self hX.tp) rfl) hX.tp.1 cv_X11_114_9 (rmk_ok (by decide) (by decide) (by decide) (by decide)) (Nat.le_of_ble_eq_true rfl) rfl dX11_feed_19 rfl (fun r M9 n9 hq => ?_)
    obtain ⟨hn9, hq⟩ := hq
    rw [hn9]
    show G κ _ _ _ _ _ 0 0
    rcases hq with ⟨q1, hr9, hm9⟩ | ⟨q1, hr9, hm9⟩
    · subst hr9
      rw [hm9, show TP 2 (X.2.1 0, X.2.1 1, X.1 6, X.1 7, X.1 8) M = M from TP_self hX.tp]
      refine g_if_eq 35 C dX11_feed_22 (by decide) (by first | assumption | (unfold iR; omega)) (fun c22 => ?_) (fun c22 => by exfalso; omega)
      refine g_ldc (-1000003) C wd_398 dX11_feed_35 ?_
      refine g_iret C E dX11_feed_37 (by decide) ?_
      unfold xFeed
      rw [if_neg (not_not_intro c8), if_pos q1]
      exact ⟨rfl, rfl, _, hX⟩
    · subst hr9
      rw [hm9]
      have hX := hX.ut (up (X.2.1 0) (X.1 6) a, X.2.1 1, X.1 6 + 1, X.1 7, X.1 8)
      refine g_if_eq 35 C dX11_feed_22 (by decide) (by first | assumption | (unfold iR; omega)) (fun c22 => by exfalso; omega) (fun c22 => ?_)
      refine s_n0_aload C dX11_feed_25 ?_
      refine g_get C fd_X11_18_11 dX11_feed_26 hX.o rfl ?_
      refine g_getN C fd_X11_117_9 dX11_feed_29 hX.tp.1 rfl ?_
      refine g_goto 37 C dX11_feed_32 (by decide) ?_
      refine g_iret C E dX11_feed_37 (by decide) ?_
      unfold xFeed
      rw [if_neg (not_not_intro c8), if_neg (by omega)]
      refine ⟨rfl, rfl, ℓ, ?_⟩
      have e1 : fu (fu (fu X.1 6 (X.1 6 + 1)) 7 (X.1 7)) 8 (X.1 8) = fu X.1 6 (X.1 6 + 1) := by funext j; unfold fu; (repeat' split) <;> first | rfl | omega | (subst_vars; rfl)
      have e2 : fu (fu X.2.1 0 (up (X.2.1 0) (X.1 6) a)) 1 (X.2.1 1) = fu X.2.1 0 (up (X.2.1 0) (X.1 6) a) := by funext j; unfold fu; (repeat' split) <;> first | rfl | omega | (subst_vars; rfl)
      dsimp only at hX
      rw [e1, e2] at hX
      exact hX
  · refine g_ldc (-1000001) C wd_364 dX11_feed_11 ?_
    refine g_iret C E dX11_feed_13 (by decide) ?_
    unfold xFeed
    rw [if_pos c8]
    exact ⟨rfl, rfl, _, hX⟩
