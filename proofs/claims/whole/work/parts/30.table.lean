/-! PadPolish: table -/
def xEq (X Y : XT) : Prop := (∀ k, 0 ≤ k → k ≤ 6 → X.1 k = Y.1 k) ∧ X.2.1 0 = Y.2.1 0 ∧ X.2.1 2 = Y.2.1 2 ∧ X.2.2.1 = Y.2.2.1 ∧ (∀ k, ¬ k = 24 → ¬ k = 26 - Y.1 5 → X.2.2.2.1 k = Y.2.2.2.1 k) ∧ X.2.2.2.2.1 = Y.2.2.2.2.1 ∧ ∀ k, ¬ k = 1 - Y.1 5 → X.2.2.2.2.2 k = Y.2.2.2.2.2 k
theorem XL.un {X : XT} {ℓ : Int → Int} {F : gM} {n : Int} {M : gM} (h : XL X ℓ F n M) (hc : 0 ≤ X.1 5 ∧ X.1 5 ≤ 1) {M1 : gM} {n2 sk : Int} {ps : PST} (e1 : ∀ a, a < n → ¬ a = 22 - 6 * X.1 5 → M1 a = M a) (e2 : M1 (22 - 6 * X.1 5) = some (gO 8 [vr (22 - 6 * X.1 5 + 1), vr n, vi sk])) (e3 : lsB M1 n2 n ps) : XL (X.1, X.2.1, X.2.2.1, X.2.2.2.1, X.2.2.2.2.1, fu X.2.2.2.2.2 (1 - X.1 5) (ps, sk)) (fu ℓ (1 - X.1 5) n) F n2 M1 := by
  have hn := h.n1
  have hl := e3.ls
  obtain ⟨mc, e, er, pa, wy, b1, b2, b3, b4, b5, b6⟩ := e3
  have et : tA (1 - X.1 5) = 22 - 6 * X.1 5 := by unfold tA; rw [if_pos (by omega)]; omega
  have ag : ∀ a, a < 164 → ¬ a = 22 - 6 * X.1 5 → M1 a = M a := fun a ha => e1 a (by omega)
  refine ⟨?_, ?_, ?_, ?_, ?_, ?_, ?_, ?_, ?_, ?_, ?_, ?_, ?_, ?_, ?_, ?_⟩
  · exact (ag _ (by omega) (by omega)).trans h.o
  · exact (ag _ (by omega) (by omega)).trans h.r1
  · exact (ag _ (by omega) (by omega)).trans h.r5
  · exact (ag _ (by omega) (by omega)).trans h.r7
  · exact h.tp.ag (fun a a1 a2 => ag a (by omega) (by omega))
  · exact (ag _ (by omega) (by omega)).trans h.b6
  · exact (ag _ (by omega) (by omega)).trans h.t14
  · exact (ag _ (by omega) (by omega)).trans h.t15
  · exact fun k k1 k2 => (h.rw k k1 k2).ag (fun a a1 a2 => ag a (by omega) (by omega))
  · exact fun k k1 k2 => (h.sf k k1 k2).ag (fun a a1 a2 => by have b := sA_b k1 k2; exact ag a (by omega) (by omega))
  · exact h.tr.ag (fun a a1 a2 => ag a (by omega) (by omega))
  · intro k k1 k2
    have b := tA_b k1 k2
    by_cases ek : k = 1 - X.1 5
    · rw [ek, et]
      show _ = some (gO 8 [_, vr (fu ℓ _ n (1 - X.1 5)), vi (fu X.2.2.2.2.2 (1 - X.1 5) (ps, sk) (1 - X.1 5)).2])
      rw [fu_same, fu_same]
      exact e2
    · have hne := tA_ne k1 k2 (show 0 ≤ 1 - X.1 5 by omega) (by omega) ek
      rw [et] at hne
      show _ = some (gO 8 [_, vr (fu ℓ _ n k), vi (fu X.2.2.2.2.2 (1 - X.1 5) (ps, sk) k).2])
      rw [fu_ne _ _ ek, fu_ne _ _ ek, ag _ (by omega) hne]
      exact h.tb k k1 k2
  · intro k k1 k2
    by_cases ek : k = 1 - X.1 5
    · rw [ek]
      show lsI _ (fu ℓ _ n _) (fu X.2.2.2.2.2 (1 - X.1 5) (ps, sk) (1 - X.1 5)).1
      rw [fu_same, fu_same]
      exact hl
    · show lsI _ (fu ℓ _ n _) (fu X.2.2.2.2.2 (1 - X.1 5) (ps, sk) k).1
      rw [fu_ne _ _ ek, fu_ne _ _ ek]
      refine (h.ls k k1 k2).keep (fun a a1 a2 => ?_)
      have hlt : a < n := Int.not_le.mp (fun q => a2 (h.fr a q))
      unfold LR at a1
      exact e1 a hlt (by omega)
  · exact fun a a1 a2 => (ag a a2 (by omega)).trans (h.rf a a1 a2)
  · omega
  · exact b6
theorem XL.ud {X : XT} {ℓ : Int → Int} {F : gM} {n : Int} {M : gM} (h : XL X ℓ F n M) (hc : 0 ≤ X.1 5 ∧ X.1 5 ≤ 1) (S : SLT) : XL (xSf X (26 - X.1 5) S) ℓ F n (SL (22 - 6 * X.1 5 + 1) S M) := by
  have e : sA (26 - X.1 5) = 22 - 6 * X.1 5 + 1 := by unfold sA; rw [if_neg (by omega), if_neg (by omega), if_pos (by omega)]; omega
  have := h.us (k0 := 26 - X.1 5) S (by omega) (by omega)
  rwa [e] at this
theorem rdAll_01 {T : TPT} (hT : tpOK (tAt T 0)) : (rdAll T).1 = 0 ∨ (rdAll T).1 = 1 := by
  unfold rdAll
  split
  · exact Or.inl rfl
  split
  · exact Or.inl rfl
  exact rpN_01 6 _ psNil
def xTable (X : XT) : Int × XT := if (rdAll (xTape X)).1 = 0 then (-1000100 - (rdAll (xTape X)).2.1.2.2.2.1, (fu (fu X.1 6 0) 1 (rdAll (xTape X)).2.1.2.2.2.2, X.2)) else ((rdAll (xTape X)).2.2.2.2.1, (fu (fu (fu (fu X.1 6 0) 5 (1 - X.1 5)) 0 1) 3 0, X.2.1, X.2.2.1, fu X.2.2.2.1 (26 - X.1 5) (rdAll (xTape X)).2.2.1, X.2.2.2.2.1, fu X.2.2.2.2.2 (1 - X.1 5) ((rdAll (xTape X)).2.2.2.2, (rdAll (xTape X)).2.2.2.1)))
def xR (res : Int × XT) (F : gM) : gPost := fun r M n' => r = some (vi res.1) ∧ ∃ (ℓ : Int → Int) (X' : XT), XL X' ℓ F n' M ∧ xEq X' res.2 ∧ sfOK (X'.2.2.2.1 24)
theorem xEq_rfl (X : XT) : xEq X X := ⟨fun _ _ _ => rfl, rfl, rfl, rfl, fun _ _ _ => rfl, rfl, fun _ _ => rfl⟩
theorem xPost_R {res : Int × XT} {F : gM} {n : Int} (h : sfOK (res.2.2.2.2.1 24)) : ∀ r M n', xPost res F n r M n' → xR res F r M n' := fun r M n' ⟨h1, h2, ℓ, h3⟩ => ⟨h1, ℓ, res.2, by rw [h2]; exact h3, xEq_rfl _, h⟩
theorem xQ_R {res : Int × XT} {F : gM} {n : Int} : ∀ r M n', xQ res F n r M n' → xR res F r M n' := fun r M n' ⟨h1, h2, ℓ, S, t, b, hS, h3⟩ => ⟨h1, ℓ, xG res.2 S t b, by rw [h2]; exact h3, ⟨fun _ _ _ => rfl, rfl, rfl, rfl, fun k k1 _ => fu_ne _ _ k1, rfl, fun _ _ => rfl⟩, by show sfOK (fu res.2.2.2.2.1 24 S 24); rw [fu_same]; exact hS⟩
theorem TPg_len0 {o : Int} {T : TPT} {M : gM} (h : TPi o T M) (x : Int) : gu M o (gO 9 ([vr (o + 1), vr (o + 2), vi T.2.2.1, vi T.2.2.2.1, vi T.2.2.2.2].set 2 (vi x))) = TP o (T.1, T.2.1, x, T.2.2.2) M := by
  have h2 := TP_self h
  obtain ⟨b, wy, ln, a, f⟩ := T
  have e := TP_p2 o b wy ln a f M x
  rw [h2] at e
  exact e
theorem xswap (sc : Int → Int) : gO 11 (((xObj sc).set 9 (vr (22 - 6 * sc 5))).set 10 (vr (16 + 6 * sc 5))) = gO 11 (xObj (fu sc 5 (1 - sc 5))) := by
  show gO 11 [vr 1, vr 2, vr 5, vr 6, vr 7, vr 8, vr 12, vr 14, vr 15, vr (22 - 6 * sc 5), vr (16 + 6 * sc 5), vi (sc 0), vi (sc 1), vi (sc 2), vi (sc 3), vi (sc 4)] = gO 11 [vr 1, vr 2, vr 5, vr 6, vr 7, vr 8, vr 12, vr 14, vr 15, vr (16 + 6 * (1 - sc 5)), vr (22 - 6 * (1 - sc 5)), vi (sc 0), vi (sc 1), vi (sc 2), vi (sc 3), vi (sc 4)]
  rw [show 16 + 6 * (1 - sc 5) = 22 - 6 * sc 5 by omega, show 22 - 6 * (1 - sc 5) = 16 + 6 * sc 5 by omega]
theorem fu3_nm (f : Int → Int) (a b c a' b' c' : Int) : fu (fu (fu (fu (fu (fu f 6 a) 7 b) 8 c) 6 a') 7 b') 8 c' = fu (fu (fu f 6 a') 7 b') 8 c' := by
  funext j
  unfold fu
  (repeat' split) <;> first | rfl | omega
theorem fu2_nm (f : Int → Int → Int) (a b a' b' : Int → Int) : fu (fu (fu (fu f 0 a) 1 b) 0 a') 1 b' = fu (fu f 0 a') 1 b' := by
  funext j
  unfold fu
  (repeat' split) <;> first | rfl | omega
theorem tNumV_b (T : TPT) (m v k : Int) : (tNumV T m v k).2.1 = T.1 := by
  unfold tNumV
  split <;> rfl
theorem tNum_by (T : TPT) (m : Int) : (tNum T m).2.1 = T.1 := by
  unfold tNum
  (repeat' split) <;> first | exact tNumV_b _ _ _ _ | rfl
theorem tSign_by (T : TPT) (c : Int) : (tSign T c).2.1 = T.1 := by
  unfold tSign
  split <;> rfl
theorem wayN_by : ∀ (f : Nat) (T : TPT) (c k : Int), (wayN f T c k).2.1 = T.1
  | 0, T, c, k => rfl
  | f + 1, T, c, k => by
    unfold wayN
    (repeat' split) <;> first | rfl | exact wayN_by f _ _ _
theorem tRdWay_by (T : TPT) : (tRdWay T).2.1 = T.1 := by
  unfold tRdWay
  split
  · exact tNum_by _ _
  · exact (wayN_by _ _ _ _).trans (tNum_by _ _)
theorem rdLaw_by (T : TPT) (S : SLT) (sk : Int) : (rdLaw T S sk).2.1.1 = T.1 := by
  unfold rdLaw
  (repeat' split) <;> simp only [tSign_by, tNum_by]
theorem rcN_by : ∀ (f : Nat) (T : TPT) (S : SLT) (a b : Int), (rcN f T S a b).2.1.1 = T.1
  | 0, T, S, a, b => rfl
  | f + 1, T, S, a, b => by
    unfold rcN
    (repeat' split) <;> first | rfl | (simp only [tRef, tAt, tSign_by, tNum_by]; done) | (rw [rcN_by f]; simp only [tRef, tAt, tSign_by, tNum_by])
theorem rpN_by : ∀ (f : Nat) (T : TPT) (ps : PST), (rpN f T ps).2.1.1 = T.1
  | 0, T, ps => rfl
  | f + 1, T, ps => by
    unfold rpN
    (repeat' split) <;> first | rfl | (simp only [tRef, tAt, tSign_by, tNum_by, tRdWay_by]; done) | (rw [rpN_by f]; simp only [tRef, tAt, tSign_by, tNum_by, tRdWay_by])
theorem rdAll_by (T : TPT) : (rdAll T).2.1.1 = T.1 := by
  unfold rdAll
  split
  · exact rdLaw_by _ _ _
  split
  · exact (rcN_by _ _ _ _ _).trans (rdLaw_by _ _ _)
  · exact (rpN_by _ _ _).trans ((rcN_by _ _ _ _ _).trans (rdLaw_by _ _ _))
set_option maxRecDepth 20000 in
theorem ct_X11_table {X : XT} {ℓ : Int → Int} {F : gM} {n : Int} {M : gM} (hX : XL X ℓ F n M) (hO : xOK X)  : CT yX11_table cX11_table 3 (some .int) (rmk 9 13 87) [vr 0] M n (xR (xTable X) F) := by
  refine CT.of (by decide) (fun _ => Nat.le_of_ble_eq_true rfl) (fun κ C E => ?_)
  show G κ M n [some (vr 0), none, none] 0 [] 0 0
  have hc := hO.c
  have htp := hO.tp
  have hT : tpOK (tAt (xTape X) 0) := ⟨htp.1, htp.2.1, htp.2.2, (by show (0 : Int) ≤ 0; decide), htp.2.1⟩
  have h01 := rdAll_01 hT
  have hself : TP 2 (xTape X) (SL (22 - 6 * X.1 5 + 1) (X.2.2.2.1 (26 - X.1 5)) M) = M := by rw [SL_self (hX.dsf hc)]; exact TP_self hX.tp
  have hby : (rdAll (xTape X)).2.1.1 = X.2.1 0 := rdAll_by (xTape X)
  refine s_n0_aload C dX11_table_0 ?_
  refine g_get C fd_X11_18_11 dX11_table_1 hX.o rfl ?_
  refine s_n0_aload C dX11_table_4 ?_
  refine g_get C fd_X11_62_11 dX11_table_5 hX.o rfl ?_
  refine g_invV C ((ct_X9_readInto (t := 22 - 6 * X.1 5) (T := xTape X) (S := X.2.2.2.1 (26 - X.1 5)) (M := M) hT (hX.dft hc) (by omega) hX.n1 hX.fr).conv hself rfl) hX.tp.1 cv_X11_119_9 (rmk_ok (by decide) (by decide) (by decide) (by decide)) (Nat.le_of_ble_eq_true rfl) rfl dX11_table_8 rfl (fun r M9 n9 hq => ?_)
  obtain ⟨hr9, M1, S1, sk1, ps, hm9, q1, q2, q3, q4, q5⟩ := hq
  subst hr9
  rw [hm9]
  show G κ _ _ _ _ (vi _ :: []) 13 87
  have hX := ((hX.un hc q5 q1 q2).ud hc S1).ut (rdAll (xTape X)).2.1
  refine s_n1_istore C dX11_table_11 rfl ?_
  refine s_n0_aload C dX11_table_12 ?_
  refine g_get C fd_X11_18_11 dX11_table_13 hX.o rfl ?_
  refine g_iconst C dX11_table_16 ?_
  refine g_putN C fp_X11_117_9 dX11_table_17 hX.tp.1 (Nat.le_of_ble_eq_true rfl) (gfit_i _) ?_
  rw [TPg_len0 hX.tp]
  have hX := hX.ut ((rdAll (xTape X)).2.1.1, (rdAll (xTape X)).2.1.2.1, 0, (rdAll (xTape X)).2.1.2.2.2)
  dsimp only at hX
  rw [fu3_nm, fu2_nm] at hX
  refine s_n1_iload C dX11_table_20 ?_
  refine g_if_ne 46 C dX11_table_21 (by decide) (by unfold iR; omega) (fun c21 => ?_) (fun c21 => ?_)
  · have hc2 := hc
    refine s_n0_aload C dX11_table_46 ?_
    refine g_get C fd_X11_58_11 dX11_table_47 hX.o rfl ?_
    refine s_n2_astore C dX11_table_50 rfl ?_
    refine s_n0_aload C dX11_table_51 ?_
    refine s_n0_aload C dX11_table_52 ?_
    refine g_get C fd_X11_62_11 dX11_table_53 hX.o rfl ?_
    refine g_put C fp_X11_58_11 dX11_table_56 hX.o (Nat.le_of_ble_eq_true rfl) (gfit_o _ _) ?_
    refine s_n0_aload C dX11_table_59 ?_
    refine s_n2_aload C dX11_table_60 ?_
    refine g_put C fp_X11_62_11 dX11_table_61 (gu_same ..) (Nat.le_of_ble_eq_true rfl) (gfit_o _ _) ?_
    rw [gu_gu]
    rw [xswap]
    have hX := hX.uo (sc := fu (fu (fu (fu X.1 6 0) 7 (rdAll (xTape X)).2.1.2.2.2.1) 8 (rdAll (xTape X)).2.1.2.2.2.2) 5 (1 - X.1 5)) ⟨rfl, rfl, rfl⟩
    refine s_n0_aload C dX11_table_64 ?_
    refine g_iconst C dX11_table_65 ?_
    refine g_put C fp_X11_133_11 dX11_table_66 hX.o (Nat.le_of_ble_eq_true rfl) (gfit_z (Or.inr rfl)) ?_
    rw [xs11]
    have hX := hX.uo (sc := fu (fu (fu (fu (fu X.1 6 0) 7 (rdAll (xTape X)).2.1.2.2.2.1) 8 (rdAll (xTape X)).2.1.2.2.2.2) 5 (1 - X.1 5)) 0 1) ⟨rfl, rfl, rfl⟩
    refine s_n0_aload C dX11_table_69 ?_
    refine g_invV C (ct_X11_forgetActs hX) hX.o cv_X11_137_11 (rmk_ok (by decide) (by decide) (by decide) (by decide)) (Nat.le_of_ble_eq_true rfl) rfl dX11_table_70 rfl (q_v0 ?_)
    have hX := hX.uo (sc := fu (fu (fu (fu (fu (fu X.1 6 0) 7 (rdAll (xTape X)).2.1.2.2.2.1) 8 (rdAll (xTape X)).2.1.2.2.2.2) 5 (1 - X.1 5)) 0 1) 3 0) ⟨rfl, rfl, rfl⟩
    have hc2 : 0 ≤ 1 - X.1 5 ∧ 1 - X.1 5 ≤ 1 := by omega
    obtain ⟨mc, e, er, pa, wy, l1, l2, l3, l4⟩ := hX.ls (1 - X.1 5) hc2.1 (by omega)
    refine s_n0_aload C dX11_table_73 ?_
    refine g_get C fd_X11_58_11 dX11_table_74 hX.o rfl ?_
    refine g_getN C fd_X11_140_8 dX11_table_77 (hX.cur hc2) rfl ?_
    refine g_invV C (ct_Jx4a65c_size_8abf5 l2) l2 cv_X11_144_0 (rmk_ok (by decide) (by decide) (by decide) (by decide)) (Nat.le_of_ble_eq_true rfl) rfl dX11_table_80 rfl (q_r0 ?_)
    refine g_iret C E dX11_table_83 (by decide) ?_
    have e4 := q4 (h01.resolve_left c21)
    unfold xTable
    rw [if_neg c21, e4]
    refine ⟨?_, _, _, hX, ⟨?_, ?_, rfl, rfl, fun k k1 k2 => rfl, rfl, fun k k1 => rfl⟩, ?_⟩
    · show some (vi (fu X.2.2.2.2.2 (1 - X.1 5) (ps, sk1) (1 - X.1 5)).1.1) = some (vi ps.1)
      rw [fu_same]
    · intro k k0 k6
      show fu (fu (fu (fu (fu (fu X.1 6 0) 7 (rdAll (xTape X)).2.1.2.2.2.1) 8 (rdAll (xTape X)).2.1.2.2.2.2) 5 (1 - X.1 5)) 0 1) 3 0 k = fu (fu (fu (fu X.1 6 0) 5 (1 - X.1 5)) 0 1) 3 0 k
      simp only [fu]
      (repeat' split) <;> first | rfl | omega
    · show fu (fu X.2.1 0 (rdAll (xTape X)).2.1.1) 1 (rdAll (xTape X)).2.1.2.1 0 = X.2.1 0
      exact hby
    · show sfOK (fu X.2.2.2.1 (26 - X.1 5) S1 24)
      rw [fu_ne _ _ (by omega)]
      exact hO.gs
  · refine s_n0_aload C dX11_table_24 ?_
    refine s_n0_aload C dX11_table_25 ?_
    refine g_get C fd_X11_18_11 dX11_table_26 hX.o rfl ?_
    refine g_getN C fd_X11_123_9 dX11_table_29 hX.tp.1 rfl ?_
    refine g_put C fp_X11_126_11 dX11_table_32 hX.o (Nat.le_of_ble_eq_true rfl) (gfit_i _) ?_
    rw [xs12]
    have hX := hX.uo (sc := fu (fu (fu (fu X.1 6 0) 7 (rdAll (xTape X)).2.1.2.2.2.1) 8 (rdAll (xTape X)).2.1.2.2.2.2) 1 (rdAll (xTape X)).2.1.2.2.2.2) ⟨rfl, rfl, rfl⟩
    refine g_ldc (-1000100) C wd_405 dX11_table_35 ?_
    refine s_n0_aload C dX11_table_37 ?_
    refine g_get C fd_X11_18_11 dX11_table_38 hX.o rfl ?_
    refine g_getN C fd_X11_130_9 dX11_table_41 hX.tp.1 rfl ?_
    refine g_isub C dX11_table_44 ?_
    refine g_iret C E dX11_table_45 (by decide) ?_
    unfold xTable
    rw [if_pos c21]
    refine ⟨rfl, _, _, hX, ⟨?_, ?_, rfl, rfl, fun k k1 k2 => fu_ne _ _ k2, rfl, fun k k1 => fu_ne _ _ k1⟩, ?_⟩
    · intro k k0 k6
      show fu (fu (fu (fu X.1 6 0) 7 (rdAll (xTape X)).2.1.2.2.2.1) 8 (rdAll (xTape X)).2.1.2.2.2.2) 1 (rdAll (xTape X)).2.1.2.2.2.2 k = fu (fu X.1 6 0) 1 (rdAll (xTape X)).2.1.2.2.2.2 k
      simp only [fu]
      (repeat' split) <;> first | rfl | omega
    · show fu (fu X.2.1 0 (rdAll (xTape X)).2.1.1) 1 (rdAll (xTape X)).2.1.2.1 0 = X.2.1 0
      exact hby
    · show sfOK (fu X.2.2.2.1 (26 - X.1 5) S1 24)
      rw [fu_ne _ _ (by omega)]
      exact hO.gs
