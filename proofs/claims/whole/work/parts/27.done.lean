/-! PadPolish: done, evenings, over -/
theorem xP_k4 (X : XT) (v : Int) : xP (xS X 4 v) = xP X := by
  unfold xP
  rw [show (xS X 4 v).1 5 = X.1 5 from fu_ne (k := 4) (j := 5) X.1 v (by decide)]
theorem XL.cg {X : XT} {ℓ : Int → Int} {F : gM} {n : Int} {M : gM} {S S2 : SLT} (h : XL (xSf X 24 S) ℓ F n M) (e : S2 = S) : XL (xSf X 24 S2) ℓ F n M := e ▸ h
def dnT (X : XT) (r i set : Int) : Bool := decide (allI (fun c => decide ((X.2.2.1 r).1 (i + c) = (psSome (xP X) set (xC X)).1 c)) 15 = 1)
def dnA (X : XT) : Int := bShl 1 (xP X).1 - 1
def dnN (X : XT) (r i k : Int) : Int × Int := itI (fun j c => if dnT X r i (dnA X - j) then (c.1 + 1, dnA X - j) else c) (0, -1000000) k
def xDone (X : XT) (r i b : Int) : Int × XT := if X.1 0 = 0 then (-1000002, X) else if ¬ (0 ≤ r ∧ r ≤ 7) then (-1000001, X) else if ¬ (0 ≤ b ∧ b ≤ 1) then (-1000001, X) else if (X.2.2.1 r).2.2 = -1 then (-1000011, xS X 4 1) else if ¬ (0 ≤ i ∧ 0 ≤ (15 : Int) ∧ 15 ≤ (X.2.2.1 r).2.2 - i) then (-1000012, xS X 4 2) else (if b = 0 then (dnN X r i (dnA X + 1)).1 else (dnN X r i (dnA X + 1)).2, xS X 4 0)
theorem psA_b {ps : PST} (h : psOK ps) : (ps.1 = 0 ∧ bShl 1 ps.1 - 1 = 0) ∨ (ps.1 = 1 ∧ bShl 1 ps.1 - 1 = 1) ∨ (ps.1 = 2 ∧ bShl 1 ps.1 - 1 = 3) ∨ (ps.1 = 3 ∧ bShl 1 ps.1 - 1 = 7) ∨ (ps.1 = 4 ∧ bShl 1 ps.1 - 1 = 15) := by
  have h1 := h.1
  have h2 := h.2.1
  rcases (show ps.1 = 0 ∨ ps.1 = 1 ∨ ps.1 = 2 ∨ ps.1 = 3 ∨ ps.1 = 4 by omega) with e | e | e | e | e <;> rw [e] <;> decide
theorem k_tells {o : Int} {R : RWT} {M : gM} {n : Int} {i q : Int} {S : SLT} (h : RWi o R M) (hR : rowOK R) (hS : sfOK S) (hq : SLi q S M) (hd : q + 4 ≤ o ∨ o + 2 ≤ q) (hi : 0 ≤ i ∧ i + 15 ≤ 40) : CT yX3_tellsFilm cX3_tellsFilm 4 (some .boolean) (rmk 0 0 0) [vr o, vi i, vr q] M n (qr (some (vi (allI (fun c => decide (R.1 (i + c) = S.1 c)) 15))) M n) := by
  have h2 : RW o R M = M := RW_self h
  obtain ⟨t, ln, k⟩ := R
  have := ct_X3_tellsFilm (o := o) (t := t) (ln := ln) (k := k) (M := M) (n := n) hR hS hq hd hi
  rwa [h2] at this
set_option maxRecDepth 20000 in
theorem ct_X11_done {X : XT} {ℓ : Int → Int} {F : gM} {n : Int} {M : gM} (hX : XL X ℓ F n M) (hO : xOK X) {r i b : Int} (hr : iR r) (hi : iR i) (hb : iR b) : CT yX11_done cX11_done 8 (some .int) (rmk 6 0 0) [vr 0, vi r, vi i, vi b] M n (xQ (xDone X r i b) F n) := by
  refine CT.of (by decide) (fun _ => Nat.le_of_ble_eq_true rfl) (fun κ C E => ?_)
  show G κ M n [some (vr 0), some (vi r), some (vi i), some (vi b), none, none, none, none] 0 [] 0 0
  have hc := hO.c
  have htd := hO.td
  have hA := psA_b hO.ps
  have hAd : dnA X = bShl 1 (xP X).1 - 1 := rfl
  have lp : ∀ (m : Nat) (j : Int) (Mc : gM) (S0 : SLT), XL (xSf X 24 S0) ℓ F n Mc → sfOK S0 → ¬ X.1 0 = 0 → (0 ≤ r ∧ r ≤ 7) → (0 ≤ b ∧ b ≤ 1) → ¬ (X.2.2.1 r).2.2 = -1 → (0 ≤ i ∧ 0 ≤ (15 : Int) ∧ 15 ≤ (X.2.2.1 r).2.2 - i) → 0 ≤ j ∧ j ≤ dnA X + 1 → (dnA X + 1 - j).toNat = m → G κ Mc n [some (vr 0), some (vi r), some (vi i), some (vi b), some (vr (28 + 2 * r)), some (vi (dnN X r i j).1), some (vi (dnN X r i j).2), some (vi (dnA X - j))] 81 [] 0 0 := by
    intro m
    induction m using Nat.strongRecOn with
    | ind m ih =>
      intro j Mc S0 hX hS0 q1 q2 q3 q4 q5 h1 hm
      have hrw := hO.rw r q2.1 (by omega)
      have hr40 := hrw.2.2.2.2
      have hS2 : sfOK (psSome (xP X) (dnA X - j) (xC X)) := psSome_ok hO.ps hO.cs
      have htb := allI_b (fun c => decide ((X.2.2.1 r).1 (i + c) = (psSome (xP X) (dnA X - j) (xC X)).1 c)) (i := 15) (by decide)
      have es : dnN X r i (j + 1) = (if dnT X r i (dnA X - j) then ((dnN X r i j).1 + 1, dnA X - j) else dnN X r i j) := itI_s _ _ h1.1
      refine s_w7_iload C dX11_done_81 ?_
      refine g_if_lt 139 C dX11_done_83 (by decide) (by unfold iR; omega) (fun c83 => ?_) (fun c83 => ?_)
      · refine s_n0_aload C dX11_done_139 ?_
        refine s_n3_iload C dX11_done_140 ?_
        refine g_if_ne 149 C dX11_done_141 (by decide) (by first | assumption | (unfold iR; omega)) (fun c141 => ?_) (fun c141 => ?_)
        · refine s_w6_iload C dX11_done_149 ?_
          refine g_invV C (ct_X11_unfound hX) hX.o cv_X11_83_11 (rmk_ok (by decide) (by decide) (by decide) (by decide)) (Nat.le_of_ble_eq_true rfl) rfl dX11_done_151 rfl (q_r0 ?_)
          have hX := hX.uo (sc := fu X.1 4 0) ⟨rfl, rfl, rfl⟩
          refine g_iret C E dX11_done_154 (by decide) ?_
          unfold xDone
          rw [if_neg q1, if_neg (not_not_intro q2), if_neg (not_not_intro q3), if_neg q4, if_neg (not_not_intro q5)]
          have ej : j = dnA X + 1 := by omega
          subst ej
          rw [if_neg (by omega)]
          exact ⟨rfl, rfl, xQ_of (res := (_, xS X 4 0)) hS0 hX⟩
        · refine s_w5_iload C dX11_done_144 ?_
          refine g_goto 151 C dX11_done_146 (by decide) ?_
          refine g_invV C (ct_X11_unfound hX) hX.o cv_X11_83_11 (rmk_ok (by decide) (by decide) (by decide) (by decide)) (Nat.le_of_ble_eq_true rfl) rfl dX11_done_151 rfl (q_r0 ?_)
          have hX := hX.uo (sc := fu X.1 4 0) ⟨rfl, rfl, rfl⟩
          refine g_iret C E dX11_done_154 (by decide) ?_
          unfold xDone
          rw [if_neg q1, if_neg (not_not_intro q2), if_neg (not_not_intro q3), if_neg q4, if_neg (not_not_intro q5)]
          have ej : j = dnA X + 1 := by omega
          subst ej
          rw [if_pos (by omega)]
          exact ⟨rfl, rfl, xQ_of (res := (_, xS X 4 0)) hS0 hX⟩
      · refine s_n0_aload C dX11_done_86 ?_
        refine g_get C fd_X11_39_11 dX11_done_87 hX.o rfl ?_
        refine s_n0_aload C dX11_done_90 ?_
        refine g_get C fd_X11_58_11 dX11_done_91 hX.o rfl ?_
        refine g_getN C fd_X11_157_8 dX11_done_94 (hX.cur hc) rfl ?_
        refine g_invV C ((k_become (S := S0) (T := xC X) (hX.cs24 hc) (by show _ + 4 ≤ 8 ∨ 8 + 4 ≤ 16 + 6 * X.1 5 + 1; omega)).conv (SL_self hX.g24) rfl) hX.g24.1 cv_X11_160_7 (rmk_ok (by decide) (by decide) (by decide) (by decide)) (Nat.le_of_ble_eq_true rfl) rfl dX11_done_97 rfl (q_v0 ?_)
        have hX := hX.ugg (xC X)
        refine s_n0_aload C dX11_done_100 ?_
        refine g_get C fd_X11_58_11 dX11_done_101 hX.o rfl ?_
        refine s_w7_iload C dX11_done_104 ?_
        refine s_n0_aload C dX11_done_106 ?_
        refine g_get C fd_X11_39_11 dX11_done_107 hX.o rfl ?_
        refine g_invV C ((ct_X8_makeSome (t := 16 + 6 * X.1 5) (o := 8) (ps := xP X) (S := xC X) (set := dnA X - j) hO.ps hO.cs (hX.cur hc) (hX.ls (X.1 5) hc.1 (by show X.1 5 < 4; omega)) (fun a h => LR8 h) (by show _ ∨ _; omega)).conv (SL_self hX.g24) rfl) (hX.cur hc) cv_X11_250_8 (rmk_ok (by decide) (by decide) (by decide) (by decide)) (Nat.le_of_ble_eq_true rfl) rfl dX11_done_110 rfl (q_v0 ?_)
        have hX := hX.ugg (psSome (xP X) (dnA X - j) (xC X))
        refine s_w4_aload C dX11_done_113 ?_
        refine s_n2_iload C dX11_done_115 ?_
        refine s_n0_aload C dX11_done_116 ?_
        refine g_get C fd_X11_39_11 dX11_done_117 hX.o rfl ?_
        refine g_invV C (k_tells (R := X.2.2.1 r) (hX.rw r q2.1 (by omega)) hrw hS2 hX.g24 (by omega) (by omega)) (hX.rw r q2.1 (by omega)).1 cv_X11_254_3 (rmk_ok (by decide) (by decide) (by decide) (by decide)) (Nat.le_of_ble_eq_true rfl) rfl dX11_done_120 rfl (q_r0 ?_)
        refine g_if_eq 133 C dX11_done_123 (by decide) (by unfold iR; omega) (fun c123 => ?_) (fun c123 => ?_)
        · refine s_w7_iinc C dX11_done_133 rfl ?_
          refine g_goto 81 C dX11_done_136 (by decide) ?_
          have et : dnT X r i (dnA X - j) = false := decide_eq_false (by show ¬ allI _ 15 = 1; rw [c123]; decide)
          rw [et] at es
          have es : dnN X r i (j + 1) = dnN X r i j := es
          rw [← es]
          have := ih _ (by omega) (j + 1) _ _ hX hS2 q1 q2 q3 q4 q5 (by omega) rfl
          rwa [show dnA X - (j + 1) = dnA X - j + -1 by omega] at this
        · refine s_w5_iinc C dX11_done_126 rfl ?_
          refine s_w7_iload C dX11_done_129 ?_
          refine s_w6_istore C dX11_done_131 rfl ?_
          refine s_w7_iinc C dX11_done_133 rfl ?_
          refine g_goto 81 C dX11_done_136 (by decide) ?_
          have et : dnT X r i (dnA X - j) = true := decide_eq_true (htb.resolve_left c123)
          rw [et, if_pos rfl] at es
          have := ih _ (by omega) (j + 1) _ _ hX hS2 q1 q2 q3 q4 q5 (by omega) rfl
          rw [es] at this
          rwa [show dnA X - (j + 1) = dnA X - j + -1 by omega] at this
  refine s_n0_aload C dX11_done_0 ?_
  refine g_get C fd_X11_133_11 dX11_done_1 hX.o rfl ?_
  refine g_if_ne 10 C dX11_done_4 (by decide) (by first | assumption | (unfold iR; omega)) (fun c4 => ?_) (fun c4 => ?_)
  · refine s_n1_iload C dX11_done_10 ?_
    refine g_invS C (ct_X11_isRow (by assumption)) cs_X11_66 (rmk_ok (by decide) (by decide) (by decide) (by decide)) (Nat.le_of_ble_eq_true rfl) rfl dX11_done_11 rfl (q_r0 ?_)
    refine g_bifeq 26 C dX11_done_14 (by decide)  (fun c14 => ?_) (fun c14 => ?_)
    · refine g_ldc (-1000001) C wd_364 dX11_done_26 ?_
      refine g_iret C E dX11_done_28 (by decide) ?_
      unfold xDone
      rw [if_neg c4, if_pos c14]
      exact ⟨rfl, rfl, xQ_of (res := (_, X)) hO.gs hX.ug0⟩
    · refine s_n3_iload C dX11_done_17 ?_
      refine g_iconst C dX11_done_18 ?_
      refine g_iconst C dX11_done_19 ?_
      refine g_invS C (ct_X11_isWithin (by first | assumption | (unfold iR; omega)) (by first | assumption | (unfold iR; omega)) (by first | assumption | (unfold iR; omega))) cs_X11_70 (rmk_ok (by decide) (by decide) (by decide) (by decide)) (Nat.le_of_ble_eq_true rfl) rfl dX11_done_20 rfl (q_r0 ?_)
      refine g_bifne 29 C dX11_done_23 (by decide)  (fun c23 => ?_) (fun c23 => ?_)
      · refine s_n0_aload C dX11_done_29 ?_
        refine g_get C fd_X11_11_11 dX11_done_30 hX.o rfl ?_
        refine s_n1_iload C dX11_done_33 ?_
        refine g_aald C (by decide) dX11_done_34 hX.r1 (by omega) ?_
        refine s_w4_astore C dX11_done_35 rfl ?_
        refine s_w4_aload C dX11_done_37 ?_
        refine g_invV C (k_isMissing (hX.rw r (by omega) (by omega)) (hO.rw r (by omega) (by omega))) (hX.rw r (by omega) (by omega)).1 cv_X11_86_3 (rmk_ok (by decide) (by decide) (by decide) (by decide)) (Nat.le_of_ble_eq_true rfl) rfl dX11_done_39 rfl (q_r0 ?_)
        refine g_bifeq 51 C dX11_done_42 (by decide)  (fun c42 => ?_) (fun c42 => ?_)
        · refine s_w4_aload C dX11_done_51 ?_
          refine s_n2_iload C dX11_done_53 ?_
          refine g_bipush C dX11_done_54 (by decide) ?_
          refine g_invV C (k_reaches (hX.rw r (by omega) (by omega)) (hO.rw r (by omega) (by omega)) (by first | assumption | (unfold iR; omega)) (by first | assumption | (unfold iR; omega))) (hX.rw r (by omega) (by omega)).1 cv_X11_90_3 (rmk_ok (by decide) (by decide) (by decide) (by decide)) (Nat.le_of_ble_eq_true rfl) rfl dX11_done_56 rfl (q_r0 ?_)
          refine g_bifne 68 C dX11_done_59 (by decide)  (fun c59 => ?_) (fun c59 => ?_)
          · refine g_iconst C dX11_done_68 ?_
            refine s_w5_istore C dX11_done_69 rfl ?_
            refine g_ldc (-1000000) C wd_457 dX11_done_71 ?_
            refine s_w6_istore C dX11_done_73 rfl ?_
            refine s_n0_aload C dX11_done_75 ?_
            refine g_invV C (ct_X11_allPasses hX hO) hX.o cv_X11_229_11 (rmk_ok (by decide) (by decide) (by decide) (by decide)) (Nat.le_of_ble_eq_true rfl) rfl dX11_done_76 rfl (q_r0 ?_)
            refine s_w7_istore C dX11_done_79 rfl ?_
            have := lp _ 0 _ _ hX.ug0 hO.gs c4 c14 c23 c42 c59 (by omega) rfl
            rwa [show dnA X - 0 = bShl 1 (xP X).1 - 1 by omega] at this
          · refine s_n0_aload C dX11_done_62 ?_
            refine g_iconst C dX11_done_63 ?_
            refine g_invV C (ct_X11_found hX) hX.o cv_X11_75_11 (rmk_ok (by decide) (by decide) (by decide) (by decide)) (Nat.le_of_ble_eq_true rfl) rfl dX11_done_64 rfl (q_r0 ?_)
            have hX := hX.uo (sc := fu X.1 4 2) ⟨rfl, rfl, rfl⟩
            refine g_iret C E dX11_done_67 (by decide) ?_
            unfold xDone
            rw [if_neg c4, if_neg (not_not_intro c14), if_neg (not_not_intro c23), if_neg c42, if_pos c59]
            exact ⟨rfl, rfl, xQ_of (res := (_, xS X 4 2)) hO.gs hX.ug0⟩
        · refine s_n0_aload C dX11_done_45 ?_
          refine g_iconst C dX11_done_46 ?_
          refine g_invV C (ct_X11_found hX) hX.o cv_X11_75_11 (rmk_ok (by decide) (by decide) (by decide) (by decide)) (Nat.le_of_ble_eq_true rfl) rfl dX11_done_47 rfl (q_r0 ?_)
          have hX := hX.uo (sc := fu X.1 4 1) ⟨rfl, rfl, rfl⟩
          refine g_iret C E dX11_done_50 (by decide) ?_
          unfold xDone
          rw [if_neg c4, if_neg (not_not_intro c14), if_neg (not_not_intro c23), if_pos c42]
          exact ⟨rfl, rfl, xQ_of (res := (_, xS X 4 1)) hO.gs hX.ug0⟩
      · refine g_ldc (-1000001) C wd_364 dX11_done_26 ?_
        refine g_iret C E dX11_done_28 (by decide) ?_
        unfold xDone
        rw [if_neg c4, if_neg (not_not_intro c14), if_pos c23]
        exact ⟨rfl, rfl, xQ_of (res := (_, X)) hO.gs hX.ug0⟩
  · refine g_ldc (-1000002) C wd_415 dX11_done_7 ?_
    refine g_iret C E dX11_done_9 (by decide) ?_
    unfold xDone
    rw [if_pos c4]
    exact ⟨rfl, rfl, xQ_of (res := (_, X)) hO.gs hX.ug0⟩
def evX (x : Int) : Int := x * 16807 % 2147483647
def evP (ps : PST) (x : Int) (S : SLT) : SLT := if ps.1 ≤ 0 then S else pGo (ps.2.1 (x % ps.1)) (ps.2.2.1 (x % ps.1)) (ps.2.2.2 (x % ps.1)) S
def evT (x : Int) (S : SLT) : SLT := if x % 7 = 0 then sfTear S (x % 15) else S
def evN (X : XT) (sd k : Int) : Int × SLT := itI (fun _ q => (evX q.1, evT (evX q.1) (evP (xP X) (evX q.1) q.2))) (sd, xC X) k
def xEvenings (X : XT) (m sd b : Int) : Int × XT := if X.1 0 = 0 then (-1000002, X) else if ¬ (0 ≤ m ∧ m ≤ 30) then (-1000001, X) else if ¬ (1 ≤ sd ∧ sd ≤ 999999) then (-1000001, X) else if ¬ (0 ≤ b ∧ b ≤ 1) then (-1000001, X) else (if b = 0 then sfAll (evN X sd m).2 else sfUneven (evN X sd m).2, X)
theorem evP_ok {ps : PST} {x : Int} {S : SLT} (hp : psOK ps) (hx : 0 ≤ x) (h : sfOK S) : sfOK (evP ps x S) := by
  unfold evP
  split
  · exact h
  · exact pGo_ok (hp.2.2 _ (Int.emod_nonneg _ (by omega)) (Int.emod_lt_of_pos _ (by omega))).2 h
theorem sfTear_ok2 {S : SLT} {c : Int} (hc : 0 ≤ c ∧ c < 15) (h : sfOK S) : sfOK (sfTear S c) := by
  refine ⟨fun j j0 j1 => ?_, h.2⟩
  have b := h.1 j j0 j1
  have b2 := h.1 c hc.1 hc.2
  show 0 ≤ up S.1 c _ j ∧ _ ≤ _ ∧ 0 ≤ up S.2.1 c _ j ∧ _
  unfold sfTear up
  dsimp only
  split <;> omega
theorem evT_ok {x : Int} {S : SLT} (hx : 0 ≤ x) (h : sfOK S) : sfOK (evT x S) := by
  unfold evT
  split
  · exact sfTear_ok2 (by omega) h
  · exact h
theorem lCmp0 (x z : Int) : lCmp x z = 0 ↔ x = z := by
  unfold lCmp
  (repeat' split) <;> omega
theorem lCmp_R (x z : Int) : iR (lCmp x z) := by
  unfold lCmp iR
  (repeat' split) <;> omega
theorem evX_b {x : Int} : 0 ≤ evX x ∧ evX x < 2147483647 := by
  unfold evX
  omega
theorem evN_ok {X : XT} (hO : xOK X) {sd k : Int} (hs : 0 ≤ sd ∧ sd < 2147483647) (hk : 0 ≤ k) : (0 ≤ (evN X sd k).1 ∧ (evN X sd k).1 < 2147483647) ∧ sfOK (evN X sd k).2 := itI_inv (g := fun _ q => (evX q.1, evT (evX q.1) (evP (xP X) (evX q.1) q.2))) (a := (sd, xC X)) (fun _ q => (0 ≤ q.1 ∧ q.1 < 2147483647) ∧ sfOK q.2) ⟨hs, hO.cs⟩ (fun i q _ hq => ⟨evX_b, evT_ok evX_b.1 (evP_ok hO.ps evX_b.1 hq.2)⟩) hk
set_option maxRecDepth 20000 in
theorem ct_X11_evenings {X : XT} {ℓ : Int → Int} {F : gM} {n : Int} {M : gM} (hX : XL X ℓ F n M) (hO : xOK X) {m sd b : Int} (hm : iR m) (hsd : iR sd) (hb : iR b) : CT yX11_evenings cX11_evenings 8 (some .int) (rmk 5 0 0) [vr 0, vi m, vi sd, vi b] M n (xQ (xEvenings X m sd b) F n) := by
  refine CT.of (by decide) (fun _ => Nat.le_of_ble_eq_true rfl) (fun κ C E => ?_)
  show G κ M n [some (vr 0), some (vi m), some (vi sd), some (vi b), none, none, none, none] 0 [] 0 0
  have hc := hO.c
  have htd := hO.td
  have hp1 := hO.ps.1
  have hp2 := hO.ps.2.1
  have lp : ∀ (z : Nat) (j : Int) (Mc : gM), XL (xSf X 24 (evN X sd j).2) ℓ F n Mc → ¬ X.1 0 = 0 → (0 ≤ m ∧ m ≤ 30) → (1 ≤ sd ∧ sd ≤ 999999) → (0 ≤ b ∧ b ≤ 1) → 0 ≤ j ∧ j ≤ m → (m - j).toNat = z → G κ Mc n [some (vr 0), some (vi m), some (vi sd), some (vi b), some (vi (xP X).1), some (vl (evN X sd j).1), none, some (vi j)] 76 [] 0 0 := by
    intro z
    induction z using Nat.strongRecOn with
    | ind z ih =>
      intro j Mc hX q1 q2 q3 q4 h1 hm
      obtain ⟨hx, hS⟩ := evN_ok hO (sd := sd) (k := j) (by omega) h1.1
      have es : evN X sd (j + 1) = (evX (evN X sd j).1, evT (evX (evN X sd j).1) (evP (xP X) (evX (evN X sd j).1) (evN X sd j).2)) := itI_s _ _ h1.1
      generalize hQ : evN X sd j = Q at *
      obtain ⟨x, S⟩ := Q
      have hx2 := @evX_b x
      have hS2 := evP_ok (x := evX x) hO.ps hx2.1 hS
      obtain ⟨mc, e, er, pa, wy, l1, l2, l3, l4⟩ := hX.ls (X.1 5) hc.1 (by show X.1 5 < 4; omega)
      refine s_w7_iload C dX11_evenings_76 ?_
      refine s_n1_iload C dX11_evenings_78 ?_
      refine g_icmp_ge 157 C dX11_evenings_79 (by decide) (by first | assumption | (unfold iR; omega)) (by first | assumption | (unfold iR; omega)) (fun c79 => ?_) (fun c79 => ?_)
      · refine s_n3_iload C dX11_evenings_157 ?_
        refine g_if_ne 171 C dX11_evenings_158 (by decide) (by first | assumption | (unfold iR; omega)) (fun c158 => ?_) (fun c158 => ?_)
        · refine s_n0_aload C dX11_evenings_171 ?_
          refine g_get C fd_X11_39_11 dX11_evenings_172 hX.o rfl ?_
          refine g_invV C (k_unevenR hX.g24 hS) hX.g24.1 cv_X11_223_7 (rmk_ok (by decide) (by decide) (by decide) (by decide)) (Nat.le_of_ble_eq_true rfl) rfl dX11_evenings_175 rfl (q_r0 ?_)
          refine g_iret C E dX11_evenings_178 (by decide) ?_
          unfold xEvenings
          rw [if_neg q1, if_neg (not_not_intro q2), if_neg (not_not_intro q3), if_neg (not_not_intro q4), if_neg c158]
          have ej : j = m := by omega
          rw [ej] at hQ
          rw [hQ]
          exact ⟨rfl, rfl, xQ_of (res := (_, X)) hS hX⟩
        · refine s_n0_aload C dX11_evenings_161 ?_
          refine g_get C fd_X11_39_11 dX11_evenings_162 hX.o rfl ?_
          refine g_invV C (k_allR hX.g24) hX.g24.1 cv_X11_198_7 (rmk_ok (by decide) (by decide) (by decide) (by decide)) (Nat.le_of_ble_eq_true rfl) rfl dX11_evenings_165 rfl (q_r0 ?_)
          refine g_goto 178 C dX11_evenings_168 (by decide) ?_
          refine g_iret C E dX11_evenings_178 (by decide) ?_
          unfold xEvenings
          rw [if_neg q1, if_neg (not_not_intro q2), if_neg (not_not_intro q3), if_neg (not_not_intro q4), if_pos c158]
          have ej : j = m := by omega
          rw [ej] at hQ
          rw [hQ]
          exact ⟨rfl, rfl, xQ_of (res := (_, X)) hS hX⟩
      · refine s_w5_lload C dX11_evenings_82 ?_
        refine g_ldc2 (16807) C wd_517 dX11_evenings_84 ?_
        refine g_lmul C dX11_evenings_87 ?_
        refine g_ldc2 (2147483647) C wd_518 dX11_evenings_88 ?_
        refine g_lrem C dX11_evenings_91 (by show 0 ≤ x * 16807 ∧ x * 16807 < _ ∧ _; omega) ?_
        refine s_w5_lstore C dX11_evenings_92 rfl ?_
        show G κ _ _ [_, _, _, _, _, some (vl (evX x)), _, _] _ _ _ _
        refine s_w4_iload C dX11_evenings_94 ?_
        refine g_if_le 126 C dX11_evenings_96 (by decide) (by first | assumption | (unfold iR; omega)) (fun c96 => ?_) (fun c96 => ?_)
        · have hX := hX.cg (S2 := evP (xP X) (evX x) S) (by first | rfl | exact if_pos (by omega))
          refine s_w5_lload C dX11_evenings_126 ?_
          refine g_ldc2 (7) C wd_521 dX11_evenings_128 ?_
          refine g_lrem C dX11_evenings_131 (by omega) ?_
          refine g_lconst0 C dX11_evenings_132 ?_
          refine g_lcmp C dX11_evenings_133 (by unfold lR; omega) (by unfold lR; omega) ?_
          refine g_if_ne 151 C dX11_evenings_134 (by decide) (by exact lCmp_R _ _) (fun c134 => ?_) (fun c134 => ?_)
          · refine s_w7_iinc C dX11_evenings_151 rfl ?_
            refine g_goto 76 C dX11_evenings_154 (by decide) ?_
            have hX := hX.cg (S2 := (evN X sd (j + 1)).2) (by rw [es]; show evT (evX x) _ = _; unfold evT; exact if_neg (fun q => c134 ((lCmp0 _ _).mpr q)))
            have := ih _ (by omega) (j + 1) _ hX q1 q2 q3 q4 (by omega) rfl
            rw [es] at this
            exact this
          · refine s_n0_aload C dX11_evenings_137 ?_
            refine g_get C fd_X11_39_11 dX11_evenings_138 hX.o rfl ?_
            refine s_w5_lload C dX11_evenings_141 ?_
            refine g_ldc2 (15) C wd_522 dX11_evenings_143 ?_
            refine g_lrem C dX11_evenings_146 (by omega) ?_
            refine g_l2i C dX11_evenings_147 ?_
            refine g_invV C ((k_tear (S := evP (xP X) (evX x) S) (c := evX x % 15) hS2 (by omega)).conv (SL_self hX.g24) rfl) hX.g24.1 cv_X11_185_7 (rmk_ok (by decide) (by decide) (by decide) (by decide)) (Nat.le_of_ble_eq_true rfl) rfl dX11_evenings_148 rfl (q_v0 ?_)
            have hX := hX.ugg (sfTear (evP (xP X) (evX x) S) (evX x % 15))
            refine s_w7_iinc C dX11_evenings_151 rfl ?_
            refine g_goto 76 C dX11_evenings_154 (by decide) ?_
            have hX := hX.cg (S2 := (evN X sd (j + 1)).2) (by rw [es]; show evT (evX x) _ = _; unfold evT; exact if_pos ((lCmp0 _ _).mp c134))
            have := ih _ (by omega) (j + 1) _ hX q1 q2 q3 q4 (by omega) rfl
            rw [es] at this
            exact this
        · have hd0 : 0 ≤ evX x % (xP X).1 := Int.emod_nonneg _ (by omega)
          have hd1 : evX x % (xP X).1 < (xP X).1 := Int.emod_lt_of_pos _ (by omega)
          obtain ⟨g1, g2, g3, g4⟩ := l4 (evX x % (xP X).1) hd0 hd1
          obtain ⟨hki, hwa⟩ := hO.ps.2.2 (evX x % (xP X).1) hd0 hd1
          have he : Mc e = some (gR 5 10 er) := (l3.resolve_left (fun q => by have q1 : (xP X).1 = 0 := q.1; omega)).2
          refine s_n0_aload C dX11_evenings_99 ?_
          refine g_get C fd_X11_58_11 dX11_evenings_100 hX.o rfl ?_
          refine g_getN C fd_X11_140_8 dX11_evenings_103 (hX.cur hc) rfl ?_
          refine s_w5_lload C dX11_evenings_106 ?_
          refine s_w4_iload C dX11_evenings_108 ?_
          refine g_i2l C dX11_evenings_110 (by first | assumption | (unfold iR; omega)) ?_
          refine g_lrem C dX11_evenings_111 (by omega) ?_
          refine g_l2i C dX11_evenings_112 ?_
          refine g_invV C (ct_Jx4a65c_get_915e3 l2 he ⟨hd0, hd1⟩ (by show (xP X).1 ≤ 10; omega)) l2 cv_X11_278_0 (rmk_ok (by decide) (by decide) (by decide) (by decide)) (Nat.le_of_ble_eq_true rfl) rfl dX11_evenings_113 rfl (q_r0 ?_)
          rw [g1]
          refine g_castK C (ca_pass hki) wd_520 g4.1 dX11_evenings_116 ?_
          refine s_n0_aload C dX11_evenings_119 ?_
          refine g_get C fd_X11_39_11 dX11_evenings_120 hX.o rfl ?_
          refine g_invU C ((ct_goAlong (o := 8) (S := S) hki hS hwa g4 ⟨by omega, by omega⟩).conv (SL_self hX.g24) rfl) g4.1 (cuP_goAlong hki) (rmk_ok (by decide) (by decide) (by decide) (by decide)) (Nat.le_of_ble_eq_true rfl) rfl dX11_evenings_123 rfl (q_v0 ?_)
          have hX := hX.ugg (evP (xP X) (evX x) S)
          have ee : evP (xP X) (evX x) S = pGo ((xP X).2.1 (evX x % (xP X).1)) ((xP X).2.2.1 (evX x % (xP X).1)) ((xP X).2.2.2 (evX x % (xP X).1)) S := if_neg (by omega)
          rw [← ee]
          have hX := hX.cg (S2 := evP (xP X) (evX x) S) (by first | rfl | exact if_pos (by omega))
          refine s_w5_lload C dX11_evenings_126 ?_
          refine g_ldc2 (7) C wd_521 dX11_evenings_128 ?_
          refine g_lrem C dX11_evenings_131 (by omega) ?_
          refine g_lconst0 C dX11_evenings_132 ?_
          refine g_lcmp C dX11_evenings_133 (by unfold lR; omega) (by unfold lR; omega) ?_
          refine g_if_ne 151 C dX11_evenings_134 (by decide) (by exact lCmp_R _ _) (fun c134 => ?_) (fun c134 => ?_)
          · refine s_w7_iinc C dX11_evenings_151 rfl ?_
            refine g_goto 76 C dX11_evenings_154 (by decide) ?_
            have hX := hX.cg (S2 := (evN X sd (j + 1)).2) (by rw [es]; show evT (evX x) _ = _; unfold evT; exact if_neg (fun q => c134 ((lCmp0 _ _).mpr q)))
            have := ih _ (by omega) (j + 1) _ hX q1 q2 q3 q4 (by omega) rfl
            rw [es] at this
            exact this
          · refine s_n0_aload C dX11_evenings_137 ?_
            refine g_get C fd_X11_39_11 dX11_evenings_138 hX.o rfl ?_
            refine s_w5_lload C dX11_evenings_141 ?_
            refine g_ldc2 (15) C wd_522 dX11_evenings_143 ?_
            refine g_lrem C dX11_evenings_146 (by omega) ?_
            refine g_l2i C dX11_evenings_147 ?_
            refine g_invV C ((k_tear (S := evP (xP X) (evX x) S) (c := evX x % 15) hS2 (by omega)).conv (SL_self hX.g24) rfl) hX.g24.1 cv_X11_185_7 (rmk_ok (by decide) (by decide) (by decide) (by decide)) (Nat.le_of_ble_eq_true rfl) rfl dX11_evenings_148 rfl (q_v0 ?_)
            have hX := hX.ugg (sfTear (evP (xP X) (evX x) S) (evX x % 15))
            refine s_w7_iinc C dX11_evenings_151 rfl ?_
            refine g_goto 76 C dX11_evenings_154 (by decide) ?_
            have hX := hX.cg (S2 := (evN X sd (j + 1)).2) (by rw [es]; show evT (evX x) _ = _; unfold evT; exact if_pos ((lCmp0 _ _).mp c134))
            have := ih _ (by omega) (j + 1) _ hX q1 q2 q3 q4 (by omega) rfl
            rw [es] at this
            exact this
  refine s_n0_aload C dX11_evenings_0 ?_
  refine g_get C fd_X11_133_11 dX11_evenings_1 hX.o rfl ?_
  refine g_if_ne 10 C dX11_evenings_4 (by decide) (by first | assumption | (unfold iR; omega)) (fun c4 => ?_) (fun c4 => ?_)
  · refine s_n1_iload C dX11_evenings_10 ?_
    refine g_iconst C dX11_evenings_11 ?_
    refine g_bipush C dX11_evenings_12 (by decide) ?_
    refine g_invS C (ct_X11_isWithin (by first | assumption | (unfold iR; omega)) (by first | assumption | (unfold iR; omega)) (by first | assumption | (unfold iR; omega))) cs_X11_70 (rmk_ok (by decide) (by decide) (by decide) (by decide)) (Nat.le_of_ble_eq_true rfl) rfl dX11_evenings_14 rfl (q_r0 ?_)
    refine g_bifeq 40 C dX11_evenings_17 (by decide)  (fun c17 => ?_) (fun c17 => ?_)
    · refine g_ldc (-1000001) C wd_364 dX11_evenings_40 ?_
      refine g_iret C E dX11_evenings_42 (by decide) ?_
      unfold xEvenings
      rw [if_neg c4, if_pos c17]
      exact ⟨rfl, rfl, xQ_of (res := (_, X)) hO.gs hX.ug0⟩
    · refine s_n2_iload C dX11_evenings_20 ?_
      refine g_iconst C dX11_evenings_21 ?_
      refine g_ldcw (999999) C wd_516 dX11_evenings_22 ?_
      refine g_invS C (ct_X11_isWithin (by first | assumption | (unfold iR; omega)) (by first | assumption | (unfold iR; omega)) (by first | assumption | (unfold iR; omega))) cs_X11_70 (rmk_ok (by decide) (by decide) (by decide) (by decide)) (Nat.le_of_ble_eq_true rfl) rfl dX11_evenings_25 rfl (q_r0 ?_)
      refine g_bifeq 40 C dX11_evenings_28 (by decide)  (fun c28 => ?_) (fun c28 => ?_)
      · refine g_ldc (-1000001) C wd_364 dX11_evenings_40 ?_
        refine g_iret C E dX11_evenings_42 (by decide) ?_
        unfold xEvenings
        rw [if_neg c4, if_neg (not_not_intro c17), if_pos c28]
        exact ⟨rfl, rfl, xQ_of (res := (_, X)) hO.gs hX.ug0⟩
      · refine s_n3_iload C dX11_evenings_31 ?_
        refine g_iconst C dX11_evenings_32 ?_
        refine g_iconst C dX11_evenings_33 ?_
        refine g_invS C (ct_X11_isWithin (by first | assumption | (unfold iR; omega)) (by first | assumption | (unfold iR; omega)) (by first | assumption | (unfold iR; omega))) cs_X11_70 (rmk_ok (by decide) (by decide) (by decide) (by decide)) (Nat.le_of_ble_eq_true rfl) rfl dX11_evenings_34 rfl (q_r0 ?_)
        refine g_bifne 43 C dX11_evenings_37 (by decide)  (fun c37 => ?_) (fun c37 => ?_)
        · refine s_n0_aload C dX11_evenings_43 ?_
          refine g_get C fd_X11_39_11 dX11_evenings_44 hX.o rfl ?_
          refine s_n0_aload C dX11_evenings_47 ?_
          refine g_get C fd_X11_58_11 dX11_evenings_48 hX.o rfl ?_
          refine g_getN C fd_X11_157_8 dX11_evenings_51 (hX.cur hc) rfl ?_
          refine g_invV C ((k_become (S := X.2.2.2.1 24) (T := xC X) (hX.csf hc) (by omega)).conv (SL_self hX.gs) rfl) hX.gs.1 cv_X11_160_7 (rmk_ok (by decide) (by decide) (by decide) (by decide)) (Nat.le_of_ble_eq_true rfl) rfl dX11_evenings_54 rfl (q_v0 ?_)
          have hX := hX.ug (xC X)
          obtain ⟨mc, e, er, pa, wy, l1, l2, l3, l4⟩ := hX.ls (X.1 5) hc.1 (by show X.1 5 < 4; omega)
          refine s_n0_aload C dX11_evenings_57 ?_
          refine g_get C fd_X11_58_11 dX11_evenings_58 hX.o rfl ?_
          refine g_getN C fd_X11_140_8 dX11_evenings_61 (hX.cur hc) rfl ?_
          refine g_invV C (ct_Jx4a65c_size_8abf5 l2) l2 cv_X11_144_0 (rmk_ok (by decide) (by decide) (by decide) (by decide)) (Nat.le_of_ble_eq_true rfl) rfl dX11_evenings_64 rfl (q_r0 ?_)
          refine s_w4_istore C dX11_evenings_67 rfl ?_
          refine s_n2_iload C dX11_evenings_69 ?_
          refine g_i2l C dX11_evenings_70 (by first | assumption | (unfold iR; omega)) ?_
          refine s_w5_lstore C dX11_evenings_71 rfl ?_
          refine g_iconst C dX11_evenings_73 ?_
          refine s_w7_istore C dX11_evenings_74 rfl ?_
          exact lp _ 0 _ hX c4 c17 c28 c37 (by omega) rfl
        · refine g_ldc (-1000001) C wd_364 dX11_evenings_40 ?_
          refine g_iret C E dX11_evenings_42 (by decide) ?_
          unfold xEvenings
          rw [if_neg c4, if_neg (not_not_intro c17), if_neg (not_not_intro c28), if_pos c37]
          exact ⟨rfl, rfl, xQ_of (res := (_, X)) hO.gs hX.ug0⟩
  · refine g_ldc (-1000002) C wd_415 dX11_evenings_7 ?_
    refine g_iret C E dX11_evenings_9 (by decide) ?_
    unfold xEvenings
    rw [if_pos c4]
    exact ⟨rfl, rfl, xQ_of (res := (_, X)) hO.gs hX.ug0⟩
