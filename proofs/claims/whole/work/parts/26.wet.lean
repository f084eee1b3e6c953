/-! PadPolish: wetFor, done, evenings, over -/
def xG (X : XT) (S : SLT) (t b : Int → Int) : XT := (X.1, fu (fu X.2.1 3 t) 4 b, X.2.2.1, fu X.2.2.2.1 24 S, X.2.2.2.2)
def xQ (res : Int × XT) (F : gM) (n : Int) : gPost := fun r M n' => r = some (vi res.1) ∧ n' = n ∧ ∃ (ℓ : Int → Int) (S : SLT) (t b : Int → Int), sfOK S ∧ XL (xG res.2 S t b) ℓ F n M
theorem fu2_self (f : Int → Int → Int) : fu (fu f 3 (f 3)) 4 (f 4) = f := by
  funext j
  unfold fu
  (repeat' split) <;> simp_all
theorem xQ_of {res : Int × XT} {F : gM} {n : Int} {M : gM} {ℓ : Int → Int} {S : SLT} (hS : sfOK S) (h : XL (xSf res.2 24 S) ℓ F n M) : ∃ (ℓ : Int → Int) (S : SLT) (t b : Int → Int), sfOK S ∧ XL (xG res.2 S t b) ℓ F n M := by
  refine ⟨ℓ, S, res.2.2.1 3, res.2.2.1 4, hS, ?_⟩
  unfold xG
  rw [fu2_self]
  exact h
def gaI (C S : SLT) (t len : Int) (cs : Int → Int) : Int := allI (fun i => decide (C.1 (cs i) + t ≤ S.1 (cs i))) len
theorem SLg_wet {o : Int} {S : SLT} {M : gM} (h : SLi o S M) (x : Int) : gu M o (gO 7 ([vr (o + 1), vr (o + 2), vr (o + 3), vi S.2.2.2.1, vi S.2.2.2.2.1, vi S.2.2.2.2.2].set 3 (vi x))) = SL o (S.1, S.2.1, S.2.2.1, x, S.2.2.2.2) M := by
  have h2 := SL_self h
  obtain ⟨f, s, hz, w, l, p⟩ := S
  have e := SL_p3 o f s hz w l p M x
  rw [h2] at e
  exact e
def sfWet (S : SLT) (x : Int) : SLT := (S.1, S.2.1, S.2.2.1, x, S.2.2.2.2)
theorem sfWet_ok {S : SLT} {x : Int} (h : sfOK S) (hx : 0 ≤ x ∧ x ≤ 99) : sfOK (sfWet S x) := ⟨h.1, hx.1, hx.2, h.2.2.2⟩
set_option maxRecDepth 20000 in
theorem ct_X11_gainsAlong {X : XT} {ℓ : Int → Int} {F : gM} {n : Int} {M : gM} {S : SLT} (hX : XL (xSf X 24 S) ℓ F n M) (hO : xOK X) (hS : sfOK S) {ci : Nat} {pa num wy len t : Int} {cs : Int → Int} (hki : isKi ci) (hwa : waOK len cs) (hpa : paI M pa ci num wy len cs) (ht : 0 ≤ t ∧ t ≤ 99) : CT yX11_gainsAlong cX11_gainsAlong 7 (some .boolean) (rmk 0 0 0) [vr 0, vr pa, vi t] M n (qr (some (vi (gaI (xC X) S t len cs))) M n) := by
  refine CT.of (by decide) (fun _ => Nat.le_of_ble_eq_true rfl) (fun κ C E => ?_)
  show G κ M n [some (vr 0), some (vr pa), some (vi t), none, none, none, none] 0 [] 0 0
  have hc := hO.c
  have hcs := hO.cs
  have w1 := hwa.1
  have w2 := hwa.2.1
  have lp : ∀ (m : Nat) (i : Int) (q : Option gV), 0 ≤ i ∧ i ≤ len → gaI (xC X) S t i cs = 1 → (len - i).toNat = m → G κ M n [some (vr 0), some (vr pa), some (vi t), some (vr wy), some (vi len), some (vi i), q] 12 [] 0 0 := by
    intro m
    induction m using Nat.strongRecOn with
    | ind m ih =>
      intro i q h1 h2 hm
      refine s_w5_iload C dX11_gainsAlong_12 ?_
      refine s_w4_iload C dX11_gainsAlong_14 ?_
      refine g_icmp_ge 61 C dX11_gainsAlong_16 (by decide) (by first | assumption | (unfold iR; omega)) (by first | assumption | (unfold iR; omega)) (fun c16 => ?_) (fun c16 => ?_)
      · refine g_iconst C dX11_gainsAlong_61 ?_
        refine g_zret C E dX11_gainsAlong_62 (by decide) (by omega) ?_
        have e : i = len := by omega
        subst e
        rw [h2]
        exact ⟨rfl, rfl, rfl⟩
      · have hi := hwa.2.2 i h1.1 (by omega)
        have b1 := hS.1 (cs i) hi.1 hi.2
        have b2 := hcs.1 (cs i) hi.1 hi.2
        refine s_n3_aload C dX11_gainsAlong_19 ?_
        refine s_w5_iload C dX11_gainsAlong_20 ?_
        refine g_iald C dX11_gainsAlong_22 hpa.2 (by omega) ?_
        refine s_w6_istore C dX11_gainsAlong_23 rfl ?_
        refine s_n0_aload C dX11_gainsAlong_25 ?_
        refine g_get C fd_X11_39_11 dX11_gainsAlong_26 hX.o rfl ?_
        refine g_getN C fd_X11_189_7 dX11_gainsAlong_29 hX.g24.1 rfl ?_
        refine s_w6_iload C dX11_gainsAlong_32 ?_
        refine g_iald C dX11_gainsAlong_34 hX.g24.2.1 (by omega) ?_
        refine s_n0_aload C dX11_gainsAlong_35 ?_
        refine g_get C fd_X11_58_11 dX11_gainsAlong_36 hX.o rfl ?_
        refine g_getN C fd_X11_157_8 dX11_gainsAlong_39 (hX.cur hc) rfl ?_
        refine g_getN C fd_X11_189_7 dX11_gainsAlong_42 (hX.cs24 hc).1 rfl ?_
        refine s_w6_iload C dX11_gainsAlong_45 ?_
        refine g_iald C dX11_gainsAlong_47 (hX.cs24 hc).2.1 (by omega) ?_
        refine s_n2_iload C dX11_gainsAlong_48 ?_
        refine g_iadd C dX11_gainsAlong_49 ?_
        refine g_icmp_ge 55 C dX11_gainsAlong_50 (by decide) (by first | assumption | (unfold iR; omega)) (by first | assumption | (unfold iR; omega)) (fun c50 => ?_) (fun c50 => ?_)
        · refine s_w5_iinc C dX11_gainsAlong_55 rfl ?_
          refine g_goto 12 C dX11_gainsAlong_58 (by decide) ?_
          refine ih _ (by omega) (i + 1) _ (by omega) ?_ rfl
          show itI _ _ (i + 1) = 1
          rw [itI_s _ _ h1.1]
          rw [if_neg (by intro q; have h3 := h2.symm.trans q; omega), if_pos (decide_eq_true c50)]
        · refine g_iconst C dX11_gainsAlong_53 ?_
          refine g_zret C E dX11_gainsAlong_54 (by decide) (by omega) ?_
          unfold gaI
          rw [allI_miss (i := i) h1.1 (by omega) (decide_eq_false (by omega))]
          exact ⟨rfl, rfl, rfl⟩
  refine s_n1_aload C dX11_gainsAlong_0 ?_
  refine g_getN C (fdP_way hki) dX11_gainsAlong_1 hpa.1 rfl ?_
  refine s_n3_astore C dX11_gainsAlong_4 rfl ?_
  refine s_n3_aload C dX11_gainsAlong_5 ?_
  refine g_alen C (by decide) dX11_gainsAlong_6 hpa.2 (by omega) ?_
  refine s_w4_istore C dX11_gainsAlong_7 rfl ?_
  refine g_iconst C dX11_gainsAlong_9 ?_
  refine s_w5_istore C dX11_gainsAlong_10 rfl ?_
  exact lp _ 0 _ (by omega) rfl rfl
def wfN : Nat → XT → Int → Int → Int → Int
  | 0, _, _, _, _ => -1000000
  | f + 1, X, a, t, w => if 99 < w then -1000000 else if gaI (xC X) (pGo ((xP X).2.1 a) ((xP X).2.2.1 a) ((xP X).2.2.2 a) (sfWet (xC X) w)) t ((xP X).2.2.1 a) ((xP X).2.2.2 a) = 0 then wfN f X a t (w + 1) else w
def xWet (X : XT) (a t : Int) : Int × XT := if ¬ (0 ≤ a ∧ a < (xP X).1) then (-1000001, X) else if ¬ (0 ≤ t ∧ t ≤ 99) then (-1000001, X) else (wfN 101 X a t 0, X)
theorem gaI_b (C S : SLT) (t : Int) {len : Int} (cs : Int → Int) (h : 0 ≤ len) : gaI C S t len cs = 0 ∨ gaI C S t len cs = 1 := allI_b _ h
set_option maxRecDepth 20000 in
theorem ct_X11_wetFor {X : XT} {ℓ : Int → Int} {F : gM} {n : Int} {M : gM} (hX : XL X ℓ F n M) (hO : xOK X) {a t : Int} (ha : iR a) (ht : iR t) : CT yX11_wetFor cX11_wetFor 5 (some .int) (rmk 5 0 0) [vr 0, vi a, vi t] M n (xQ (xWet X a t) F n) := by
  refine CT.of (by decide) (fun _ => Nat.le_of_ble_eq_true rfl) (fun κ C E => ?_)
  show G κ M n [some (vr 0), some (vi a), some (vi t), none, none] 0 [] 0 0
  have hc := hO.c
  obtain ⟨E0, hE⟩ : ∃ E0, E0 = wfN 101 X a t 0 := ⟨_, rfl⟩
  have lp : ∀ (f : Nat) (w : Int) (Mc : gM) (S0 : SLT) (pa wy : Int), XL (xSf X 24 S0) ℓ F n Mc → sfOK S0 → (0 ≤ a ∧ a < (xP X).1) → (0 ≤ t ∧ t ≤ 99) → 0 ≤ w ∧ w ≤ 100 → 101 ≤ f + w → E0 = wfN f X a t w → isKi ((xP X).2.1 a) → waOK ((xP X).2.2.1 a) ((xP X).2.2.2 a) → paI Mc pa ((xP X).2.1 a) a wy ((xP X).2.2.1 a) ((xP X).2.2.2 a) → 164 ≤ pa → 164 ≤ wy → G κ Mc n [some (vr 0), some (vi a), some (vi t), some (vr pa), some (vi w)] 26 [] 0 0 := by
    intro f
    induction f with
    | zero => intro w Mc S0 pa wy hX hS0 ha2 ht2 h1 h2 h4 hki hwa hpa hp1 hp2; exfalso; omega
    | succ f ih =>
      intro w Mc S0 pa wy hX hS0 ha2 ht2 h1 h2 h4 hki hwa hpa hp1 hp2
      have w1 := hwa.1
      unfold wfN at h4
      refine s_w4_iload C dX11_wetFor_26 ?_
      refine g_bipush C dX11_wetFor_28 (by decide) ?_
      refine g_icmp_gt 82 C dX11_wetFor_30 (by decide) (by first | assumption | (unfold iR; omega)) (by first | assumption | (unfold iR; omega)) (fun c30 => ?_) (fun c30 => ?_)
      · refine g_ldc (-1000000) C wd_457 dX11_wetFor_82 ?_
        refine g_iret C E dX11_wetFor_84 (by decide) ?_
        rw [if_pos (by omega)] at h4
        unfold xWet
        rw [if_neg (not_not_intro ha2), if_neg (not_not_intro ht2), ← hE, h4]
        exact ⟨rfl, rfl, xQ_of (res := (_, X)) hS0 hX⟩
      · have hS1 := sfWet_ok (x := w) hO.cs (by omega)
        have hS2 : sfOK (pGo ((xP X).2.1 a) ((xP X).2.2.1 a) ((xP X).2.2.2 a) (sfWet (xC X) w)) := pGo_ok hwa hS1
        have hgb := gaI_b (xC X) (pGo ((xP X).2.1 a) ((xP X).2.2.1 a) ((xP X).2.2.2 a) (sfWet (xC X) w)) t ((xP X).2.2.2 a) (len := (xP X).2.2.1 a) (by omega)
        refine s_n0_aload C dX11_wetFor_33 ?_
        refine g_get C fd_X11_39_11 dX11_wetFor_34 hX.o rfl ?_
        refine s_n0_aload C dX11_wetFor_37 ?_
        refine g_get C fd_X11_58_11 dX11_wetFor_38 hX.o rfl ?_
        refine g_getN C fd_X11_157_8 dX11_wetFor_41 (hX.cur hc) rfl ?_
        refine g_invV C ((k_become (S := S0) (T := xC X) (hX.cs24 hc) (by show _ + 4 ≤ 8 ∨ 8 + 4 ≤ 16 + 6 * X.1 5 + 1; omega)).conv (SL_self hX.g24) rfl) hX.g24.1 cv_X11_160_7 (rmk_ok (by decide) (by decide) (by decide) (by decide)) (Nat.le_of_ble_eq_true rfl) rfl dX11_wetFor_44 rfl (q_v0 ?_)
        have hX := hX.ugg (xC X)
        have hpa : paI (SL 8 (xC X) _) pa ((xP X).2.1 a) a wy ((xP X).2.2.1 a) ((xP X).2.2.2 a) := ⟨(SL_out _ _ (by omega)).trans hpa.1, (SL_out _ _ (by omega)).trans hpa.2⟩
        refine s_n0_aload C dX11_wetFor_47 ?_
        refine g_get C fd_X11_39_11 dX11_wetFor_48 hX.o rfl ?_
        refine s_w4_iload C dX11_wetFor_51 ?_
        refine g_putN C fp_X11_170_7 dX11_wetFor_53 hX.g24.1 (Nat.le_of_ble_eq_true rfl) (gfit_i _) ?_
        rw [SLg_wet hX.g24]
        have hX := hX.ugg (sfWet (xC X) w)
        have hpa : paI (SL 8 (sfWet (xC X) w) _) pa ((xP X).2.1 a) a wy ((xP X).2.2.1 a) ((xP X).2.2.2 a) := ⟨(SL_out _ _ (by omega)).trans hpa.1, (SL_out _ _ (by omega)).trans hpa.2⟩
        refine s_n3_aload C dX11_wetFor_56 ?_
        refine s_n0_aload C dX11_wetFor_57 ?_
        refine g_get C fd_X11_39_11 dX11_wetFor_58 hX.o rfl ?_
        refine g_invU C ((ct_goAlong (o := 8) (S := sfWet (xC X) w) hki hS1 hwa hpa ⟨by omega, by omega⟩).conv (SL_self hX.g24) rfl) hpa.1 (cuP_goAlong hki) (rmk_ok (by decide) (by decide) (by decide) (by decide)) (Nat.le_of_ble_eq_true rfl) rfl dX11_wetFor_61 rfl (q_v0 ?_)
        have hX := hX.ugg (pGo ((xP X).2.1 a) ((xP X).2.2.1 a) ((xP X).2.2.2 a) (sfWet (xC X) w))
        have hpa : paI (SL 8 (pGo ((xP X).2.1 a) ((xP X).2.2.1 a) ((xP X).2.2.2 a) (sfWet (xC X) w)) _) pa ((xP X).2.1 a) a wy ((xP X).2.2.1 a) ((xP X).2.2.2 a) := ⟨(SL_out _ _ (by omega)).trans hpa.1, (SL_out _ _ (by omega)).trans hpa.2⟩
        refine s_n0_aload C dX11_wetFor_64 ?_
        refine s_n3_aload C dX11_wetFor_65 ?_
        refine s_n2_iload C dX11_wetFor_66 ?_
        refine g_invV C (ct_X11_gainsAlong hX hO hS2 hki hwa hpa ht2) hX.o cv_X11_241_11 (rmk_ok (by decide) (by decide) (by decide) (by decide)) (Nat.le_of_ble_eq_true rfl) rfl dX11_wetFor_67 rfl (q_r0 ?_)
        refine g_if_eq 76 C dX11_wetFor_70 (by decide) (by first | assumption | (unfold iR; omega)) (fun c70 => ?_) (fun c70 => ?_)
        · refine s_w4_iinc C dX11_wetFor_76 rfl ?_
          refine g_goto 26 C dX11_wetFor_79 (by decide) ?_
          rw [if_neg (by omega), if_pos c70] at h4
          exact ih (w + 1) _ _ pa wy hX hS2 ha2 ht2 (by omega) (by omega) h4 hki hwa hpa hp1 hp2
        · refine s_w4_iload C dX11_wetFor_73 ?_
          refine g_iret C E dX11_wetFor_75 (by decide) ?_
          rw [if_neg (by omega), if_neg c70] at h4
          unfold xWet
          rw [if_neg (not_not_intro ha2), if_neg (not_not_intro ht2), ← hE, h4]
          exact ⟨rfl, rfl, xQ_of (res := (_, X)) hS2 hX⟩
  refine s_n0_aload C dX11_wetFor_0 ?_
  refine s_n1_iload C dX11_wetFor_1 ?_
  refine g_invV C (ct_X11_passOf hX hO (by assumption)) hX.o cv_X11_173_11 (rmk_ok (by decide) (by decide) (by decide) (by decide)) (Nat.le_of_ble_eq_true rfl) rfl dX11_wetFor_2 rfl (fun r M9 n9 hq => ?_)
  obtain ⟨hm9, hn9, hq⟩ := hq
  rw [hm9, hn9]
  show G κ _ _ _ _ _ 0 0
  rcases hq with ⟨p1, p2, pa, wy, hr9, p3, p4, hki, hwa, hpa⟩ | ⟨p1, hr9⟩
  · subst hr9
    refine s_n3_astore C dX11_wetFor_5 rfl ?_
    refine s_n3_aload C dX11_wetFor_6 ?_
    refine g_ifnull C dX11_wetFor_7 ?_
    refine s_n2_iload C dX11_wetFor_10 ?_
    refine g_iconst C dX11_wetFor_11 ?_
    refine g_bipush C dX11_wetFor_12 (by decide) ?_
    refine g_invS C (ct_X11_isWithin (by first | assumption | (unfold iR; omega)) (by first | assumption | (unfold iR; omega)) (by first | assumption | (unfold iR; omega))) cs_X11_70 (rmk_ok (by decide) (by decide) (by decide) (by decide)) (Nat.le_of_ble_eq_true rfl) rfl dX11_wetFor_14 rfl (q_r0 ?_)
    refine g_bifne 23 C dX11_wetFor_17 (by decide)  (fun c17 => ?_) (fun c17 => ?_)
    · refine g_iconst C dX11_wetFor_23 ?_
      refine s_w4_istore C dX11_wetFor_24 rfl ?_
      exact lp 101 0 _ _ pa wy hX.ug0 hO.gs ⟨p1, p2⟩ c17 (by omega) (by omega) hE hki hwa hpa p3 p4
    · refine g_ldc (-1000001) C wd_364 dX11_wetFor_20 ?_
      refine g_iret C E dX11_wetFor_22 (by decide) ?_
      unfold xWet
      rw [if_neg (not_not_intro ⟨p1, p2⟩), if_pos c17]
      exact ⟨rfl, rfl, xQ_of (res := (_, X)) hO.gs hX.ug0⟩
  · subst hr9
    refine s_n3_astore C dX11_wetFor_5 rfl ?_
    refine s_n3_aload C dX11_wetFor_6 ?_
    refine g_ifnullN 20 C dX11_wetFor_7 (by decide) ?_
    refine g_ldc (-1000001) C wd_364 dX11_wetFor_20 ?_
    refine g_iret C E dX11_wetFor_22 (by decide) ?_
    unfold xWet
    rw [if_pos p1]
    exact ⟨rfl, rfl, xQ_of (res := (_, X)) hO.gs hX.ug0⟩
