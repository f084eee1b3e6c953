/-! PadPolish$Tape: reading a text -/
section GQ0
variable {κ : gC} {M0 : gM} {n0 : Int} {L : List (Option gV)} {pc cells slots k : Nat} {rest : List gV} {v : gV}
theorem q_v0 (h : G κ M0 n0 L pc rest cells slots) : ∀ r M' n', qr none M0 n0 r M' n' → G κ M' n' L pc (r.toList ++ rest) (cells + (rmk k 0 0).cells) (slots + (rmk k 0 0).slots) := q_v h
theorem q_r0 (h : G κ M0 n0 L pc (v :: rest) cells slots) : ∀ r M' n', qr (some v) M0 n0 r M' n' → G κ M' n' L pc (r.toList ++ rest) (cells + (rmk k 0 0).cells) (slots + (rmk k 0 0).slots) := q_r h
end GQ0
theorem tNumV_len (T : TPT) (most v k : Int) : (tNumV T most v k).2.2.2.1 = T.2.2.1 := by
  unfold tNumV
  split <;> rfl
theorem tNum_len (T : TPT) (most : Int) : (tNum T most).2.2.2.1 = T.2.2.1 := by
  unfold tNum
  split
  · rfl
  · split
    · exact tNumV_len ..
    · split
      · exact tNumV_len ..
      · rfl
theorem TPg_at (o : Int) (T : TPT) (M : gM) (x : Int) : gu (TP o T M) o (gO 9 ([vr (o + 1), vr (o + 2), vi T.2.2.1, vi T.2.2.2.1, vi T.2.2.2.2].set 3 (vi x))) = TP o (tAt T x) M := by
  obtain ⟨b, wy, ln, at_, fn⟩ := T
  exact TP_p3 ..
def sfFilm (S : SLT) (f : Int → Int) : SLT := (f, S.2)
def sfOil (S : SLT) (x : Int) : SLT := (S.1, S.2.1, S.2.2.1, S.2.2.2.1, x, S.2.2.2.2.2)
theorem SLg_film (o : Int) (S : SLT) (M : gM) (x : Int → Int) : gu (SL o S M) (o + 1) (gA 0 15 x) = SL o (sfFilm S x) M := by
  obtain ⟨f, s, h, w, l, p⟩ := S
  exact SL_s1 ..
theorem SLg_oil (o : Int) (S : SLT) (M : gM) (x : Int) : gu (SL o S M) o (gO 7 ([vr (o + 1), vr (o + 2), vr (o + 3), vi S.2.2.2.1, vi S.2.2.2.2.1, vi S.2.2.2.2.2].set 4 (vi x))) = SL o (sfOil S x) M := by
  obtain ⟨f, s, h, w, l, p⟩ := S
  exact SL_p4 ..
theorem stepTo_b {cell c : Int} (hc : 0 ≤ cell ∧ cell < 15) : -1 ≤ stepTo cell c ∧ stepTo cell c < 15 := by
  unfold stepTo
  (repeat' split) <;> omega
theorem tAt_ok {T : TPT} {x : Int} (h : tpOK T) (hx : 0 ≤ x ∧ x ≤ T.2.2.1) : tpOK (tAt T x) := ⟨h.1, h.2.1, h.2.2.1, hx.1, hx.2⟩
theorem tRef_ok {T : TPT} {x : Int} (h : tpOK T) : tpOK (tRef T x) := h
theorem tNext_lt {T : TPT} (h : ¬ tNext T = -1) : T.2.2.2.1 < T.2.2.1 := by
  unfold tNext at h
  split at h
  · assumption
  · exact absurd rfl h
def wayN : Nat → TPT → Int → Int → Int × TPT
  | 0, T, _, k => (k, T)
  | f + 1, T, cl, k => if 8 < k then (k, T) else if stepTo cl (tNext T) < 0 then (k, T) else wayN f (tAt (tWay T (up T.2.1 k (stepTo cl (tNext T)))) (T.2.2.2.1 + 1)) (stepTo cl (tNext T)) (k + 1)
def tRdWay (T : TPT) : Int × TPT := if (tNum T 14).1 < 0 then (-1, (tNum T 14).2) else wayN 9 (tWay (tNum T 14).2 (up (tNum T 14).2.2.1 0 (tNum T 14).1)) (tNum T 14).1 1
theorem stepTo_m1 (cl : Int) : stepTo cl (-1) = -1 := by
  unfold stepTo
  rw [if_neg (by decide), if_neg (by decide), if_neg (by decide), if_neg (by decide)]
theorem wayN_ok : ∀ (f : Nat) (T : TPT) (cl k : Int), tpOK T → 0 ≤ cl ∧ cl < 15 → 1 ≤ k ∧ k ≤ 9 → (∀ i, 0 ≤ i → i < k → 0 ≤ T.2.1 i ∧ T.2.1 i < 15) → tpOK (wayN f T cl k).2 ∧ waOK (wayN f T cl k).1 (wayN f T cl k).2.2.1
  | 0, T, cl, k, h1, h2, h3, h4 => ⟨h1, h3.1, h3.2, h4⟩
  | f + 1, T, cl, k, h1, h2, h3, h4 => by
    unfold wayN
    split
    · exact ⟨h1, h3.1, h3.2, h4⟩
    · split
      · exact ⟨h1, h3.1, h3.2, h4⟩
      · rename_i e1 e2
        have b := stepTo_b (c := tNext T) h2
        have hlt : T.2.2.2.1 < T.2.2.1 := tNext_lt (fun q => by rw [q, stepTo_m1] at e2; omega)
        refine wayN_ok f _ _ _ ⟨h1.1, h1.2.1, h1.2.2.1, by have := h1.2.2.2.1; dsimp only [tAt]; omega, by dsimp only [tAt, tWay]; omega⟩ ⟨by omega, b.2⟩ (by omega) (fun i i1 i2 => ?_)
        show 0 ≤ up T.2.1 k (stepTo cl (tNext T)) i ∧ up T.2.1 k (stepTo cl (tNext T)) i < 15
        unfold up
        split
        · omega
        · exact h4 i i1 (by omega)
set_option maxRecDepth 20000 in
theorem ct_X9_readWay {o : Int} {T : TPT} {M : gM} {n : Int} (hT : tpOK T) : CT yX9_readWay cX9_readWay 3 (some .int) (rmk 2 0 0) [vr o] (TP o T M) n (qr (some (vi (tRdWay T).1)) (TP o (tRdWay T).2 M) n) := by
  refine CT.of (by decide) (fun _ => Nat.le_of_ble_eq_true rfl) (fun κ C E => ?_)
  show G κ (TP o T M) n [some (vr o), none, none] 0 [] 0 0
  have hN := tNum_ok (most := 14) hT
  have lp : ∀ (f : Nat) (b wy : Int → Int) (ln at_ fn cl k : Int), tpOK (b, wy, ln, at_, fn) → 0 ≤ cl ∧ cl < 15 → 1 ≤ k ∧ k ≤ 9 → 9 < k + f → wayN f (b, wy, ln, at_, fn) cl k = tRdWay T → G κ (TP o (b, wy, ln, at_, fn) M) n [some (vr o), some (vi cl), some (vi k)] 22 [] 0 0 := by
    intro f
    induction f with
    | zero => intro b wy ln at_ fn cl k h1 h2 h3 h4; omega
    | succ f ih =>
      intro b wy ln at_ fn cl k h1 h2 h3 h4 hR
      have b0 : 0 ≤ ln ∧ ln ≤ 120 ∧ 0 ≤ at_ ∧ at_ ≤ ln := h1.2
      have bn := tNext_b h1
      have bs := stepTo_b (c := tNext (b, wy, ln, at_, fn)) h2
      unfold wayN at hR
      refine s_n2_iload C dX9_readWay_22 ?_
      refine g_bipush C dX9_readWay_23 (by decide) ?_
      refine g_icmp_gt 66 C dX9_readWay_25 (by decide) (by unfold iR; omega) (by unfold iR; omega) (fun c25 => ?_) (fun c25 => ?_)
      · refine s_n2_iload C dX9_readWay_66 ?_
        refine g_iret C E dX9_readWay_67 (by decide) ?_
        rw [if_pos c25] at hR
        rw [← hR]
        exact ⟨rfl, rfl, rfl⟩
      · refine s_n1_iload C dX9_readWay_28 ?_
        refine s_n0_aload C dX9_readWay_29 ?_
        refine g_invV C (k_next h1) (TP_0 ..) cv_X9_60_9 (rmk_ok (by decide) (by decide) (by decide) (by decide)) (Nat.le_of_ble_eq_true rfl) rfl dX9_readWay_30 rfl (q_r0 ?_)
        refine g_invS C (ct_X9_beside h2 bn) cs_X9_97 (rmk_ok (by decide) (by decide) (by decide) (by decide)) (Nat.le_of_ble_eq_true rfl) rfl dX9_readWay_33 rfl (q_r0 ?_)
        refine s_n1_istore C dX9_readWay_36 rfl ?_
        refine s_n1_iload C dX9_readWay_37 ?_
        refine g_if_ge 43 C dX9_readWay_38 (by decide) (by unfold iR; omega) (fun c38 => ?_) (fun c38 => ?_)
        · refine s_n0_aload C dX9_readWay_43 ?_
          refine g_get C fd_X9_15_9 dX9_readWay_44 (TP_0 ..) rfl ?_
          refine s_n2_iload C dX9_readWay_47 ?_
          refine s_n1_iload C dX9_readWay_48 ?_
          refine g_iast C dX9_readWay_49 (TP_2 ..) (by omega) ?_
          rw [TP_s2]
          refine s_w2_iinc C dX9_readWay_50 rfl ?_
          refine s_n0_aload C dX9_readWay_53 ?_
          refine g_dup C dX9_readWay_54 rfl ?_
          refine g_get C fd_X9_22_9 dX9_readWay_55 (TP_0 ..) rfl ?_
          refine g_iconst C dX9_readWay_58 ?_
          refine g_iadd C dX9_readWay_59 ?_
          refine g_put C fp_X9_22_9 dX9_readWay_60 (TP_0 ..) (Nat.le_of_ble_eq_true rfl) (gfit_i _) ?_
          rw [TP_p3]
          refine g_goto 22 C dX9_readWay_63 (by decide) ?_
          rw [if_neg (by omega), if_neg (by omega)] at hR
          have hlt : at_ < ln := tNext_lt (T := (b, wy, ln, at_, fn)) (fun q => by rw [q, stepTo_m1] at c38; omega)
          exact ih b _ ln (at_ + 1) fn _ (k + 1) ⟨h1.1, h1.2.1, h1.2.2.1, by show 0 ≤ at_ + 1; omega, by show at_ + 1 ≤ ln; omega⟩ ⟨by omega, bs.2⟩ (by omega) (by omega) hR
        · refine s_n2_iload C dX9_readWay_41 ?_
          refine g_iret C E dX9_readWay_42 (by decide) ?_
          rw [if_neg (by omega), if_pos c38] at hR
          rw [← hR]
          exact ⟨rfl, rfl, rfl⟩
  refine s_n0_aload C dX9_readWay_0 ?_
  refine g_bipush C dX9_readWay_1 (by decide) ?_
  refine g_invV C (k_readNumber hT (by omega)) (TP_there ..).1 cv_X9_44_9 (rmk_ok (by decide) (by decide) (by decide) (by decide)) (Nat.le_of_ble_eq_true rfl) rfl dX9_readWay_3 rfl (q_r0 ?_)
  refine s_n1_istore C dX9_readWay_6 rfl ?_
  refine s_n1_iload C dX9_readWay_7 ?_
  refine g_if_ge 13 C dX9_readWay_8 (by decide) (by unfold iR; omega) (fun c8 => ?_) (fun c8 => ?_)
  · refine s_n0_aload C dX9_readWay_13 ?_
    refine g_get C fd_X9_15_9 dX9_readWay_14 (TP_there ..).1 rfl ?_
    refine g_iconst C dX9_readWay_17 ?_
    refine s_n1_iload C dX9_readWay_18 ?_
    refine g_iast C dX9_readWay_19 (TP_there ..).2.2 (by omega) ?_
    refine g_iconst C dX9_readWay_20 ?_
    refine s_n2_istore C dX9_readWay_21 rfl ?_
    have e : tRdWay T = wayN 9 (tWay (tNum T 14).2 (up (tNum T 14).2.2.1 0 (tNum T 14).1)) (tNum T 14).1 1 := by unfold tRdWay; rw [if_neg (by omega)]
    have ok := hN.1
    revert e ok
    generalize (tNum T 14).2 = T2
    intro e ok
    obtain ⟨b, wy, ln, at_, fn⟩ := T2
    dsimp only
    rw [TP_s2]
    exact lp 9 b _ ln at_ fn _ 1 ok (by omega) (by omega) (by omega) e.symm
  · refine g_iconst C dX9_readWay_11 ?_
    refine g_iret C E dX9_readWay_12 (by decide) ?_
    have e : tRdWay T = (-1, (tNum T 14).2) := by unfold tRdWay; rw [if_pos (by omega)]
    rw [e]
    exact ⟨rfl, rfl, rfl⟩
theorem tRdWay_ok {T : TPT} (h : tpOK T) : tpOK (tRdWay T).2 ∧ -1 ≤ (tRdWay T).1 ∧ ((tRdWay T).1 = -1 ∨ waOK (tRdWay T).1 (tRdWay T).2.2.1) := by
  have hN := tNum_ok (most := 14) h
  unfold tRdWay
  split
  · exact ⟨hN.1, by dsimp only; omega, Or.inl rfl⟩
  · have := wayN_ok 9 (tWay (tNum T 14).2 (up (tNum T 14).2.2.1 0 (tNum T 14).1)) (tNum T 14).1 1 hN.1 (by omega) (by omega) (fun i i1 i2 => by
      show 0 ≤ up _ 0 _ i ∧ up _ 0 _ i < 15
      rw [show i = 0 by omega, up_same]
      omega)
    exact ⟨this.1, by have := this.2.1; omega, Or.inr this.2⟩
def rdLaw (T : TPT) (S : SLT) (sk : Int) : Int × TPT × SLT × Int :=
  if (tSign T 116).1 = 0 then (0, (tSign T 116).2, S, sk)
  else if (tNum (tSign T 116).2 9).1 < 0 then (0, (tNum (tSign T 116).2 9).2, S, (tNum (tSign T 116).2 9).1)
  else if (tSign (tNum (tSign T 116).2 9).2 44).1 = 0 then (0, (tSign (tNum (tSign T 116).2 9).2 44).2, S, (tNum (tSign T 116).2 9).1)
  else if (tNum (tSign (tNum (tSign T 116).2 9).2 44).2 9).1 < 0 then (0, (tNum (tSign (tNum (tSign T 116).2 9).2 44).2 9).2, sfOil S (tNum (tSign (tNum (tSign T 116).2 9).2 44).2 9).1, (tNum (tSign T 116).2 9).1)
  else ((tSign (tNum (tSign (tNum (tSign T 116).2 9).2 44).2 9).2 59).1, (tSign (tNum (tSign (tNum (tSign T 116).2 9).2 44).2 9).2 59).2, sfOil S (tNum (tSign (tNum (tSign T 116).2 9).2 44).2 9).1, (tNum (tSign T 116).2 9).1)
set_option maxRecDepth 20000 in
theorem ct_X9_readLaw {t ℓ sk : Int} {T : TPT} {S : SLT} {M : gM} {n : Int} (hT : tpOK T) (ht : M t = some (gO 8 [vr (t + 1), vr ℓ, vi sk])) (h5 : 5 ≤ t ∧ t ≤ 22) : CT yX9_readLaw cX9_readLaw 2 (some .boolean) (rmk 2 0 0) [vr 2, vr t] (TP 2 T (SL (t + 1) S M)) n (qr (some (vi (rdLaw T S sk).1)) (TP 2 (rdLaw T S sk).2.1 (SL (t + 1) (rdLaw T S sk).2.2.1 (gu M t (gO 8 [vr (t + 1), vr ℓ, vi (rdLaw T S sk).2.2.2])))) n) := by
  refine CT.of (by decide) (fun _ => Nat.le_of_ble_eq_true rfl) (fun κ C E => ?_)
  show G κ (TP 2 T (SL (t + 1) S M)) n [some (vr 2), some (vr t)] 0 [] 0 0
  have a1 := tSign_ok (c := 116) hT (by decide)
  have z1 := tSign_01 T 116
  have a2 := tNum_ok (most := 9) a1
  have a3 := tSign_ok (c := 44) a2.1 (by decide)
  have z3 := tSign_01 (tNum (tSign T 116).2 9).2 44
  have a4 := tNum_ok (most := 9) a3
  have a5 := tSign_ok (c := 59) a4.1 (by decide)
  have z5 := tSign_01 (tNum (tSign (tNum (tSign T 116).2 9).2 44).2 9).2 59
  have o1 : ∀ (T2 : TPT) (S2 : SLT), TP 2 T2 (SL (t + 1) S2 M) t = some (gO 8 [vr (t + 1), vr ℓ, vi sk]) := fun T2 S2 => (TP_out _ _ (by omega)).trans ((SL_out _ _ (by omega)).trans ht)
  refine s_n0_aload C dX9_readLaw_0 ?_
  refine g_bipush C dX9_readLaw_1 (by decide) ?_
  refine g_invV C (k_readSign hT (by omega)) (TP_there ..).1 cv_X9_40_9 (rmk_ok (by decide) (by decide) (by decide) (by decide)) (Nat.le_of_ble_eq_true rfl) rfl dX9_readLaw_3 rfl (q_r0 ?_)
  refine g_if_ne 11 C dX9_readLaw_6 (by decide) (by unfold iR; omega) (fun c6 => ?_) (fun c6 => ?_)
  · refine s_n1_aload C dX9_readLaw_11 ?_
    refine s_n0_aload C dX9_readLaw_12 ?_
    refine g_bipush C dX9_readLaw_13 (by decide) ?_
    refine g_invV C (k_readNumber a1 (by omega)) (TP_there ..).1 cv_X9_44_9 (rmk_ok (by decide) (by decide) (by decide) (by decide)) (Nat.le_of_ble_eq_true rfl) rfl dX9_readLaw_15 rfl (q_r0 ?_)
    refine g_putN C fp_X9_48_8 dX9_readLaw_18 (o1 _ _) (Nat.le_of_ble_eq_true rfl) (gfit_i _) ?_
    rw [TP_gu _ _ _ (by omega), SL_gu _ _ _ (by omega)]
    refine s_n1_aload C dX9_readLaw_21 ?_
    refine g_getN C fd_X9_48_8 dX9_readLaw_22 ((TP_out _ _ (by omega)).trans ((SL_out _ _ (by omega)).trans (gu_same ..))) rfl ?_
    refine g_if_lt 37 C dX9_readLaw_25 (by decide) (by unfold iR; omega) (fun c25 => ?_) (fun c25 => ?_)
    · refine g_iconst C dX9_readLaw_37 ?_
      refine g_zret C E dX9_readLaw_38 (by decide) (by omega) ?_
      have e : rdLaw T S sk = (0, (tNum (tSign T 116).2 9).2, S, (tNum (tSign T 116).2 9).1) := by unfold rdLaw; rw [if_neg (by omega), if_pos (by omega)]
      rw [e]
      exact ⟨rfl, rfl, rfl⟩
    · refine s_n0_aload C dX9_readLaw_28 ?_
      refine g_bipush C dX9_readLaw_29 (by decide) ?_
      refine g_invV C (k_readSign a2.1 (by omega)) (TP_there ..).1 cv_X9_40_9 (rmk_ok (by decide) (by decide) (by decide) (by decide)) (Nat.le_of_ble_eq_true rfl) rfl dX9_readLaw_31 rfl (q_r0 ?_)
      refine g_if_ne 39 C dX9_readLaw_34 (by decide) (by unfold iR; omega) (fun c34 => ?_) (fun c34 => ?_)
      · refine s_n1_aload C dX9_readLaw_39 ?_
        refine g_getN C fd_X9_51_8 dX9_readLaw_40 ((TP_out _ _ (by omega)).trans ((SL_out _ _ (by omega)).trans (gu_same ..))) rfl ?_
        refine s_n0_aload C dX9_readLaw_43 ?_
        refine g_bipush C dX9_readLaw_44 (by decide) ?_
        refine g_invV C (k_readNumber a3 (by omega)) (TP_there ..).1 cv_X9_44_9 (rmk_ok (by decide) (by decide) (by decide) (by decide)) (Nat.le_of_ble_eq_true rfl) rfl dX9_readLaw_46 rfl (q_r0 ?_)
        refine g_putN C fp_X9_55_7 dX9_readLaw_49 ((TP_out _ _ (by omega)).trans (SL_there ..).1) (Nat.le_of_ble_eq_true rfl) (gfit_i _) ?_
        rw [TP_gu _ _ _ (by omega), SLg_oil]
        refine s_n1_aload C dX9_readLaw_52 ?_
        refine g_getN C fd_X9_51_8 dX9_readLaw_53 ((TP_out _ _ (by omega)).trans ((SL_out _ _ (by omega)).trans (gu_same ..))) rfl ?_
        refine g_getN C fd_X9_55_7 dX9_readLaw_56 ((TP_out _ _ (by omega)).trans (SL_there ..).1) rfl ?_
        rw [show (sfOil S (tNum (tSign (tNum (tSign T 116).2 9).2 44).2 9).1).2.2.2.2.1 = (tNum (tSign (tNum (tSign T 116).2 9).2 44).2 9).1 from rfl]
        refine g_if_lt 75 C dX9_readLaw_59 (by decide) (by unfold iR; omega) (fun c59 => ?_) (fun c59 => ?_)
        · refine g_iconst C dX9_readLaw_75 ?_
          refine g_zret C E dX9_readLaw_76 (by decide) (by omega) ?_
          have e : rdLaw T S sk = (0, (tNum (tSign (tNum (tSign T 116).2 9).2 44).2 9).2, sfOil S (tNum (tSign (tNum (tSign T 116).2 9).2 44).2 9).1, (tNum (tSign T 116).2 9).1) := by unfold rdLaw; rw [if_neg (by omega), if_neg (by omega), if_neg (by omega), if_pos (by omega)]
          rw [e]
          exact ⟨rfl, rfl, rfl⟩
        · refine s_n0_aload C dX9_readLaw_62 ?_
          refine g_bipush C dX9_readLaw_63 (by decide) ?_
          refine g_invV C (k_readSign a4.1 (by omega)) (TP_there ..).1 cv_X9_40_9 (rmk_ok (by decide) (by decide) (by decide) (by decide)) (Nat.le_of_ble_eq_true rfl) rfl dX9_readLaw_65 rfl (q_r0 ?_)
          refine g_if_eq 75 C dX9_readLaw_68 (by decide) (by unfold iR; omega) (fun c68 => ?_) (fun c68 => ?_)
          · refine g_iconst C dX9_readLaw_75 ?_
            refine g_zret C E dX9_readLaw_76 (by decide) (by omega) ?_
            have e : rdLaw T S sk = ((tSign (tNum (tSign (tNum (tSign T 116).2 9).2 44).2 9).2 59).1, (tSign (tNum (tSign (tNum (tSign T 116).2 9).2 44).2 9).2 59).2, sfOil S (tNum (tSign (tNum (tSign T 116).2 9).2 44).2 9).1, (tNum (tSign T 116).2 9).1) := by unfold rdLaw; rw [if_neg (by omega), if_neg (by omega), if_neg (by omega), if_neg (by omega)]
            rw [e]
            refine ⟨?_, rfl, rfl⟩
            rw [c68]
          · refine g_iconst C dX9_readLaw_71 ?_
            refine g_goto 76 C dX9_readLaw_72 (by decide) ?_
            refine g_zret C E dX9_readLaw_76 (by decide) (by omega) ?_
            have e : rdLaw T S sk = ((tSign (tNum (tSign (tNum (tSign T 116).2 9).2 44).2 9).2 59).1, (tSign (tNum (tSign (tNum (tSign T 116).2 9).2 44).2 9).2 59).2, sfOil S (tNum (tSign (tNum (tSign T 116).2 9).2 44).2 9).1, (tNum (tSign T 116).2 9).1) := by unfold rdLaw; rw [if_neg (by omega), if_neg (by omega), if_neg (by omega), if_neg (by omega)]
            rw [e]
            refine ⟨?_, rfl, rfl⟩
            have e1 : (tSign (tNum (tSign (tNum (tSign T 116).2 9).2 44).2 9).2 59).1 = 1 := by omega
            rw [e1]
      · refine g_iconst C dX9_readLaw_37 ?_
        refine g_zret C E dX9_readLaw_38 (by decide) (by omega) ?_
        have e : rdLaw T S sk = (0, (tSign (tNum (tSign T 116).2 9).2 44).2, S, (tNum (tSign T 116).2 9).1) := by unfold rdLaw; rw [if_neg (by omega), if_neg (by omega), if_pos (by omega)]
        rw [e]
        exact ⟨rfl, rfl, rfl⟩
  · refine g_iconst C dX9_readLaw_9 ?_
    refine g_zret C E dX9_readLaw_10 (by decide) (by omega) ?_
    have e : rdLaw T S sk = (0, (tSign T 116).2, S, sk) := by unfold rdLaw; rw [if_pos (by omega)]
    rw [e]
    refine ⟨rfl, ?_, rfl⟩
    dsimp only
    rw [gu_self ht]
def rcN : Nat → TPT → SLT → Int → Int → Int × TPT × SLT
  | 0, T, S, _, _ => (1, T, S)
  | f + 1, T, S, seen, k =>
    if 15 < k then (1, T, S)
    else if ¬ tNext T = 102 then (1, T, S)
    else if k = 15 then (0, tRef T 3, S)
    else if (tNum (tAt T (T.2.2.2.1 + 1)) 14).1 < 0 then (0, (tNum (tAt T (T.2.2.2.1 + 1)) 14).2, S)
    else if bAnd (bShr seen (tNum (tAt T (T.2.2.2.1 + 1)) 14).1) 1 = 1 then (0, tRef (tAt (tNum (tAt T (T.2.2.2.1 + 1)) 14).2 (T.2.2.2.1 + 1)) 2, S)
    else if (tSign (tNum (tAt T (T.2.2.2.1 + 1)) 14).2 44).1 = 0 then (0, (tSign (tNum (tAt T (T.2.2.2.1 + 1)) 14).2 44).2, S)
    else if (tNum (tSign (tNum (tAt T (T.2.2.2.1 + 1)) 14).2 44).2 99).1 < 0 then (0, (tNum (tSign (tNum (tAt T (T.2.2.2.1 + 1)) 14).2 44).2 99).2, S)
    else if (tSign (tNum (tSign (tNum (tAt T (T.2.2.2.1 + 1)) 14).2 44).2 99).2 59).1 = 0 then (0, (tSign (tNum (tSign (tNum (tAt T (T.2.2.2.1 + 1)) 14).2 44).2 99).2 59).2, S)
    else rcN f (tSign (tNum (tSign (tNum (tAt T (T.2.2.2.1 + 1)) 14).2 44).2 99).2 59).2 (sfFilm S (up S.1 (tNum (tAt T (T.2.2.2.1 + 1)) 14).1 (tNum (tSign (tNum (tAt T (T.2.2.2.1 + 1)) 14).2 44).2 99).1)) (bOr seen (bShl 1 (tNum (tAt T (T.2.2.2.1 + 1)) 14).1)) (k + 1)
def rdCells (T : TPT) (S : SLT) : Int × TPT × SLT := rcN 17 T S 0 0
set_option maxRecDepth 20000 in
theorem ct_X9_readCells {t ℓ sk : Int} {T0 : TPT} {S0 : SLT} {M : gM} {n : Int} (hT : tpOK T0) (ht : M t = some (gO 8 [vr (t + 1), vr ℓ, vi sk])) (h5 : 5 ≤ t ∧ t ≤ 22) : CT yX9_readCells cX9_readCells 7 (some .boolean) (rmk 2 0 0) [vr 2, vr t] (TP 2 T0 (SL (t + 1) S0 M)) n (qr (some (vi (rdCells T0 S0).1)) (TP 2 (rdCells T0 S0).2.1 (SL (t + 1) (rdCells T0 S0).2.2 M)) n) := by
  refine CT.of (by decide) (fun _ => Nat.le_of_ble_eq_true rfl) (fun κ C E => ?_)
  show G κ (TP 2 T0 (SL (t + 1) S0 M)) n [some (vr 2), some (vr t), none, none, none, none, none] 0 [] 0 0
  have lp : ∀ (f : Nat) (T : TPT) (S : SLT) (seen k : Int) (z4 z5 z6 : Option gV), gcat2 z4 = false → gcat2 z5 = false → tpOK T → 0 ≤ k ∧ k ≤ 16 → 16 < k + f → rcN f T S seen k = rdCells T0 S0 → G κ (TP 2 T (SL (t + 1) S M)) n [some (vr 2), some (vr t), some (vi seen), some (vi k), z4, z5, z6] 4 [] 0 0 := by
    intro f
    induction f with
    | zero => intro T S seen k z4 z5 z6 q4 q5 h1 h2 h3; omega
    | succ f ih =>
      intro T S seen k z4 z5 z6 q4 q5 h1 h2 h3 hR
      have b0 := h1.2
      have bn := tNext_b h1
      unfold rcN at hR
      refine s_n3_iload C dX9_readCells_4 ?_
      refine g_bipush C dX9_readCells_5 (by decide) ?_
      refine g_icmp_gt 144 C dX9_readCells_7 (by decide) (by unfold iR; omega) (by unfold iR; omega) (fun c7 => ?_) (fun c7 => ?_)
      · refine g_iconst C dX9_readCells_144 ?_
        refine g_zret C E dX9_readCells_145 (by decide) (by omega) ?_
        rw [if_pos (by omega)] at hR
        rw [← hR]
        exact ⟨rfl, rfl, rfl⟩
      · refine s_n0_aload C dX9_readCells_10 ?_
        refine g_invV C (k_next h1) (TP_there ..).1 cv_X9_60_9 (rmk_ok (by decide) (by decide) (by decide) (by decide)) (Nat.le_of_ble_eq_true rfl) rfl dX9_readCells_11 rfl (q_r0 ?_)
        refine g_bipush C dX9_readCells_14 (by decide) ?_
        refine g_icmp_ne 144 C dX9_readCells_16 (by decide) (by unfold iR; omega) (by unfold iR; omega) (fun c16 => ?_) (fun c16 => ?_)
        · refine g_iconst C dX9_readCells_144 ?_
          refine g_zret C E dX9_readCells_145 (by decide) (by omega) ?_
          rw [if_neg (by omega), if_pos c16] at hR
          rw [← hR]
          exact ⟨rfl, rfl, rfl⟩
        · refine s_n3_iload C dX9_readCells_19 ?_
          refine g_bipush C dX9_readCells_20 (by decide) ?_
          refine g_icmp_ne 31 C dX9_readCells_22 (by decide) (by unfold iR; omega) (by unfold iR; omega) (fun c22 => ?_) (fun c22 => ?_)
          · have hlt := tNext_lt (T := T) (by omega)
            have a0 := tAt_ok (x := T.2.2.2.1 + 1) h1 (by omega)
            have a1 := tNum_ok (most := 14) a0
            have a2 := tSign_ok (c := 44) a1.1 (by decide)
            have z2 := tSign_01 (tNum (tAt T (T.2.2.2.1 + 1)) 14).2 44
            have a3 := tNum_ok (most := 99) a2
            have a4 := tSign_ok (c := 59) a3.1 (by decide)
            have z4 := tSign_01 (tNum (tSign (tNum (tAt T (T.2.2.2.1 + 1)) 14).2 44).2 99).2 59
            refine s_n0_aload C dX9_readCells_31 ?_
            refine g_dup C dX9_readCells_32 rfl ?_
            refine g_get C fd_X9_22_9 dX9_readCells_33 (TP_there ..).1 rfl ?_
            refine g_iconst C dX9_readCells_36 ?_
            refine g_iadd C dX9_readCells_37 ?_
            refine g_put C fp_X9_22_9 dX9_readCells_38 (TP_there ..).1 (Nat.le_of_ble_eq_true rfl) (gfit_i _) ?_
            rw [TPg_at]
            refine s_n0_aload C dX9_readCells_41 ?_
            refine g_get C fd_X9_22_9 dX9_readCells_42 (TP_there ..).1 rfl ?_
            refine s_w4_istore C dX9_readCells_45 rfl ?_
            refine s_n0_aload C dX9_readCells_47 ?_
            refine g_bipush C dX9_readCells_48 (by decide) ?_
            refine g_invV C (k_readNumber a0 (by omega)) (TP_there ..).1 cv_X9_44_9 (rmk_ok (by decide) (by decide) (by decide) (by decide)) (Nat.le_of_ble_eq_true rfl) rfl dX9_readCells_50 rfl (q_r0 ?_)
            refine s_w5_istore C dX9_readCells_53 rfl ?_
            refine s_w5_iload C dX9_readCells_55 ?_
            refine g_if_ge 62 C dX9_readCells_57 (by decide) (by unfold iR; omega) (fun c57 => ?_) (fun c57 => ?_)
            · refine s_n2_iload C dX9_readCells_62 ?_
              refine s_w5_iload C dX9_readCells_63 ?_
              refine g_ishr C dX9_readCells_65 ?_
              refine g_iconst C dX9_readCells_66 ?_
              refine g_iand C dX9_readCells_67 ?_
              refine g_iconst C dX9_readCells_68 ?_
              refine g_icmp_ne 84 C dX9_readCells_69 (by decide) (by exact bAnd_R _ _) (by unfold iR; omega) (fun c69 => ?_) (fun c69 => ?_)
              · refine s_n2_iload C dX9_readCells_84 ?_
                refine g_iconst C dX9_readCells_85 ?_
                refine s_w5_iload C dX9_readCells_86 ?_
                refine g_ishl C dX9_readCells_88 ?_
                refine g_ior C dX9_readCells_89 ?_
                refine s_n2_istore C dX9_readCells_90 rfl ?_
                refine s_n0_aload C dX9_readCells_91 ?_
                refine g_bipush C dX9_readCells_92 (by decide) ?_
                refine g_invV C (k_readSign a1.1 (by omega)) (TP_there ..).1 cv_X9_40_9 (rmk_ok (by decide) (by decide) (by decide) (by decide)) (Nat.le_of_ble_eq_true rfl) rfl dX9_readCells_94 rfl (q_r0 ?_)
                refine g_if_ne 102 C dX9_readCells_97 (by decide) (by unfold iR; omega) (fun c97 => ?_) (fun c97 => ?_)
                · refine s_n0_aload C dX9_readCells_102 ?_
                  refine g_bipush C dX9_readCells_103 (by decide) ?_
                  refine g_invV C (k_readNumber a2 (by omega)) (TP_there ..).1 cv_X9_44_9 (rmk_ok (by decide) (by decide) (by decide) (by decide)) (Nat.le_of_ble_eq_true rfl) rfl dX9_readCells_105 rfl (q_r0 ?_)
                  refine s_w6_istore C dX9_readCells_108 rfl ?_
                  refine s_w6_iload C dX9_readCells_110 ?_
                  refine g_if_lt 124 C dX9_readCells_112 (by decide) (by unfold iR; omega) (fun c112 => ?_) (fun c112 => ?_)
                  · refine g_iconst C dX9_readCells_124 ?_
                    refine g_zret C E dX9_readCells_125 (by decide) (by omega) ?_
                    rw [if_neg (by omega), if_neg (not_not_intro c16), if_neg (by omega), if_neg (by omega), if_neg c69, if_neg (by omega), if_pos (by omega)] at hR
                    rw [← hR]
                    exact ⟨rfl, rfl, rfl⟩
                  · refine s_n0_aload C dX9_readCells_115 ?_
                    refine g_bipush C dX9_readCells_116 (by decide) ?_
                    refine g_invV C (k_readSign a3.1 (by omega)) (TP_there ..).1 cv_X9_40_9 (rmk_ok (by decide) (by decide) (by decide) (by decide)) (Nat.le_of_ble_eq_true rfl) rfl dX9_readCells_118 rfl (q_r0 ?_)
                    refine g_if_ne 126 C dX9_readCells_121 (by decide) (by unfold iR; omega) (fun c121 => ?_) (fun c121 => ?_)
                    · refine s_n1_aload C dX9_readCells_126 ?_
                      refine g_getN C fd_X9_51_8 dX9_readCells_127 ((TP_out _ _ (by omega)).trans ((SL_out _ _ (by omega)).trans ht)) rfl ?_
                      refine g_getN C fd_X9_68_7 dX9_readCells_130 ((TP_out _ _ (by omega)).trans (SL_there ..).1) rfl ?_
                      refine s_w5_iload C dX9_readCells_133 ?_
                      refine s_w6_iload C dX9_readCells_135 ?_
                      refine g_iast C dX9_readCells_137 ((TP_out _ _ (by omega)).trans (SL_there ..).2.1) (by omega) ?_
                      rw [TP_gu _ _ _ (by omega), SLg_film]
                      refine s_w3_iinc C dX9_readCells_138 rfl ?_
                      refine g_goto 4 C dX9_readCells_141 (by decide) ?_
                      rw [if_neg (by omega), if_neg (not_not_intro c16), if_neg (by omega), if_neg (by omega), if_neg c69, if_neg (by omega), if_neg (by omega), if_neg (by omega)] at hR
                      exact ih _ _ _ _ _ _ _ rfl rfl a4 (by omega) (by omega) hR
                    · refine g_iconst C dX9_readCells_124 ?_
                      refine g_zret C E dX9_readCells_125 (by decide) (by omega) ?_
                      rw [if_neg (by omega), if_neg (not_not_intro c16), if_neg (by omega), if_neg (by omega), if_neg c69, if_neg (by omega), if_neg (by omega), if_pos (by omega)] at hR
                      rw [← hR]
                      exact ⟨rfl, rfl, rfl⟩
                · refine g_iconst C dX9_readCells_100 ?_
                  refine g_zret C E dX9_readCells_101 (by decide) (by omega) ?_
                  rw [if_neg (by omega), if_neg (not_not_intro c16), if_neg (by omega), if_neg (by omega), if_neg c69, if_pos (by omega)] at hR
                  rw [← hR]
                  exact ⟨rfl, rfl, rfl⟩
              · refine s_n0_aload C dX9_readCells_72 ?_
                refine s_w4_iload C dX9_readCells_73 ?_
                refine g_put C fp_X9_22_9 dX9_readCells_75 (TP_there ..).1 (Nat.le_of_ble_eq_true rfl) (gfit_i _) ?_
                rw [TPg_at]
                refine s_n0_aload C dX9_readCells_78 ?_
                refine g_iconst C dX9_readCells_79 ?_
                refine g_invV C (k_refuse) (TP_there ..).1 cv_X9_64_9 (rmk_ok (by decide) (by decide) (by decide) (by decide)) (Nat.le_of_ble_eq_true rfl) rfl dX9_readCells_80 rfl (q_r0 ?_)
                refine g_zret C E dX9_readCells_83 (by decide) (by omega) ?_
                rw [if_neg (by omega), if_neg (not_not_intro c16), if_neg (by omega), if_neg (by omega), if_pos c69] at hR
                rw [← hR]
                exact ⟨rfl, rfl, rfl⟩
            · refine g_iconst C dX9_readCells_60 ?_
              refine g_zret C E dX9_readCells_61 (by decide) (by omega) ?_
              rw [if_neg (by omega), if_neg (not_not_intro c16), if_neg (by omega), if_pos (by omega)] at hR
              rw [← hR]
              exact ⟨rfl, rfl, rfl⟩
          · refine s_n0_aload C dX9_readCells_25 ?_
            refine g_iconst C dX9_readCells_26 ?_
            refine g_invV C (k_refuse) (TP_there ..).1 cv_X9_64_9 (rmk_ok (by decide) (by decide) (by decide) (by decide)) (Nat.le_of_ble_eq_true rfl) rfl dX9_readCells_27 rfl (q_r0 ?_)
            refine g_zret C E dX9_readCells_30 (by decide) (by omega) ?_
            rw [if_neg (by omega), if_neg (not_not_intro c16), if_pos (by omega)] at hR
            rw [← hR]
            exact ⟨rfl, rfl, rfl⟩
  refine g_iconst C dX9_readCells_0 ?_
  refine s_n2_istore C dX9_readCells_1 rfl ?_
  refine g_iconst C dX9_readCells_2 ?_
  refine s_n3_istore C dX9_readCells_3 rfl ?_
  exact lp 17 T0 S0 0 0 none none none rfl rfl hT (by omega) (by omega) rfl
def psAdd (ps : PST) (ci : Nat) (len : Int) (cs : Int → Int) : PST := (ps.1 + 1, fun p => if p = ps.1 then ci else ps.2.1 p, fun p => if p = ps.1 then len else ps.2.2.1 p, fun p => if p = ps.1 then cs else ps.2.2.2 p)
def rpN : Nat → TPT → PST → Int × TPT × PST
  | 0, T, ps => (1, T, ps)
  | f + 1, T, ps =>
    if 4 < ps.1 then (1, T, ps)
    else if tNext T = -1 then (1, T, ps)
    else if ¬ (tNext T = 103 ∨ tNext T = 115 ∨ tNext T = 100 ∨ tNext T = 99 ∨ tNext T = 114) then (0, tRef T 1, ps)
    else if ps.1 = 4 then (0, tRef T 3, ps)
    else if (tRdWay (tAt T (T.2.2.2.1 + 1))).1 < 0 then (0, (tRdWay (tAt T (T.2.2.2.1 + 1))).2, ps)
    else if (tSign (tRdWay (tAt T (T.2.2.2.1 + 1))).2 59).1 = 0 then (0, (tSign (tRdWay (tAt T (T.2.2.2.1 + 1))).2 59).2, ps)
    else rpN f (tSign (tRdWay (tAt T (T.2.2.2.1 + 1))).2 59).2 (psAdd ps (soCi (tNext T)) (tRdWay (tAt T (T.2.2.2.1 + 1))).1 (tRdWay (tAt T (T.2.2.2.1 + 1))).2.2.1)
def psNil : PST := (0, fun _ => 0, fun _ => 0, fun _ _ => 0)
def rdPasses (T : TPT) : Int × TPT × PST := rpN 6 T psNil
/-- a list that is being made: all of it is new -/
def lsB (M : gM) (n ℓ : Int) (ps : PST) : Prop := ∃ (mc e : Int) (er : Int → Option Int) (pa wy : Int → Int), 164 ≤ ℓ ∧ ℓ < n ∧ M ℓ = some (gO 0 [vi mc, vr e, vi ps.1]) ∧ ((ps.1 = 0 ∧ e = -1) ∨ (ℓ < e ∧ e < n ∧ M e = some (gR 5 10 er))) ∧ (∀ p, 0 ≤ p → p < ps.1 → er p = some (pa p) ∧ ℓ < pa p ∧ pa p < n ∧ ℓ < wy p ∧ wy p < n ∧ paI M (pa p) (ps.2.1 p) p (wy p) (ps.2.2.1 p) (ps.2.2.2 p)) ∧ ∀ a, n ≤ a → M a = none
theorem lsB.ls {M : gM} {n ℓ : Int} {ps : PST} (h : lsB M n ℓ ps) : lsI M ℓ ps := by
  obtain ⟨mc, e, er, pa, wy, h1, h2, h3, h4, h5, h6⟩ := h
  refine ⟨mc, e, er, pa, wy, Or.inl h1, h3, ?_, fun p p1 p2 => ?_⟩
  · rcases h4 with h4 | ⟨q1, q2, q3⟩
    · exact Or.inl h4
    · exact Or.inr ⟨by omega, q3⟩
  · obtain ⟨g1, g2, g3, g4, g5, g6⟩ := h5 p p1 p2
    exact ⟨g1, by omega, by omega, g6⟩
theorem tSign_way (T : TPT) (c : Int) : (tSign T c).2.2.1 = T.2.1 := by
  unfold tSign
  split <;> rfl
theorem soCi_ki (c : Int) : isKi (soCi c) := by
  unfold soCi isKi
  (repeat' split) <;> omega
theorem upq_same (f : Int → Option Int) (k : Int) (x : Option Int) : upq f k x k = x := if_pos rfl
theorem upq_ne (f : Int → Option Int) {k j : Int} (x : Option Int) (h : ¬ j = k) : upq f k x j = f j := if_neg h
theorem lsB_A {M : gM} {n ℓ mc len : Int} {ps : PST} {ci : Nat} {cs : Int → Int} (h1 : 164 ≤ ℓ) (h2 : ℓ < n) (h0 : ps.1 = 0) (hf : ∀ a, n ≤ a → M a = none) : lsB (gu (gu (gu (gu M n (gA 0 len cs)) (n + 1) (gO ci [vi ps.1, vr n])) (n + 2) (gR 5 10 (upq (fun _ => none) 0 (some (n + 1))))) ℓ (gO 0 [vi (mc + 1), vr (n + 2), vi 1])) (n + 3) ℓ (psAdd ps ci len cs) := by
  refine ⟨mc + 1, n + 2, upq (fun _ => none) 0 (some (n + 1)), fun _ => n + 1, fun _ => n, h1, by omega, ?_, Or.inr ⟨by omega, by omega, ?_⟩, fun p p1 p2 => ?_, fun a ha => ?_⟩
  · rw [gu_same]; show _ = some (gO 0 [_, _, vi (ps.1 + 1)]); rw [h0]; rfl
  · rw [gu_ne _ _ (by omega), gu_same]
  · have p2 : p < ps.1 + 1 := p2
    have e : p = ps.1 := by omega
    refine ⟨by rw [show p = 0 by omega]; exact upq_same .., by dsimp only; omega, by dsimp only; omega, by dsimp only; omega, by dsimp only; omega, ?_, ?_⟩
    · dsimp only [psAdd]
      rw [if_pos e, e, gu_ne _ _ (by omega), gu_ne _ _ (by omega), gu_same]
    · dsimp only [psAdd]
      rw [if_pos e, if_pos e, gu_ne _ _ (by omega), gu_ne _ _ (by omega), gu_ne _ _ (by omega), gu_same]
  · rw [gu_ne _ _ (by omega), gu_ne _ _ (by omega), gu_ne _ _ (by omega), gu_ne _ _ (by omega)]
    exact hf a (by omega)
theorem lsB_B {M : gM} {n ℓ mc e len : Int} {er : Int → Option Int} {pa wy : Int → Int} {ps : PST} {ci : Nat} {cs : Int → Int} (h1 : 164 ≤ ℓ) (h2 : ℓ < n) (he : ℓ < e ∧ e < n) (hee : M e = some (gR 5 10 er)) (h0 : 0 ≤ ps.1) (h5 : ∀ p, 0 ≤ p → p < ps.1 → er p = some (pa p) ∧ ℓ < pa p ∧ pa p < n ∧ ℓ < wy p ∧ wy p < n ∧ paI M (pa p) (ps.2.1 p) p (wy p) (ps.2.2.1 p) (ps.2.2.2 p)) (hf : ∀ a, n ≤ a → M a = none) : lsB (gu (gu (gu (gu M n (gA 0 len cs)) (n + 1) (gO ci [vi ps.1, vr n])) e (gR 5 10 (upq er ps.1 (some (n + 1))))) ℓ (gO 0 [vi (mc + 1), vr e, vi (ps.1 + 1)])) (n + 2) ℓ (psAdd ps ci len cs) := by
  refine ⟨mc + 1, e, upq er ps.1 (some (n + 1)), fun p => if p = ps.1 then n + 1 else pa p, fun p => if p = ps.1 then n else wy p, h1, by omega, gu_same .., Or.inr ⟨he.1, by omega, by rw [gu_ne _ _ (by omega), gu_same]⟩, fun p p1 p2 => ?_, fun a ha => ?_⟩
  · have p2 : p < ps.1 + 1 := p2
    dsimp only [psAdd]
    by_cases ep : p = ps.1
    · simp only [if_pos ep]
      refine ⟨by rw [ep]; exact upq_same .., by omega, by omega, by omega, by omega, ?_, ?_⟩
      · rw [ep, gu_ne _ _ (by omega), gu_ne _ _ (by omega), gu_same]
      · rw [gu_ne _ _ (by omega), gu_ne _ _ (by omega), gu_ne _ _ (by omega), gu_same]
    · simp only [if_neg ep]
      obtain ⟨g1, g2, g3, g4, g5, g6, g7⟩ := h5 p p1 (by omega)
      have n1 : ¬ pa p = e := fun q => by rw [q, hee] at g6; cases g6
      have n2 : ¬ wy p = e := fun q => by rw [q, hee] at g7; cases g7
      refine ⟨by rw [upq_ne _ _ ep]; exact g1, g2, by omega, g4, by omega, ?_, ?_⟩
      · rw [gu_ne _ _ (by omega), gu_ne _ _ n1, gu_ne _ _ (by omega), gu_ne _ _ (by omega)]; exact g6
      · rw [gu_ne _ _ (by omega), gu_ne _ _ n2, gu_ne _ _ (by omega), gu_ne _ _ (by omega)]; exact g7
  · rw [gu_ne _ _ (by omega), gu_ne _ _ (by omega), gu_ne _ _ (by omega), gu_ne _ _ (by omega)]
    exact hf a (by omega)
theorem psAdd_ok {ps : PST} {ci : Nat} {len : Int} {cs : Int → Int} (h : psOK ps) (h3 : ps.1 ≤ 3) (hk : isKi ci) (hw : waOK len cs) : psOK (psAdd ps ci len cs) := by
  refine ⟨by have := h.1; dsimp only [psAdd]; omega, by dsimp only [psAdd]; omega, fun p p1 p2 => ?_⟩
  have p2 : p < ps.1 + 1 := p2
  dsimp only [psAdd]
  by_cases ep : p = ps.1
  · simp only [if_pos ep]; exact ⟨hk, hw⟩
  · simp only [if_neg ep]; exact h.2.2 p p1 (by omega)
set_option maxRecDepth 20000 in
theorem ct_X9_readPasses {t ℓ sk : Int} {T0 : TPT} {S : SLT} {M0 : gM} {n0 : Int} (hT : tpOK T0) (ht0 : M0 t = some (gO 8 [vr (t + 1), vr ℓ, vi sk])) (h5 : 5 ≤ t ∧ t ≤ 22) (hB : lsB M0 n0 ℓ psNil) : CT yX9_readPasses cX9_readPasses 5 (some .boolean) (rmk 7 12 84) [vr 2, vr t] (TP 2 T0 (SL (t + 1) S M0)) n0 (fun r M2 n2 => r = some (vi (rdPasses T0).1) ∧ ∃ (M : gM) (ps : PST), M2 = TP 2 (rdPasses T0).2.1 (SL (t + 1) S M) ∧ M t = some (gO 8 [vr (t + 1), vr ℓ, vi sk]) ∧ lsB M n2 ℓ ps ∧ psOK ps ∧ tpOK (rdPasses T0).2.1 ∧ ((rdPasses T0).1 = 1 → ps = (rdPasses T0).2.2) ∧ (∀ a, a < ℓ → M a = M0 a)) := by
  refine CT.of (by decide) (fun _ => Nat.le_of_ble_eq_true rfl) (fun κ C E => ?_)
  show G κ (TP 2 T0 (SL (t + 1) S M0)) n0 [some (vr 2), some (vr t), none, none, none] 0 [] 0 0
  have lp : ∀ (f k : Nat) (T : TPT) (ps : PST) (M : gM) (n : Int) (z3 z4 : Option gV), gcat2 z3 = false → tpOK T → ps.1 = (k : Int) → k ≤ 4 → 4 < k + f → psOK ps → M t = some (gO 8 [vr (t + 1), vr ℓ, vi sk]) → lsB M n ℓ ps → (∀ a, a < ℓ → M a = M0 a) → rpN f T ps = rdPasses T0 → G κ (TP 2 T (SL (t + 1) S M)) n [some (vr 2), some (vr t), some (vi ps.1), z3, z4] 2 [] (3 * k) (21 * k) := by
    intro f
    induction f with
    | zero => intro k T ps M n z3 z4 q3 h1 h2 h3 h4; omega
    | succ f ih =>
      intro k T ps M n z3 z4 q3 h1 h2 h3 h4 hp ht hb hfr hR
      have b0 := h1.2
      have bn := tNext_b h1
      have pz := hp.1
      unfold rpN at hR
      refine s_n2_iload C dX9_readPasses_2 ?_
      refine g_iconst C dX9_readPasses_3 ?_
      refine g_icmp_gt 104 C dX9_readPasses_4 (by decide) (by unfold iR; omega) (by unfold iR; omega) (fun c4 => ?_) (fun c4 => ?_)
      · refine g_iconst C dX9_readPasses_104 ?_
        refine g_zret C E dX9_readPasses_105 (by show _ ≤ 12 ∧ _ ≤ 84; omega) (by omega) ?_
        rw [if_pos (by omega)] at hR
        rw [← hR]
        refine ⟨rfl, M, ps, rfl, ht, hb, hp, ?_, ?_, hfr⟩
        · first | exact h1 | exact tRef_ok h1 | exact a1.1 | exact a2
        · first | exact fun _ => rfl | exact fun q => absurd q (by decide)
      · refine s_n0_aload C dX9_readPasses_7 ?_
        refine g_invV C (k_next h1) (TP_there ..).1 cv_X9_60_9 (rmk_ok (by decide) (by decide) (by omega) (by omega)) (Nat.le_of_ble_eq_true rfl) rfl dX9_readPasses_8 rfl (q_r0 ?_)
        refine g_iconst C dX9_readPasses_11 ?_
        refine g_icmp_eq 104 C dX9_readPasses_12 (by decide) (by unfold iR; omega) (by unfold iR; omega) (fun c12 => ?_) (fun c12 => ?_)
        · refine g_iconst C dX9_readPasses_104 ?_
          refine g_zret C E dX9_readPasses_105 (by show _ ≤ 12 ∧ _ ≤ 84; omega) (by omega) ?_
          rw [if_neg (by omega), if_pos (by omega)] at hR
          rw [← hR]
          refine ⟨rfl, M, ps, rfl, ht, hb, hp, ?_, ?_, hfr⟩
          · first | exact h1 | exact tRef_ok h1 | exact a1.1 | exact a2
          · first | exact fun _ => rfl | exact fun q => absurd q (by decide)
        · refine s_n0_aload C dX9_readPasses_15 ?_
          refine g_invV C (k_next h1) (TP_there ..).1 cv_X9_60_9 (rmk_ok (by decide) (by decide) (by omega) (by omega)) (Nat.le_of_ble_eq_true rfl) rfl dX9_readPasses_16 rfl (q_r0 ?_)
          refine s_n3_istore C dX9_readPasses_19 rfl ?_
          refine s_n3_iload C dX9_readPasses_20 ?_
          refine g_invS C (ct_X9_isSort (by unfold iR; omega)) cs_X9_71 (rmk_ok (by decide) (by decide) (by omega) (by omega)) (Nat.le_of_ble_eq_true rfl) rfl dX9_readPasses_21 rfl (fun r M9 n9 hq => ?_)
          show G κ _ _ _ _ _ (3 * k) (21 * k)
          obtain ⟨hq1, hq2, hso⟩ := hq
          rw [hq1, hq2]
          unfold isSo at hso
          rcases hso with ⟨rfl, hso⟩ | ⟨rfl, hso⟩
          · refine g_if_ne 33 C dX9_readPasses_24 (by decide) (by unfold iR; omega) (fun c24 => ?_) (fun c24 => by exfalso; omega)
            refine s_n2_iload C dX9_readPasses_33 ?_
            refine g_iconst C dX9_readPasses_34 ?_
            refine g_icmp_ne 44 C dX9_readPasses_35 (by decide) (by unfold iR; omega) (by unfold iR; omega) (fun c35 => ?_) (fun c35 => ?_)
            · have hlt := tNext_lt (T := T) c12
              have a0 := tAt_ok (x := T.2.2.2.1 + 1) h1 (by omega)
              have a1 := tRdWay_ok a0
              have a1u : (tRdWay (tAt T (T.2.2.2.1 + 1))).1 ≤ 9 := a1.2.2.elim (fun q => by omega) (fun q => q.2.1)
              have a2 := tSign_ok (c := 59) a1.1 (by decide)
              have z2 := tSign_01 (tRdWay (tAt T (T.2.2.2.1 + 1))).2 59
              refine s_n0_aload C dX9_readPasses_44 ?_
              refine g_dup C dX9_readPasses_45 rfl ?_
              refine g_get C fd_X9_22_9 dX9_readPasses_46 (TP_there ..).1 rfl ?_
              refine g_iconst C dX9_readPasses_49 ?_
              refine g_iadd C dX9_readPasses_50 ?_
              refine g_put C fp_X9_22_9 dX9_readPasses_51 (TP_there ..).1 (Nat.le_of_ble_eq_true rfl) (gfit_i _) ?_
              rw [TPg_at]
              refine s_n0_aload C dX9_readPasses_54 ?_
              refine g_invV C (ct_X9_readWay a0) (TP_there ..).1 cv_X9_74_9 (rmk_ok (by decide) (by decide) (by omega) (by omega)) (Nat.le_of_ble_eq_true rfl) rfl dX9_readPasses_55 rfl (q_r0 ?_)
              refine s_w4_istore C dX9_readPasses_58 rfl ?_
              refine s_w4_iload C dX9_readPasses_60 ?_
              refine g_if_lt 74 C dX9_readPasses_62 (by decide) (by unfold iR; omega) (fun c62 => ?_) (fun c62 => ?_)
              · refine g_iconst C dX9_readPasses_74 ?_
                refine g_zret C E dX9_readPasses_75 (by show _ ≤ 12 ∧ _ ≤ 84; omega) (by omega) ?_
                rw [if_neg (by omega), if_neg (by omega), if_neg (not_not_intro hso), if_neg (by omega), if_pos (by omega)] at hR
                rw [← hR]
                refine ⟨rfl, M, ps, rfl, ht, hb, hp, ?_, ?_, hfr⟩
                · first | exact h1 | exact tRef_ok h1 | exact a1.1 | exact a2
                · first | exact fun _ => rfl | exact fun q => absurd q (by decide)
              · refine s_n0_aload C dX9_readPasses_65 ?_
                refine g_bipush C dX9_readPasses_66 (by decide) ?_
                refine g_invV C (k_readSign a1.1 (by omega)) (TP_there ..).1 cv_X9_40_9 (rmk_ok (by decide) (by decide) (by omega) (by omega)) (Nat.le_of_ble_eq_true rfl) rfl dX9_readPasses_68 rfl (q_r0 ?_)
                refine g_if_ne 76 C dX9_readPasses_71 (by decide) (by unfold iR; omega) (fun c71 => ?_) (fun c71 => ?_)
                · have ew : (tSign (tRdWay (tAt T (T.2.2.2.1 + 1))).2 59).2.2.1 = (tRdWay (tAt T (T.2.2.2.1 + 1))).2.2.1 := tSign_way _ _
                  have hw : waOK (tRdWay (tAt T (T.2.2.2.1 + 1))).1 (tSign (tRdWay (tAt T (T.2.2.2.1 + 1))).2 59).2.2.1 := by rw [ew]; exact a1.2.2.resolve_left (by omega)
                  rw [if_neg (by omega), if_neg (by omega), if_neg (not_not_intro hso), if_neg (by omega), if_neg (by omega), if_neg (by omega), ← ew] at hR
                  have hb2 := hb
                  obtain ⟨-, -, -, -, -, w1, w2, -, -, -, -⟩ := hb2
                  refine s_n1_aload C dX9_readPasses_76 ?_
                  refine g_getN C fd_X9_77_8 dX9_readPasses_77 ((TP_out _ _ (by omega)).trans ((SL_out _ _ (by omega)).trans ht)) rfl ?_
                  refine s_n3_iload C dX9_readPasses_80 ?_
                  refine s_n2_iload C dX9_readPasses_81 ?_
                  refine s_n0_aload C dX9_readPasses_82 ?_
                  refine g_get C fd_X9_15_9 dX9_readPasses_83 (TP_there ..).1 rfl ?_
                  refine s_w4_iload C dX9_readPasses_86 ?_
                  refine g_invS C (ct_J7_copyOf_59c91 (k := (tRdWay (tAt T (T.2.2.2.1 + 1))).1) (TP_there ..).2.2 ⟨hw.1, hw.2.1⟩ (by omega)) cs_X9_81 (rmk_ok (by decide) (by decide) (by omega) (by omega)) (Nat.le_of_ble_eq_true rfl) rfl dX9_readPasses_88 rfl (q_r ?_)
                  rw [TP_gu _ _ _ (by omega), SL_gu _ _ _ (by omega)]
                  show G κ _ _ _ _ _ (3 * k + 1) (21 * k + 9)
                  refine g_invS C (ct_X9_newPass (by unfold iR; omega)) cs_X9_87 (rmk_ok (by decide) (by decide) (by omega) (by omega)) (Nat.le_of_ble_eq_true rfl) rfl dX9_readPasses_91 rfl (q_r ?_)
                  rw [TP_gu _ _ _ (by omega), SL_gu _ _ _ (by omega)]
                  rw [show n + 1 + 1 = n + 2 by omega]
                  show G κ _ _ _ _ _ (3 * k + 2) (21 * k + 11)
                  obtain ⟨mc, e, er, pa, wy, l1, l2, l3, l4, l5, l6⟩ := hb
                  rcases l4 with ⟨q0, q1⟩ | ⟨q1, q2, q3⟩
                  · rw [q1] at l3
                    have l3 : M ℓ = some (gO 0 [vi mc, vr (-1), vi 0]) := by rw [l3, q0]
                    have lo := (show TP 2 (tSign (tRdWay (tAt T (T.2.2.2.1 + 1))).2 59).2 (SL (t + 1) S (gu (gu M n (gA 0 (tRdWay (tAt T (T.2.2.2.1 + 1))).1 (tSign (tRdWay (tAt T (T.2.2.2.1 + 1))).2 59).2.2.1)) (n + 1) (gO (soCi (tNext T)) [vi ps.1, vr n]))) ℓ = _ from ((TP_out _ _ (by omega)).trans ((SL_out _ _ (by omega)).trans ((gu_ne _ _ (by omega)).trans ((gu_ne _ _ (by omega)).trans l3)))))
                    have xo : TP 2 (tSign (tRdWay (tAt T (T.2.2.2.1 + 1))).2 59).2 (SL (t + 1) S (gu (gu M n (gA 0 (tRdWay (tAt T (T.2.2.2.1 + 1))).1 (tSign (tRdWay (tAt T (T.2.2.2.1 + 1))).2 59).2.2.1)) (n + 1) (gO (soCi (tNext T)) [vi ps.1, vr n]))) (n + 1) = some (gO (soCi (tNext T)) [vi ps.1, vr n]) := (TP_out _ _ (by omega)).trans ((SL_out _ _ (by omega)).trans (gu_same ..))
                    refine g_invV C (ct_add_A (mc := mc) lo (soCi_ki _) xo ⟨by omega, by omega, by omega⟩) lo cv_X9_91_0 (rmk_ok (by decide) (by decide) (by omega) (by omega)) (Nat.le_of_ble_eq_true rfl) rfl dX9_readPasses_94 rfl (q_r ?_)
                    rw [TP_gu _ _ _ (by omega), SL_gu _ _ _ (by omega), TP_gu _ _ _ (by omega), SL_gu _ _ _ (by omega), show n + 2 + 1 = n + 3 by omega]
                    show G κ _ _ _ _ _ (3 * k + 3) (21 * k + 21)
                    refine g_pop C dX9_readPasses_97 rfl ?_
                    refine s_w2_iinc C dX9_readPasses_98 rfl ?_
                    refine g_goto 2 C dX9_readPasses_101 (by decide) ?_
                    refine G.widen (k := 3 * (k + 1)) (k2 := 21 * (k + 1)) (by omega) (by omega) ?_
                    exact ih (k + 1) _ _ _ _ _ _ rfl a2 (by show ps.1 + 1 = _; omega) (by omega) (by omega) (psAdd_ok hp (by omega) (soCi_ki _) hw) (by rw [gu_ne _ _ (by omega), gu_ne _ _ (by omega), gu_ne _ _ (by omega), gu_ne _ _ (by omega)]; exact ht) (lsB_A l1 l2 q0 l6) (fun a ha => by rw [gu_ne _ _ (by omega), gu_ne _ _ (by omega), gu_ne _ _ (by omega), gu_ne _ _ (by omega)]; exact hfr a ha) hR
                  · have lo := (show TP 2 (tSign (tRdWay (tAt T (T.2.2.2.1 + 1))).2 59).2 (SL (t + 1) S (gu (gu M n (gA 0 (tRdWay (tAt T (T.2.2.2.1 + 1))).1 (tSign (tRdWay (tAt T (T.2.2.2.1 + 1))).2 59).2.2.1)) (n + 1) (gO (soCi (tNext T)) [vi ps.1, vr n]))) ℓ = _ from ((TP_out _ _ (by omega)).trans ((SL_out _ _ (by omega)).trans ((gu_ne _ _ (by omega)).trans ((gu_ne _ _ (by omega)).trans l3)))))
                    have xo : TP 2 (tSign (tRdWay (tAt T (T.2.2.2.1 + 1))).2 59).2 (SL (t + 1) S (gu (gu M n (gA 0 (tRdWay (tAt T (T.2.2.2.1 + 1))).1 (tSign (tRdWay (tAt T (T.2.2.2.1 + 1))).2 59).2.2.1)) (n + 1) (gO (soCi (tNext T)) [vi ps.1, vr n]))) (n + 1) = some (gO (soCi (tNext T)) [vi ps.1, vr n]) := (TP_out _ _ (by omega)).trans ((SL_out _ _ (by omega)).trans (gu_same ..))
                    refine g_invV C (ct_add_B (mc := mc) lo (soCi_ki _) xo ((TP_out _ _ (by omega)).trans ((SL_out _ _ (by omega)).trans ((gu_ne _ _ (by omega)).trans ((gu_ne _ _ (by omega)).trans q3)))) ⟨pz, by omega⟩ ⟨by omega, by omega, by omega⟩) lo cv_X9_91_0 (rmk_ok (by decide) (by decide) (by omega) (by omega)) (Nat.le_of_ble_eq_true rfl) rfl dX9_readPasses_94 rfl (q_r ?_)
                    rw [TP_gu _ _ _ (by omega), SL_gu _ _ _ (by omega), TP_gu _ _ _ (by omega), SL_gu _ _ _ (by omega)]
                    show G κ _ _ _ _ _ (3 * k + 3) (21 * k + 21)
                    refine g_pop C dX9_readPasses_97 rfl ?_
                    refine s_w2_iinc C dX9_readPasses_98 rfl ?_
                    refine g_goto 2 C dX9_readPasses_101 (by decide) ?_
                    refine G.widen (k := 3 * (k + 1)) (k2 := 21 * (k + 1)) (by omega) (by omega) ?_
                    exact ih (k + 1) _ _ _ _ _ _ rfl a2 (by show ps.1 + 1 = _; omega) (by omega) (by omega) (psAdd_ok hp (by omega) (soCi_ki _) hw) (by rw [gu_ne _ _ (by omega), gu_ne _ _ (by omega), gu_ne _ _ (by omega), gu_ne _ _ (by omega)]; exact ht) (lsB_B l1 l2 ⟨q1, q2⟩ q3 pz l5 l6) (fun a ha => by rw [gu_ne _ _ (by omega), gu_ne _ _ (by omega), gu_ne _ _ (by omega), gu_ne _ _ (by omega)]; exact hfr a ha) hR
                · refine g_iconst C dX9_readPasses_74 ?_
                  refine g_zret C E dX9_readPasses_75 (by show _ ≤ 12 ∧ _ ≤ 84; omega) (by omega) ?_
                  rw [if_neg (by omega), if_neg (by omega), if_neg (not_not_intro hso), if_neg (by omega), if_neg (by omega), if_pos (by omega)] at hR
                  rw [← hR]
                  refine ⟨rfl, M, ps, rfl, ht, hb, hp, ?_, ?_, hfr⟩
                  · first | exact h1 | exact tRef_ok h1 | exact a1.1 | exact a2
                  · first | exact fun _ => rfl | exact fun q => absurd q (by decide)
            · refine s_n0_aload C dX9_readPasses_38 ?_
              refine g_iconst C dX9_readPasses_39 ?_
              refine g_invV C (k_refuse) (TP_there ..).1 cv_X9_64_9 (rmk_ok (by decide) (by decide) (by omega) (by omega)) (Nat.le_of_ble_eq_true rfl) rfl dX9_readPasses_40 rfl (q_r0 ?_)
              refine g_zret C E dX9_readPasses_43 (by show _ ≤ 12 ∧ _ ≤ 84; omega) (by omega) ?_
              rw [if_neg (by omega), if_neg (by omega), if_neg (not_not_intro hso), if_pos (by omega)] at hR
              rw [← hR]
              refine ⟨rfl, M, ps, rfl, ht, hb, hp, ?_, ?_, hfr⟩
              · first | exact h1 | exact tRef_ok h1 | exact a1.1 | exact a2
              · first | exact fun _ => rfl | exact fun q => absurd q (by decide)
          · refine g_if_ne 33 C dX9_readPasses_24 (by decide) (by unfold iR; omega) (fun c24 => by exfalso; omega) (fun c24 => ?_)
            refine s_n0_aload C dX9_readPasses_27 ?_
            refine g_iconst C dX9_readPasses_28 ?_
            refine g_invV C (k_refuse) (TP_there ..).1 cv_X9_64_9 (rmk_ok (by decide) (by decide) (by omega) (by omega)) (Nat.le_of_ble_eq_true rfl) rfl dX9_readPasses_29 rfl (q_r0 ?_)
            refine g_zret C E dX9_readPasses_32 (by show _ ≤ 12 ∧ _ ≤ 84; omega) (by omega) ?_
            rw [if_neg (by omega), if_neg (by omega), if_pos hso] at hR
            rw [← hR]
            refine ⟨rfl, M, ps, rfl, ht, hb, hp, ?_, ?_, hfr⟩
            · first | exact h1 | exact tRef_ok h1 | exact a1.1 | exact a2
            · first | exact fun _ => rfl | exact fun q => absurd q (by decide)
  refine g_iconst C dX9_readPasses_0 ?_
  refine s_n2_istore C dX9_readPasses_1 rfl ?_
  exact lp 6 0 T0 psNil M0 n0 none none rfl hT rfl (by omega) (by omega) ⟨by decide, by decide, fun p p1 p2 => absurd p2 (by show ¬ p < 0; omega)⟩ ht0 hB (fun _ _ => rfl) rfl
theorem rdLaw_ok {T : TPT} {S : SLT} {sk : Int} (h : tpOK T) : tpOK (rdLaw T S sk).2.1 ∧ ((rdLaw T S sk).1 = 0 ∨ (rdLaw T S sk).1 = 1) := by
  have a1 := tSign_ok (c := 116) h (by decide)
  have a2 := tNum_ok (most := 9) a1
  have a3 := tSign_ok (c := 44) a2.1 (by decide)
  have a4 := tNum_ok (most := 9) a3
  have a5 := tSign_ok (c := 59) a4.1 (by decide)
  unfold rdLaw
  split
  · exact ⟨a1, Or.inl rfl⟩
  · split
    · exact ⟨a2.1, Or.inl rfl⟩
    · split
      · exact ⟨a3, Or.inl rfl⟩
      · split
        · exact ⟨a4.1, Or.inl rfl⟩
        · exact ⟨a5, tSign_01 ..⟩
theorem rcN_ok : ∀ (f : Nat) (T : TPT) (S : SLT) (seen k : Int), tpOK T → tpOK (rcN f T S seen k).2.1 ∧ ((rcN f T S seen k).1 = 0 ∨ (rcN f T S seen k).1 = 1)
  | 0, T, S, seen, k, h => ⟨h, Or.inr rfl⟩
  | f + 1, T, S, seen, k, h => by
    unfold rcN
    split
    · exact ⟨h, Or.inr rfl⟩
    split
    · exact ⟨h, Or.inr rfl⟩
    rename_i c16
    split
    · exact ⟨h, Or.inl rfl⟩
    have hlt := tNext_lt (T := T) (by omega)
    have b0 := h.2
    have a0 := tAt_ok (x := T.2.2.2.1 + 1) h (by omega)
    have a1 := tNum_ok (most := 14) a0
    have a2 := tSign_ok (c := 44) a1.1 (by decide)
    have a3 := tNum_ok (most := 99) a2
    have a4 := tSign_ok (c := 59) a3.1 (by decide)
    split
    · exact ⟨a1.1, Or.inl rfl⟩
    split
    · refine ⟨?_, Or.inl rfl⟩
      have hl : (tNum (tAt T (T.2.2.2.1 + 1)) 14).2.2.2.1 = T.2.2.1 := tNum_len _ _
      exact ⟨a1.1.1, a1.1.2.1, a1.1.2.2.1, a0.2.2.2.1, by show T.2.2.2.1 + 1 ≤ (tNum (tAt T (T.2.2.2.1 + 1)) 14).2.2.2.1; rw [hl]; omega⟩
    split
    · exact ⟨a2, Or.inl rfl⟩
    split
    · exact ⟨a3.1, Or.inl rfl⟩
    split
    · exact ⟨a4, Or.inl rfl⟩
    exact rcN_ok f _ _ _ _ a4
def zS : SLT := (fun _ => 0, fun _ => 0, fun _ => 0, 0, 0, 0)
def rdAll (T : TPT) : Int × TPT × SLT × Int × PST :=
  if (rdLaw (tAt T 0) zS 0).1 = 0 then (0, (rdLaw (tAt T 0) zS 0).2.1, (rdLaw (tAt T 0) zS 0).2.2.1, (rdLaw (tAt T 0) zS 0).2.2.2, psNil)
  else if (rdCells (rdLaw (tAt T 0) zS 0).2.1 (rdLaw (tAt T 0) zS 0).2.2.1).1 = 0 then (0, (rdCells (rdLaw (tAt T 0) zS 0).2.1 (rdLaw (tAt T 0) zS 0).2.2.1).2.1, (rdCells (rdLaw (tAt T 0) zS 0).2.1 (rdLaw (tAt T 0) zS 0).2.2.1).2.2, (rdLaw (tAt T 0) zS 0).2.2.2, psNil)
  else ((rdPasses (rdCells (rdLaw (tAt T 0) zS 0).2.1 (rdLaw (tAt T 0) zS 0).2.2.1).2.1).1, (rdPasses (rdCells (rdLaw (tAt T 0) zS 0).2.1 (rdLaw (tAt T 0) zS 0).2.2.1).2.1).2.1, (rdCells (rdLaw (tAt T 0) zS 0).2.1 (rdLaw (tAt T 0) zS 0).2.2.1).2.2, (rdLaw (tAt T 0) zS 0).2.2.2, (rdPasses (rdCells (rdLaw (tAt T 0) zS 0).2.1 (rdLaw (tAt T 0) zS 0).2.2.1).2.1).2.2)
theorem rpN_01 : ∀ (f : Nat) (T : TPT) (ps : PST), (rpN f T ps).1 = 0 ∨ (rpN f T ps).1 = 1
  | 0, T, ps => Or.inr rfl
  | f + 1, T, ps => by
    unfold rpN
    split
    · exact Or.inr rfl
    split
    · exact Or.inr rfl
    split
    · exact Or.inl rfl
    split
    · exact Or.inl rfl
    split
    · exact Or.inl rfl
    split
    · exact Or.inl rfl
    exact rpN_01 f _ _
theorem TP_SL {o q : Int} (T : TPT) (S : SLT) (M : gM) (h : q + 4 ≤ o ∨ o + 3 ≤ q) : TP o T (SL q S M) = SL q S (TP o T M) := by
  funext a
  simp only [TP, SL]
  (repeat' split) <;> first | rfl | omega
theorem ct_begin2 {t ℓ sk : Int} {T : TPT} {S : SLT} {M : gM} {n : Int} (ht : M t = some (gO 8 [vr (t + 1), vr ℓ, vi sk])) (h5 : 5 ≤ t ∧ t ≤ 22) (hn : 164 ≤ n) : CT yX8_begin cX8_begin 1 none (rmk 4 1 3) [vr t] (TP 2 T (SL (t + 1) S M)) n (qr none (TP 2 T (SL (t + 1) zS (gu (gu M n (gO 0 [vi 0, vr (-1), vi 0])) t (gO 8 [vr (t + 1), vr n, vi 0])))) (n + 1)) := by
  have e1 : TP 2 T (SL (t + 1) S M) = SL (t + 1) S (TP 2 T M) := by
    exact TP_SL _ _ _ (by omega)
  have e2 : TP 2 T (SL (t + 1) zS (gu (gu M n (gO 0 [vi 0, vr (-1), vi 0])) t (gO 8 [vr (t + 1), vr n, vi 0]))) = gu (gu (SL (t + 1) zS (TP 2 T M)) n (gO 0 [vi 0, vr (-1), vi 0])) t (gO 8 [vr (t + 1), vr n, vi 0]) := by
    rw [SL_gu _ _ _ (by omega), SL_gu _ _ _ (by omega), TP_gu _ _ _ (by omega), TP_gu _ _ _ (by omega)]
    exact TP_SL _ _ _ (by omega)
  rw [e1, e2]
  exact ct_X8_begin ((TP_out _ _ (by omega)).trans ht) (by omega)
set_option maxRecDepth 20000 in
theorem ct_X9_readInto {t ℓ sk : Int} {T : TPT} {S : SLT} {M : gM} {n : Int} (hT : tpOK (tAt T 0)) (ht : M t = some (gO 8 [vr (t + 1), vr ℓ, vi sk])) (h5 : 5 ≤ t ∧ t ≤ 22) (hn : 164 ≤ n) (hf : ∀ a, n ≤ a → M a = none) : CT yX9_readInto cX9_readInto 2 (some .boolean) (rmk 8 13 87) [vr 2, vr t] (TP 2 T (SL (t + 1) S M)) n (fun r M2 n2 => r = some (vi (rdAll T).1) ∧ ∃ (M1 : gM) (S1 : SLT) (sk1 : Int) (ps : PST), M2 = TP 2 (rdAll T).2.1 (SL (t + 1) S1 M1) ∧ M1 t = some (gO 8 [vr (t + 1), vr n, vi sk1]) ∧ lsB M1 n2 n ps ∧ psOK ps ∧ ((rdAll T).1 = 1 → (rdAll T).2.2 = (S1, sk1, ps)) ∧ (∀ a, a < n → ¬ a = t → M1 a = M a)) := by
  refine CT.of (by decide) (fun _ => Nat.le_of_ble_eq_true rfl) (fun κ C E => ?_)
  show G κ (TP 2 T (SL (t + 1) S M)) n [some (vr 2), some (vr t)] 0 [] 0 0
  have a1 := rdLaw_ok (S := zS) (sk := 0) hT
  have a2 := rcN_ok 17 (rdLaw (tAt T 0) zS 0).2.1 (rdLaw (tAt T 0) zS 0).2.2.1 0 0 a1.1
  have a3 := rpN_01 6 (rdCells (rdLaw (tAt T 0) zS 0).2.1 (rdLaw (tAt T 0) zS 0).2.2.1).2.1 psNil
  have hz : ∀ sk1 : Int, lsB (gu (gu (gu M n (gO 0 [vi 0, vr (-1), vi 0])) t (gO 8 [vr (t + 1), vr n, vi 0])) t (gO 8 [vr (t + 1), vr n, vi sk1])) (n + 1) n psNil := fun sk1 => ⟨0, -1, fun _ => none, fun _ => 0, fun _ => 0, hn, by omega, by rw [gu_ne _ _ (by omega), gu_ne _ _ (by omega), gu_same]; rfl, Or.inl ⟨rfl, rfl⟩, fun p p1 p2 => absurd p2 (by show ¬ p < 0; omega), fun a ha => by rw [gu_ne _ _ (by omega), gu_ne _ _ (by omega), gu_ne _ _ (by omega)]; exact hf a (by omega)⟩
  have hp0 : psOK psNil := ⟨by decide, by decide, fun p p1 p2 => absurd p2 (by show ¬ p < 0; omega)⟩
  refine s_n0_aload C dX9_readInto_0 ?_
  refine g_iconst C dX9_readInto_1 ?_
  refine g_put C fp_X9_22_9 dX9_readInto_2 (TP_there ..).1 (Nat.le_of_ble_eq_true rfl) (gfit_i _) ?_
  rw [TPg_at]
  refine s_n1_aload C dX9_readInto_5 ?_
  refine g_invV C (ct_begin2 ht h5 hn) ((TP_out _ _ (by omega)).trans ((SL_out _ _ (by omega)).trans ht)) cv_X9_25_8 (rmk_ok (by decide) (by decide) (by decide) (by decide)) (Nat.le_of_ble_eq_true rfl) rfl dX9_readInto_6 rfl (q_v ?_)
  show G κ _ _ _ _ _ 1 3
  refine s_n0_aload C dX9_readInto_9 ?_
  refine s_n1_aload C dX9_readInto_10 ?_
  refine g_invV C (ct_X9_readLaw (ℓ := n) (sk := 0) hT (gu_same ..) h5) (TP_there ..).1 cv_X9_30_9 (rmk_ok (by decide) (by decide) (by decide) (by decide)) (Nat.le_of_ble_eq_true rfl) rfl dX9_readInto_11 rfl (q_r0 ?_)
  refine g_if_eq 37 C dX9_readInto_14 (by decide) (by unfold iR; omega) (fun c14 => ?_) (fun c14 => ?_)
  · refine g_iconst C dX9_readInto_37 ?_
    refine g_zret C E dX9_readInto_38 (by decide) (by omega) ?_
    have e : rdAll T = (0, (rdLaw (tAt T 0) zS 0).2.1, (rdLaw (tAt T 0) zS 0).2.2.1, (rdLaw (tAt T 0) zS 0).2.2.2, psNil) := by unfold rdAll; rw [if_pos (by omega)]
    rw [e]
    exact ⟨rfl, _, _, _, psNil, rfl, gu_same .., hz _, hp0, fun q => absurd q (show ¬ (0 : Int) = 1 by decide), (fun a g1 g2 => by rw [gu_ne _ _ g2, gu_ne _ _ g2, gu_ne _ _ (by omega)])⟩
  · refine s_n0_aload C dX9_readInto_17 ?_
    refine s_n1_aload C dX9_readInto_18 ?_
    refine g_invV C (ct_X9_readCells (ℓ := n) a1.1 (gu_same ..) h5) (TP_there ..).1 cv_X9_34_9 (rmk_ok (by decide) (by decide) (by decide) (by decide)) (Nat.le_of_ble_eq_true rfl) rfl dX9_readInto_19 rfl (q_r0 ?_)
    refine g_if_eq 37 C dX9_readInto_22 (by decide) (by rcases a2.2 with q | q <;> (show iR (rcN 17 _ _ 0 0).1; rw [q]; unfold iR; omega)) (fun c22 => ?_) (fun c22 => ?_)
    · refine g_iconst C dX9_readInto_37 ?_
      refine g_zret C E dX9_readInto_38 (by decide) (by omega) ?_
      have e : rdAll T = (0, (rdCells (rdLaw (tAt T 0) zS 0).2.1 (rdLaw (tAt T 0) zS 0).2.2.1).2.1, (rdCells (rdLaw (tAt T 0) zS 0).2.1 (rdLaw (tAt T 0) zS 0).2.2.1).2.2, (rdLaw (tAt T 0) zS 0).2.2.2, psNil) := by unfold rdAll; rw [if_neg (by omega), if_pos c22]
      rw [e]
      exact ⟨rfl, _, _, _, psNil, rfl, gu_same .., hz _, hp0, fun q => absurd q (show ¬ (0 : Int) = 1 by decide), (fun a g1 g2 => by rw [gu_ne _ _ g2, gu_ne _ _ g2, gu_ne _ _ (by omega)])⟩
    · refine s_n0_aload C dX9_readInto_25 ?_
      refine s_n1_aload C dX9_readInto_26 ?_
      refine g_invV C (ct_X9_readPasses (ℓ := n) a2.1 (gu_same ..) h5 (hz _)) (TP_there ..).1 cv_X9_37_9 (rmk_ok (by decide) (by decide) (by decide) (by decide)) (Nat.le_of_ble_eq_true rfl) rfl dX9_readInto_27 rfl (fun r M9 n9 hq => ?_)
      obtain ⟨hq0, M1, ps, hq1, hq2, hq3, hq4, hq5, hq6, hq7⟩ := hq
      rw [hq0, hq1]
      show G κ _ _ _ _ (vi _ :: []) 13 87
      refine g_if_eq 37 C dX9_readInto_30 (by decide) (by rcases a3 with q | q <;> (show iR (rpN 6 _ psNil).1; rw [q]; unfold iR; omega)) (fun c30 => ?_) (fun c30 => ?_)
      · refine g_iconst C dX9_readInto_37 ?_
        refine g_zret C E dX9_readInto_38 (by decide) (by omega) ?_
        have e : rdAll T = ((rdPasses (rdCells (rdLaw (tAt T 0) zS 0).2.1 (rdLaw (tAt T 0) zS 0).2.2.1).2.1).1, (rdPasses (rdCells (rdLaw (tAt T 0) zS 0).2.1 (rdLaw (tAt T 0) zS 0).2.2.1).2.1).2.1, (rdCells (rdLaw (tAt T 0) zS 0).2.1 (rdLaw (tAt T 0) zS 0).2.2.1).2.2, (rdLaw (tAt T 0) zS 0).2.2.2, (rdPasses (rdCells (rdLaw (tAt T 0) zS 0).2.1 (rdLaw (tAt T 0) zS 0).2.2.1).2.1).2.2) := by unfold rdAll; rw [if_neg (by omega), if_neg c22]
        rw [e]
        exact ⟨by rw [c30], _, _, _, ps, rfl, hq2, hq3, hq4, fun q => absurd (q.symm.trans c30) (by decide), fun a g1 g2 => by rw [hq7 a g1, gu_ne _ _ g2, gu_ne _ _ g2, gu_ne _ _ (by omega)]⟩
      · refine g_iconst C dX9_readInto_33 ?_
        refine g_goto 38 C dX9_readInto_34 (by decide) ?_
        refine g_zret C E dX9_readInto_38 (by decide) (by omega) ?_
        have e : rdAll T = ((rdPasses (rdCells (rdLaw (tAt T 0) zS 0).2.1 (rdLaw (tAt T 0) zS 0).2.2.1).2.1).1, (rdPasses (rdCells (rdLaw (tAt T 0) zS 0).2.1 (rdLaw (tAt T 0) zS 0).2.2.1).2.1).2.1, (rdCells (rdLaw (tAt T 0) zS 0).2.1 (rdLaw (tAt T 0) zS 0).2.2.1).2.2, (rdLaw (tAt T 0) zS 0).2.2.2, (rdPasses (rdCells (rdLaw (tAt T 0) zS 0).2.1 (rdLaw (tAt T 0) zS 0).2.2.1).2.1).2.2) := by unfold rdAll; rw [if_neg (by omega), if_neg c22]
        have e1 : (rdPasses (rdCells (rdLaw (tAt T 0) zS 0).2.1 (rdLaw (tAt T 0) zS 0).2.2.1).2.1).1 = 1 := a3.resolve_left c30
        rw [e]
        exact ⟨by rw [e1], _, _, _, ps, rfl, hq2, hq3, hq4, fun q => by rw [hq6 e1], fun a g1 g2 => by rw [hq7 a g1, gu_ne _ _ g2, gu_ne _ _ g2, gu_ne _ _ (by omega)]⟩
