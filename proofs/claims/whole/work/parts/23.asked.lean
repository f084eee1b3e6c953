/-! PadPolish: asked and foretold, the plain ones -/
def xFault (X : XT) : Int × XT := (X.1 1, X)
def xStatus (X : XT) : Int × XT := (X.1 4, X)
set_option maxRecDepth 20000 in
theorem ct_X11_fault {X : XT} {ℓ : Int → Int} {F : gM} {n : Int} {M : gM} (hX : XL X ℓ F n M) (hO : xOK X)  : CT yX11_fault cX11_fault 1 (some .int) (rmk 0 0 0) [vr 0] M n (xPost (xFault X) F n) := by
  refine CT.of (by decide) (fun _ => Nat.le_of_ble_eq_true rfl) (fun κ C E => ?_)
  show G κ M n [some (vr 0)] 0 [] 0 0
  have hc := hO.c
  refine s_n0_aload C dX11_fault_0 ?_
  refine g_get C fd_X11_126_11 dX11_fault_1 hX.o rfl ?_
  refine g_iret C E dX11_fault_4 (by decide) ?_
  exact ⟨rfl, rfl, _, hX⟩
set_option maxRecDepth 20000 in
theorem ct_X11_status {X : XT} {ℓ : Int → Int} {F : gM} {n : Int} {M : gM} (hX : XL X ℓ F n M) (hO : xOK X)  : CT yX11_status cX11_status 1 (some .int) (rmk 0 0 0) [vr 0] M n (xPost (xStatus X) F n) := by
  refine CT.of (by decide) (fun _ => Nat.le_of_ble_eq_true rfl) (fun κ C E => ?_)
  show G κ M n [some (vr 0)] 0 [] 0 0
  have hc := hO.c
  refine s_n0_aload C dX11_status_0 ?_
  refine g_get C fd_X11_312_11 dX11_status_1 hX.o rfl ?_
  refine g_iret C E dX11_status_4 (by decide) ?_
  exact ⟨rfl, rfl, _, hX⟩
def xCell (X : XT) (a b : Int) : Int × XT := if X.1 0 = 0 then (-1000002, X) else if ¬ (0 ≤ a ∧ a ≤ 14) then (-1000001, X) else if b = 0 then ((xC X).1 a, X) else if b = 1 then ((xC X).2.1 a, X) else if b = 2 then ((xC X).2.2.1 a, X) else if b = 3 then (psAcross (xP X) a, X) else (-1000001, X)
set_option maxRecDepth 20000 in
theorem ct_X11_cell {X : XT} {ℓ : Int → Int} {F : gM} {n : Int} {M : gM} (hX : XL X ℓ F n M) (hO : xOK X) {a b : Int} (ha : iR a) (hb : iR b) : CT yX11_cell cX11_cell 3 (some .int) (rmk 4 0 0) [vr 0, vi a, vi b] M n (xPost (xCell X a b) F n) := by
  refine CT.of (by decide) (fun _ => Nat.le_of_ble_eq_true rfl) (fun κ C E => ?_)
  show G κ M n [some (vr 0), some (vi a), some (vi b)] 0 [] 0 0
  have hc := hO.c
  have htd := hO.td
  refine s_n0_aload C dX11_cell_0 ?_
  refine g_get C fd_X11_133_11 dX11_cell_1 hX.o rfl ?_
  refine g_if_ne 10 C dX11_cell_4 (by decide) (by first | assumption | (unfold iR; omega)) (fun c4 => ?_) (fun c4 => ?_)
  · refine s_n1_iload C dX11_cell_10 ?_
    refine g_invS C (ct_X11_isCell (by assumption)) cs_X11_182 (rmk_ok (by decide) (by decide) (by decide) (by decide)) (Nat.le_of_ble_eq_true rfl) rfl dX11_cell_11 rfl (q_r0 ?_)
    refine g_bifne 20 C dX11_cell_14 (by decide)  (fun c14 => ?_) (fun c14 => ?_)
    · refine s_n2_iload C dX11_cell_20 ?_
      rcases (show b = 0 ∨ b = 1 ∨ b = 2 ∨ b = 3 ∨ (b < 0 ∨ 3 < b) by omega) with w21 | w21 | w21 | w21 | w21
      · refine g_tswI 52 C dX11_cell_21 (by first | assumption | (unfold iR; omega)) (by omega) (by omega) (by rw [w21]; rfl) (by decide) ?_
        refine s_n0_aload C dX11_cell_52 ?_
        refine g_get C fd_X11_58_11 dX11_cell_53 hX.o rfl ?_
        refine g_getN C fd_X11_157_8 dX11_cell_56 (hX.cur hO.c) rfl ?_
        refine g_getN C fd_X11_189_7 dX11_cell_59 (hX.csf hO.c).1 rfl ?_
        refine s_n1_iload C dX11_cell_62 ?_
        refine g_iald C dX11_cell_63 (hX.csf hO.c).2.1 (by omega) ?_
        refine g_iret C E dX11_cell_64 (by decide) ?_
        unfold xCell
        rw [if_neg c4, if_neg (not_not_intro c14), if_pos (by omega)]
        exact ⟨rfl, rfl, _, hX⟩
      · refine g_tswI 65 C dX11_cell_21 (by first | assumption | (unfold iR; omega)) (by omega) (by omega) (by rw [w21]; rfl) (by decide) ?_
        refine s_n0_aload C dX11_cell_65 ?_
        refine g_get C fd_X11_58_11 dX11_cell_66 hX.o rfl ?_
        refine g_getN C fd_X11_157_8 dX11_cell_69 (hX.cur hO.c) rfl ?_
        refine g_getN C fd_X11_201_7 dX11_cell_72 (hX.csf hO.c).1 rfl ?_
        refine s_n1_iload C dX11_cell_75 ?_
        refine g_iald C dX11_cell_76 (hX.csf hO.c).2.2.1 (by omega) ?_
        refine g_iret C E dX11_cell_77 (by decide) ?_
        unfold xCell
        rw [if_neg c4, if_neg (not_not_intro c14), if_neg (by omega), if_pos (by omega)]
        exact ⟨rfl, rfl, _, hX⟩
      · refine g_tswI 78 C dX11_cell_21 (by first | assumption | (unfold iR; omega)) (by omega) (by omega) (by rw [w21]; rfl) (by decide) ?_
        refine s_n0_aload C dX11_cell_78 ?_
        refine g_get C fd_X11_58_11 dX11_cell_79 hX.o rfl ?_
        refine g_getN C fd_X11_157_8 dX11_cell_82 (hX.cur hO.c) rfl ?_
        refine g_getN C fd_X11_204_7 dX11_cell_85 (hX.csf hO.c).1 rfl ?_
        refine s_n1_iload C dX11_cell_88 ?_
        refine g_iald C dX11_cell_89 (hX.csf hO.c).2.2.2 (by omega) ?_
        refine g_iret C E dX11_cell_90 (by decide) ?_
        unfold xCell
        rw [if_neg c4, if_neg (not_not_intro c14), if_neg (by omega), if_neg (by omega), if_pos (by omega)]
        exact ⟨rfl, rfl, _, hX⟩
      · refine g_tswI 91 C dX11_cell_21 (by first | assumption | (unfold iR; omega)) (by omega) (by omega) (by rw [w21]; rfl) (by decide) ?_
        refine s_n0_aload C dX11_cell_91 ?_
        refine g_get C fd_X11_58_11 dX11_cell_92 hX.o rfl ?_
        refine s_n1_iload C dX11_cell_95 ?_
        refine g_invV C (ct_X8_passesAcross hO.ps (hX.cur hc) (hX.ls (X.1 5) hc.1 (by omega))) (hX.cur hO.c) cv_X11_207_8 (rmk_ok (by decide) (by decide) (by decide) (by decide)) (Nat.le_of_ble_eq_true rfl) rfl dX11_cell_96 rfl (q_r0 ?_)
        refine g_iret C E dX11_cell_99 (by decide) ?_
        unfold xCell
        rw [if_neg c4, if_neg (not_not_intro c14), if_neg (by omega), if_neg (by omega), if_neg (by omega), if_pos (by omega)]
        exact ⟨rfl, rfl, _, hX⟩
      · refine g_tswO 100 C dX11_cell_21 (by first | assumption | (unfold iR; omega)) w21 (by decide) ?_
        refine g_ldc (-1000001) C wd_364 dX11_cell_100 ?_
        refine g_iret C E dX11_cell_102 (by decide) ?_
        unfold xCell
        rw [if_neg c4, if_neg (not_not_intro c14), if_neg (by omega), if_neg (by omega), if_neg (by omega), if_neg (by omega)]
        exact ⟨rfl, rfl, _, hX⟩
    · refine g_ldc (-1000001) C wd_364 dX11_cell_17 ?_
      refine g_iret C E dX11_cell_19 (by decide) ?_
      unfold xCell
      rw [if_neg c4, if_pos c14]
      exact ⟨rfl, rfl, _, hX⟩
  · refine g_ldc (-1000002) C wd_415 dX11_cell_7 ?_
    refine g_iret C E dX11_cell_9 (by decide) ?_
    unfold xCell
    rw [if_pos c4]
    exact ⟨rfl, rfl, _, hX⟩
def xPath (X : XT) (a k : Int) : Int × XT := if ¬ (0 ≤ a ∧ a < (xP X).1) then (-1000001, X) else if k < -1 then (-1000001, X) else if k = -1 then ((xP X).2.2.1 a, X) else if k < (xP X).2.2.1 a then ((xP X).2.2.2 a k, X) else (-1000000, X)
set_option maxRecDepth 20000 in
theorem ct_X11_path {X : XT} {ℓ : Int → Int} {F : gM} {n : Int} {M : gM} (hX : XL X ℓ F n M) (hO : xOK X) {a k : Int} (ha : iR a) (hk : iR k) : CT yX11_path cX11_path 4 (some .int) (rmk 4 0 0) [vr 0, vi a, vi k] M n (xPost (xPath X a k) F n) := by
  refine CT.of (by decide) (fun _ => Nat.le_of_ble_eq_true rfl) (fun κ C E => ?_)
  show G κ M n [some (vr 0), some (vi a), some (vi k), none] 0 [] 0 0
  have hc := hO.c
  refine s_n0_aload C dX11_path_0 ?_
  refine s_n1_iload C dX11_path_1 ?_
  refine g_invV C (ct_X11_passOf hX hO (by assumption)) hX.o cv_X11_173_11 (rmk_ok (by decide) (by decide) (by decide) (by decide)) (Nat.le_of_ble_eq_true rfl) rfl dX11_path_2 rfl (fun r M9 n9 hq => ?_)
  obtain ⟨hm9, hn9, hq⟩ := hq
  rw [hm9, hn9]
  show G κ _ _ _ _ _ 0 0
  rcases hq with ⟨p1, p2, pa, wy, hr9, p3, p4, hki, hwa, hpa⟩ | ⟨p1, hr9⟩
  · subst hr9
    have w1 := hwa.1
    have w2 := hwa.2.1
    refine s_n3_astore C dX11_path_5 rfl ?_
    refine s_n3_aload C dX11_path_6 ?_
    refine g_ifnull C dX11_path_7 ?_
    refine s_n2_iload C dX11_path_10 ?_
    refine g_iconst C dX11_path_11 ?_
    refine g_icmp_ge 18 C dX11_path_12 (by decide) (by first | assumption | (unfold iR; omega)) (by first | assumption | (unfold iR; omega)) (fun c12 => ?_) (fun c12 => ?_)
    · refine s_n2_iload C dX11_path_18 ?_
      refine g_iconst C dX11_path_19 ?_
      refine g_icmp_ne 29 C dX11_path_20 (by decide) (by first | assumption | (unfold iR; omega)) (by first | assumption | (unfold iR; omega)) (fun c20 => ?_) (fun c20 => ?_)
      · refine s_n2_iload C dX11_path_29 ?_
        refine s_n3_aload C dX11_path_30 ?_
        refine g_getN C (fdP_way hki) dX11_path_31 hpa.1 rfl ?_
        refine g_alen C (by decide) dX11_path_34 hpa.2 (by omega) ?_
        refine g_icmp_ge 47 C dX11_path_35 (by decide) (by first | assumption | (unfold iR; omega)) (by first | assumption | (unfold iR; omega)) (fun c35 => ?_) (fun c35 => ?_)
        · refine g_ldc (-1000000) C wd_457 dX11_path_47 ?_
          refine g_iret C E dX11_path_49 (by decide) ?_
          unfold xPath
          rw [if_neg (not_not_intro ⟨p1, p2⟩), if_neg (by omega), if_neg (by omega), if_neg (by omega)]
          exact ⟨rfl, rfl, _, hX⟩
        · refine s_n3_aload C dX11_path_38 ?_
          refine g_getN C (fdP_way hki) dX11_path_39 hpa.1 rfl ?_
          refine s_n2_iload C dX11_path_42 ?_
          refine g_iald C dX11_path_43 hpa.2 (by omega) ?_
          refine g_goto 49 C dX11_path_44 (by decide) ?_
          refine g_iret C E dX11_path_49 (by decide) ?_
          unfold xPath
          rw [if_neg (not_not_intro ⟨p1, p2⟩), if_neg (by omega), if_neg (by omega), if_pos (by omega)]
          exact ⟨rfl, rfl, _, hX⟩
      · refine s_n3_aload C dX11_path_23 ?_
        refine g_getN C (fdP_way hki) dX11_path_24 hpa.1 rfl ?_
        refine g_alen C (by decide) dX11_path_27 hpa.2 (by omega) ?_
        refine g_iret C E dX11_path_28 (by decide) ?_
        unfold xPath
        rw [if_neg (not_not_intro ⟨p1, p2⟩), if_neg (by omega), if_pos (by omega)]
        exact ⟨rfl, rfl, _, hX⟩
    · refine g_ldc (-1000001) C wd_364 dX11_path_15 ?_
      refine g_iret C E dX11_path_17 (by decide) ?_
      unfold xPath
      rw [if_neg (not_not_intro ⟨p1, p2⟩), if_pos (by omega)]
      exact ⟨rfl, rfl, _, hX⟩
  · subst hr9
    refine s_n3_astore C dX11_path_5 rfl ?_
    refine s_n3_aload C dX11_path_6 ?_
    refine g_ifnullN 15 C dX11_path_7 (by decide) ?_
    refine g_ldc (-1000001) C wd_364 dX11_path_15 ?_
    refine g_iret C E dX11_path_17 (by decide) ?_
    unfold xPath
    rw [if_pos p1]
    exact ⟨rfl, rfl, _, hX⟩
def xPad (X : XT) (a : Int) : Int × XT := if X.1 0 = 0 then (-1000002, X) else if a = 0 then ((xC X).2.2.2.1, X) else if a = 1 then ((xC X).2.2.2.2.1, X) else if a = 2 then ((xC X).2.2.2.2.2, X) else (-1000001, X)
set_option maxRecDepth 20000 in
theorem ct_X11_pad {X : XT} {ℓ : Int → Int} {F : gM} {n : Int} {M : gM} (hX : XL X ℓ F n M) (hO : xOK X) {a : Int} (ha : iR a) : CT yX11_pad cX11_pad 2 (some .int) (rmk 0 0 0) [vr 0, vi a] M n (xPost (xPad X a) F n) := by
  refine CT.of (by decide) (fun _ => Nat.le_of_ble_eq_true rfl) (fun κ C E => ?_)
  show G κ M n [some (vr 0), some (vi a)] 0 [] 0 0
  have hc := hO.c
  have htd := hO.td
  refine s_n0_aload C dX11_pad_0 ?_
  refine g_get C fd_X11_133_11 dX11_pad_1 hX.o rfl ?_
  refine g_if_ne 10 C dX11_pad_4 (by decide) (by first | assumption | (unfold iR; omega)) (fun c4 => ?_) (fun c4 => ?_)
  · refine s_n1_iload C dX11_pad_10 ?_
    rcases (show a = 0 ∨ a = 1 ∨ a = 2 ∨ (a < 0 ∨ 2 < a) by omega) with w11 | w11 | w11 | w11
    · refine g_tswI 36 C dX11_pad_11 (by first | assumption | (unfold iR; omega)) (by omega) (by omega) (by rw [w11]; rfl) (by decide) ?_
      refine s_n0_aload C dX11_pad_36 ?_
      refine g_get C fd_X11_58_11 dX11_pad_37 hX.o rfl ?_
      refine g_getN C fd_X11_157_8 dX11_pad_40 (hX.cur hO.c) rfl ?_
      refine g_getN C fd_X11_170_7 dX11_pad_43 (hX.csf hO.c).1 rfl ?_
      refine g_iret C E dX11_pad_46 (by decide) ?_
      unfold xPad
      rw [if_neg c4, if_pos (by omega)]
      exact ⟨rfl, rfl, _, hX⟩
    · refine g_tswI 47 C dX11_pad_11 (by first | assumption | (unfold iR; omega)) (by omega) (by omega) (by rw [w11]; rfl) (by decide) ?_
      refine s_n0_aload C dX11_pad_47 ?_
      refine g_get C fd_X11_58_11 dX11_pad_48 hX.o rfl ?_
      refine g_getN C fd_X11_157_8 dX11_pad_51 (hX.cur hO.c) rfl ?_
      refine g_getN C fd_X11_214_7 dX11_pad_54 (hX.csf hO.c).1 rfl ?_
      refine g_iret C E dX11_pad_57 (by decide) ?_
      unfold xPad
      rw [if_neg c4, if_neg (by omega), if_pos (by omega)]
      exact ⟨rfl, rfl, _, hX⟩
    · refine g_tswI 58 C dX11_pad_11 (by first | assumption | (unfold iR; omega)) (by omega) (by omega) (by rw [w11]; rfl) (by decide) ?_
      refine s_n0_aload C dX11_pad_58 ?_
      refine g_get C fd_X11_58_11 dX11_pad_59 hX.o rfl ?_
      refine g_getN C fd_X11_157_8 dX11_pad_62 (hX.cur hO.c) rfl ?_
      refine g_getN C fd_X11_217_7 dX11_pad_65 (hX.csf hO.c).1 rfl ?_
      refine g_iret C E dX11_pad_68 (by decide) ?_
      unfold xPad
      rw [if_neg c4, if_neg (by omega), if_neg (by omega), if_pos (by omega)]
      exact ⟨rfl, rfl, _, hX⟩
    · refine g_tswO 69 C dX11_pad_11 (by first | assumption | (unfold iR; omega)) w11 (by decide) ?_
      refine g_ldc (-1000001) C wd_364 dX11_pad_69 ?_
      refine g_iret C E dX11_pad_71 (by decide) ?_
      unfold xPad
      rw [if_neg c4, if_neg (by omega), if_neg (by omega), if_neg (by omega)]
      exact ⟨rfl, rfl, _, hX⟩
  · refine g_ldc (-1000002) C wd_415 dX11_pad_7 ?_
    refine g_iret C E dX11_pad_9 (by decide) ?_
    unfold xPad
    rw [if_pos c4]
    exact ⟨rfl, rfl, _, hX⟩
def xRnd (X : XT) (k : Int) : SLT := itI (fun _ S => psAll (xP X) S) (xC X) k
theorem xRnd_ok {X : XT} (h : xOK X) {k : Int} (hk : 0 ≤ k) : sfOK (xRnd X k) := itI_inv (g := fun _ S => psAll (xP X) S) (a := xC X) (fun _ x => sfOK x) h.cs (fun i x _ hx => psAll_ok h.ps hx) hk
theorem LR8 {a : Int} (h : LR a) : a < 8 ∨ 8 + 4 ≤ a := by unfold LR at h; omega
set_option maxRecDepth 20000 in
theorem ct_X11_guessRounds {X : XT} {ℓ : Int → Int} {F : gM} {n : Int} {M : gM} (hX : XL X ℓ F n M) (hO : xOK X) {k : Int} (hk : 0 ≤ k ∧ k ≤ 20) : CT yX11_guessRounds cX11_guessRounds 3 none (rmk 6 0 0) [vr 0, vi k] M n (qr none (SL 8 (xRnd X k) M) n) := by
  refine CT.of (by decide) (fun _ => Nat.le_of_ble_eq_true rfl) (fun κ C E => ?_)
  show G κ M n [some (vr 0), some (vi k), none] 0 [] 0 0
  have hc := hO.c
  have lp : ∀ (m : Nat) (i : Int), 0 ≤ i ∧ i ≤ k → (k - i).toNat = m → G κ (SL 8 (xRnd X i) M) n [some (vr 0), some (vi k), some (vi i)] 16 [] 0 0 := by
    intro m
    induction m using Nat.strongRecOn with
    | ind m ih =>
      intro i h1 hm
      have hS := xRnd_ok hO h1.1
      have hY := hX.ug (xRnd X i)
      refine s_n2_iload C dX11_guessRounds_16 ?_
      refine s_n1_iload C dX11_guessRounds_17 ?_
      refine g_icmp_ge 38 C dX11_guessRounds_18 (by decide) (by first | assumption | (unfold iR; omega)) (by first | assumption | (unfold iR; omega)) (fun c18 => ?_) (fun c18 => ?_)
      · refine g_vret C E dX11_guessRounds_38 (by decide) ?_
        have e : i = k := by omega
        subst e
        exact ⟨rfl, rfl, rfl⟩
      · refine s_n0_aload C dX11_guessRounds_21 ?_
        refine g_get C fd_X11_58_11 dX11_guessRounds_22 hY.o rfl ?_
        refine s_n0_aload C dX11_guessRounds_25 ?_
        refine g_get C fd_X11_39_11 dX11_guessRounds_26 hY.o rfl ?_
        refine g_invV C ((ct_X8_makeAll (t := 16 + 6 * X.1 5) (o := 8) (ps := xP X) (S := xRnd X i) hO.ps hS (hX.cur hc) (hX.ls (X.1 5) hc.1 (by omega)) (fun a h => LR8 h) (by omega))) (hY.cur hc) cv_X11_238_8 (rmk_ok (by decide) (by decide) (by decide) (by decide)) (Nat.le_of_ble_eq_true rfl) rfl dX11_guessRounds_29 rfl (q_v0 ?_)
        refine s_w2_iinc C dX11_guessRounds_32 rfl ?_
        refine g_goto 16 C dX11_guessRounds_35 (by decide) ?_
        have e := itI_s (fun _ S => psAll (xP X) S) (xC X) h1.1
        have e : xRnd X (i + 1) = psAll (xP X) (xRnd X i) := e
        rw [← e]
        exact ih _ (by omega) (i + 1) (by omega) rfl
  refine s_n0_aload C dX11_guessRounds_0 ?_
  refine g_get C fd_X11_39_11 dX11_guessRounds_1 hX.o rfl ?_
  refine s_n0_aload C dX11_guessRounds_4 ?_
  refine g_get C fd_X11_58_11 dX11_guessRounds_5 hX.o rfl ?_
  refine g_getN C fd_X11_157_8 dX11_guessRounds_8 (hX.cur hO.c) rfl ?_
  refine g_invV C ((k_become (S := X.2.2.2.1 24) (T := xC X) (hX.csf hc) (by omega)).conv (SL_self hX.gs) rfl) hX.gs.1 cv_X11_160_7 (rmk_ok (by decide) (by decide) (by decide) (by decide)) (Nat.le_of_ble_eq_true rfl) rfl dX11_guessRounds_11 rfl (q_v0 ?_)
  refine g_iconst C dX11_guessRounds_14 ?_
  refine s_n2_istore C dX11_guessRounds_15 rfl ?_
  exact lp _ 0 (by omega) rfl
def xAhead (X : XT) (a b c : Int) : Int × XT := if X.1 0 = 0 then (-1000002, X) else if ¬ (0 ≤ a ∧ a ≤ 20) then (-1000001, X) else if ¬ (0 ≤ b ∧ b ≤ 14) then (-1000001, X) else if ¬ (0 ≤ c ∧ c ≤ 1) then (-1000001, X) else if c = 0 then ((xRnd X a).1 b, xSf X 24 (xRnd X a)) else ((xRnd X a).2.2.1 b, xSf X 24 (xRnd X a))
def xUneven (X : XT) (a : Int) : Int × XT := if X.1 0 = 0 then (-1000002, X) else if ¬ (0 ≤ a ∧ a ≤ 20) then (-1000001, X) else (sfUneven (xRnd X a), xSf X 24 (xRnd X a))
def xGoOn (X : XT) : Int × XT := if X.1 0 = 0 then (-1000002, X) else (sfAll (xRnd X 1) - sfAll (psAll (xP X) (sfSink (xC X) (xK X))), xSf X 24 (psAll (xP X) (sfSink (xC X) (xK X))))
set_option maxRecDepth 20000 in
theorem ct_X11_ahead {X : XT} {ℓ : Int → Int} {F : gM} {n : Int} {M : gM} (hX : XL X ℓ F n M) (hO : xOK X) {a b c : Int} (ha : iR a) (hb : iR b) (hc : iR c) : CT yX11_ahead cX11_ahead 4 (some .int) (rmk 7 0 0) [vr 0, vi a, vi b, vi c] M n (xPost (xAhead X a b c) F n) := by
  refine CT.of (by decide) (fun _ => Nat.le_of_ble_eq_true rfl) (fun κ C E => ?_)
  show G κ M n [some (vr 0), some (vi a), some (vi b), some (vi c)] 0 [] 0 0
  have hc := hO.c
  have htd := hO.td
  refine s_n0_aload C dX11_ahead_0 ?_
  refine g_get C fd_X11_133_11 dX11_ahead_1 hX.o rfl ?_
  refine g_if_ne 10 C dX11_ahead_4 (by decide) (by first | assumption | (unfold iR; omega)) (fun c4 => ?_) (fun c4 => ?_)
  · refine s_n1_iload C dX11_ahead_10 ?_
    refine g_iconst C dX11_ahead_11 ?_
    refine g_bipush C dX11_ahead_12 (by decide) ?_
    refine g_invS C (ct_X11_isWithin (by first | assumption | (unfold iR; omega)) (by first | assumption | (unfold iR; omega)) (by first | assumption | (unfold iR; omega))) cs_X11_70 (rmk_ok (by decide) (by decide) (by decide) (by decide)) (Nat.le_of_ble_eq_true rfl) rfl dX11_ahead_14 rfl (q_r0 ?_)
    refine g_bifeq 36 C dX11_ahead_17 (by decide)  (fun c17 => ?_) (fun c17 => ?_)
    · refine g_ldc (-1000001) C wd_364 dX11_ahead_36 ?_
      refine g_iret C E dX11_ahead_38 (by decide) ?_
      unfold xAhead
      rw [if_neg c4, if_pos c17]
      exact ⟨rfl, rfl, _, hX⟩
    · refine s_n2_iload C dX11_ahead_20 ?_
      refine g_invS C (ct_X11_isCell (by assumption)) cs_X11_182 (rmk_ok (by decide) (by decide) (by decide) (by decide)) (Nat.le_of_ble_eq_true rfl) rfl dX11_ahead_21 rfl (q_r0 ?_)
      refine g_bifeq 36 C dX11_ahead_24 (by decide)  (fun c24 => ?_) (fun c24 => ?_)
      · refine g_ldc (-1000001) C wd_364 dX11_ahead_36 ?_
        refine g_iret C E dX11_ahead_38 (by decide) ?_
        unfold xAhead
        rw [if_neg c4, if_neg (not_not_intro c17), if_pos c24]
        exact ⟨rfl, rfl, _, hX⟩
      · refine s_n3_iload C dX11_ahead_27 ?_
        refine g_iconst C dX11_ahead_28 ?_
        refine g_iconst C dX11_ahead_29 ?_
        refine g_invS C (ct_X11_isWithin (by first | assumption | (unfold iR; omega)) (by first | assumption | (unfold iR; omega)) (by first | assumption | (unfold iR; omega))) cs_X11_70 (rmk_ok (by decide) (by decide) (by decide) (by decide)) (Nat.le_of_ble_eq_true rfl) rfl dX11_ahead_30 rfl (q_r0 ?_)
        refine g_bifne 39 C dX11_ahead_33 (by decide)  (fun c33 => ?_) (fun c33 => ?_)
        · refine s_n0_aload C dX11_ahead_39 ?_
          refine s_n1_iload C dX11_ahead_40 ?_
          refine g_invV C (ct_X11_guessRounds hX hO (k := a) (by omega)) hX.o cv_X11_220_11 (rmk_ok (by decide) (by decide) (by decide) (by decide)) (Nat.le_of_ble_eq_true rfl) rfl dX11_ahead_41 rfl (q_v0 ?_)
          have hX := hX.ug (xRnd X (a))
          refine s_n3_iload C dX11_ahead_44 ?_
          refine g_if_ne 60 C dX11_ahead_45 (by decide) (by first | assumption | (unfold iR; omega)) (fun c45 => ?_) (fun c45 => ?_)
          · refine s_n0_aload C dX11_ahead_60 ?_
            refine g_get C fd_X11_39_11 dX11_ahead_61 hX.o rfl ?_
            refine g_getN C fd_X11_204_7 dX11_ahead_64 hX.gs.1 rfl ?_
            refine s_n2_iload C dX11_ahead_67 ?_
            refine g_iald C dX11_ahead_68 hX.gs.2.2.2 (by omega) ?_
            refine g_iret C E dX11_ahead_69 (by decide) ?_
            unfold xAhead
            rw [if_neg c4, if_neg (not_not_intro c17), if_neg (not_not_intro c24), if_neg (not_not_intro c33), if_neg c45]
            exact ⟨rfl, rfl, _, hX⟩
          · refine s_n0_aload C dX11_ahead_48 ?_
            refine g_get C fd_X11_39_11 dX11_ahead_49 hX.o rfl ?_
            refine g_getN C fd_X11_189_7 dX11_ahead_52 hX.gs.1 rfl ?_
            refine s_n2_iload C dX11_ahead_55 ?_
            refine g_iald C dX11_ahead_56 hX.gs.2.1 (by omega) ?_
            refine g_goto 69 C dX11_ahead_57 (by decide) ?_
            refine g_iret C E dX11_ahead_69 (by decide) ?_
            unfold xAhead
            rw [if_neg c4, if_neg (not_not_intro c17), if_neg (not_not_intro c24), if_neg (not_not_intro c33), if_pos c45]
            exact ⟨rfl, rfl, _, hX⟩
        · refine g_ldc (-1000001) C wd_364 dX11_ahead_36 ?_
          refine g_iret C E dX11_ahead_38 (by decide) ?_
          unfold xAhead
          rw [if_neg c4, if_neg (not_not_intro c17), if_neg (not_not_intro c24), if_pos c33]
          exact ⟨rfl, rfl, _, hX⟩
  · refine g_ldc (-1000002) C wd_415 dX11_ahead_7 ?_
    refine g_iret C E dX11_ahead_9 (by decide) ?_
    unfold xAhead
    rw [if_pos c4]
    exact ⟨rfl, rfl, _, hX⟩
set_option maxRecDepth 20000 in
theorem ct_X11_uneven {X : XT} {ℓ : Int → Int} {F : gM} {n : Int} {M : gM} (hX : XL X ℓ F n M) (hO : xOK X) {a : Int} (ha : iR a) : CT yX11_uneven cX11_uneven 2 (some .int) (rmk 7 0 0) [vr 0, vi a] M n (xPost (xUneven X a) F n) := by
  refine CT.of (by decide) (fun _ => Nat.le_of_ble_eq_true rfl) (fun κ C E => ?_)
  show G κ M n [some (vr 0), some (vi a)] 0 [] 0 0
  have hc := hO.c
  have htd := hO.td
  refine s_n0_aload C dX11_uneven_0 ?_
  refine g_get C fd_X11_133_11 dX11_uneven_1 hX.o rfl ?_
  refine g_if_ne 10 C dX11_uneven_4 (by decide) (by first | assumption | (unfold iR; omega)) (fun c4 => ?_) (fun c4 => ?_)
  · refine s_n1_iload C dX11_uneven_10 ?_
    refine g_iconst C dX11_uneven_11 ?_
    refine g_bipush C dX11_uneven_12 (by decide) ?_
    refine g_invS C (ct_X11_isWithin (by first | assumption | (unfold iR; omega)) (by first | assumption | (unfold iR; omega)) (by first | assumption | (unfold iR; omega))) cs_X11_70 (rmk_ok (by decide) (by decide) (by decide) (by decide)) (Nat.le_of_ble_eq_true rfl) rfl dX11_uneven_14 rfl (q_r0 ?_)
    refine g_bifne 23 C dX11_uneven_17 (by decide)  (fun c17 => ?_) (fun c17 => ?_)
    · refine s_n0_aload C dX11_uneven_23 ?_
      refine s_n1_iload C dX11_uneven_24 ?_
      refine g_invV C (ct_X11_guessRounds hX hO (k := a) (by omega)) hX.o cv_X11_220_11 (rmk_ok (by decide) (by decide) (by decide) (by decide)) (Nat.le_of_ble_eq_true rfl) rfl dX11_uneven_25 rfl (q_v0 ?_)
      have hX := hX.ug (xRnd X (a))
      refine s_n0_aload C dX11_uneven_28 ?_
      refine g_get C fd_X11_39_11 dX11_uneven_29 hX.o rfl ?_
      refine g_invV C (k_unevenR hX.gs (xRnd_ok hO c17.1)) hX.gs.1 cv_X11_223_7 (rmk_ok (by decide) (by decide) (by decide) (by decide)) (Nat.le_of_ble_eq_true rfl) rfl dX11_uneven_32 rfl (q_r0 ?_)
      refine g_iret C E dX11_uneven_35 (by decide) ?_
      unfold xUneven
      rw [if_neg c4, if_neg (not_not_intro c17)]
      exact ⟨rfl, rfl, _, hX⟩
    · refine g_ldc (-1000001) C wd_364 dX11_uneven_20 ?_
      refine g_iret C E dX11_uneven_22 (by decide) ?_
      unfold xUneven
      rw [if_neg c4, if_pos c17]
      exact ⟨rfl, rfl, _, hX⟩
  · refine g_ldc (-1000002) C wd_415 dX11_uneven_7 ?_
    refine g_iret C E dX11_uneven_9 (by decide) ?_
    unfold xUneven
    rw [if_pos c4]
    exact ⟨rfl, rfl, _, hX⟩
section XG
variable {X : XT} {ℓ : Int → Int} {F : gM} {n : Int} {M : gM} {S : SLT}
theorem XL.cs24 (h : XL (xSf X 24 S) ℓ F n M) (hc : 0 ≤ X.1 5 ∧ X.1 5 ≤ 1) : SLi (16 + 6 * X.1 5 + 1) (xC X) M := by
  have := h.csf hc
  rwa [show (xSf X 24 S).2.2.2.1 (25 + (xSf X 24 S).1 5) = xC X from fu_ne _ _ (by show ¬ 25 + X.1 5 = 24; omega)] at this
theorem XL.g24 (h : XL (xSf X 24 S) ℓ F n M) : SLi 8 S M := by
  have := h.gs
  rwa [show (xSf X 24 S).2.2.2.1 24 = S from fu_same X.2.2.2.1 24 S] at this
theorem XL.ugg (h : XL (xSf X 24 S) ℓ F n M) (S2 : SLT) : XL (xSf X 24 S2) ℓ F n (SL 8 S2 M) := by
  have h2 := h.ug S2
  have e : fu (fu X.2.2.2.1 24 S) 24 S2 = fu X.2.2.2.1 24 S2 := by funext j; unfold fu; split <;> rfl
  dsimp only [xSf] at h2
  rwa [e] at h2
theorem XL.ug0 (h : XL X ℓ F n M) : XL (xSf X 24 (X.2.2.2.1 24)) ℓ F n M := by
  have e : fu X.2.2.2.1 24 (X.2.2.2.1 24) = X.2.2.2.1 := by funext j; unfold fu; split <;> simp_all
  show XL (X.1, X.2.1, X.2.2.1, fu X.2.2.2.1 24 (X.2.2.2.1 24), X.2.2.2.2) ℓ F n M
  rw [e]
  exact h
end XG
set_option maxRecDepth 20000 in
theorem ct_X11_goOn {X : XT} {ℓ : Int → Int} {F : gM} {n : Int} {M : gM} (hX : XL X ℓ F n M) (hO : xOK X)  : CT yX11_goOn cX11_goOn 2 (some .int) (rmk 7 0 0) [vr 0] M n (xPost (xGoOn X) F n) := by
  refine CT.of (by decide) (fun _ => Nat.le_of_ble_eq_true rfl) (fun κ C E => ?_)
  show G κ M n [some (vr 0), none] 0 [] 0 0
  have hc := hO.c
  have htd := hO.td
  refine s_n0_aload C dX11_goOn_0 ?_
  refine g_get C fd_X11_133_11 dX11_goOn_1 hX.o rfl ?_
  refine g_if_ne 10 C dX11_goOn_4 (by decide) (by first | assumption | (unfold iR; omega)) (fun c4 => ?_) (fun c4 => ?_)
  · refine s_n0_aload C dX11_goOn_10 ?_
    refine g_iconst C dX11_goOn_11 ?_
    refine g_invV C (ct_X11_guessRounds hX hO (k := 1) (by omega)) hX.o cv_X11_220_11 (rmk_ok (by decide) (by decide) (by decide) (by decide)) (Nat.le_of_ble_eq_true rfl) rfl dX11_goOn_12 rfl (q_v0 ?_)
    have hX := hX.ug (xRnd X (1))
    refine s_n0_aload C dX11_goOn_15 ?_
    refine g_get C fd_X11_39_11 dX11_goOn_16 hX.o rfl ?_
    refine g_invV C (k_allR hX.gs) hX.gs.1 cv_X11_198_7 (rmk_ok (by decide) (by decide) (by decide) (by decide)) (Nat.le_of_ble_eq_true rfl) rfl dX11_goOn_19 rfl (q_r0 ?_)
    refine s_n1_istore C dX11_goOn_22 rfl ?_
    refine s_n0_aload C dX11_goOn_23 ?_
    refine g_get C fd_X11_39_11 dX11_goOn_24 hX.o rfl ?_
    refine s_n0_aload C dX11_goOn_27 ?_
    refine g_get C fd_X11_58_11 dX11_goOn_28 hX.o rfl ?_
    refine g_getN C fd_X11_157_8 dX11_goOn_31 (hX.cur hc) rfl ?_
    refine g_invV C ((k_become (S := xRnd X 1) (T := xC X) (hX.cs24 hc) (by show _ + 4 ≤ 8 ∨ 8 + 4 ≤ 16 + 6 * X.1 5 + 1; omega)).conv (SL_self hX.g24) rfl) hX.g24.1 cv_X11_160_7 (rmk_ok (by decide) (by decide) (by decide) (by decide)) (Nat.le_of_ble_eq_true rfl) rfl dX11_goOn_34 rfl (q_v0 ?_)
    have hX := hX.ugg (xC X)
    refine s_n0_aload C dX11_goOn_37 ?_
    refine g_get C fd_X11_39_11 dX11_goOn_38 hX.o rfl ?_
    refine s_n0_aload C dX11_goOn_41 ?_
    refine g_get C fd_X11_58_11 dX11_goOn_42 hX.o rfl ?_
    refine g_getN C fd_X11_192_8 dX11_goOn_45 (hX.cur hc) rfl ?_
    refine g_invV C ((k_sink (S := xC X) (k := xK X) hO.cs (by have := hO.sk; omega)).conv (SL_self hX.g24) rfl) hX.g24.1 cv_X11_195_7 (rmk_ok (by decide) (by decide) (by decide) (by decide)) (Nat.le_of_ble_eq_true rfl) rfl dX11_goOn_48 rfl (q_v0 ?_)
    have hX := hX.ugg (sfSink (xC X) (xK X))
    refine s_n0_aload C dX11_goOn_51 ?_
    refine g_get C fd_X11_58_11 dX11_goOn_52 hX.o rfl ?_
    refine s_n0_aload C dX11_goOn_55 ?_
    refine g_get C fd_X11_39_11 dX11_goOn_56 hX.o rfl ?_
    refine g_invV C ((ct_X8_makeAll (t := 16 + 6 * X.1 5) (o := 8) (ps := xP X) (S := sfSink (xC X) (xK X)) hO.ps (sfSink_ok hO.cs (by have := hO.sk; omega)) (hX.cur hc) (hX.ls (X.1 5) hc.1 (by show X.1 5 < 4; omega)) (fun a h => LR8 h) (by show _ ∨ _; omega)).conv (SL_self hX.g24) rfl) (hX.cur hc) cv_X11_238_8 (rmk_ok (by decide) (by decide) (by decide) (by decide)) (Nat.le_of_ble_eq_true rfl) rfl dX11_goOn_59 rfl (q_v0 ?_)
    have hX := hX.ugg (psAll (xP X) (sfSink (xC X) (xK X)))
    refine s_n1_iload C dX11_goOn_62 ?_
    refine s_n0_aload C dX11_goOn_63 ?_
    refine g_get C fd_X11_39_11 dX11_goOn_64 hX.o rfl ?_
    refine g_invV C (k_allR hX.g24) hX.g24.1 cv_X11_198_7 (rmk_ok (by decide) (by decide) (by decide) (by decide)) (Nat.le_of_ble_eq_true rfl) rfl dX11_goOn_67 rfl (q_r0 ?_)
    refine g_isub C dX11_goOn_70 ?_
    refine g_iret C E dX11_goOn_71 (by decide) ?_
    unfold xGoOn
    rw [if_neg c4]
    exact ⟨rfl, rfl, ℓ, hX⟩
  · refine g_ldc (-1000002) C wd_415 dX11_goOn_7 ?_
    refine g_iret C E dX11_goOn_9 (by decide) ?_
    unfold xGoOn
    rw [if_pos c4]
    exact ⟨rfl, rfl, _, hX⟩
def xCups (X : XT) (a b : Int) : Int × XT := if X.1 0 = 0 then (-1000002, X) else if ¬ (0 ≤ a ∧ a ≤ 32767) then (-1000001, X) else if ¬ (1 ≤ b ∧ b ≤ 999) then (-1000001, X) else (sfLack (xC X) b a, X)
def xThin (X : XT) : Int × XT := if X.1 0 = 0 then (-1000002, X) else (sfThinCells (xC X), X)
set_option maxRecDepth 20000 in
theorem ct_X11_cups {X : XT} {ℓ : Int → Int} {F : gM} {n : Int} {M : gM} (hX : XL X ℓ F n M) (hO : xOK X) {a b : Int} (ha : iR a) (hb : iR b) : CT yX11_cups cX11_cups 3 (some .int) (rmk 2 0 0) [vr 0, vi a, vi b] M n (xPost (xCups X a b) F n) := by
  refine CT.of (by decide) (fun _ => Nat.le_of_ble_eq_true rfl) (fun κ C E => ?_)
  show G κ M n [some (vr 0), some (vi a), some (vi b)] 0 [] 0 0
  have hc := hO.c
  have htd := hO.td
  refine s_n0_aload C dX11_cups_0 ?_
  refine g_get C fd_X11_133_11 dX11_cups_1 hX.o rfl ?_
  refine g_if_ne 10 C dX11_cups_4 (by decide) (by first | assumption | (unfold iR; omega)) (fun c4 => ?_) (fun c4 => ?_)
  · refine s_n1_iload C dX11_cups_10 ?_
    refine g_iconst C dX11_cups_11 ?_
    refine g_sipush C dX11_cups_12 (by decide) ?_
    refine g_invS C (ct_X11_isWithin (by first | assumption | (unfold iR; omega)) (by first | assumption | (unfold iR; omega)) (by first | assumption | (unfold iR; omega))) cs_X11_70 (rmk_ok (by decide) (by decide) (by decide) (by decide)) (Nat.le_of_ble_eq_true rfl) rfl dX11_cups_15 rfl (q_r0 ?_)
    refine g_bifeq 32 C dX11_cups_18 (by decide)  (fun c18 => ?_) (fun c18 => ?_)
    · refine g_ldc (-1000001) C wd_364 dX11_cups_32 ?_
      refine g_iret C E dX11_cups_34 (by decide) ?_
      unfold xCups
      rw [if_neg c4, if_pos c18]
      exact ⟨rfl, rfl, _, hX⟩
    · refine s_n2_iload C dX11_cups_21 ?_
      refine g_iconst C dX11_cups_22 ?_
      refine g_sipush C dX11_cups_23 (by decide) ?_
      refine g_invS C (ct_X11_isWithin (by first | assumption | (unfold iR; omega)) (by first | assumption | (unfold iR; omega)) (by first | assumption | (unfold iR; omega))) cs_X11_70 (rmk_ok (by decide) (by decide) (by decide) (by decide)) (Nat.le_of_ble_eq_true rfl) rfl dX11_cups_26 rfl (q_r0 ?_)
      refine g_bifne 35 C dX11_cups_29 (by decide)  (fun c29 => ?_) (fun c29 => ?_)
      · refine s_n0_aload C dX11_cups_35 ?_
        refine g_get C fd_X11_58_11 dX11_cups_36 hX.o rfl ?_
        refine g_getN C fd_X11_157_8 dX11_cups_39 (hX.cur hO.c) rfl ?_
        refine s_n2_iload C dX11_cups_42 ?_
        refine s_n1_iload C dX11_cups_43 ?_
        refine g_invV C (k_lackR (hX.csf hc) hO.cs (by omega)) (hX.csf hO.c).1 cv_X11_235_7 (rmk_ok (by decide) (by decide) (by decide) (by decide)) (Nat.le_of_ble_eq_true rfl) rfl dX11_cups_44 rfl (q_r0 ?_)
        refine g_iret C E dX11_cups_47 (by decide) ?_
        unfold xCups
        rw [if_neg c4, if_neg (not_not_intro c18), if_neg (not_not_intro c29)]
        exact ⟨rfl, rfl, _, hX⟩
      · refine g_ldc (-1000001) C wd_364 dX11_cups_32 ?_
        refine g_iret C E dX11_cups_34 (by decide) ?_
        unfold xCups
        rw [if_neg c4, if_neg (not_not_intro c18), if_pos c29]
        exact ⟨rfl, rfl, _, hX⟩
  · refine g_ldc (-1000002) C wd_415 dX11_cups_7 ?_
    refine g_iret C E dX11_cups_9 (by decide) ?_
    unfold xCups
    rw [if_pos c4]
    exact ⟨rfl, rfl, _, hX⟩
set_option maxRecDepth 20000 in
theorem ct_X11_thin {X : XT} {ℓ : Int → Int} {F : gM} {n : Int} {M : gM} (hX : XL X ℓ F n M) (hO : xOK X)  : CT yX11_thin cX11_thin 1 (some .int) (rmk 3 0 0) [vr 0] M n (xPost (xThin X) F n) := by
  refine CT.of (by decide) (fun _ => Nat.le_of_ble_eq_true rfl) (fun κ C E => ?_)
  show G κ M n [some (vr 0)] 0 [] 0 0
  have hc := hO.c
  have htd := hO.td
  refine s_n0_aload C dX11_thin_0 ?_
  refine g_get C fd_X11_133_11 dX11_thin_1 hX.o rfl ?_
  refine g_if_ne 10 C dX11_thin_4 (by decide) (by first | assumption | (unfold iR; omega)) (fun c4 => ?_) (fun c4 => ?_)
  · refine s_n0_aload C dX11_thin_10 ?_
    refine g_get C fd_X11_58_11 dX11_thin_11 hX.o rfl ?_
    refine g_getN C fd_X11_157_8 dX11_thin_14 (hX.cur hO.c) rfl ?_
    refine g_invV C (k_thinR (hX.csf hc) hO.cs) (hX.csf hO.c).1 cv_X11_258_7 (rmk_ok (by decide) (by decide) (by decide) (by decide)) (Nat.le_of_ble_eq_true rfl) rfl dX11_thin_17 rfl (q_r0 ?_)
    refine g_iret C E dX11_thin_20 (by decide) ?_
    unfold xThin
    rw [if_neg c4]
    exact ⟨rfl, rfl, _, hX⟩
  · refine g_ldc (-1000002) C wd_415 dX11_thin_7 ?_
    refine g_iret C E dX11_thin_9 (by decide) ?_
    unfold xThin
    rw [if_pos c4]
    exact ⟨rfl, rfl, _, hX⟩
def xTrace (X : XT) (a : Int) : Int × XT := if ¬ (0 ≤ a ∧ a ≤ X.2.2.2.2.1.2 - 1) then (-1000000, X) else (X.2.2.2.2.1.1 a, X)
set_option maxRecDepth 20000 in
theorem ct_X11_trace {X : XT} {ℓ : Int → Int} {F : gM} {n : Int} {M : gM} (hX : XL X ℓ F n M) (hO : xOK X) {a : Int} (ha : iR a) : CT yX11_trace cX11_trace 2 (some .int) (rmk 1 0 0) [vr 0, vi a] M n (xPost (xTrace X a) F n) := by
  refine CT.of (by decide) (fun _ => Nat.le_of_ble_eq_true rfl) (fun κ C E => ?_)
  show G κ M n [some (vr 0), some (vi a)] 0 [] 0 0
  have hc := hO.c
  have htr := hO.tr
  unfold tlOK at htr
  refine s_n1_iload C dX11_trace_0 ?_
  refine g_iconst C dX11_trace_1 ?_
  refine s_n0_aload C dX11_trace_2 ?_
  refine g_get C fd_X11_46_11 dX11_trace_3 hX.o rfl ?_
  refine g_getN C fd_X11_295_10 dX11_trace_6 hX.tr.1 rfl ?_
  refine g_iconst C dX11_trace_9 ?_
  refine g_isub C dX11_trace_10 ?_
  refine g_invS C (ct_X11_isWithin (by assumption) (by unfold iR; omega) (by unfold iR; omega)) cs_X11_70 (rmk_ok (by decide) (by decide) (by decide) (by decide)) (Nat.le_of_ble_eq_true rfl) rfl dX11_trace_11 rfl (q_r0 ?_)
  refine g_bifeq 29 C dX11_trace_14 (by decide)  (fun c14 => ?_) (fun c14 => ?_)
  · refine g_ldc (-1000000) C wd_457 dX11_trace_29 ?_
    refine g_iret C E dX11_trace_31 (by decide) ?_
    unfold xTrace
    rw [if_pos c14]
    exact ⟨rfl, rfl, _, hX⟩
  · refine s_n0_aload C dX11_trace_17 ?_
    refine g_get C fd_X11_46_11 dX11_trace_18 hX.o rfl ?_
    refine g_getN C fd_X11_302_10 dX11_trace_21 hX.tr.1 rfl ?_
    refine s_n1_iload C dX11_trace_24 ?_
    refine g_iald C dX11_trace_25 hX.tr.2 (by omega) ?_
    refine g_goto 31 C dX11_trace_26 (by decide) ?_
    refine g_iret C E dX11_trace_31 (by decide) ?_
    unfold xTrace
    rw [if_neg (not_not_intro c14)]
    exact ⟨rfl, rfl, _, hX⟩
def kiOf (ci : Nat) : Int := if ci = 4 then 1 else if ci = 5 then 2 else if ci = 2 then 3 else if ci = 1 then 4 else 5
def xKind (X : XT) (a : Int) : Int × XT := if ¬ (0 ≤ a ∧ a < (xP X).1) then (-1000001, X) else (kiOf ((xP X).2.1 a), X)
