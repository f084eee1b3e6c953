/-! PadPolish: counts, images, rounds -/
def sfAb (f : Int → Int) : Int := itI (fun i c => if f i ≤ 0 then c else c + 1) 0 15
theorem sfAb_s (f : Int → Int) {i : Int} (h : 0 ≤ i) : itI (fun i c => if f i ≤ 0 then c else c + 1) (0 : Int) (i + 1) = (if f i ≤ 0 then itI (fun i c => if f i ≤ 0 then c else c + 1) (0 : Int) i else itI (fun i c => if f i ≤ 0 then c else c + 1) (0 : Int) i + 1) := itI_s _ _ h
set_option maxRecDepth 20000 in
theorem ct_X11_cellsAboveNone {a : Int} {f : Int → Int} {M : gM} {n : Int} (ha : M a = some (gA 0 15 f)) (hf : ∀ c, 0 ≤ c → c < 15 → iR (f c)) : CT yX11_cellsAboveNone cX11_cellsAboveNone 6 (some .int) (rmk 0 0 0) [vr a] M n (qr (some (vi (sfAb f))) M n) := by
  refine CT.of (by decide) (fun _ => Nat.le_of_ble_eq_true rfl) (fun κ C E => ?_)
  show G κ M n [some (vr a), none, none, none, none, none] 0 [] 0 0
  have lp : ∀ (m : Nat) (i : Int) (q : Option gV), 0 ≤ i ∧ i ≤ 15 → (15 - i).toNat = m → G κ M n [some (vr a), some (vi (itI (fun i c => if f i ≤ 0 then c else c + 1) (0 : Int) i)), some (vr a), some (vi 15), some (vi i), q] 10 [] 0 0 := by
    intro m
    induction m using Nat.strongRecOn with
    | ind m ih =>
      intro i q h1 hm
      refine s_w4_iload C dX11_cellsAboveNone_10 ?_
      refine s_n3_iload C dX11_cellsAboveNone_12 ?_
      refine g_icmp_ge 36 C dX11_cellsAboveNone_13 (by decide) (by first | assumption | (unfold iR; omega)) (by first | assumption | (unfold iR; omega)) (fun c13 => ?_) (fun c13 => ?_)
      · refine s_n1_iload C dX11_cellsAboveNone_36 ?_
        refine g_iret C E dX11_cellsAboveNone_37 (by decide) ?_
        have e : i = 15 := by omega
        subst e
        exact ⟨rfl, rfl, rfl⟩
      · refine s_n2_aload C dX11_cellsAboveNone_16 ?_
        refine s_w4_iload C dX11_cellsAboveNone_17 ?_
        refine g_iald C dX11_cellsAboveNone_19 ha (by omega) ?_
        refine s_w5_istore C dX11_cellsAboveNone_20 rfl ?_
        refine s_w5_iload C dX11_cellsAboveNone_22 ?_
        refine g_if_le 30 C dX11_cellsAboveNone_24 (by decide) (by exact hf i (by omega) (by omega)) (fun c24 => ?_) (fun c24 => ?_)
        · refine s_w4_iinc C dX11_cellsAboveNone_30 rfl ?_
          refine g_goto 10 C dX11_cellsAboveNone_33 (by decide) ?_
          have e := sfAb_s f h1.1
          rw [if_pos c24] at e
          rw [← e]
          exact ih _ (by omega) (i + 1) _ (by omega) rfl
        · refine s_w1_iinc C dX11_cellsAboveNone_27 rfl ?_
          refine s_w4_iinc C dX11_cellsAboveNone_30 rfl ?_
          refine g_goto 10 C dX11_cellsAboveNone_33 (by decide) ?_
          have e := sfAb_s f h1.1
          rw [if_neg (by omega)] at e
          rw [← e]
          exact ih _ (by omega) (i + 1) _ (by omega) rfl
  refine g_iconst C dX11_cellsAboveNone_0 ?_
  refine s_n1_istore C dX11_cellsAboveNone_1 rfl ?_
  refine s_n0_aload C dX11_cellsAboveNone_2 ?_
  refine s_n2_astore C dX11_cellsAboveNone_3 rfl ?_
  refine s_n2_aload C dX11_cellsAboveNone_4 ?_
  refine g_alen C (by decide) dX11_cellsAboveNone_5 ha (by omega) ?_
  refine s_n3_istore C dX11_cellsAboveNone_6 rfl ?_
  refine g_iconst C dX11_cellsAboveNone_7 ?_
  refine s_w4_istore C dX11_cellsAboveNone_8 rfl ?_
  exact lp _ 0 _ (by omega) rfl
def xRows (X : XT) : Int := itI (fun i c => if (X.2.2.1 i).2.2 = -1 then c else c + 1) 0 8
set_option maxRecDepth 20000 in
theorem ct_X11_rowsThere {X : XT} {ℓ : Int → Int} {F : gM} {n : Int} {M : gM} (hX : XL X ℓ F n M) (hO : xOK X)  : CT yX11_rowsThere cX11_rowsThere 6 (some .int) (rmk 1 0 0) [vr 0] M n (qr (some (vi (xRows X))) M n) := by
  refine CT.of (by decide) (fun _ => Nat.le_of_ble_eq_true rfl) (fun κ C E => ?_)
  show G κ M n [some (vr 0), none, none, none, none, none] 0 [] 0 0
  have lp : ∀ (m : Nat) (i : Int) (q : Option gV), 0 ≤ i ∧ i ≤ 8 → (8 - i).toNat = m → G κ M n [some (vr 0), some (vi (itI (fun i c => if (X.2.2.1 i).2.2 = -1 then c else c + 1) (0 : Int) i)), some (vr 1), some (vi 8), some (vi i), q] 13 [] 0 0 := by
    intro m
    induction m using Nat.strongRecOn with
    | ind m ih =>
      intro i q h1 hm
      refine s_w4_iload C dX11_rowsThere_13 ?_
      refine s_n3_iload C dX11_rowsThere_15 ?_
      refine g_icmp_ge 42 C dX11_rowsThere_16 (by decide) (by first | assumption | (unfold iR; omega)) (by first | assumption | (unfold iR; omega)) (fun c16 => ?_) (fun c16 => ?_)
      · refine s_n1_iload C dX11_rowsThere_42 ?_
        refine g_iret C E dX11_rowsThere_43 (by decide) ?_
        have e : i = 8 := by omega
        subst e
        exact ⟨rfl, rfl, rfl⟩
      · refine s_n2_aload C dX11_rowsThere_19 ?_
        refine s_w4_iload C dX11_rowsThere_20 ?_
        refine g_aald C (by decide) dX11_rowsThere_22 hX.r1 (by omega) ?_
        refine s_w5_astore C dX11_rowsThere_23 rfl ?_
        refine s_w5_aload C dX11_rowsThere_25 ?_
        refine g_invV C (k_isMissing (hX.rw i (by omega) (by omega)) (hO.rw i (by omega) (by omega))) (hX.rw i (by omega) (by omega)).1 cv_X11_86_3 (rmk_ok (by decide) (by decide) (by decide) (by decide)) (Nat.le_of_ble_eq_true rfl) rfl dX11_rowsThere_27 rfl (q_r0 ?_)
        refine g_bifne 36 C dX11_rowsThere_30 (by decide)  (fun c30 => ?_) (fun c30 => ?_)
        · refine s_w4_iinc C dX11_rowsThere_36 rfl ?_
          refine g_goto 13 C dX11_rowsThere_39 (by decide) ?_
          have e := itI_s (fun i c => if (X.2.2.1 i).2.2 = -1 then c else c + 1) (0 : Int) h1.1
          rw [if_pos c30] at e
          rw [← e]
          exact ih _ (by omega) (i + 1) _ (by omega) rfl
        · refine s_w1_iinc C dX11_rowsThere_33 rfl ?_
          refine s_w4_iinc C dX11_rowsThere_36 rfl ?_
          refine g_goto 13 C dX11_rowsThere_39 (by decide) ?_
          have e := itI_s (fun i c => if (X.2.2.1 i).2.2 = -1 then c else c + 1) (0 : Int) h1.1
          rw [if_neg c30] at e
          rw [← e]
          exact ih _ (by omega) (i + 1) _ (by omega) rfl
  refine g_iconst C dX11_rowsThere_0 ?_
  refine s_n1_istore C dX11_rowsThere_1 rfl ?_
  refine s_n0_aload C dX11_rowsThere_2 ?_
  refine g_get C fd_X11_11_11 dX11_rowsThere_3 hX.o rfl ?_
  refine s_n2_astore C dX11_rowsThere_6 rfl ?_
  refine s_n2_aload C dX11_rowsThere_7 ?_
  refine g_alenR C (by decide) dX11_rowsThere_8 hX.r1 (by omega) ?_
  refine s_n3_istore C dX11_rowsThere_9 rfl ?_
  refine g_iconst C dX11_rowsThere_10 ?_
  refine s_w4_istore C dX11_rowsThere_11 rfl ?_
  exact lp _ 0 _ (by omega) rfl
def xCount (X : XT) (a : Int) : Int × XT := if a = 0 then (xRows X, X) else if a = 1 then ((xP X).1, X) else if a = 2 then (xK X, X) else if a = 3 then (sfAb (xC X).1, X) else if a = 4 then (sfAb (xC X).2.1, X) else if a = 5 then (X.1 3, X) else if a = 6 then (X.1 6, X) else (-1000001, X)
set_option maxRecDepth 20000 in
theorem ct_X11_count {X : XT} {ℓ : Int → Int} {F : gM} {n : Int} {M : gM} (hX : XL X ℓ F n M) (hO : xOK X) {a : Int} (ha : iR a) : CT yX11_count cX11_count 2 (some .int) (rmk 2 0 0) [vr 0, vi a] M n (xPost (xCount X a) F n) := by
  refine CT.of (by decide) (fun _ => Nat.le_of_ble_eq_true rfl) (fun κ C E => ?_)
  show G κ M n [some (vr 0), some (vi a)] 0 [] 0 0
  have hc := hO.c
  obtain ⟨mc, e, er, pa, wy, l1, l2, l3, l4⟩ := hX.ls (X.1 5) hc.1 (by omega)
  have hcs := hO.cs
  have hf : ∀ c, 0 ≤ c → c < 15 → iR ((xC X).1 c) := fun c c1 c2 => by have := hcs.1 c c1 c2; unfold iR; omega
  have hg : ∀ c, 0 ≤ c → c < 15 → iR ((xC X).2.1 c) := fun c c1 c2 => by have := hcs.1 c c1 c2; unfold iR; omega
  refine s_n1_iload C dX11_count_0 ?_
  rcases (show a = 0 ∨ a = 1 ∨ a = 2 ∨ a = 3 ∨ a = 4 ∨ a = 5 ∨ a = 6 ∨ (a < 0 ∨ 6 < a) by omega) with w1 | w1 | w1 | w1 | w1 | w1 | w1 | w1
  · refine g_tswI 44 C dX11_count_1 (by first | assumption | (unfold iR; omega)) (by omega) (by omega) (by rw [w1]; rfl) (by decide) ?_
    refine s_n0_aload C dX11_count_44 ?_
    refine g_invV C (ct_X11_rowsThere hX hO) hX.o cv_X11_305_11 (rmk_ok (by decide) (by decide) (by decide) (by decide)) (Nat.le_of_ble_eq_true rfl) rfl dX11_count_45 rfl (q_r0 ?_)
    refine g_iret C E dX11_count_48 (by decide) ?_
    unfold xCount
    rw [if_pos (by omega)]
    exact ⟨rfl, rfl, _, hX⟩
  · refine g_tswI 49 C dX11_count_1 (by first | assumption | (unfold iR; omega)) (by omega) (by omega) (by rw [w1]; rfl) (by decide) ?_
    refine s_n0_aload C dX11_count_49 ?_
    refine g_get C fd_X11_58_11 dX11_count_50 hX.o rfl ?_
    refine g_getN C fd_X11_140_8 dX11_count_53 (hX.cur hO.c) rfl ?_
    refine g_invV C (ct_Jx4a65c_size_8abf5 l2) l2 cv_X11_144_0 (rmk_ok (by decide) (by decide) (by decide) (by decide)) (Nat.le_of_ble_eq_true rfl) rfl dX11_count_56 rfl (q_r0 ?_)
    refine g_iret C E dX11_count_59 (by decide) ?_
    unfold xCount
    rw [if_neg (by omega), if_pos (by omega)]
    exact ⟨rfl, rfl, _, hX⟩
  · refine g_tswI 60 C dX11_count_1 (by first | assumption | (unfold iR; omega)) (by omega) (by omega) (by rw [w1]; rfl) (by decide) ?_
    refine s_n0_aload C dX11_count_60 ?_
    refine g_get C fd_X11_58_11 dX11_count_61 hX.o rfl ?_
    refine g_getN C fd_X11_192_8 dX11_count_64 (hX.cur hO.c) rfl ?_
    refine g_iret C E dX11_count_67 (by decide) ?_
    unfold xCount
    rw [if_neg (by omega), if_neg (by omega), if_pos (by omega)]
    exact ⟨rfl, rfl, _, hX⟩
  · refine g_tswI 68 C dX11_count_1 (by first | assumption | (unfold iR; omega)) (by omega) (by omega) (by rw [w1]; rfl) (by decide) ?_
    refine s_n0_aload C dX11_count_68 ?_
    refine g_get C fd_X11_58_11 dX11_count_69 hX.o rfl ?_
    refine g_getN C fd_X11_157_8 dX11_count_72 (hX.cur hO.c) rfl ?_
    refine g_getN C fd_X11_189_7 dX11_count_75 (hX.csf hO.c).1 rfl ?_
    refine g_invS C (ct_X11_cellsAboveNone (hX.csf hc).2.1 hf) cs_X11_308 (rmk_ok (by decide) (by decide) (by decide) (by decide)) (Nat.le_of_ble_eq_true rfl) rfl dX11_count_78 rfl (q_r0 ?_)
    refine g_iret C E dX11_count_81 (by decide) ?_
    unfold xCount
    rw [if_neg (by omega), if_neg (by omega), if_neg (by omega), if_pos (by omega)]
    exact ⟨rfl, rfl, _, hX⟩
  · refine g_tswI 82 C dX11_count_1 (by first | assumption | (unfold iR; omega)) (by omega) (by omega) (by rw [w1]; rfl) (by decide) ?_
    refine s_n0_aload C dX11_count_82 ?_
    refine g_get C fd_X11_58_11 dX11_count_83 hX.o rfl ?_
    refine g_getN C fd_X11_157_8 dX11_count_86 (hX.cur hO.c) rfl ?_
    refine g_getN C fd_X11_201_7 dX11_count_89 (hX.csf hO.c).1 rfl ?_
    refine g_invS C (ct_X11_cellsAboveNone (hX.csf hc).2.2.1 hg) cs_X11_308 (rmk_ok (by decide) (by decide) (by decide) (by decide)) (Nat.le_of_ble_eq_true rfl) rfl dX11_count_92 rfl (q_r0 ?_)
    refine g_iret C E dX11_count_95 (by decide) ?_
    unfold xCount
    rw [if_neg (by omega), if_neg (by omega), if_neg (by omega), if_neg (by omega), if_pos (by omega)]
    exact ⟨rfl, rfl, _, hX⟩
  · refine g_tswI 96 C dX11_count_1 (by first | assumption | (unfold iR; omega)) (by omega) (by omega) (by rw [w1]; rfl) (by decide) ?_
    refine s_n0_aload C dX11_count_96 ?_
    refine g_get C fd_X11_150_11 dX11_count_97 hX.o rfl ?_
    refine g_iret C E dX11_count_100 (by decide) ?_
    unfold xCount
    rw [if_neg (by omega), if_neg (by omega), if_neg (by omega), if_neg (by omega), if_neg (by omega), if_pos (by omega)]
    exact ⟨rfl, rfl, _, hX⟩
  · refine g_tswI 101 C dX11_count_1 (by first | assumption | (unfold iR; omega)) (by omega) (by omega) (by rw [w1]; rfl) (by decide) ?_
    refine s_n0_aload C dX11_count_101 ?_
    refine g_get C fd_X11_18_11 dX11_count_102 hX.o rfl ?_
    refine g_getN C fd_X11_117_9 dX11_count_105 hX.tp.1 rfl ?_
    refine g_iret C E dX11_count_108 (by decide) ?_
    unfold xCount
    rw [if_neg (by omega), if_neg (by omega), if_neg (by omega), if_neg (by omega), if_neg (by omega), if_neg (by omega), if_pos (by omega)]
    exact ⟨rfl, rfl, _, hX⟩
  · refine g_tswO 109 C dX11_count_1 (by first | assumption | (unfold iR; omega)) w1 (by decide) ?_
    refine g_ldc (-1000001) C wd_364 dX11_count_109 ?_
    refine g_iret C E dX11_count_111 (by decide) ?_
    unfold xCount
    rw [if_neg (by omega), if_neg (by omega), if_neg (by omega), if_neg (by omega), if_neg (by omega), if_neg (by omega), if_neg (by omega)]
    exact ⟨rfl, rfl, _, hX⟩
section XI
variable {X : XT} {ℓ : Int → Int} {F : gM} {n : Int} {M : gM}
theorem XL.ui (h : XL X ℓ F n M) (hc : 0 ≤ X.1 5 ∧ X.1 5 ≤ 1) {k : Int} (h0 : 0 ≤ k) (h1 : k < 2) : XL (X.1, X.2.1, X.2.2.1, fu X.2.2.2.1 (27 + k) (xC X), X.2.2.2.2.1, fu X.2.2.2.2.2 (2 + k) (xP X, xK X)) (fu ℓ (2 + k) (ℓ (X.1 5))) F n (gu (SL (44 + 6 * k + 1) (xC X) M) (44 + 6 * k) (gO 8 [vr (44 + 6 * k + 1), vr (ℓ (X.1 5)), vi (xK X)])) := by
  have e : sA (27 + k) = 44 + 6 * k + 1 := by unfold sA; rw [if_neg (by omega), if_neg (by omega), if_neg (by omega)]; omega
  have e2 : tA (2 + k) = 44 + 6 * k := by unfold tA; rw [if_neg (by omega)]; omega
  have a1 := h.us (k0 := 27 + k) (xC X) (by omega) (by omega)
  rw [e] at a1
  have a2 := a1.ub (k0 := 2 + k) (ℓ0 := ℓ (X.1 5)) (sk := xK X) (ps := xP X) (by omega) (by omega) (a1.ls (X.1 5) hc.1 (by show X.1 5 < 4; omega))
  rw [e2] at a2
  exact a2
theorem XL.uj (h : XL X ℓ F n M) (hc : 0 ≤ X.1 5 ∧ X.1 5 ≤ 1) {k : Int} (h0 : 0 ≤ k) (h1 : k < 2) : XL (X.1, X.2.1, X.2.2.1, fu X.2.2.2.1 (25 + X.1 5) (X.2.2.2.1 (27 + k)), X.2.2.2.2.1, fu X.2.2.2.2.2 (X.1 5) (X.2.2.2.2.2 (2 + k))) (fu ℓ (X.1 5) (ℓ (2 + k))) F n (gu (SL (16 + 6 * X.1 5 + 1) (X.2.2.2.1 (27 + k)) M) (16 + 6 * X.1 5) (gO 8 [vr (16 + 6 * X.1 5 + 1), vr (ℓ (2 + k)), vi (X.2.2.2.2.2 (2 + k)).2])) := by
  have e2 : tA (X.1 5) = 16 + 6 * X.1 5 := by unfold tA; rw [if_pos (by omega)]
  have a1 := h.uc hc (X.2.2.2.1 (27 + k))
  have a2 := a1.ub (k0 := X.1 5) (ℓ0 := ℓ (2 + k)) (sk := (X.2.2.2.2.2 (2 + k)).2) (ps := (X.2.2.2.2.2 (2 + k)).1) hc.1 (by omega) (a1.ls (2 + k) (by omega) (by omega))
  rw [e2] at a2
  exact a2
end XI
def xImage (X : XT) (a : Int) : Int × XT := if ¬ (0 ≤ a ∧ a ≤ 1) then (-1000001, X) else if X.1 0 = 0 then (-1000002, X) else (1, (X.1, fu X.2.1 2 (up (X.2.1 2) a 1), X.2.2.1, fu X.2.2.2.1 (27 + a) (xC X), X.2.2.2.2.1, fu X.2.2.2.2.2 (2 + a) (xP X, xK X)))
def xRestore (X : XT) (a : Int) : Int × XT := if ¬ (0 ≤ a ∧ a ≤ 1) then (-1000001, X) else if X.2.1 2 a = 0 then (-1000002, X) else (1, (fu X.1 3 0, X.2.1, X.2.2.1, fu X.2.2.2.1 (25 + X.1 5) (X.2.2.2.1 (27 + a)), X.2.2.2.2.1, fu X.2.2.2.2.2 (X.1 5) (X.2.2.2.2.2 (2 + a))))
set_option maxRecDepth 20000 in
theorem ct_X11_image {X : XT} {ℓ : Int → Int} {F : gM} {n : Int} {M : gM} (hX : XL X ℓ F n M) (hO : xOK X) {a : Int} (ha : iR a) : CT yX11_image cX11_image 2 (some .int) (rmk 3 0 0) [vr 0, vi a] M n (xPost (xImage X a) F n) := by
  refine CT.of (by decide) (fun _ => Nat.le_of_ble_eq_true rfl) (fun κ C E => ?_)
  show G κ M n [some (vr 0), some (vi a)] 0 [] 0 0
  have hc := hO.c
  have htd := hO.td
  refine s_n1_iload C dX11_image_0 ?_
  refine g_iconst C dX11_image_1 ?_
  refine g_iconst C dX11_image_2 ?_
  refine g_invS C (ct_X11_isWithin (by first | assumption | (unfold iR; omega)) (by first | assumption | (unfold iR; omega)) (by first | assumption | (unfold iR; omega))) cs_X11_70 (rmk_ok (by decide) (by decide) (by decide) (by decide)) (Nat.le_of_ble_eq_true rfl) rfl dX11_image_3 rfl (q_r0 ?_)
  refine g_bifne 12 C dX11_image_6 (by decide)  (fun c6 => ?_) (fun c6 => ?_)
  · refine s_n0_aload C dX11_image_12 ?_
    refine g_get C fd_X11_133_11 dX11_image_13 hX.o rfl ?_
    refine g_if_ne 22 C dX11_image_16 (by decide) (by first | assumption | (unfold iR; omega)) (fun c16 => ?_) (fun c16 => ?_)
    · refine s_n0_aload C dX11_image_22 ?_
      refine g_get C fd_X11_24_11 dX11_image_23 hX.o rfl ?_
      refine s_n1_iload C dX11_image_26 ?_
      refine g_aald C (by decide) dX11_image_27 hX.r5 (by omega) ?_
      refine s_n0_aload C dX11_image_28 ?_
      refine g_get C fd_X11_58_11 dX11_image_29 hX.o rfl ?_
      refine g_invV C ((ct_X8_become (t := 44 + 6 * a) (u := 16 + 6 * X.1 5) (S := X.2.2.2.1 (27 + a)) (T := xC X) (hX.img c6.1 (by omega)) (hX.cur hc) (hX.csf hc) (by omega)).conv (SL_self (hX.isf c6.1 (by omega))) rfl) (hX.img c6.1 (by omega)) cv_X11_286_8 (rmk_ok (by decide) (by decide) (by decide) (by decide)) (Nat.le_of_ble_eq_true rfl) rfl dX11_image_32 rfl (q_v0 ?_)
      have hX := hX.ui hc c6.1 (by omega)
      refine s_n0_aload C dX11_image_35 ?_
      refine g_get C fd_X11_28_11 dX11_image_36 hX.o rfl ?_
      refine s_n1_iload C dX11_image_39 ?_
      refine g_iconst C dX11_image_40 ?_
      refine g_zast C dX11_image_41 hX.b6 (by omega) (by exact Or.inr rfl) ?_
      have hX := hX.u6 (up (X.2.1 2) a 1)
      refine g_iconst C dX11_image_42 ?_
      refine g_iret C E dX11_image_43 (by decide) ?_
      unfold xImage
      rw [if_neg (not_not_intro c6), if_neg c16]
      exact ⟨rfl, rfl, _, hX⟩
    · refine g_ldc (-1000002) C wd_415 dX11_image_19 ?_
      refine g_iret C E dX11_image_21 (by decide) ?_
      unfold xImage
      rw [if_neg (not_not_intro c6), if_pos c16]
      exact ⟨rfl, rfl, _, hX⟩
  · refine g_ldc (-1000001) C wd_364 dX11_image_9 ?_
    refine g_iret C E dX11_image_11 (by decide) ?_
    unfold xImage
    rw [if_pos c6]
    exact ⟨rfl, rfl, _, hX⟩
set_option maxRecDepth 20000 in
theorem ct_X11_restore {X : XT} {ℓ : Int → Int} {F : gM} {n : Int} {M : gM} (hX : XL X ℓ F n M) (hO : xOK X) {a : Int} (ha : iR a) : CT yX11_restore cX11_restore 2 (some .int) (rmk 3 0 0) [vr 0, vi a] M n (xPost (xRestore X a) F n) := by
  refine CT.of (by decide) (fun _ => Nat.le_of_ble_eq_true rfl) (fun κ C E => ?_)
  show G κ M n [some (vr 0), some (vi a)] 0 [] 0 0
  have hc := hO.c
  refine s_n1_iload C dX11_restore_0 ?_
  refine g_iconst C dX11_restore_1 ?_
  refine g_iconst C dX11_restore_2 ?_
  refine g_invS C (ct_X11_isWithin (by first | assumption | (unfold iR; omega)) (by first | assumption | (unfold iR; omega)) (by first | assumption | (unfold iR; omega))) cs_X11_70 (rmk_ok (by decide) (by decide) (by decide) (by decide)) (Nat.le_of_ble_eq_true rfl) rfl dX11_restore_3 rfl (q_r0 ?_)
  refine g_bifne 12 C dX11_restore_6 (by decide)  (fun c6 => ?_) (fun c6 => ?_)
  · refine s_n0_aload C dX11_restore_12 ?_
    refine g_get C fd_X11_28_11 dX11_restore_13 hX.o rfl ?_
    refine s_n1_iload C dX11_restore_16 ?_
    refine g_zald C dX11_restore_17 hX.b6 (by omega) ?_
    have hik := hO.ik a c6.1 (by omega)
    refine g_if_ne 24 C dX11_restore_18 (by decide) (by first | assumption | (unfold iR; omega)) (fun c18 => ?_) (fun c18 => ?_)
    · refine s_n0_aload C dX11_restore_24 ?_
      refine g_get C fd_X11_58_11 dX11_restore_25 hX.o rfl ?_
      refine s_n0_aload C dX11_restore_28 ?_
      refine g_get C fd_X11_24_11 dX11_restore_29 hX.o rfl ?_
      refine s_n1_iload C dX11_restore_32 ?_
      refine g_aald C (by decide) dX11_restore_33 hX.r5 (by omega) ?_
      refine g_invV C ((ct_X8_become (t := 16 + 6 * X.1 5) (u := 44 + 6 * a) (S := xC X) (T := X.2.2.2.1 (27 + a)) (hX.cur hc) (hX.img c6.1 (by omega)) (hX.isf c6.1 (by omega)) (by omega)).conv (SL_self (hX.csf hc)) rfl) (hX.cur hc) cv_X11_286_8 (rmk_ok (by decide) (by decide) (by decide) (by decide)) (Nat.le_of_ble_eq_true rfl) rfl dX11_restore_34 rfl (q_v0 ?_)
      have hX := hX.uj hc c6.1 (by omega)
      refine s_n0_aload C dX11_restore_37 ?_
      refine g_invV C (ct_X11_forgetActs hX) hX.o cv_X11_137_11 (rmk_ok (by decide) (by decide) (by decide) (by decide)) (Nat.le_of_ble_eq_true rfl) rfl dX11_restore_38 rfl (q_v0 ?_)
      have hX := hX.uo (sc := fu X.1 3 0) ⟨rfl, rfl, rfl⟩
      refine g_iconst C dX11_restore_41 ?_
      refine g_iret C E dX11_restore_42 (by decide) ?_
      unfold xRestore
      rw [if_neg (not_not_intro c6), if_neg c18]
      exact ⟨rfl, rfl, _, hX⟩
    · refine g_ldc (-1000002) C wd_415 dX11_restore_21 ?_
      refine g_iret C E dX11_restore_23 (by decide) ?_
      unfold xRestore
      rw [if_neg (not_not_intro c6), if_pos c18]
      exact ⟨rfl, rfl, _, hX⟩
  · refine g_ldc (-1000001) C wd_364 dX11_restore_9 ?_
    refine g_iret C E dX11_restore_11 (by decide) ?_
    unfold xRestore
    rw [if_pos c6]
    exact ⟨rfl, rfl, _, hX⟩
def enN : Nat → XT → Int → Int → Int × SLT
  | 0, X, _, i => (-1000000, xRnd X i)
  | f + 1, X, t, i => if 40 < i then (-1000000, xRnd X i) else if sfLack (xRnd X i) t (psCells (xP X) (bShl 1 (xP X).1 - 1)) = 0 then (i, xRnd X i) else enN f X t (i + 1)
def xEnough (X : XT) (t : Int) : Int × XT := if X.1 0 = 0 then (-1000002, X) else if ¬ (1 ≤ t ∧ t ≤ 999) then (-1000001, X) else ((enN 42 X t 0).1, xSf X 24 (enN 42 X t 0).2)
theorem sfLack_R {S : SLT} (hS : sfOK S) {t cs : Int} (ht : 0 ≤ t ∧ t ≤ 999) : iR (sfLack S t cs) := by
  have h : ∀ i : Int, 0 ≤ i → (i ≤ 15 → 0 ≤ itI (fun i a => if bAnd (bShr cs i) 1 = 1 then a + max (t - S.1 i) 0 else a) (0 : Int) i ∧ itI (fun i a => if bAnd (bShr cs i) 1 = 1 then a + max (t - S.1 i) 0 else a) (0 : Int) i ≤ 1000 * i) := fun i hi => itI_inv (g := fun i a => if bAnd (bShr cs i) 1 = 1 then a + max (t - S.1 i) 0 else a) (a := (0 : Int)) (fun i x => i ≤ 15 → 0 ≤ x ∧ x ≤ 1000 * i) (fun _ => by omega) (fun i x h0 hx h1 => by
    have b := hS.1 i h0 (by omega)
    have hx := hx (by omega)
    split <;> omega) hi
  have := h 15 (by decide) (by decide)
  unfold iR sfLack
  omega
set_option maxRecDepth 20000 in
theorem ct_X11_enough {X : XT} {ℓ : Int → Int} {F : gM} {n : Int} {M : gM} (hX : XL X ℓ F n M) (hO : xOK X) {t : Int} (ht : iR t) : CT yX11_enough cX11_enough 4 (some .int) (rmk 6 0 0) [vr 0, vi t] M n (xPost (xEnough X t) F n) := by
  refine CT.of (by decide) (fun _ => Nat.le_of_ble_eq_true rfl) (fun κ C E => ?_)
  show G κ M n [some (vr 0), some (vi t), none, none] 0 [] 0 0
  have hc := hO.c
  have htd := hO.td
  obtain ⟨E0, hE⟩ : ∃ E0, E0 = enN 42 X t 0 := ⟨_, rfl⟩
  have lp : ∀ (f : Nat) (i : Int) (M : gM), XL (xSf X 24 (xRnd X i)) ℓ F n M → 1 ≤ t ∧ t ≤ 999 → 0 ≤ i ∧ i ≤ 41 → 42 ≤ f + i → ¬ X.1 0 = 0 → E0 = enN f X t i → G κ M n [some (vr 0), some (vi t), some (vi (psCells (xP X) (bShl 1 (xP X).1 - 1))), some (vi i)] 52 [] 0 0 := by
    intro f
    induction f with
    | zero => intro i M hX h0 h1 h2 h3 h4; exfalso; omega
    | succ f ih =>
      intro i M hX h0 h1 h2 h3 h4
      have hS := xRnd_ok hO h1.1
      unfold enN at h4
      refine s_n3_iload C dX11_enough_52 ?_
      refine g_bipush C dX11_enough_53 (by decide) ?_
      refine g_icmp_gt 89 C dX11_enough_55 (by decide) (by first | assumption | (unfold iR; omega)) (by first | assumption | (unfold iR; omega)) (fun c55 => ?_) (fun c55 => ?_)
      · refine g_ldc (-1000000) C wd_457 dX11_enough_89 ?_
        refine g_iret C E dX11_enough_91 (by decide) ?_
        rw [if_pos (by omega)] at h4
        unfold xEnough
        rw [if_neg h3, if_neg (not_not_intro h0), ← hE, h4]
        exact ⟨rfl, rfl, _, hX⟩
      · refine s_n0_aload C dX11_enough_58 ?_
        refine g_get C fd_X11_39_11 dX11_enough_59 hX.o rfl ?_
        refine s_n1_iload C dX11_enough_62 ?_
        refine s_n2_iload C dX11_enough_63 ?_
        refine g_invV C (k_lackR hX.g24 hS (by omega)) hX.g24.1 cv_X11_235_7 (rmk_ok (by decide) (by decide) (by decide) (by decide)) (Nat.le_of_ble_eq_true rfl) rfl dX11_enough_64 rfl (q_r0 ?_)
        refine g_if_ne 72 C dX11_enough_67 (by decide) (by exact sfLack_R hS (by omega)) (fun c67 => ?_) (fun c67 => ?_)
        · refine s_n0_aload C dX11_enough_72 ?_
          refine g_get C fd_X11_58_11 dX11_enough_73 hX.o rfl ?_
          refine s_n0_aload C dX11_enough_76 ?_
          refine g_get C fd_X11_39_11 dX11_enough_77 hX.o rfl ?_
          refine g_invV C ((ct_X8_makeAll (t := 16 + 6 * X.1 5) (o := 8) (ps := xP X) (S := xRnd X i) hO.ps (hS) (hX.cur hc) (hX.ls (X.1 5) hc.1 (by show X.1 5 < 4; omega)) (fun a h => LR8 h) (by show _ ∨ _; omega)).conv (SL_self hX.g24) rfl) (hX.cur hc) cv_X11_238_8 (rmk_ok (by decide) (by decide) (by decide) (by decide)) (Nat.le_of_ble_eq_true rfl) rfl dX11_enough_80 rfl (q_v0 ?_)
          have hX := hX.ugg (psAll (xP X) (xRnd X i))
          refine s_w3_iinc C dX11_enough_83 rfl ?_
          refine g_goto 52 C dX11_enough_86 (by decide) ?_
          rw [if_neg (by omega), if_neg c67] at h4
          refine ih (i + 1) _ ?_ h0 (by omega) (by omega) h3 h4
          have e : xRnd X (i + 1) = psAll (xP X) (xRnd X i) := itI_s (fun _ S => psAll (xP X) S) (xC X) h1.1
          rw [e]
          exact hX
        · refine s_n3_iload C dX11_enough_70 ?_
          refine g_iret C E dX11_enough_71 (by decide) ?_
          rw [if_neg (by omega), if_pos c67] at h4
          unfold xEnough
          rw [if_neg h3, if_neg (not_not_intro h0), ← hE, h4]
          exact ⟨rfl, rfl, _, hX⟩
  refine s_n0_aload C dX11_enough_0 ?_
  refine g_get C fd_X11_133_11 dX11_enough_1 hX.o rfl ?_
  refine g_if_ne 10 C dX11_enough_4 (by decide) (by first | assumption | (unfold iR; omega)) (fun c4 => ?_) (fun c4 => ?_)
  · refine s_n1_iload C dX11_enough_10 ?_
    refine g_iconst C dX11_enough_11 ?_
    refine g_sipush C dX11_enough_12 (by decide) ?_
    refine g_invS C (ct_X11_isWithin (by first | assumption | (unfold iR; omega)) (by first | assumption | (unfold iR; omega)) (by first | assumption | (unfold iR; omega))) cs_X11_70 (rmk_ok (by decide) (by decide) (by decide) (by decide)) (Nat.le_of_ble_eq_true rfl) rfl dX11_enough_15 rfl (q_r0 ?_)
    refine g_bifne 24 C dX11_enough_18 (by decide)  (fun c18 => ?_) (fun c18 => ?_)
    · refine s_n0_aload C dX11_enough_24 ?_
      refine g_get C fd_X11_58_11 dX11_enough_25 hX.o rfl ?_
      refine s_n0_aload C dX11_enough_28 ?_
      refine g_invV C (ct_X11_allPasses hX hO) hX.o cv_X11_229_11 (rmk_ok (by decide) (by decide) (by decide) (by decide)) (Nat.le_of_ble_eq_true rfl) rfl dX11_enough_29 rfl (q_r0 ?_)
      refine g_invV C (ct_X8_cellsOf hO.ps (hX.cur hc) (hX.ls (X.1 5) hc.1 (by omega))) (hX.cur hO.c) cv_X11_232_8 (rmk_ok (by decide) (by decide) (by decide) (by decide)) (Nat.le_of_ble_eq_true rfl) rfl dX11_enough_32 rfl (q_r0 ?_)
      refine s_n2_istore C dX11_enough_35 rfl ?_
      refine s_n0_aload C dX11_enough_36 ?_
      refine g_get C fd_X11_39_11 dX11_enough_37 hX.o rfl ?_
      refine s_n0_aload C dX11_enough_40 ?_
      refine g_get C fd_X11_58_11 dX11_enough_41 hX.o rfl ?_
      refine g_getN C fd_X11_157_8 dX11_enough_44 (hX.cur hO.c) rfl ?_
      refine g_invV C ((k_become (S := X.2.2.2.1 24) (T := xC X) (hX.csf hc) (by omega)).conv (SL_self hX.gs) rfl) hX.gs.1 cv_X11_160_7 (rmk_ok (by decide) (by decide) (by decide) (by decide)) (Nat.le_of_ble_eq_true rfl) rfl dX11_enough_47 rfl (q_v0 ?_)
      have hX := hX.ug (xC X)
      refine g_iconst C dX11_enough_50 ?_
      refine s_n3_istore C dX11_enough_51 rfl ?_
      exact lp 42 0 _ hX c18 (by omega) (by omega) c4 hE
    · refine g_ldc (-1000001) C wd_364 dX11_enough_21 ?_
      refine g_iret C E dX11_enough_23 (by decide) ?_
      unfold xEnough
      rw [if_neg c4, if_pos c18]
      exact ⟨rfl, rfl, _, hX⟩
  · refine g_ldc (-1000002) C wd_415 dX11_enough_7 ?_
    refine g_iret C E dX11_enough_9 (by decide) ?_
    unfold xEnough
    rw [if_pos c4]
    exact ⟨rfl, rfl, _, hX⟩
