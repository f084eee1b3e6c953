/-! PadPolish: asked, images -/
set_option maxRecDepth 20000 in
theorem ct_X11_kind {X : XT} {ℓ : Int → Int} {F : gM} {n : Int} {M : gM} (hX : XL X ℓ F n M) (hO : xOK X) {a : Int} (ha : iR a) : CT yX11_kind cX11_kind 3 (some .int) (rmk 4 0 0) [vr 0, vi a] M n (xPost (xKind X a) F n) := by
  refine CT.of (by decide) (fun _ => Nat.le_of_ble_eq_true rfl) (fun κ C E => ?_)
  show G κ M n [some (vr 0), some (vi a), none] 0 [] 0 0
  have hc := hO.c
  refine s_n0_aload C dX11_kind_0 ?_
  refine s_n1_iload C dX11_kind_1 ?_
  refine g_invV C (ct_X11_passOf hX hO (by assumption)) hX.o cv_X11_173_11 (rmk_ok (by decide) (by decide) (by decide) (by decide)) (Nat.le_of_ble_eq_true rfl) rfl dX11_kind_2 rfl (fun r M9 n9 hq => ?_)
  obtain ⟨hm9, hn9, hq⟩ := hq
  rw [hm9, hn9]
  show G κ _ _ _ _ _ 0 0
  rcases hq with ⟨p1, p2, pa, wy, hr9, p3, p4, hki, hwa, hpa⟩ | ⟨p1, hr9⟩
  · subst hr9
    refine s_n2_astore C dX11_kind_5 rfl ?_
    refine s_n2_aload C dX11_kind_6 ?_
    refine g_ifnonnull 15 C dX11_kind_7 (by decide) ?_
    refine s_n2_aload C dX11_kind_15 ?_
    rcases hki with ki | ki | ki | ki | ki
    · rw [ki] at hpa
      refine g_invU C (ct_X0_kindNumber) hpa.1 cu_X11_289_1 (rmk_ok (by decide) (by decide) (by decide) (by decide)) (Nat.le_of_ble_eq_true rfl) rfl dX11_kind_16 rfl (q_r0 ?_)
      refine g_iret C E dX11_kind_19 (by decide) ?_
      unfold xKind
      rw [if_neg (not_not_intro ⟨p1, p2⟩), ki]
      exact ⟨rfl, rfl, _, hX⟩
    · rw [ki] at hpa
      refine g_invU C (ct_X1_kindNumber) hpa.1 cu_X11_289_2 (rmk_ok (by decide) (by decide) (by decide) (by decide)) (Nat.le_of_ble_eq_true rfl) rfl dX11_kind_16 rfl (q_r0 ?_)
      refine g_iret C E dX11_kind_19 (by decide) ?_
      unfold xKind
      rw [if_neg (not_not_intro ⟨p1, p2⟩), ki]
      exact ⟨rfl, rfl, _, hX⟩
    · rw [ki] at hpa
      refine g_invU C (ct_X4_kindNumber) hpa.1 cu_X11_289_4 (rmk_ok (by decide) (by decide) (by decide) (by decide)) (Nat.le_of_ble_eq_true rfl) rfl dX11_kind_16 rfl (q_r0 ?_)
      refine g_iret C E dX11_kind_19 (by decide) ?_
      unfold xKind
      rw [if_neg (not_not_intro ⟨p1, p2⟩), ki]
      exact ⟨rfl, rfl, _, hX⟩
    · rw [ki] at hpa
      refine g_invU C (ct_X5_kindNumber) hpa.1 cu_X11_289_5 (rmk_ok (by decide) (by decide) (by decide) (by decide)) (Nat.le_of_ble_eq_true rfl) rfl dX11_kind_16 rfl (q_r0 ?_)
      refine g_iret C E dX11_kind_19 (by decide) ?_
      unfold xKind
      rw [if_neg (not_not_intro ⟨p1, p2⟩), ki]
      exact ⟨rfl, rfl, _, hX⟩
    · rw [ki] at hpa
      refine g_invU C (ct_X6_kindNumber) hpa.1 cu_X11_289_6 (rmk_ok (by decide) (by decide) (by decide) (by decide)) (Nat.le_of_ble_eq_true rfl) rfl dX11_kind_16 rfl (q_r0 ?_)
      refine g_iret C E dX11_kind_19 (by decide) ?_
      unfold xKind
      rw [if_neg (not_not_intro ⟨p1, p2⟩), ki]
      exact ⟨rfl, rfl, _, hX⟩
  · subst hr9
    refine s_n2_astore C dX11_kind_5 rfl ?_
    refine s_n2_aload C dX11_kind_6 ?_
    refine g_ifnonnullN C dX11_kind_7 ?_
    refine g_ldc (-1000001) C wd_364 dX11_kind_10 ?_
    refine g_goto 19 C dX11_kind_12 (by decide) ?_
    refine g_iret C E dX11_kind_19 (by decide) ?_
    unfold xKind
    rw [if_pos p1]
    exact ⟨rfl, rfl, _, hX⟩
def ofK (ci : Nat) (k : Int) : Int := if k = 0 then 1 else if k = 1 then (if ci = 4 ∨ ci = 5 ∨ ci = 2 then 1 else 0) else if k = 2 then (if ci = 5 then 1 else 0) else if k = 3 then (if ci = 2 then 1 else 0) else if k = 4 then (if ci = 1 ∨ ci = 6 then 1 else 0) else if ci = 6 then 1 else 0
set_option maxRecDepth 20000 in
theorem ct_X11_isOfKind_1 {a k : Int} {fs : List gV} {M : gM} {n : Int} (ha : M a = some (gO 1 fs)) (hk : 0 ≤ k ∧ k ≤ 5) : CT yX11_isOfKind cX11_isOfKind 2 (some .boolean) (rmk 0 0 0) [vr a, vi k] M n (qr (some (vi (ofK 1 k))) M n) := by
  refine CT.of (by decide) (fun _ => Nat.le_of_ble_eq_true rfl) (fun κ C E => ?_)
  show G κ M n [some (vr a), some (vi k)] 0 [] 0 0
  refine s_n1_iload C dX11_isOfKind_0 ?_
  rcases (show k = 0 ∨ k = 1 ∨ k = 2 ∨ k = 3 ∨ k = 4 ∨ k = 5 ∨ (k < 0 ∨ 5 < k) by omega) with w1 | w1 | w1 | w1 | w1 | w1 | w1
  · refine g_tswI 40 C dX11_isOfKind_1 (by first | assumption | (unfold iR; omega)) (by omega) (by omega) (by rw [w1]; rfl) (by decide) ?_
    refine g_iconst C dX11_isOfKind_40 ?_
    refine g_zret C E dX11_isOfKind_41 (by decide) (by decide) ?_
    subst w1
    exact ⟨rfl, rfl, rfl⟩
  · refine g_tswI 42 C dX11_isOfKind_1 (by first | assumption | (unfold iR; omega)) (by omega) (by omega) (by rw [w1]; rfl) (by decide) ?_
    refine s_n0_aload C dX11_isOfKind_42 ?_
    refine g_instNo C rfl wd_580 (by decide) ha dX11_isOfKind_43 ?_
    refine g_zret C E dX11_isOfKind_46 (by decide) (by decide) ?_
    subst w1
    exact ⟨rfl, rfl, rfl⟩
  · refine g_tswI 47 C dX11_isOfKind_1 (by first | assumption | (unfold iR; omega)) (by omega) (by omega) (by rw [w1]; rfl) (by decide) ?_
    refine s_n0_aload C dX11_isOfKind_47 ?_
    refine g_instNo C rfl wd_581 (by decide) ha dX11_isOfKind_48 ?_
    refine g_zret C E dX11_isOfKind_51 (by decide) (by decide) ?_
    subst w1
    exact ⟨rfl, rfl, rfl⟩
  · refine g_tswI 52 C dX11_isOfKind_1 (by first | assumption | (unfold iR; omega)) (by omega) (by omega) (by rw [w1]; rfl) (by decide) ?_
    refine s_n0_aload C dX11_isOfKind_52 ?_
    refine g_instNo C rfl wd_582 (by decide) ha dX11_isOfKind_53 ?_
    refine g_zret C E dX11_isOfKind_56 (by decide) (by decide) ?_
    subst w1
    exact ⟨rfl, rfl, rfl⟩
  · refine g_tswI 57 C dX11_isOfKind_1 (by first | assumption | (unfold iR; omega)) (by omega) (by omega) (by rw [w1]; rfl) (by decide) ?_
    refine s_n0_aload C dX11_isOfKind_57 ?_
    refine g_instS C rfl wd_583 ha dX11_isOfKind_58 ?_
    refine g_zret C E dX11_isOfKind_61 (by decide) (by decide) ?_
    subst w1
    exact ⟨rfl, rfl, rfl⟩
  · refine g_tswI 62 C dX11_isOfKind_1 (by first | assumption | (unfold iR; omega)) (by omega) (by omega) (by rw [w1]; rfl) (by decide) ?_
    refine s_n0_aload C dX11_isOfKind_62 ?_
    refine g_instNo C rfl wd_584 (by decide) ha dX11_isOfKind_63 ?_
    refine g_zret C E dX11_isOfKind_66 (by decide) (by decide) ?_
    subst w1
    exact ⟨rfl, rfl, rfl⟩
  · refine g_tswO 67 C dX11_isOfKind_1 (by first | assumption | (unfold iR; omega)) w1 (by decide) ?_
    refine g_iconst C dX11_isOfKind_67 ?_
    refine g_zret C E dX11_isOfKind_68 (by decide) (by decide) ?_
    exfalso
    omega
set_option maxRecDepth 20000 in
theorem ct_X11_isOfKind_2 {a k : Int} {fs : List gV} {M : gM} {n : Int} (ha : M a = some (gO 2 fs)) (hk : 0 ≤ k ∧ k ≤ 5) : CT yX11_isOfKind cX11_isOfKind 2 (some .boolean) (rmk 0 0 0) [vr a, vi k] M n (qr (some (vi (ofK 2 k))) M n) := by
  refine CT.of (by decide) (fun _ => Nat.le_of_ble_eq_true rfl) (fun κ C E => ?_)
  show G κ M n [some (vr a), some (vi k)] 0 [] 0 0
  refine s_n1_iload C dX11_isOfKind_0 ?_
  rcases (show k = 0 ∨ k = 1 ∨ k = 2 ∨ k = 3 ∨ k = 4 ∨ k = 5 ∨ (k < 0 ∨ 5 < k) by omega) with w1 | w1 | w1 | w1 | w1 | w1 | w1
  · refine g_tswI 40 C dX11_isOfKind_1 (by first | assumption | (unfold iR; omega)) (by omega) (by omega) (by rw [w1]; rfl) (by decide) ?_
    refine g_iconst C dX11_isOfKind_40 ?_
    refine g_zret C E dX11_isOfKind_41 (by decide) (by decide) ?_
    subst w1
    exact ⟨rfl, rfl, rfl⟩
  · refine g_tswI 42 C dX11_isOfKind_1 (by first | assumption | (unfold iR; omega)) (by omega) (by omega) (by rw [w1]; rfl) (by decide) ?_
    refine s_n0_aload C dX11_isOfKind_42 ?_
    refine g_instY C rfl wd_580 nb_1162 ha dX11_isOfKind_43 ?_
    refine g_zret C E dX11_isOfKind_46 (by decide) (by decide) ?_
    subst w1
    exact ⟨rfl, rfl, rfl⟩
  · refine g_tswI 47 C dX11_isOfKind_1 (by first | assumption | (unfold iR; omega)) (by omega) (by omega) (by rw [w1]; rfl) (by decide) ?_
    refine s_n0_aload C dX11_isOfKind_47 ?_
    refine g_instNo C rfl wd_581 (by decide) ha dX11_isOfKind_48 ?_
    refine g_zret C E dX11_isOfKind_51 (by decide) (by decide) ?_
    subst w1
    exact ⟨rfl, rfl, rfl⟩
  · refine g_tswI 52 C dX11_isOfKind_1 (by first | assumption | (unfold iR; omega)) (by omega) (by omega) (by rw [w1]; rfl) (by decide) ?_
    refine s_n0_aload C dX11_isOfKind_52 ?_
    refine g_instS C rfl wd_582 ha dX11_isOfKind_53 ?_
    refine g_zret C E dX11_isOfKind_56 (by decide) (by decide) ?_
    subst w1
    exact ⟨rfl, rfl, rfl⟩
  · refine g_tswI 57 C dX11_isOfKind_1 (by first | assumption | (unfold iR; omega)) (by omega) (by omega) (by rw [w1]; rfl) (by decide) ?_
    refine s_n0_aload C dX11_isOfKind_57 ?_
    refine g_instNo C rfl wd_583 (by decide) ha dX11_isOfKind_58 ?_
    refine g_zret C E dX11_isOfKind_61 (by decide) (by decide) ?_
    subst w1
    exact ⟨rfl, rfl, rfl⟩
  · refine g_tswI 62 C dX11_isOfKind_1 (by first | assumption | (unfold iR; omega)) (by omega) (by omega) (by rw [w1]; rfl) (by decide) ?_
    refine s_n0_aload C dX11_isOfKind_62 ?_
    refine g_instNo C rfl wd_584 (by decide) ha dX11_isOfKind_63 ?_
    refine g_zret C E dX11_isOfKind_66 (by decide) (by decide) ?_
    subst w1
    exact ⟨rfl, rfl, rfl⟩
  · refine g_tswO 67 C dX11_isOfKind_1 (by first | assumption | (unfold iR; omega)) w1 (by decide) ?_
    refine g_iconst C dX11_isOfKind_67 ?_
    refine g_zret C E dX11_isOfKind_68 (by decide) (by decide) ?_
    exfalso
    omega
set_option maxRecDepth 20000 in
theorem ct_X11_isOfKind_4 {a k : Int} {fs : List gV} {M : gM} {n : Int} (ha : M a = some (gO 4 fs)) (hk : 0 ≤ k ∧ k ≤ 5) : CT yX11_isOfKind cX11_isOfKind 2 (some .boolean) (rmk 0 0 0) [vr a, vi k] M n (qr (some (vi (ofK 4 k))) M n) := by
  refine CT.of (by decide) (fun _ => Nat.le_of_ble_eq_true rfl) (fun κ C E => ?_)
  show G κ M n [some (vr a), some (vi k)] 0 [] 0 0
  refine s_n1_iload C dX11_isOfKind_0 ?_
  rcases (show k = 0 ∨ k = 1 ∨ k = 2 ∨ k = 3 ∨ k = 4 ∨ k = 5 ∨ (k < 0 ∨ 5 < k) by omega) with w1 | w1 | w1 | w1 | w1 | w1 | w1
  · refine g_tswI 40 C dX11_isOfKind_1 (by first | assumption | (unfold iR; omega)) (by omega) (by omega) (by rw [w1]; rfl) (by decide) ?_
    refine g_iconst C dX11_isOfKind_40 ?_
    refine g_zret C E dX11_isOfKind_41 (by decide) (by decide) ?_
    subst w1
    exact ⟨rfl, rfl, rfl⟩
  · refine g_tswI 42 C dX11_isOfKind_1 (by first | assumption | (unfold iR; omega)) (by omega) (by omega) (by rw [w1]; rfl) (by decide) ?_
    refine s_n0_aload C dX11_isOfKind_42 ?_
    refine g_instS C rfl wd_580 ha dX11_isOfKind_43 ?_
    refine g_zret C E dX11_isOfKind_46 (by decide) (by decide) ?_
    subst w1
    exact ⟨rfl, rfl, rfl⟩
  · refine g_tswI 47 C dX11_isOfKind_1 (by first | assumption | (unfold iR; omega)) (by omega) (by omega) (by rw [w1]; rfl) (by decide) ?_
    refine s_n0_aload C dX11_isOfKind_47 ?_
    refine g_instNo C rfl wd_581 (by decide) ha dX11_isOfKind_48 ?_
    refine g_zret C E dX11_isOfKind_51 (by decide) (by decide) ?_
    subst w1
    exact ⟨rfl, rfl, rfl⟩
  · refine g_tswI 52 C dX11_isOfKind_1 (by first | assumption | (unfold iR; omega)) (by omega) (by omega) (by rw [w1]; rfl) (by decide) ?_
    refine s_n0_aload C dX11_isOfKind_52 ?_
    refine g_instNo C rfl wd_582 (by decide) ha dX11_isOfKind_53 ?_
    refine g_zret C E dX11_isOfKind_56 (by decide) (by decide) ?_
    subst w1
    exact ⟨rfl, rfl, rfl⟩
  · refine g_tswI 57 C dX11_isOfKind_1 (by first | assumption | (unfold iR; omega)) (by omega) (by omega) (by rw [w1]; rfl) (by decide) ?_
    refine s_n0_aload C dX11_isOfKind_57 ?_
    refine g_instNo C rfl wd_583 (by decide) ha dX11_isOfKind_58 ?_
    refine g_zret C E dX11_isOfKind_61 (by decide) (by decide) ?_
    subst w1
    exact ⟨rfl, rfl, rfl⟩
  · refine g_tswI 62 C dX11_isOfKind_1 (by first | assumption | (unfold iR; omega)) (by omega) (by omega) (by rw [w1]; rfl) (by decide) ?_
    refine s_n0_aload C dX11_isOfKind_62 ?_
    refine g_instNo C rfl wd_584 (by decide) ha dX11_isOfKind_63 ?_
    refine g_zret C E dX11_isOfKind_66 (by decide) (by decide) ?_
    subst w1
    exact ⟨rfl, rfl, rfl⟩
  · refine g_tswO 67 C dX11_isOfKind_1 (by first | assumption | (unfold iR; omega)) w1 (by decide) ?_
    refine g_iconst C dX11_isOfKind_67 ?_
    refine g_zret C E dX11_isOfKind_68 (by decide) (by decide) ?_
    exfalso
    omega
set_option maxRecDepth 20000 in
theorem ct_X11_isOfKind_5 {a k : Int} {fs : List gV} {M : gM} {n : Int} (ha : M a = some (gO 5 fs)) (hk : 0 ≤ k ∧ k ≤ 5) : CT yX11_isOfKind cX11_isOfKind 2 (some .boolean) (rmk 0 0 0) [vr a, vi k] M n (qr (some (vi (ofK 5 k))) M n) := by
  refine CT.of (by decide) (fun _ => Nat.le_of_ble_eq_true rfl) (fun κ C E => ?_)
  show G κ M n [some (vr a), some (vi k)] 0 [] 0 0
  refine s_n1_iload C dX11_isOfKind_0 ?_
  rcases (show k = 0 ∨ k = 1 ∨ k = 2 ∨ k = 3 ∨ k = 4 ∨ k = 5 ∨ (k < 0 ∨ 5 < k) by omega) with w1 | w1 | w1 | w1 | w1 | w1 | w1
  · refine g_tswI 40 C dX11_isOfKind_1 (by first | assumption | (unfold iR; omega)) (by omega) (by omega) (by rw [w1]; rfl) (by decide) ?_
    refine g_iconst C dX11_isOfKind_40 ?_
    refine g_zret C E dX11_isOfKind_41 (by decide) (by decide) ?_
    subst w1
    exact ⟨rfl, rfl, rfl⟩
  · refine g_tswI 42 C dX11_isOfKind_1 (by first | assumption | (unfold iR; omega)) (by omega) (by omega) (by rw [w1]; rfl) (by decide) ?_
    refine s_n0_aload C dX11_isOfKind_42 ?_
    refine g_instY C rfl wd_580 nb_1163 ha dX11_isOfKind_43 ?_
    refine g_zret C E dX11_isOfKind_46 (by decide) (by decide) ?_
    subst w1
    exact ⟨rfl, rfl, rfl⟩
  · refine g_tswI 47 C dX11_isOfKind_1 (by first | assumption | (unfold iR; omega)) (by omega) (by omega) (by rw [w1]; rfl) (by decide) ?_
    refine s_n0_aload C dX11_isOfKind_47 ?_
    refine g_instS C rfl wd_581 ha dX11_isOfKind_48 ?_
    refine g_zret C E dX11_isOfKind_51 (by decide) (by decide) ?_
    subst w1
    exact ⟨rfl, rfl, rfl⟩
  · refine g_tswI 52 C dX11_isOfKind_1 (by first | assumption | (unfold iR; omega)) (by omega) (by omega) (by rw [w1]; rfl) (by decide) ?_
    refine s_n0_aload C dX11_isOfKind_52 ?_
    refine g_instNo C rfl wd_582 (by decide) ha dX11_isOfKind_53 ?_
    refine g_zret C E dX11_isOfKind_56 (by decide) (by decide) ?_
    subst w1
    exact ⟨rfl, rfl, rfl⟩
  · refine g_tswI 57 C dX11_isOfKind_1 (by first | assumption | (unfold iR; omega)) (by omega) (by omega) (by rw [w1]; rfl) (by decide) ?_
    refine s_n0_aload C dX11_isOfKind_57 ?_
    refine g_instNo C rfl wd_583 (by decide) ha dX11_isOfKind_58 ?_
    refine g_zret C E dX11_isOfKind_61 (by decide) (by decide) ?_
    subst w1
    exact ⟨rfl, rfl, rfl⟩
  · refine g_tswI 62 C dX11_isOfKind_1 (by first | assumption | (unfold iR; omega)) (by omega) (by omega) (by rw [w1]; rfl) (by decide) ?_
    refine s_n0_aload C dX11_isOfKind_62 ?_
    refine g_instNo C rfl wd_584 (by decide) ha dX11_isOfKind_63 ?_
    refine g_zret C E dX11_isOfKind_66 (by decide) (by decide) ?_
    subst w1
    exact ⟨rfl, rfl, rfl⟩
  · refine g_tswO 67 C dX11_isOfKind_1 (by first | assumption | (unfold iR; omega)) w1 (by decide) ?_
    refine g_iconst C dX11_isOfKind_67 ?_
    refine g_zret C E dX11_isOfKind_68 (by decide) (by decide) ?_
    exfalso
    omega
set_option maxRecDepth 20000 in
theorem ct_X11_isOfKind_6 {a k : Int} {fs : List gV} {M : gM} {n : Int} (ha : M a = some (gO 6 fs)) (hk : 0 ≤ k ∧ k ≤ 5) : CT yX11_isOfKind cX11_isOfKind 2 (some .boolean) (rmk 0 0 0) [vr a, vi k] M n (qr (some (vi (ofK 6 k))) M n) := by
  refine CT.of (by decide) (fun _ => Nat.le_of_ble_eq_true rfl) (fun κ C E => ?_)
  show G κ M n [some (vr a), some (vi k)] 0 [] 0 0
  refine s_n1_iload C dX11_isOfKind_0 ?_
  rcases (show k = 0 ∨ k = 1 ∨ k = 2 ∨ k = 3 ∨ k = 4 ∨ k = 5 ∨ (k < 0 ∨ 5 < k) by omega) with w1 | w1 | w1 | w1 | w1 | w1 | w1
  · refine g_tswI 40 C dX11_isOfKind_1 (by first | assumption | (unfold iR; omega)) (by omega) (by omega) (by rw [w1]; rfl) (by decide) ?_
    refine g_iconst C dX11_isOfKind_40 ?_
    refine g_zret C E dX11_isOfKind_41 (by decide) (by decide) ?_
    subst w1
    exact ⟨rfl, rfl, rfl⟩
  · refine g_tswI 42 C dX11_isOfKind_1 (by first | assumption | (unfold iR; omega)) (by omega) (by omega) (by rw [w1]; rfl) (by decide) ?_
    refine s_n0_aload C dX11_isOfKind_42 ?_
    refine g_instNo C rfl wd_580 (by decide) ha dX11_isOfKind_43 ?_
    refine g_zret C E dX11_isOfKind_46 (by decide) (by decide) ?_
    subst w1
    exact ⟨rfl, rfl, rfl⟩
  · refine g_tswI 47 C dX11_isOfKind_1 (by first | assumption | (unfold iR; omega)) (by omega) (by omega) (by rw [w1]; rfl) (by decide) ?_
    refine s_n0_aload C dX11_isOfKind_47 ?_
    refine g_instNo C rfl wd_581 (by decide) ha dX11_isOfKind_48 ?_
    refine g_zret C E dX11_isOfKind_51 (by decide) (by decide) ?_
    subst w1
    exact ⟨rfl, rfl, rfl⟩
  · refine g_tswI 52 C dX11_isOfKind_1 (by first | assumption | (unfold iR; omega)) (by omega) (by omega) (by rw [w1]; rfl) (by decide) ?_
    refine s_n0_aload C dX11_isOfKind_52 ?_
    refine g_instNo C rfl wd_582 (by decide) ha dX11_isOfKind_53 ?_
    refine g_zret C E dX11_isOfKind_56 (by decide) (by decide) ?_
    subst w1
    exact ⟨rfl, rfl, rfl⟩
  · refine g_tswI 57 C dX11_isOfKind_1 (by first | assumption | (unfold iR; omega)) (by omega) (by omega) (by rw [w1]; rfl) (by decide) ?_
    refine s_n0_aload C dX11_isOfKind_57 ?_
    refine g_instY C rfl wd_583 nb_1164 ha dX11_isOfKind_58 ?_
    refine g_zret C E dX11_isOfKind_61 (by decide) (by decide) ?_
    subst w1
    exact ⟨rfl, rfl, rfl⟩
  · refine g_tswI 62 C dX11_isOfKind_1 (by first | assumption | (unfold iR; omega)) (by omega) (by omega) (by rw [w1]; rfl) (by decide) ?_
    refine s_n0_aload C dX11_isOfKind_62 ?_
    refine g_instS C rfl wd_584 ha dX11_isOfKind_63 ?_
    refine g_zret C E dX11_isOfKind_66 (by decide) (by decide) ?_
    subst w1
    exact ⟨rfl, rfl, rfl⟩
  · refine g_tswO 67 C dX11_isOfKind_1 (by first | assumption | (unfold iR; omega)) w1 (by decide) ?_
    refine g_iconst C dX11_isOfKind_67 ?_
    refine g_zret C E dX11_isOfKind_68 (by decide) (by decide) ?_
    exfalso
    omega
def xAs (X : XT) (a k : Int) : Int × XT := if ¬ (0 ≤ a ∧ a < (xP X).1) then (-1000001, X) else if ¬ (0 ≤ k ∧ k ≤ 5) then (-1000001, X) else if ofK ((xP X).2.1 a) k = 0 then (-1000013, xS X 4 3) else (a, xS X 4 0)
theorem ofK_b (ci : Nat) (k : Int) : ofK ci k = 0 ∨ ofK ci k = 1 := by
  unfold ofK
  (repeat' split) <;> simp
set_option maxRecDepth 20000 in
theorem ct_X11_as {X : XT} {ℓ : Int → Int} {F : gM} {n : Int} {M : gM} (hX : XL X ℓ F n M) (hO : xOK X) {a k : Int} (ha : iR a) (hk : iR k) : CT yX11_as cX11_as 4 (some .int) (rmk 4 0 0) [vr 0, vi a, vi k] M n (xPost (xAs X a k) F n) := by
  refine CT.of (by decide) (fun _ => Nat.le_of_ble_eq_true rfl) (fun κ C E => ?_)
  show G κ M n [some (vr 0), some (vi a), some (vi k), none] 0 [] 0 0
  have hc := hO.c
  refine s_n0_aload C dX11_as_0 ?_
  refine s_n1_iload C dX11_as_1 ?_
  refine g_invV C (ct_X11_passOf hX hO (by assumption)) hX.o cv_X11_173_11 (rmk_ok (by decide) (by decide) (by decide) (by decide)) (Nat.le_of_ble_eq_true rfl) rfl dX11_as_2 rfl (fun r M9 n9 hq => ?_)
  obtain ⟨hm9, hn9, hq⟩ := hq
  rw [hm9, hn9]
  show G κ _ _ _ _ _ 0 0
  rcases hq with ⟨p1, p2, pa, wy, hr9, p3, p4, hki, hwa, hpa⟩ | ⟨p1, hr9⟩
  · subst hr9
    refine s_n3_astore C dX11_as_5 rfl ?_
    refine s_n3_aload C dX11_as_6 ?_
    refine g_ifnull C dX11_as_7 ?_
    refine s_n2_iload C dX11_as_10 ?_
    refine g_iconst C dX11_as_11 ?_
    refine g_iconst C dX11_as_12 ?_
    refine g_invS C (ct_X11_isWithin (by first | assumption | (unfold iR; omega)) (by first | assumption | (unfold iR; omega)) (by first | assumption | (unfold iR; omega))) cs_X11_70 (rmk_ok (by decide) (by decide) (by decide) (by decide)) (Nat.le_of_ble_eq_true rfl) rfl dX11_as_13 rfl (q_r0 ?_)
    refine g_bifne 22 C dX11_as_16 (by decide)  (fun c16 => ?_) (fun c16 => ?_)
    · refine s_n3_aload C dX11_as_22 ?_
      refine s_n2_iload C dX11_as_23 ?_
      rcases hki with ki | ki | ki | ki | ki
      · have hb := ofK_b 1 k
        rw [ki] at hpa
        refine g_invS C (ct_X11_isOfKind_1 hpa.1 c16) cs_X11_292 (rmk_ok (by decide) (by decide) (by decide) (by decide)) (Nat.le_of_ble_eq_true rfl) rfl dX11_as_24 rfl (q_r0 ?_)
        refine g_if_eq 38 C dX11_as_27 (by decide) (by first | assumption | (unfold iR; omega)) (fun c27 => ?_) (fun c27 => ?_)
        · refine s_n0_aload C dX11_as_38 ?_
          refine g_iconst C dX11_as_39 ?_
          refine g_invV C (ct_X11_found hX) hX.o cv_X11_75_11 (rmk_ok (by decide) (by decide) (by decide) (by decide)) (Nat.le_of_ble_eq_true rfl) rfl dX11_as_40 rfl (q_r0 ?_)
          have hX := hX.uo (sc := fu X.1 4 3) ⟨rfl, rfl, rfl⟩
          refine g_iret C E dX11_as_43 (by decide) ?_
          unfold xAs
          rw [if_neg (not_not_intro ⟨p1, p2⟩), if_neg (not_not_intro c16), ki, if_pos c27]
          exact ⟨rfl, rfl, _, hX⟩
        · refine s_n0_aload C dX11_as_30 ?_
          refine s_n1_iload C dX11_as_31 ?_
          refine g_invV C (ct_X11_unfound hX) hX.o cv_X11_83_11 (rmk_ok (by decide) (by decide) (by decide) (by decide)) (Nat.le_of_ble_eq_true rfl) rfl dX11_as_32 rfl (q_r0 ?_)
          have hX := hX.uo (sc := fu X.1 4 0) ⟨rfl, rfl, rfl⟩
          refine g_goto 43 C dX11_as_35 (by decide) ?_
          refine g_iret C E dX11_as_43 (by decide) ?_
          unfold xAs
          rw [if_neg (not_not_intro ⟨p1, p2⟩), if_neg (not_not_intro c16), ki, if_neg c27]
          exact ⟨rfl, rfl, _, hX⟩
      · have hb := ofK_b 2 k
        rw [ki] at hpa
        refine g_invS C (ct_X11_isOfKind_2 hpa.1 c16) cs_X11_292 (rmk_ok (by decide) (by decide) (by decide) (by decide)) (Nat.le_of_ble_eq_true rfl) rfl dX11_as_24 rfl (q_r0 ?_)
        refine g_if_eq 38 C dX11_as_27 (by decide) (by first | assumption | (unfold iR; omega)) (fun c27 => ?_) (fun c27 => ?_)
        · refine s_n0_aload C dX11_as_38 ?_
          refine g_iconst C dX11_as_39 ?_
          refine g_invV C (ct_X11_found hX) hX.o cv_X11_75_11 (rmk_ok (by decide) (by decide) (by decide) (by decide)) (Nat.le_of_ble_eq_true rfl) rfl dX11_as_40 rfl (q_r0 ?_)
          have hX := hX.uo (sc := fu X.1 4 3) ⟨rfl, rfl, rfl⟩
          refine g_iret C E dX11_as_43 (by decide) ?_
          unfold xAs
          rw [if_neg (not_not_intro ⟨p1, p2⟩), if_neg (not_not_intro c16), ki, if_pos c27]
          exact ⟨rfl, rfl, _, hX⟩
        · refine s_n0_aload C dX11_as_30 ?_
          refine s_n1_iload C dX11_as_31 ?_
          refine g_invV C (ct_X11_unfound hX) hX.o cv_X11_83_11 (rmk_ok (by decide) (by decide) (by decide) (by decide)) (Nat.le_of_ble_eq_true rfl) rfl dX11_as_32 rfl (q_r0 ?_)
          have hX := hX.uo (sc := fu X.1 4 0) ⟨rfl, rfl, rfl⟩
          refine g_goto 43 C dX11_as_35 (by decide) ?_
          refine g_iret C E dX11_as_43 (by decide) ?_
          unfold xAs
          rw [if_neg (not_not_intro ⟨p1, p2⟩), if_neg (not_not_intro c16), ki, if_neg c27]
          exact ⟨rfl, rfl, _, hX⟩
      · have hb := ofK_b 4 k
        rw [ki] at hpa
        refine g_invS C (ct_X11_isOfKind_4 hpa.1 c16) cs_X11_292 (rmk_ok (by decide) (by decide) (by decide) (by decide)) (Nat.le_of_ble_eq_true rfl) rfl dX11_as_24 rfl (q_r0 ?_)
        refine g_if_eq 38 C dX11_as_27 (by decide) (by first | assumption | (unfold iR; omega)) (fun c27 => ?_) (fun c27 => ?_)
        · refine s_n0_aload C dX11_as_38 ?_
          refine g_iconst C dX11_as_39 ?_
          refine g_invV C (ct_X11_found hX) hX.o cv_X11_75_11 (rmk_ok (by decide) (by decide) (by decide) (by decide)) (Nat.le_of_ble_eq_true rfl) rfl dX11_as_40 rfl (q_r0 ?_)
          have hX := hX.uo (sc := fu X.1 4 3) ⟨rfl, rfl, rfl⟩
          refine g_iret C E dX11_as_43 (by decide) ?_
          unfold xAs
          rw [if_neg (not_not_intro ⟨p1, p2⟩), if_neg (not_not_intro c16), ki, if_pos c27]
          exact ⟨rfl, rfl, _, hX⟩
        · refine s_n0_aload C dX11_as_30 ?_
          refine s_n1_iload C dX11_as_31 ?_
          refine g_invV C (ct_X11_unfound hX) hX.o cv_X11_83_11 (rmk_ok (by decide) (by decide) (by decide) (by decide)) (Nat.le_of_ble_eq_true rfl) rfl dX11_as_32 rfl (q_r0 ?_)
          have hX := hX.uo (sc := fu X.1 4 0) ⟨rfl, rfl, rfl⟩
          refine g_goto 43 C dX11_as_35 (by decide) ?_
          refine g_iret C E dX11_as_43 (by decide) ?_
          unfold xAs
          rw [if_neg (not_not_intro ⟨p1, p2⟩), if_neg (not_not_intro c16), ki, if_neg c27]
          exact ⟨rfl, rfl, _, hX⟩
      · have hb := ofK_b 5 k
        rw [ki] at hpa
        refine g_invS C (ct_X11_isOfKind_5 hpa.1 c16) cs_X11_292 (rmk_ok (by decide) (by decide) (by decide) (by decide)) (Nat.le_of_ble_eq_true rfl) rfl dX11_as_24 rfl (q_r0 ?_)
        refine g_if_eq 38 C dX11_as_27 (by decide) (by first | assumption | (unfold iR; omega)) (fun c27 => ?_) (fun c27 => ?_)
        · refine s_n0_aload C dX11_as_38 ?_
          refine g_iconst C dX11_as_39 ?_
          refine g_invV C (ct_X11_found hX) hX.o cv_X11_75_11 (rmk_ok (by decide) (by decide) (by decide) (by decide)) (Nat.le_of_ble_eq_true rfl) rfl dX11_as_40 rfl (q_r0 ?_)
          have hX := hX.uo (sc := fu X.1 4 3) ⟨rfl, rfl, rfl⟩
          refine g_iret C E dX11_as_43 (by decide) ?_
          unfold xAs
          rw [if_neg (not_not_intro ⟨p1, p2⟩), if_neg (not_not_intro c16), ki, if_pos c27]
          exact ⟨rfl, rfl, _, hX⟩
        · refine s_n0_aload C dX11_as_30 ?_
          refine s_n1_iload C dX11_as_31 ?_
          refine g_invV C (ct_X11_unfound hX) hX.o cv_X11_83_11 (rmk_ok (by decide) (by decide) (by decide) (by decide)) (Nat.le_of_ble_eq_true rfl) rfl dX11_as_32 rfl (q_r0 ?_)
          have hX := hX.uo (sc := fu X.1 4 0) ⟨rfl, rfl, rfl⟩
          refine g_goto 43 C dX11_as_35 (by decide) ?_
          refine g_iret C E dX11_as_43 (by decide) ?_
          unfold xAs
          rw [if_neg (not_not_intro ⟨p1, p2⟩), if_neg (not_not_intro c16), ki, if_neg c27]
          exact ⟨rfl, rfl, _, hX⟩
      · have hb := ofK_b 6 k
        rw [ki] at hpa
        refine g_invS C (ct_X11_isOfKind_6 hpa.1 c16) cs_X11_292 (rmk_ok (by decide) (by decide) (by decide) (by decide)) (Nat.le_of_ble_eq_true rfl) rfl dX11_as_24 rfl (q_r0 ?_)
        refine g_if_eq 38 C dX11_as_27 (by decide) (by first | assumption | (unfold iR; omega)) (fun c27 => ?_) (fun c27 => ?_)
        · refine s_n0_aload C dX11_as_38 ?_
          refine g_iconst C dX11_as_39 ?_
          refine g_invV C (ct_X11_found hX) hX.o cv_X11_75_11 (rmk_ok (by decide) (by decide) (by decide) (by decide)) (Nat.le_of_ble_eq_true rfl) rfl dX11_as_40 rfl (q_r0 ?_)
          have hX := hX.uo (sc := fu X.1 4 3) ⟨rfl, rfl, rfl⟩
          refine g_iret C E dX11_as_43 (by decide) ?_
          unfold xAs
          rw [if_neg (not_not_intro ⟨p1, p2⟩), if_neg (not_not_intro c16), ki, if_pos c27]
          exact ⟨rfl, rfl, _, hX⟩
        · refine s_n0_aload C dX11_as_30 ?_
          refine s_n1_iload C dX11_as_31 ?_
          refine g_invV C (ct_X11_unfound hX) hX.o cv_X11_83_11 (rmk_ok (by decide) (by decide) (by decide) (by decide)) (Nat.le_of_ble_eq_true rfl) rfl dX11_as_32 rfl (q_r0 ?_)
          have hX := hX.uo (sc := fu X.1 4 0) ⟨rfl, rfl, rfl⟩
          refine g_goto 43 C dX11_as_35 (by decide) ?_
          refine g_iret C E dX11_as_43 (by decide) ?_
          unfold xAs
          rw [if_neg (not_not_intro ⟨p1, p2⟩), if_neg (not_not_intro c16), ki, if_neg c27]
          exact ⟨rfl, rfl, _, hX⟩
    · refine g_ldc (-1000001) C wd_364 dX11_as_19 ?_
      refine g_iret C E dX11_as_21 (by decide) ?_
      unfold xAs
      rw [if_neg (not_not_intro ⟨p1, p2⟩), if_pos c16]
      exact ⟨rfl, rfl, _, hX⟩
  · subst hr9
    refine s_n3_astore C dX11_as_5 rfl ?_
    refine s_n3_aload C dX11_as_6 ?_
    refine g_ifnullN 19 C dX11_as_7 (by decide) ?_
    refine g_ldc (-1000001) C wd_364 dX11_as_19 ?_
    refine g_iret C E dX11_as_21 (by decide) ?_
    unfold xAs
    rw [if_pos p1]
    exact ⟨rfl, rfl, _, hX⟩
def xTr (X : XT) (T : TLT) : XT := (X.1, X.2.1, X.2.2.1, X.2.2.2.1, T, X.2.2.2.2.2)
def xAsk (X : XT) (a b : Int) : Int × XT := if ¬ (0 ≤ a ∧ a < (xP X).1) then (-1000001, X) else if ¬ (0 ≤ b ∧ b ≤ 1) then (-1000001, X) else if b = 0 then ((aSize ((xP X).2.1 a) a (xC X).2.2.2.1 ((xP X).2.2.1 a) (X.2.2.2.2.1.1, 0)).1, xTr X (aSize ((xP X).2.1 a) a (xC X).2.2.2.1 ((xP X).2.2.1 a) (X.2.2.2.2.1.1, 0)).2) else ((aMark ((xP X).2.1 a) a (xC X).2.2.2.1 ((xP X).2.2.1 a) (X.2.2.2.2.1.1, 0)).1, xTr X (aMark ((xP X).2.1 a) a (xC X).2.2.2.1 ((xP X).2.2.1 a) (X.2.2.2.2.1.1, 0)).2)
theorem TLg_len {o : Int} {T : TLT} {M : gM} (h : TLi o T M) (x : Int) : gu M o (gO 10 ([vr (o + 1), vi T.2].set 1 (vi x))) = TL o (T.1, x) M := by
  have h2 := TL_self h
  obtain ⟨t, k⟩ := T
  have e := TL_p1 o t k M x
  rw [h2] at e
  exact e
theorem aSize_1 (num wet len : Int) (T : TLT) : aSize 1 num wet len T = aS13 len T := rfl
theorem aMark_1 (num wet len : Int) (T : TLT) : aMark 1 num wet len T = aM23 1 num len T := rfl
theorem aSize_2 (num wet len : Int) (T : TLT) : aSize 2 num wet len T = aS11 2 num wet len T := rfl
theorem aMark_2 (num wet len : Int) (T : TLT) : aMark 2 num wet len T = aM22 num wet T := rfl
theorem aSize_4 (num wet len : Int) (T : TLT) : aSize 4 num wet len T = aS11 4 num wet len T := rfl
theorem aMark_4 (num wet len : Int) (T : TLT) : aMark 4 num wet len T = aM21 num wet T := rfl
theorem aSize_5 (num wet len : Int) (T : TLT) : aSize 5 num wet len T = aS12 num wet len T := rfl
theorem aMark_5 (num wet len : Int) (T : TLT) : aMark 5 num wet len T = aM24 num wet T := rfl
theorem aSize_6 (num wet len : Int) (T : TLT) : aSize 6 num wet len T = aS14 len T := rfl
theorem aMark_6 (num wet len : Int) (T : TLT) : aMark 6 num wet len T = aM23 6 num len T := rfl
set_option maxRecDepth 20000 in
theorem ct_X11_ask {X : XT} {ℓ : Int → Int} {F : gM} {n : Int} {M : gM} (hX : XL X ℓ F n M) (hO : xOK X) {a b : Int} (ha : iR a) (hb : iR b) : CT yX11_ask cX11_ask 5 (some .int) (rmk 6 0 0) [vr 0, vi a, vi b] M n (xPost (xAsk X a b) F n) := by
  refine CT.of (by decide) (fun _ => Nat.le_of_ble_eq_true rfl) (fun κ C E => ?_)
  show G κ M n [some (vr 0), some (vi a), some (vi b), none, none] 0 [] 0 0
  have hc := hO.c
  refine s_n0_aload C dX11_ask_0 ?_
  refine s_n1_iload C dX11_ask_1 ?_
  refine g_invV C (ct_X11_passOf hX hO (by assumption)) hX.o cv_X11_173_11 (rmk_ok (by decide) (by decide) (by decide) (by decide)) (Nat.le_of_ble_eq_true rfl) rfl dX11_ask_2 rfl (fun r M9 n9 hq => ?_)
  obtain ⟨hm9, hn9, hq⟩ := hq
  rw [hm9, hn9]
  show G κ _ _ _ _ _ 0 0
  rcases hq with ⟨p1, p2, pa, wy, hr9, p3, p4, hki, hwa, hpa⟩ | ⟨p1, hr9⟩
  · subst hr9
    have w1 := hwa.1
    refine s_n3_astore C dX11_ask_5 rfl ?_
    refine s_n3_aload C dX11_ask_6 ?_
    refine g_ifnull C dX11_ask_7 ?_
    refine s_n2_iload C dX11_ask_10 ?_
    refine g_iconst C dX11_ask_11 ?_
    refine g_iconst C dX11_ask_12 ?_
    refine g_invS C (ct_X11_isWithin (by first | assumption | (unfold iR; omega)) (by first | assumption | (unfold iR; omega)) (by first | assumption | (unfold iR; omega))) cs_X11_70 (rmk_ok (by decide) (by decide) (by decide) (by decide)) (Nat.le_of_ble_eq_true rfl) rfl dX11_ask_13 rfl (q_r0 ?_)
    refine g_bifne 22 C dX11_ask_16 (by decide)  (fun c16 => ?_) (fun c16 => ?_)
    · refine s_n0_aload C dX11_ask_22 ?_
      refine g_get C fd_X11_46_11 dX11_ask_23 hX.o rfl ?_
      refine g_iconst C dX11_ask_26 ?_
      refine g_putN C fp_X11_295_10 dX11_ask_27 hX.tr.1 (Nat.le_of_ble_eq_true rfl) (gfit_i _) ?_
      rw [TLg_len hX.tr]
      have hX := hX.ux (X.2.2.2.2.1.1, 0)
      have hpa : paI (TL 12 (X.2.2.2.2.1.1, 0) M) pa ((xP X).2.1 a) a wy ((xP X).2.2.1 a) ((xP X).2.2.2 a) := ⟨(TL_out _ _ (by omega)).trans hpa.1, (TL_out _ _ (by omega)).trans hpa.2⟩
      refine s_n0_aload C dX11_ask_30 ?_
      refine g_get C fd_X11_58_11 dX11_ask_31 hX.o rfl ?_
      refine g_getN C fd_X11_157_8 dX11_ask_34 (hX.cur hO.c) rfl ?_
      refine g_getN C fd_X11_170_7 dX11_ask_37 (hX.csf hO.c).1 rfl ?_
      refine s_w4_istore C dX11_ask_40 rfl ?_
      refine s_n2_iload C dX11_ask_42 ?_
      refine g_if_ne 59 C dX11_ask_43 (by decide) (by first | assumption | (unfold iR; omega)) (fun c43 => ?_) (fun c43 => ?_)
      · refine s_n3_aload C dX11_ask_59 ?_
        refine s_w4_iload C dX11_ask_60 ?_
        refine s_n0_aload C dX11_ask_62 ?_
        refine g_get C fd_X11_46_11 dX11_ask_63 hX.o rfl ?_
        rcases hki with ki | ki | ki | ki | ki
        · rw [ki] at hpa
          refine g_invU C ((ct_X0_mark_1 (o := 12) (T := (X.2.2.2.2.1.1, 0)) (wet := (xC X).2.2.2.1) ⟨by show (0 : Int) ≤ 0; decide, by show (0 : Int) ≤ 16; decide⟩ (by omega) hpa ⟨Or.inr (by omega), Or.inr (by omega)⟩).conv (TL_self hX.tr) rfl) hpa.1 cu_X11_299_1 (rmk_ok (by decide) (by decide) (by decide) (by decide)) (Nat.le_of_ble_eq_true rfl) rfl dX11_ask_66 rfl (q_r0 ?_)
          have hX := hX.ux (aM23 1 a ((xP X).2.2.1 a) (X.2.2.2.2.1.1, 0)).2
          refine g_iret C E dX11_ask_69 (by decide) ?_
          unfold xAsk
          rw [if_neg (not_not_intro ⟨p1, p2⟩), if_neg (not_not_intro c16), if_neg c43, ki, aMark_1]
          exact ⟨rfl, rfl, _, hX⟩
        · rw [ki] at hpa
          refine g_invU C ((ct_X1_mark_2 (o := 12) (T := (X.2.2.2.2.1.1, 0)) (wet := (xC X).2.2.2.1) ⟨by show (0 : Int) ≤ 0; decide, by show (0 : Int) ≤ 16; decide⟩ (by omega) hpa ⟨Or.inr (by omega), Or.inr (by omega)⟩).conv (TL_self hX.tr) rfl) hpa.1 cu_X11_299_2 (rmk_ok (by decide) (by decide) (by decide) (by decide)) (Nat.le_of_ble_eq_true rfl) rfl dX11_ask_66 rfl (q_r0 ?_)
          have hX := hX.ux (aM22 a (xC X).2.2.2.1 (X.2.2.2.2.1.1, 0)).2
          refine g_iret C E dX11_ask_69 (by decide) ?_
          unfold xAsk
          rw [if_neg (not_not_intro ⟨p1, p2⟩), if_neg (not_not_intro c16), if_neg c43, ki, aMark_2]
          exact ⟨rfl, rfl, _, hX⟩
        · rw [ki] at hpa
          refine g_invU C ((ct_X4_mark_4 (o := 12) (T := (X.2.2.2.2.1.1, 0)) (wet := (xC X).2.2.2.1) ⟨by show (0 : Int) ≤ 0; decide, by show (0 : Int) ≤ 16; decide⟩ (by omega) hpa ⟨Or.inr (by omega), Or.inr (by omega)⟩).conv (TL_self hX.tr) rfl) hpa.1 cu_X11_299_4 (rmk_ok (by decide) (by decide) (by decide) (by decide)) (Nat.le_of_ble_eq_true rfl) rfl dX11_ask_66 rfl (q_r0 ?_)
          have hX := hX.ux (aM21 a (xC X).2.2.2.1 (X.2.2.2.2.1.1, 0)).2
          refine g_iret C E dX11_ask_69 (by decide) ?_
          unfold xAsk
          rw [if_neg (not_not_intro ⟨p1, p2⟩), if_neg (not_not_intro c16), if_neg c43, ki, aMark_4]
          exact ⟨rfl, rfl, _, hX⟩
        · rw [ki] at hpa
          refine g_invU C ((ct_X5_mark_5 (o := 12) (T := (X.2.2.2.2.1.1, 0)) (wet := (xC X).2.2.2.1) ⟨by show (0 : Int) ≤ 0; decide, by show (0 : Int) ≤ 16; decide⟩ (by omega) hpa ⟨Or.inr (by omega), Or.inr (by omega)⟩).conv (TL_self hX.tr) rfl) hpa.1 cu_X11_299_5 (rmk_ok (by decide) (by decide) (by decide) (by decide)) (Nat.le_of_ble_eq_true rfl) rfl dX11_ask_66 rfl (q_r0 ?_)
          have hX := hX.ux (aM24 a (xC X).2.2.2.1 (X.2.2.2.2.1.1, 0)).2
          refine g_iret C E dX11_ask_69 (by decide) ?_
          unfold xAsk
          rw [if_neg (not_not_intro ⟨p1, p2⟩), if_neg (not_not_intro c16), if_neg c43, ki, aMark_5]
          exact ⟨rfl, rfl, _, hX⟩
        · rw [ki] at hpa
          refine g_invU C ((ct_X0_mark_6 (o := 12) (T := (X.2.2.2.2.1.1, 0)) (wet := (xC X).2.2.2.1) ⟨by show (0 : Int) ≤ 0; decide, by show (0 : Int) ≤ 16; decide⟩ (by omega) hpa ⟨Or.inr (by omega), Or.inr (by omega)⟩).conv (TL_self hX.tr) rfl) hpa.1 cu_X11_299_6 (rmk_ok (by decide) (by decide) (by decide) (by decide)) (Nat.le_of_ble_eq_true rfl) rfl dX11_ask_66 rfl (q_r0 ?_)
          have hX := hX.ux (aM23 6 a ((xP X).2.2.1 a) (X.2.2.2.2.1.1, 0)).2
          refine g_iret C E dX11_ask_69 (by decide) ?_
          unfold xAsk
          rw [if_neg (not_not_intro ⟨p1, p2⟩), if_neg (not_not_intro c16), if_neg c43, ki, aMark_6]
          exact ⟨rfl, rfl, _, hX⟩
      · refine s_n3_aload C dX11_ask_46 ?_
        refine s_w4_iload C dX11_ask_47 ?_
        refine s_n0_aload C dX11_ask_49 ?_
        refine g_get C fd_X11_46_11 dX11_ask_50 hX.o rfl ?_
        rcases hki with ki | ki | ki | ki | ki
        · rw [ki] at hpa
          refine g_invU C ((ct_X0_size_1 (o := 12) (T := (X.2.2.2.2.1.1, 0)) (wet := (xC X).2.2.2.1) ⟨by show (0 : Int) ≤ 0; decide, by show (0 : Int) ≤ 16; decide⟩ (by omega) hpa ⟨Or.inr (by omega), Or.inr (by omega)⟩).conv (TL_self hX.tr) rfl) hpa.1 cu_X11_296_1 (rmk_ok (by decide) (by decide) (by decide) (by decide)) (Nat.le_of_ble_eq_true rfl) rfl dX11_ask_53 rfl (q_r0 ?_)
          have hX := hX.ux (aS13 ((xP X).2.2.1 a) (X.2.2.2.2.1.1, 0)).2
          refine g_goto 69 C dX11_ask_56 (by decide) ?_
          refine g_iret C E dX11_ask_69 (by decide) ?_
          unfold xAsk
          rw [if_neg (not_not_intro ⟨p1, p2⟩), if_neg (not_not_intro c16), if_pos c43, ki, aSize_1]
          exact ⟨rfl, rfl, _, hX⟩
        · rw [ki] at hpa
          refine g_invU C ((ct_X4_size_2 (o := 12) (T := (X.2.2.2.2.1.1, 0)) (wet := (xC X).2.2.2.1) ⟨by show (0 : Int) ≤ 0; decide, by show (0 : Int) ≤ 16; decide⟩ (by omega) hpa ⟨Or.inr (by omega), Or.inr (by omega)⟩).conv (TL_self hX.tr) rfl) hpa.1 cu_X11_296_2 (rmk_ok (by decide) (by decide) (by decide) (by decide)) (Nat.le_of_ble_eq_true rfl) rfl dX11_ask_53 rfl (q_r0 ?_)
          have hX := hX.ux (aS11 2 a (xC X).2.2.2.1 ((xP X).2.2.1 a) (X.2.2.2.2.1.1, 0)).2
          refine g_goto 69 C dX11_ask_56 (by decide) ?_
          refine g_iret C E dX11_ask_69 (by decide) ?_
          unfold xAsk
          rw [if_neg (not_not_intro ⟨p1, p2⟩), if_neg (not_not_intro c16), if_pos c43, ki, aSize_2]
          exact ⟨rfl, rfl, _, hX⟩
        · rw [ki] at hpa
          refine g_invU C ((ct_X4_size_4 (o := 12) (T := (X.2.2.2.2.1.1, 0)) (wet := (xC X).2.2.2.1) ⟨by show (0 : Int) ≤ 0; decide, by show (0 : Int) ≤ 16; decide⟩ (by omega) hpa ⟨Or.inr (by omega), Or.inr (by omega)⟩).conv (TL_self hX.tr) rfl) hpa.1 cu_X11_296_4 (rmk_ok (by decide) (by decide) (by decide) (by decide)) (Nat.le_of_ble_eq_true rfl) rfl dX11_ask_53 rfl (q_r0 ?_)
          have hX := hX.ux (aS11 4 a (xC X).2.2.2.1 ((xP X).2.2.1 a) (X.2.2.2.2.1.1, 0)).2
          refine g_goto 69 C dX11_ask_56 (by decide) ?_
          refine g_iret C E dX11_ask_69 (by decide) ?_
          unfold xAsk
          rw [if_neg (not_not_intro ⟨p1, p2⟩), if_neg (not_not_intro c16), if_pos c43, ki, aSize_4]
          exact ⟨rfl, rfl, _, hX⟩
        · rw [ki] at hpa
          refine g_invU C ((ct_X5_size_5 (o := 12) (T := (X.2.2.2.2.1.1, 0)) (wet := (xC X).2.2.2.1) ⟨by show (0 : Int) ≤ 0; decide, by show (0 : Int) ≤ 16; decide⟩ (by omega) hpa ⟨Or.inr (by omega), Or.inr (by omega)⟩).conv (TL_self hX.tr) rfl) hpa.1 cu_X11_296_5 (rmk_ok (by decide) (by decide) (by decide) (by decide)) (Nat.le_of_ble_eq_true rfl) rfl dX11_ask_53 rfl (q_r0 ?_)
          have hX := hX.ux (aS12 a (xC X).2.2.2.1 ((xP X).2.2.1 a) (X.2.2.2.2.1.1, 0)).2
          refine g_goto 69 C dX11_ask_56 (by decide) ?_
          refine g_iret C E dX11_ask_69 (by decide) ?_
          unfold xAsk
          rw [if_neg (not_not_intro ⟨p1, p2⟩), if_neg (not_not_intro c16), if_pos c43, ki, aSize_5]
          exact ⟨rfl, rfl, _, hX⟩
        · rw [ki] at hpa
          refine g_invU C ((ct_X6_size_6 (o := 12) (T := (X.2.2.2.2.1.1, 0)) (wet := (xC X).2.2.2.1) ⟨by show (0 : Int) ≤ 0; decide, by show (0 : Int) ≤ 16; decide⟩ (by omega) hpa ⟨Or.inr (by omega), Or.inr (by omega)⟩).conv (TL_self hX.tr) rfl) hpa.1 cu_X11_296_6 (rmk_ok (by decide) (by decide) (by decide) (by decide)) (Nat.le_of_ble_eq_true rfl) rfl dX11_ask_53 rfl (q_r0 ?_)
          have hX := hX.ux (aS14 ((xP X).2.2.1 a) (X.2.2.2.2.1.1, 0)).2
          refine g_goto 69 C dX11_ask_56 (by decide) ?_
          refine g_iret C E dX11_ask_69 (by decide) ?_
          unfold xAsk
          rw [if_neg (not_not_intro ⟨p1, p2⟩), if_neg (not_not_intro c16), if_pos c43, ki, aSize_6]
          exact ⟨rfl, rfl, _, hX⟩
    · refine g_ldc (-1000001) C wd_364 dX11_ask_19 ?_
      refine g_iret C E dX11_ask_21 (by decide) ?_
      unfold xAsk
      rw [if_neg (not_not_intro ⟨p1, p2⟩), if_pos c16]
      exact ⟨rfl, rfl, _, hX⟩
  · subst hr9
    refine s_n3_astore C dX11_ask_5 rfl ?_
    refine s_n3_aload C dX11_ask_6 ?_
    refine g_ifnullN 19 C dX11_ask_7 (by decide) ?_
    refine g_ldc (-1000001) C wd_364 dX11_ask_19 ?_
    refine g_iret C E dX11_ask_21 (by decide) ?_
    unfold xAsk
    rw [if_pos p1]
    exact ⟨rfl, rfl, _, hX⟩
