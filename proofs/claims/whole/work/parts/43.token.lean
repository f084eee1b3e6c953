/-! PadPolishModel: the reader of tokens -/
def pZ (s : YT) (sc fr : Int → Int) : YT := (fu (fu (fu (fu (fu (fu (fu s.1 12 (sc 12)) 13 (sc 13)) 14 (sc 14)) 15 (sc 15)) 16 (sc 16)) 17 (sc 17)) 19 (sc 19), fu s.2 4 fr)
theorem pZ_p12 (s : YT) (sc fr : Int → Int) (M : gM) (x : Int) : gu (YO (pZ s sc fr) M) 152 (gO 12 ((yObj (pZ s sc fr).1).set 12 (vi x))) = YO (pZ s (fu sc 12 x) fr) M := by
  rw [YO_p12]
  congr 1
  unfold pZ
  congr 1
  funext j
  by_cases h12 : j = 12
  · subst h12; rfl
  by_cases h13 : j = 13
  · subst h13; rfl
  by_cases h14 : j = 14
  · subst h14; rfl
  by_cases h15 : j = 15
  · subst h15; rfl
  by_cases h16 : j = 16
  · subst h16; rfl
  by_cases h17 : j = 17
  · subst h17; rfl
  by_cases h19 : j = 19
  · subst h19; rfl
  simp only [fu, if_neg h12, if_neg h13, if_neg h14, if_neg h15, if_neg h16, if_neg h17, if_neg h19]
theorem pZ_p13 (s : YT) (sc fr : Int → Int) (M : gM) (x : Int) : gu (YO (pZ s sc fr) M) 152 (gO 12 ((yObj (pZ s sc fr).1).set 13 (vi x))) = YO (pZ s (fu sc 13 x) fr) M := by
  rw [YO_p13]
  congr 1
  unfold pZ
  congr 1
  funext j
  by_cases h12 : j = 12
  · subst h12; rfl
  by_cases h13 : j = 13
  · subst h13; rfl
  by_cases h14 : j = 14
  · subst h14; rfl
  by_cases h15 : j = 15
  · subst h15; rfl
  by_cases h16 : j = 16
  · subst h16; rfl
  by_cases h17 : j = 17
  · subst h17; rfl
  by_cases h19 : j = 19
  · subst h19; rfl
  simp only [fu, if_neg h12, if_neg h13, if_neg h14, if_neg h15, if_neg h16, if_neg h17, if_neg h19]
theorem pZ_p14 (s : YT) (sc fr : Int → Int) (M : gM) (x : Int) : gu (YO (pZ s sc fr) M) 152 (gO 12 ((yObj (pZ s sc fr).1).set 14 (vi x))) = YO (pZ s (fu sc 14 x) fr) M := by
  rw [YO_p14]
  congr 1
  unfold pZ
  congr 1
  funext j
  by_cases h12 : j = 12
  · subst h12; rfl
  by_cases h13 : j = 13
  · subst h13; rfl
  by_cases h14 : j = 14
  · subst h14; rfl
  by_cases h15 : j = 15
  · subst h15; rfl
  by_cases h16 : j = 16
  · subst h16; rfl
  by_cases h17 : j = 17
  · subst h17; rfl
  by_cases h19 : j = 19
  · subst h19; rfl
  simp only [fu, if_neg h12, if_neg h13, if_neg h14, if_neg h15, if_neg h16, if_neg h17, if_neg h19]
theorem pZ_p15 (s : YT) (sc fr : Int → Int) (M : gM) (x : Int) : gu (YO (pZ s sc fr) M) 152 (gO 12 ((yObj (pZ s sc fr).1).set 15 (vi x))) = YO (pZ s (fu sc 15 x) fr) M := by
  rw [YO_p15]
  congr 1
  unfold pZ
  congr 1
  funext j
  by_cases h12 : j = 12
  · subst h12; rfl
  by_cases h13 : j = 13
  · subst h13; rfl
  by_cases h14 : j = 14
  · subst h14; rfl
  by_cases h15 : j = 15
  · subst h15; rfl
  by_cases h16 : j = 16
  · subst h16; rfl
  by_cases h17 : j = 17
  · subst h17; rfl
  by_cases h19 : j = 19
  · subst h19; rfl
  simp only [fu, if_neg h12, if_neg h13, if_neg h14, if_neg h15, if_neg h16, if_neg h17, if_neg h19]
theorem pZ_p16 (s : YT) (sc fr : Int → Int) (M : gM) (x : Int) : gu (YO (pZ s sc fr) M) 152 (gO 12 ((yObj (pZ s sc fr).1).set 16 (vi x))) = YO (pZ s (fu sc 16 x) fr) M := by
  rw [YO_p16]
  congr 1
  unfold pZ
  congr 1
  funext j
  by_cases h12 : j = 12
  · subst h12; rfl
  by_cases h13 : j = 13
  · subst h13; rfl
  by_cases h14 : j = 14
  · subst h14; rfl
  by_cases h15 : j = 15
  · subst h15; rfl
  by_cases h16 : j = 16
  · subst h16; rfl
  by_cases h17 : j = 17
  · subst h17; rfl
  by_cases h19 : j = 19
  · subst h19; rfl
  simp only [fu, if_neg h12, if_neg h13, if_neg h14, if_neg h15, if_neg h16, if_neg h17, if_neg h19]
theorem pZ_p17 (s : YT) (sc fr : Int → Int) (M : gM) (x : Int) : gu (YO (pZ s sc fr) M) 152 (gO 12 ((yObj (pZ s sc fr).1).set 17 (vi x))) = YO (pZ s (fu sc 17 x) fr) M := by
  rw [YO_p17]
  congr 1
  unfold pZ
  congr 1
  funext j
  by_cases h12 : j = 12
  · subst h12; rfl
  by_cases h13 : j = 13
  · subst h13; rfl
  by_cases h14 : j = 14
  · subst h14; rfl
  by_cases h15 : j = 15
  · subst h15; rfl
  by_cases h16 : j = 16
  · subst h16; rfl
  by_cases h17 : j = 17
  · subst h17; rfl
  by_cases h19 : j = 19
  · subst h19; rfl
  simp only [fu, if_neg h12, if_neg h13, if_neg h14, if_neg h15, if_neg h16, if_neg h17, if_neg h19]
theorem pZ_p19 (s : YT) (sc fr : Int → Int) (M : gM) (x : Int) : gu (YO (pZ s sc fr) M) 152 (gO 12 ((yObj (pZ s sc fr).1).set 19 (vi x))) = YO (pZ s (fu sc 19 x) fr) M := by
  rw [YO_p19]
  congr 1
  unfold pZ
  congr 1
  funext j
  by_cases h12 : j = 12
  · subst h12; rfl
  by_cases h13 : j = 13
  · subst h13; rfl
  by_cases h14 : j = 14
  · subst h14; rfl
  by_cases h15 : j = 15
  · subst h15; rfl
  by_cases h16 : j = 16
  · subst h16; rfl
  by_cases h17 : j = 17
  · subst h17; rfl
  by_cases h19 : j = 19
  · subst h19; rfl
  simp only [fu, if_neg h12, if_neg h13, if_neg h14, if_neg h15, if_neg h16, if_neg h17, if_neg h19]
theorem pZ_u4 (s : YT) (sc fr f : Int → Int) (M : gM) : gu (YO (pZ s sc fr) M) 157 (gA 0 95 f) = YO (pZ s sc f) M := by
  rw [YO_u4]
  unfold pZ
  dsimp only
  rw [fu_fu]
def fg (by_ : Int → Int) (len p : Int) : Prop := p < len ∧ 48 ≤ by_ p ∧ by_ p ≤ 57
def LK (by_ : Int → Int) (len a : Int) (sc : Int → Int) : Prop := sc 13 = a ∧ (-1000000 ≤ sc 15 ∧ sc 15 ≤ 255) ∧ ((a = len ∧ sc 14 = 1 ∧ sc 12 = a) ∨ (a < len ∧ 97 ≤ by_ a ∧ by_ a ≤ 122 ∧ sc 14 = 2 ∧ sc 15 = by_ a ∧ sc 12 = a + 1) ∨ (a < len ∧ 48 ≤ by_ a ∧ by_ a ≤ 57 ∧ ((¬ fg by_ len (a + 1) ∧ sc 14 = 3 ∧ sc 15 = by_ a - 48 ∧ sc 12 = a + 1) ∨ (fg by_ len (a + 1) ∧ ¬ fg by_ len (a + 2) ∧ sc 14 = 3 ∧ sc 15 = (by_ a - 48) * 10 + by_ (a + 1) - 48 ∧ sc 12 = a + 2) ∨ (fg by_ len (a + 1) ∧ fg by_ len (a + 2) ∧ sc 14 = 0 ∧ a + 3 ≤ sc 12 ∧ sc 12 ≤ len))) ∨ (a < len ∧ (by_ a = 44 ∨ by_ a = 59) ∧ sc 14 = 4 ∧ sc 15 = by_ a ∧ sc 12 = a + 1) ∨ (a < len ∧ ¬ (97 ≤ by_ a ∧ by_ a ≤ 122) ∧ ¬ (48 ≤ by_ a ∧ by_ a ≤ 57) ∧ ¬ by_ a = 44 ∧ ¬ by_ a = 59 ∧ sc 14 = 0 ∧ sc 12 = a + 1))
def kz (sc sc' : Int → Int) : Prop := sc' 16 = sc 16 ∧ sc' 17 = sc 17 ∧ sc' 19 = sc 19
set_option maxRecDepth 20000 in
theorem ct_X12_bad {s : YT} {sc fr : Int → Int} {M : gM} {n k : Int} (h : iR (sc 16)) : CT yX12_bad cX12_bad 2 none (rmk 0 0 0) [vr 152, vi k] (YO (pZ s sc fr) M) n (qr none (YO (pZ s (if sc 16 = 0 then fu (fu sc 16 k) 17 (sc 13) else sc) fr) M) n) := by
  refine CT.of (by decide) (fun _ => Nat.le_of_ble_eq_true rfl) (fun κ C E => ?_)
  show G κ (YO (pZ s sc fr) M) n [some (vr 152), some (vi k)] 0 [] 0 0
  refine s_n0_aload C dX12_bad_0 ?_
  refine g_get C fd_X12_75_12 dX12_bad_1 (YO_o ..) rfl ?_
  show G κ _ _ _ _ (vi (sc 16) :: _) _ _
  refine g_if_ne 20 C dX12_bad_4 (by decide) (by exact h) (fun c4 => ?_) (fun c4 => ?_)
  · refine g_vret C E dX12_bad_20 (by decide) ?_
    rw [if_neg c4]
    exact ⟨rfl, rfl, rfl⟩
  · refine s_n0_aload C dX12_bad_7 ?_
    refine s_n1_iload C dX12_bad_8 ?_
    refine g_put C fp_X12_75_12 dX12_bad_9 (YO_o ..) (Nat.le_of_ble_eq_true rfl) (gfit_i _) ?_
    rw [pZ_p16]
    refine s_n0_aload C dX12_bad_12 ?_
    refine s_n0_aload C dX12_bad_13 ?_
    refine g_get C fd_X12_78_12 dX12_bad_14 (YO_o ..) rfl ?_
    show G κ _ _ _ _ (vi (sc 13) :: _) _ _
    refine g_put C fp_X12_81_12 dX12_bad_17 (YO_o ..) (Nat.le_of_ble_eq_true rfl) (gfit_i _) ?_
    rw [pZ_p17]
    refine g_vret C E dX12_bad_20 (by decide) ?_
    rw [if_pos c4]
    exact ⟨rfl, rfl, rfl⟩
set_option maxRecDepth 20000 in
theorem ct_X12_nextToken {s : YT} {sc fr : Int → Int} {by_ : Int → Int} {len : Int} {M : gM} {n : Int} (htl : s.1 11 = len) (htp : ∀ i, 0 ≤ i → i < len → s.2 7 i = by_ i) (hby : ∀ i, 0 ≤ i → i < 120 → 0 ≤ by_ i ∧ by_ i ≤ 255) (hln : 0 ≤ len ∧ len ≤ 120) {a : Int} (ha : sc 12 = a) (hl : 0 ≤ a ∧ a ≤ len) : CT yX12_nextToken cX12_nextToken 1 none (rmk 1 0 0) [vr 152] (YO (pZ s sc fr) M) n (fun r M2 n2 => r = none ∧ n2 = n ∧ ∃ sc2, M2 = YO (pZ s sc2 fr) M ∧ LK by_ len a sc2 ∧ kz sc sc2) := by
  refine CT.of (by decide) (fun _ => Nat.le_of_ble_eq_true rfl) (fun κ C E => ?_)
  show G κ (YO (pZ s sc fr) M) n [some (vr 152)] 0 [] 0 0
  have lp : ∀ (z : Nat) (c : Int) (e : Int → Int), e 12 = c → e 13 = a → e 14 = 3 → kz sc e → a + 1 ≤ c ∧ c ≤ len → (∀ q, a ≤ q → q < c → 48 ≤ by_ q ∧ by_ q ≤ 57) → (c = a + 1 → e 15 = by_ a - 48) → (a + 2 ≤ c → e 15 = (by_ a - 48) * 10 + by_ (a + 1) - 48) → (len - c).toNat = z → G κ (YO (pZ s e fr) M) n [some (vr 152)] 165 [] 0 0 := by
    intro z
    induction z using Nat.strongRecOn with
    | ind z ih =>
      intro c e e12 e13 e14 ek hc hd hv1 hv2 hz
      refine s_n0_aload C dX12_nextToken_165 ?_
      refine g_get C fd_X12_84_12 dX12_nextToken_166 (YO_o ..) rfl ?_
      show G κ _ _ _ _ (vi (e 12) :: _) _ _
      rw [e12]
      refine s_n0_aload C dX12_nextToken_169 ?_
      refine g_get C fd_X12_71_12 dX12_nextToken_170 (YO_o ..) rfl ?_
      show G κ _ _ _ _ (vi (s.1 11) :: _) _ _
      rw [htl]
      refine g_icmp_ge 255 C dX12_nextToken_173 (by decide) (by unfold iR; omega) (by unfold iR; omega) (fun c173 => ?_) (fun c173 => ?_)
      · have ha1 := hd a (by omega) (by omega)
        refine s_n0_aload C dX12_nextToken_255 ?_
        refine s_n0_aload C dX12_nextToken_256 ?_
        refine g_get C fd_X12_84_12 dX12_nextToken_257 (YO_o ..) rfl ?_
        show G κ _ _ _ _ (vi (e 12) :: _) _ _
        rw [e12]
        refine s_n0_aload C dX12_nextToken_260 ?_
        refine g_get C fd_X12_78_12 dX12_nextToken_261 (YO_o ..) rfl ?_
        show G κ _ _ _ _ (vi (e 13) :: _) _ _
        rw [e13]
        refine g_isub C dX12_nextToken_264 ?_
        refine g_iconst C dX12_nextToken_265 ?_
        refine g_icmp_le 273 C dX12_nextToken_266 (by decide) (by unfold iR; omega) (by unfold iR; omega) (fun c266 => ?_) (fun c266 => ?_)
        · refine g_iconst C dX12_nextToken_273 ?_
          refine g_put C fp_X12_99_12 dX12_nextToken_274 (YO_o ..) (Nat.le_of_ble_eq_true rfl) (gfit_i _) ?_
          rw [pZ_p14]
          refine g_vret C E dX12_nextToken_277 (by decide) ?_
          have hbn : -1000000 ≤ e 15 ∧ e 15 ≤ 255 := by
            have d1 := hd a (by omega) (by omega)
            by_cases q : c = a + 1
            · rw [hv1 q]; omega
            · have d2 := hd (a + 1) (by omega) (by omega)
              rw [hv2 (by omega)]; omega
          have nf : ¬ fg by_ len c := fun q => by have q1 := q.1; omega
          refine ⟨rfl, rfl, _, rfl, ⟨e13, hbn, Or.inr (Or.inr (Or.inl ⟨by omega, ha1.1, ha1.2, ?_⟩))⟩, ek⟩
          rcases (show c = a + 1 ∨ c = a + 2 by omega) with q | q
          · exact Or.inl ⟨by rw [← q]; exact nf, rfl, hv1 q, e12.trans q⟩
          · refine Or.inr (Or.inl ⟨⟨by omega, hd (a + 1) (by omega) (by omega)⟩, by rw [← q]; exact nf, rfl, hv2 (by omega), e12.trans q⟩)
        · refine g_iconst C dX12_nextToken_269 ?_
          refine g_goto 274 C dX12_nextToken_270 (by decide) ?_
          refine g_put C fp_X12_99_12 dX12_nextToken_274 (YO_o ..) (Nat.le_of_ble_eq_true rfl) (gfit_i _) ?_
          rw [pZ_p14]
          refine g_vret C E dX12_nextToken_277 (by decide) ?_
          have hbn : -1000000 ≤ e 15 ∧ e 15 ≤ 255 := by
            have d1 := hd a (by omega) (by omega)
            by_cases q : c = a + 1
            · rw [hv1 q]; omega
            · have d2 := hd (a + 1) (by omega) (by omega)
              rw [hv2 (by omega)]; omega
          have nf : ¬ fg by_ len c := fun q => by have q1 := q.1; omega
          refine ⟨rfl, rfl, _, rfl, ⟨e13, hbn, Or.inr (Or.inr (Or.inl ⟨by omega, ha1.1, ha1.2, Or.inr (Or.inr ⟨⟨by omega, hd (a + 1) (by omega) (by omega)⟩, ⟨by omega, hd (a + 2) (by omega) (by omega)⟩, rfl, ?_, ?_⟩)⟩))⟩, ek⟩
          · show a + 3 ≤ e 12
            omega
          · show e 12 ≤ len
            omega
      · have hcb := hby c (by omega) (by omega)
        refine s_n0_aload C dX12_nextToken_176 ?_
        refine g_get C fd_X12_31_12 dX12_nextToken_177 (YO_o ..) rfl ?_
        refine s_n0_aload C dX12_nextToken_180 ?_
        refine g_get C fd_X12_84_12 dX12_nextToken_181 (YO_o ..) rfl ?_
        show G κ _ _ _ _ (vi (e 12) :: _) _ _
        rw [e12]
        refine g_iald C dX12_nextToken_184 (YO_a7 ..) (by omega) ?_
        show G κ _ _ _ _ (vi (s.2 7 c) :: _) _ _
        rw [htp c (by omega) (by omega)]
        refine g_i2l C dX12_nextToken_185 (by unfold iR; omega) ?_
        refine g_ldc2 (48) C wd_625 dX12_nextToken_186 ?_
        refine g_ldc2 (57) C wd_626 dX12_nextToken_189 ?_
        refine g_invS C (ct_X12_in (v := by_ c) (by unfold lR; omega) (by unfold lR; omega) (by unfold lR; omega)) cs_X12_54 (rmk_ok (by decide) (by decide) (by decide) (by decide)) (Nat.le_of_ble_eq_true rfl) rfl dX12_nextToken_192 rfl (q_r0 ?_)
        refine g_bifeq 255 C dX12_nextToken_195 (by decide)  (fun c195 => ?_) (fun c195 => ?_)
        · have ha1 := hd a (by omega) (by omega)
          refine s_n0_aload C dX12_nextToken_255 ?_
          refine s_n0_aload C dX12_nextToken_256 ?_
          refine g_get C fd_X12_84_12 dX12_nextToken_257 (YO_o ..) rfl ?_
          show G κ _ _ _ _ (vi (e 12) :: _) _ _
          rw [e12]
          refine s_n0_aload C dX12_nextToken_260 ?_
          refine g_get C fd_X12_78_12 dX12_nextToken_261 (YO_o ..) rfl ?_
          show G κ _ _ _ _ (vi (e 13) :: _) _ _
          rw [e13]
          refine g_isub C dX12_nextToken_264 ?_
          refine g_iconst C dX12_nextToken_265 ?_
          refine g_icmp_le 273 C dX12_nextToken_266 (by decide) (by unfold iR; omega) (by unfold iR; omega) (fun c266 => ?_) (fun c266 => ?_)
          · refine g_iconst C dX12_nextToken_273 ?_
            refine g_put C fp_X12_99_12 dX12_nextToken_274 (YO_o ..) (Nat.le_of_ble_eq_true rfl) (gfit_i _) ?_
            rw [pZ_p14]
            refine g_vret C E dX12_nextToken_277 (by decide) ?_
            have hbn : -1000000 ≤ e 15 ∧ e 15 ≤ 255 := by
              have d1 := hd a (by omega) (by omega)
              by_cases q : c = a + 1
              · rw [hv1 q]; omega
              · have d2 := hd (a + 1) (by omega) (by omega)
                rw [hv2 (by omega)]; omega
            have nf : ¬ fg by_ len c := fun q => c195 q.2
            refine ⟨rfl, rfl, _, rfl, ⟨e13, hbn, Or.inr (Or.inr (Or.inl ⟨by omega, ha1.1, ha1.2, ?_⟩))⟩, ek⟩
            rcases (show c = a + 1 ∨ c = a + 2 by omega) with q | q
            · exact Or.inl ⟨by rw [← q]; exact nf, rfl, hv1 q, e12.trans q⟩
            · refine Or.inr (Or.inl ⟨⟨by omega, hd (a + 1) (by omega) (by omega)⟩, by rw [← q]; exact nf, rfl, hv2 (by omega), e12.trans q⟩)
          · refine g_iconst C dX12_nextToken_269 ?_
            refine g_goto 274 C dX12_nextToken_270 (by decide) ?_
            refine g_put C fp_X12_99_12 dX12_nextToken_274 (YO_o ..) (Nat.le_of_ble_eq_true rfl) (gfit_i _) ?_
            rw [pZ_p14]
            refine g_vret C E dX12_nextToken_277 (by decide) ?_
            have hbn : -1000000 ≤ e 15 ∧ e 15 ≤ 255 := by
              have d1 := hd a (by omega) (by omega)
              by_cases q : c = a + 1
              · rw [hv1 q]; omega
              · have d2 := hd (a + 1) (by omega) (by omega)
                rw [hv2 (by omega)]; omega
            have nf : ¬ fg by_ len c := fun q => c195 q.2
            refine ⟨rfl, rfl, _, rfl, ⟨e13, hbn, Or.inr (Or.inr (Or.inl ⟨by omega, ha1.1, ha1.2, Or.inr (Or.inr ⟨⟨by omega, hd (a + 1) (by omega) (by omega)⟩, ⟨by omega, hd (a + 2) (by omega) (by omega)⟩, rfl, ?_, ?_⟩)⟩))⟩, ek⟩
            · show a + 3 ≤ e 12
              omega
            · show e 12 ≤ len
              omega
        · refine s_n0_aload C dX12_nextToken_198 ?_
          refine s_n0_aload C dX12_nextToken_199 ?_
          refine g_get C fd_X12_84_12 dX12_nextToken_200 (YO_o ..) rfl ?_
          show G κ _ _ _ _ (vi (e 12) :: _) _ _
          rw [e12]
          refine s_n0_aload C dX12_nextToken_203 ?_
          refine g_get C fd_X12_78_12 dX12_nextToken_204 (YO_o ..) rfl ?_
          show G κ _ _ _ _ (vi (e 13) :: _) _ _
          rw [e13]
          refine g_isub C dX12_nextToken_207 ?_
          refine g_iconst C dX12_nextToken_208 ?_
          refine g_icmp_ge 235 C dX12_nextToken_209 (by decide) (by unfold iR; omega) (by unfold iR; omega) (fun c209 => ?_) (fun c209 => ?_)
          · refine s_n0_aload C dX12_nextToken_235 ?_
            refine g_get C fd_X12_88_12 dX12_nextToken_236 (YO_o ..) rfl ?_
            show G κ _ _ _ _ (vi (e 15) :: _) _ _
            refine g_put C fp_X12_88_12 dX12_nextToken_239 (YO_o ..) (Nat.le_of_ble_eq_true rfl) (gfit_i _) ?_
            rw [pZ_p15]
            refine s_n0_aload C dX12_nextToken_242 ?_
            refine g_dup C dX12_nextToken_243 rfl ?_
            refine g_get C fd_X12_84_12 dX12_nextToken_244 (YO_o ..) rfl ?_
            show G κ _ _ _ _ (vi (e 12) :: _) _ _
            rw [e12]
            refine g_iconst C dX12_nextToken_247 ?_
            refine g_iadd C dX12_nextToken_248 ?_
            refine g_put C fp_X12_84_12 dX12_nextToken_249 (YO_o ..) (Nat.le_of_ble_eq_true rfl) (gfit_i _) ?_
            rw [pZ_p12]
            refine g_goto 165 C dX12_nextToken_252 (by decide) ?_
            refine ih _ (by omega) (c + 1) _ rfl e13 e14 ek (by omega) (fun q q1 q2 => ?_) (fun q => by omega) (fun q => ?_) rfl
            · by_cases e0 : q = c
              · rw [e0]; exact c195
              · exact hd q q1 (by omega)
            · exact hv2 (by omega)
          · refine g_bipush C dX12_nextToken_212 (by decide) ?_
            refine s_n0_aload C dX12_nextToken_214 ?_
            refine g_get C fd_X12_88_12 dX12_nextToken_215 (YO_o ..) rfl ?_
            show G κ _ _ _ _ (vi (e 15) :: _) _ _
            refine g_imul C dX12_nextToken_218 ?_
            refine s_n0_aload C dX12_nextToken_219 ?_
            refine g_get C fd_X12_31_12 dX12_nextToken_220 (YO_o ..) rfl ?_
            refine s_n0_aload C dX12_nextToken_223 ?_
            refine g_get C fd_X12_84_12 dX12_nextToken_224 (YO_o ..) rfl ?_
            show G κ _ _ _ _ (vi (e 12) :: _) _ _
            rw [e12]
            refine g_iald C dX12_nextToken_227 (YO_a7 ..) (by omega) ?_
            show G κ _ _ _ _ (vi (s.2 7 c) :: _) _ _
            rw [htp c (by omega) (by omega)]
            refine g_iadd C dX12_nextToken_228 ?_
            refine g_bipush C dX12_nextToken_229 (by decide) ?_
            refine g_isub C dX12_nextToken_231 ?_
            refine g_goto 239 C dX12_nextToken_232 (by decide) ?_
            refine g_put C fp_X12_88_12 dX12_nextToken_239 (YO_o ..) (Nat.le_of_ble_eq_true rfl) (gfit_i _) ?_
            rw [pZ_p15]
            refine s_n0_aload C dX12_nextToken_242 ?_
            refine g_dup C dX12_nextToken_243 rfl ?_
            refine g_get C fd_X12_84_12 dX12_nextToken_244 (YO_o ..) rfl ?_
            show G κ _ _ _ _ (vi (e 12) :: _) _ _
            rw [e12]
            refine g_iconst C dX12_nextToken_247 ?_
            refine g_iadd C dX12_nextToken_248 ?_
            refine g_put C fp_X12_84_12 dX12_nextToken_249 (YO_o ..) (Nat.le_of_ble_eq_true rfl) (gfit_i _) ?_
            rw [pZ_p12]
            refine g_goto 165 C dX12_nextToken_252 (by decide) ?_
            refine ih _ (by omega) (c + 1) _ rfl e13 e14 ek (by omega) (fun q q1 q2 => ?_) (fun q => by omega) (fun q => ?_) rfl
            · by_cases e0 : q = c
              · rw [e0]; exact c195
              · exact hd q q1 (by omega)
            · have ec : c = a + 1 := by omega
              show 10 * e 15 + by_ c - 48 = _
              rw [hv1 ec, ec]
              omega
  refine s_n0_aload C dX12_nextToken_0 ?_
  refine s_n0_aload C dX12_nextToken_1 ?_
  refine g_get C fd_X12_84_12 dX12_nextToken_2 (YO_o ..) rfl ?_
  show G κ _ _ _ _ (vi (sc 12) :: _) _ _
  rw [ha]
  refine g_put C fp_X12_78_12 dX12_nextToken_5 (YO_o ..) (Nat.le_of_ble_eq_true rfl) (gfit_i _) ?_
  rw [pZ_p13]
  refine s_n0_aload C dX12_nextToken_8 ?_
  refine s_n0_aload C dX12_nextToken_9 ?_
  refine g_get C fd_X12_84_12 dX12_nextToken_10 (YO_o ..) rfl ?_
  show G κ _ _ _ _ (vi (sc 12) :: _) _ _
  rw [ha]
  refine s_n0_aload C dX12_nextToken_13 ?_
  refine g_get C fd_X12_71_12 dX12_nextToken_14 (YO_o ..) rfl ?_
  show G κ _ _ _ _ (vi (s.1 11) :: _) _ _
  rw [htl]
  refine g_icmp_ge 32 C dX12_nextToken_17 (by decide) (by unfold iR; omega) (by unfold iR; omega) (fun c17 => ?_) (fun c17 => ?_)
  · refine g_ldc (-1000000) C wd_621 dX12_nextToken_32 ?_
    refine g_put C fp_X12_88_12 dX12_nextToken_34 (YO_o ..) (Nat.le_of_ble_eq_true rfl) (gfit_i _) ?_
    rw [pZ_p15]
    refine s_n0_aload C dX12_nextToken_37 ?_
    refine s_n0_aload C dX12_nextToken_38 ?_
    refine g_get C fd_X12_84_12 dX12_nextToken_39 (YO_o ..) rfl ?_
    show G κ _ _ _ _ (vi (sc 12) :: _) _ _
    rw [ha]
    refine s_n0_aload C dX12_nextToken_42 ?_
    refine g_get C fd_X12_71_12 dX12_nextToken_43 (YO_o ..) rfl ?_
    show G κ _ _ _ _ (vi (s.1 11) :: _) _ _
    rw [htl]
    refine g_icmp_ne 53 C dX12_nextToken_46 (by decide) (by unfold iR; omega) (by unfold iR; omega) (fun c46 => by exfalso; omega) (fun c46 => ?_)
    refine g_iconst C dX12_nextToken_49 ?_
    refine g_goto 118 C dX12_nextToken_50 (by decide) ?_
    refine g_put C fp_X12_99_12 dX12_nextToken_118 (YO_o ..) (Nat.le_of_ble_eq_true rfl) (gfit_i _) ?_
    rw [pZ_p14]
    refine s_n0_aload C dX12_nextToken_121 ?_
    refine g_dup C dX12_nextToken_122 rfl ?_
    refine g_get C fd_X12_84_12 dX12_nextToken_123 (YO_o ..) rfl ?_
    show G κ _ _ _ _ (vi (sc 12) :: _) _ _
    rw [ha]
    refine s_n0_aload C dX12_nextToken_126 ?_
    refine g_get C fd_X12_84_12 dX12_nextToken_127 (YO_o ..) rfl ?_
    show G κ _ _ _ _ (vi (sc 12) :: _) _ _
    rw [ha]
    refine s_n0_aload C dX12_nextToken_130 ?_
    refine g_get C fd_X12_71_12 dX12_nextToken_131 (YO_o ..) rfl ?_
    show G κ _ _ _ _ (vi (s.1 11) :: _) _ _
    rw [htl]
    refine g_icmp_ge 141 C dX12_nextToken_134 (by decide) (by unfold iR; omega) (by unfold iR; omega) (fun c134 => ?_) (fun c134 => by exfalso; omega)
    refine g_iconst C dX12_nextToken_141 ?_
    refine g_iadd C dX12_nextToken_142 ?_
    refine g_put C fp_X12_84_12 dX12_nextToken_143 (YO_o ..) (Nat.le_of_ble_eq_true rfl) (gfit_i _) ?_
    rw [pZ_p12]
    refine s_n0_aload C dX12_nextToken_146 ?_
    refine g_get C fd_X12_99_12 dX12_nextToken_147 (YO_o ..) rfl ?_
    show G κ _ _ _ _ (vi (1) :: _) _ _
    refine g_iconst C dX12_nextToken_150 ?_
    refine g_icmp_ne 277 C dX12_nextToken_151 (by decide) (by unfold iR; omega) (by unfold iR; omega) (fun c151 => ?_) (fun c151 => by exfalso; omega)
    refine g_vret C E dX12_nextToken_277 (by decide) ?_
    refine ⟨rfl, rfl, _, rfl, ⟨rfl, (show -1000000 ≤ (-1000000 : Int) ∧ (-1000000 : Int) ≤ 255 by omega), Or.inl ⟨by omega, rfl, ?_⟩⟩, ⟨rfl, rfl, rfl⟩⟩
    show a + 0 = a
    omega
  · have hab := hby a (by omega) (by omega)
    refine s_n0_aload C dX12_nextToken_20 ?_
    refine g_get C fd_X12_31_12 dX12_nextToken_21 (YO_o ..) rfl ?_
    refine s_n0_aload C dX12_nextToken_24 ?_
    refine g_get C fd_X12_84_12 dX12_nextToken_25 (YO_o ..) rfl ?_
    show G κ _ _ _ _ (vi (sc 12) :: _) _ _
    rw [ha]
    refine g_iald C dX12_nextToken_28 (YO_a7 ..) (by omega) ?_
    show G κ _ _ _ _ (vi (s.2 7 a) :: _) _ _
    rw [htp a (by omega) (by omega)]
    refine g_goto 34 C dX12_nextToken_29 (by decide) ?_
    refine g_put C fp_X12_88_12 dX12_nextToken_34 (YO_o ..) (Nat.le_of_ble_eq_true rfl) (gfit_i _) ?_
    rw [pZ_p15]
    refine s_n0_aload C dX12_nextToken_37 ?_
    refine s_n0_aload C dX12_nextToken_38 ?_
    refine g_get C fd_X12_84_12 dX12_nextToken_39 (YO_o ..) rfl ?_
    show G κ _ _ _ _ (vi (sc 12) :: _) _ _
    rw [ha]
    refine s_n0_aload C dX12_nextToken_42 ?_
    refine g_get C fd_X12_71_12 dX12_nextToken_43 (YO_o ..) rfl ?_
    show G κ _ _ _ _ (vi (s.1 11) :: _) _ _
    rw [htl]
    refine g_icmp_ne 53 C dX12_nextToken_46 (by decide) (by unfold iR; omega) (by unfold iR; omega) (fun c46 => ?_) (fun c46 => by exfalso; omega)
    refine s_n0_aload C dX12_nextToken_53 ?_
    refine g_get C fd_X12_88_12 dX12_nextToken_54 (YO_o ..) rfl ?_
    show G κ _ _ _ _ (vi (by_ a) :: _) _ _
    refine g_i2l C dX12_nextToken_57 (by unfold iR; omega) ?_
    refine g_ldc2 (97) C wd_623 dX12_nextToken_58 ?_
    refine g_ldc2 (122) C wd_624 dX12_nextToken_61 ?_
    refine g_invS C (ct_X12_in (v := by_ a) (by unfold lR; omega) (by unfold lR; omega) (by unfold lR; omega)) cs_X12_54 (rmk_ok (by decide) (by decide) (by decide) (by decide)) (Nat.le_of_ble_eq_true rfl) rfl dX12_nextToken_64 rfl (q_r0 ?_)
    refine g_bifeq 74 C dX12_nextToken_67 (by decide)  (fun c67 => ?_) (fun c67 => ?_)
    · refine s_n0_aload C dX12_nextToken_74 ?_
      refine g_get C fd_X12_88_12 dX12_nextToken_75 (YO_o ..) rfl ?_
      show G κ _ _ _ _ (vi (by_ a) :: _) _ _
      refine g_i2l C dX12_nextToken_78 (by unfold iR; omega) ?_
      refine g_ldc2 (48) C wd_625 dX12_nextToken_79 ?_
      refine g_ldc2 (57) C wd_626 dX12_nextToken_82 ?_
      refine g_invS C (ct_X12_in (v := by_ a) (by unfold lR; omega) (by unfold lR; omega) (by unfold lR; omega)) cs_X12_54 (rmk_ok (by decide) (by decide) (by decide) (by decide)) (Nat.le_of_ble_eq_true rfl) rfl dX12_nextToken_85 rfl (q_r0 ?_)
      refine g_bifeq 95 C dX12_nextToken_88 (by decide)  (fun c88 => ?_) (fun c88 => ?_)
      · refine s_n0_aload C dX12_nextToken_95 ?_
        refine g_get C fd_X12_88_12 dX12_nextToken_96 (YO_o ..) rfl ?_
        show G κ _ _ _ _ (vi (by_ a) :: _) _ _
        refine g_bipush C dX12_nextToken_99 (by decide) ?_
        refine g_icmp_eq 113 C dX12_nextToken_101 (by decide) (by unfold iR; omega) (by unfold iR; omega) (fun c101 => ?_) (fun c101 => ?_)
        · refine g_iconst C dX12_nextToken_113 ?_
          refine g_goto 118 C dX12_nextToken_114 (by decide) ?_
          refine g_put C fp_X12_99_12 dX12_nextToken_118 (YO_o ..) (Nat.le_of_ble_eq_true rfl) (gfit_i _) ?_
          rw [pZ_p14]
          refine s_n0_aload C dX12_nextToken_121 ?_
          refine g_dup C dX12_nextToken_122 rfl ?_
          refine g_get C fd_X12_84_12 dX12_nextToken_123 (YO_o ..) rfl ?_
          show G κ _ _ _ _ (vi (sc 12) :: _) _ _
          rw [ha]
          refine s_n0_aload C dX12_nextToken_126 ?_
          refine g_get C fd_X12_84_12 dX12_nextToken_127 (YO_o ..) rfl ?_
          show G κ _ _ _ _ (vi (sc 12) :: _) _ _
          rw [ha]
          refine s_n0_aload C dX12_nextToken_130 ?_
          refine g_get C fd_X12_71_12 dX12_nextToken_131 (YO_o ..) rfl ?_
          show G κ _ _ _ _ (vi (s.1 11) :: _) _ _
          rw [htl]
          refine g_icmp_ge 141 C dX12_nextToken_134 (by decide) (by unfold iR; omega) (by unfold iR; omega) (fun c134 => by exfalso; omega) (fun c134 => ?_)
          refine g_iconst C dX12_nextToken_137 ?_
          refine g_goto 142 C dX12_nextToken_138 (by decide) ?_
          refine g_iadd C dX12_nextToken_142 ?_
          refine g_put C fp_X12_84_12 dX12_nextToken_143 (YO_o ..) (Nat.le_of_ble_eq_true rfl) (gfit_i _) ?_
          rw [pZ_p12]
          refine s_n0_aload C dX12_nextToken_146 ?_
          refine g_get C fd_X12_99_12 dX12_nextToken_147 (YO_o ..) rfl ?_
          show G κ _ _ _ _ (vi (4) :: _) _ _
          refine g_iconst C dX12_nextToken_150 ?_
          refine g_icmp_ne 277 C dX12_nextToken_151 (by decide) (by unfold iR; omega) (by unfold iR; omega) (fun c151 => ?_) (fun c151 => by exfalso; omega)
          refine g_vret C E dX12_nextToken_277 (by decide) ?_
          refine ⟨rfl, rfl, _, rfl, ⟨rfl, (show -1000000 ≤ (by_ a : Int) ∧ (by_ a : Int) ≤ 255 by omega), Or.inr (Or.inr (Or.inr (Or.inl ⟨by omega, by omega, rfl, rfl, rfl⟩)))⟩, ⟨rfl, rfl, rfl⟩⟩
        · refine s_n0_aload C dX12_nextToken_104 ?_
          refine g_get C fd_X12_88_12 dX12_nextToken_105 (YO_o ..) rfl ?_
          show G κ _ _ _ _ (vi (by_ a) :: _) _ _
          refine g_bipush C dX12_nextToken_108 (by decide) ?_
          refine g_icmp_ne 117 C dX12_nextToken_110 (by decide) (by unfold iR; omega) (by unfold iR; omega) (fun c110 => ?_) (fun c110 => ?_)
          · refine g_iconst C dX12_nextToken_117 ?_
            refine g_put C fp_X12_99_12 dX12_nextToken_118 (YO_o ..) (Nat.le_of_ble_eq_true rfl) (gfit_i _) ?_
            rw [pZ_p14]
            refine s_n0_aload C dX12_nextToken_121 ?_
            refine g_dup C dX12_nextToken_122 rfl ?_
            refine g_get C fd_X12_84_12 dX12_nextToken_123 (YO_o ..) rfl ?_
            show G κ _ _ _ _ (vi (sc 12) :: _) _ _
            rw [ha]
            refine s_n0_aload C dX12_nextToken_126 ?_
            refine g_get C fd_X12_84_12 dX12_nextToken_127 (YO_o ..) rfl ?_
            show G κ _ _ _ _ (vi (sc 12) :: _) _ _
            rw [ha]
            refine s_n0_aload C dX12_nextToken_130 ?_
            refine g_get C fd_X12_71_12 dX12_nextToken_131 (YO_o ..) rfl ?_
            show G κ _ _ _ _ (vi (s.1 11) :: _) _ _
            rw [htl]
            refine g_icmp_ge 141 C dX12_nextToken_134 (by decide) (by unfold iR; omega) (by unfold iR; omega) (fun c134 => by exfalso; omega) (fun c134 => ?_)
            refine g_iconst C dX12_nextToken_137 ?_
            refine g_goto 142 C dX12_nextToken_138 (by decide) ?_
            refine g_iadd C dX12_nextToken_142 ?_
            refine g_put C fp_X12_84_12 dX12_nextToken_143 (YO_o ..) (Nat.le_of_ble_eq_true rfl) (gfit_i _) ?_
            rw [pZ_p12]
            refine s_n0_aload C dX12_nextToken_146 ?_
            refine g_get C fd_X12_99_12 dX12_nextToken_147 (YO_o ..) rfl ?_
            show G κ _ _ _ _ (vi (0) :: _) _ _
            refine g_iconst C dX12_nextToken_150 ?_
            refine g_icmp_ne 277 C dX12_nextToken_151 (by decide) (by unfold iR; omega) (by unfold iR; omega) (fun c151 => ?_) (fun c151 => by exfalso; omega)
            refine g_vret C E dX12_nextToken_277 (by decide) ?_
            refine ⟨rfl, rfl, _, rfl, ⟨rfl, (show -1000000 ≤ (by_ a : Int) ∧ (by_ a : Int) ≤ 255 by omega), Or.inr (Or.inr (Or.inr (Or.inr ⟨by omega, c67, c88, by omega, by omega, rfl, rfl⟩)))⟩, ⟨rfl, rfl, rfl⟩⟩
          · refine g_iconst C dX12_nextToken_113 ?_
            refine g_goto 118 C dX12_nextToken_114 (by decide) ?_
            refine g_put C fp_X12_99_12 dX12_nextToken_118 (YO_o ..) (Nat.le_of_ble_eq_true rfl) (gfit_i _) ?_
            rw [pZ_p14]
            refine s_n0_aload C dX12_nextToken_121 ?_
            refine g_dup C dX12_nextToken_122 rfl ?_
            refine g_get C fd_X12_84_12 dX12_nextToken_123 (YO_o ..) rfl ?_
            show G κ _ _ _ _ (vi (sc 12) :: _) _ _
            rw [ha]
            refine s_n0_aload C dX12_nextToken_126 ?_
            refine g_get C fd_X12_84_12 dX12_nextToken_127 (YO_o ..) rfl ?_
            show G κ _ _ _ _ (vi (sc 12) :: _) _ _
            rw [ha]
            refine s_n0_aload C dX12_nextToken_130 ?_
            refine g_get C fd_X12_71_12 dX12_nextToken_131 (YO_o ..) rfl ?_
            show G κ _ _ _ _ (vi (s.1 11) :: _) _ _
            rw [htl]
            refine g_icmp_ge 141 C dX12_nextToken_134 (by decide) (by unfold iR; omega) (by unfold iR; omega) (fun c134 => by exfalso; omega) (fun c134 => ?_)
            refine g_iconst C dX12_nextToken_137 ?_
            refine g_goto 142 C dX12_nextToken_138 (by decide) ?_
            refine g_iadd C dX12_nextToken_142 ?_
            refine g_put C fp_X12_84_12 dX12_nextToken_143 (YO_o ..) (Nat.le_of_ble_eq_true rfl) (gfit_i _) ?_
            rw [pZ_p12]
            refine s_n0_aload C dX12_nextToken_146 ?_
            refine g_get C fd_X12_99_12 dX12_nextToken_147 (YO_o ..) rfl ?_
            show G κ _ _ _ _ (vi (4) :: _) _ _
            refine g_iconst C dX12_nextToken_150 ?_
            refine g_icmp_ne 277 C dX12_nextToken_151 (by decide) (by unfold iR; omega) (by unfold iR; omega) (fun c151 => ?_) (fun c151 => by exfalso; omega)
            refine g_vret C E dX12_nextToken_277 (by decide) ?_
            refine ⟨rfl, rfl, _, rfl, ⟨rfl, (show -1000000 ≤ (by_ a : Int) ∧ (by_ a : Int) ≤ 255 by omega), Or.inr (Or.inr (Or.inr (Or.inl ⟨by omega, by omega, rfl, rfl, rfl⟩)))⟩, ⟨rfl, rfl, rfl⟩⟩
      · refine g_iconst C dX12_nextToken_91 ?_
        refine g_goto 118 C dX12_nextToken_92 (by decide) ?_
        refine g_put C fp_X12_99_12 dX12_nextToken_118 (YO_o ..) (Nat.le_of_ble_eq_true rfl) (gfit_i _) ?_
        rw [pZ_p14]
        refine s_n0_aload C dX12_nextToken_121 ?_
        refine g_dup C dX12_nextToken_122 rfl ?_
        refine g_get C fd_X12_84_12 dX12_nextToken_123 (YO_o ..) rfl ?_
        show G κ _ _ _ _ (vi (sc 12) :: _) _ _
        rw [ha]
        refine s_n0_aload C dX12_nextToken_126 ?_
        refine g_get C fd_X12_84_12 dX12_nextToken_127 (YO_o ..) rfl ?_
        show G κ _ _ _ _ (vi (sc 12) :: _) _ _
        rw [ha]
        refine s_n0_aload C dX12_nextToken_130 ?_
        refine g_get C fd_X12_71_12 dX12_nextToken_131 (YO_o ..) rfl ?_
        show G κ _ _ _ _ (vi (s.1 11) :: _) _ _
        rw [htl]
        refine g_icmp_ge 141 C dX12_nextToken_134 (by decide) (by unfold iR; omega) (by unfold iR; omega) (fun c134 => by exfalso; omega) (fun c134 => ?_)
        refine g_iconst C dX12_nextToken_137 ?_
        refine g_goto 142 C dX12_nextToken_138 (by decide) ?_
        refine g_iadd C dX12_nextToken_142 ?_
        refine g_put C fp_X12_84_12 dX12_nextToken_143 (YO_o ..) (Nat.le_of_ble_eq_true rfl) (gfit_i _) ?_
        rw [pZ_p12]
        refine s_n0_aload C dX12_nextToken_146 ?_
        refine g_get C fd_X12_99_12 dX12_nextToken_147 (YO_o ..) rfl ?_
        show G κ _ _ _ _ (vi (3) :: _) _ _
        refine g_iconst C dX12_nextToken_150 ?_
        refine g_icmp_ne 277 C dX12_nextToken_151 (by decide) (by unfold iR; omega) (by unfold iR; omega) (fun c151 => by exfalso; omega) (fun c151 => ?_)
        refine s_n0_aload C dX12_nextToken_154 ?_
        refine g_dup C dX12_nextToken_155 rfl ?_
        refine g_get C fd_X12_88_12 dX12_nextToken_156 (YO_o ..) rfl ?_
        show G κ _ _ _ _ (vi (by_ a) :: _) _ _
        refine g_bipush C dX12_nextToken_159 (by decide) ?_
        refine g_isub C dX12_nextToken_161 ?_
        refine g_put C fp_X12_88_12 dX12_nextToken_162 (YO_o ..) (Nat.le_of_ble_eq_true rfl) (gfit_i _) ?_
        rw [pZ_p15]
        exact lp _ (a + 1) _ rfl rfl rfl ⟨rfl, rfl, rfl⟩ (by omega) (fun q q1 q2 => by rw [show q = a by omega]; exact c88) (fun _ => rfl) (fun q => by omega) rfl
    · refine g_iconst C dX12_nextToken_70 ?_
      refine g_goto 118 C dX12_nextToken_71 (by decide) ?_
      refine g_put C fp_X12_99_12 dX12_nextToken_118 (YO_o ..) (Nat.le_of_ble_eq_true rfl) (gfit_i _) ?_
      rw [pZ_p14]
      refine s_n0_aload C dX12_nextToken_121 ?_
      refine g_dup C dX12_nextToken_122 rfl ?_
      refine g_get C fd_X12_84_12 dX12_nextToken_123 (YO_o ..) rfl ?_
      show G κ _ _ _ _ (vi (sc 12) :: _) _ _
      rw [ha]
      refine s_n0_aload C dX12_nextToken_126 ?_
      refine g_get C fd_X12_84_12 dX12_nextToken_127 (YO_o ..) rfl ?_
      show G κ _ _ _ _ (vi (sc 12) :: _) _ _
      rw [ha]
      refine s_n0_aload C dX12_nextToken_130 ?_
      refine g_get C fd_X12_71_12 dX12_nextToken_131 (YO_o ..) rfl ?_
      show G κ _ _ _ _ (vi (s.1 11) :: _) _ _
      rw [htl]
      refine g_icmp_ge 141 C dX12_nextToken_134 (by decide) (by unfold iR; omega) (by unfold iR; omega) (fun c134 => by exfalso; omega) (fun c134 => ?_)
      refine g_iconst C dX12_nextToken_137 ?_
      refine g_goto 142 C dX12_nextToken_138 (by decide) ?_
      refine g_iadd C dX12_nextToken_142 ?_
      refine g_put C fp_X12_84_12 dX12_nextToken_143 (YO_o ..) (Nat.le_of_ble_eq_true rfl) (gfit_i _) ?_
      rw [pZ_p12]
      refine s_n0_aload C dX12_nextToken_146 ?_
      refine g_get C fd_X12_99_12 dX12_nextToken_147 (YO_o ..) rfl ?_
      show G κ _ _ _ _ (vi (2) :: _) _ _
      refine g_iconst C dX12_nextToken_150 ?_
      refine g_icmp_ne 277 C dX12_nextToken_151 (by decide) (by unfold iR; omega) (by unfold iR; omega) (fun c151 => ?_) (fun c151 => by exfalso; omega)
      refine g_vret C E dX12_nextToken_277 (by decide) ?_
      refine ⟨rfl, rfl, _, rfl, ⟨rfl, (show -1000000 ≤ (by_ a : Int) ∧ (by_ a : Int) ≤ 255 by omega), Or.inr (Or.inl ⟨by omega, c67.1, c67.2, rfl, rfl, rfl⟩)⟩, ⟨rfl, rfl, rfl⟩⟩
