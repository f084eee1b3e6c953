/-! PadPolishModel: enough, thin, wetFor, evenings, done -/
theorem lack_s (S : SLT) (t cs : Int) {c : Int} (h : 0 ≤ c) : (bAnd (bShr cs c) 1 = 1 ∧ itI (fun i a => if bAnd (bShr cs i) 1 = 1 then a + max (t - S.1 i) 0 else a) (0 : Int) (c + 1) = itI (fun i a => if bAnd (bShr cs i) 1 = 1 then a + max (t - S.1 i) 0 else a) (0 : Int) c + max (t - S.1 c) 0) ∨ (¬ bAnd (bShr cs c) 1 = 1 ∧ itI (fun i a => if bAnd (bShr cs i) 1 = 1 then a + max (t - S.1 i) 0 else a) (0 : Int) (c + 1) = itI (fun i a => if bAnd (bShr cs i) 1 = 1 then a + max (t - S.1 i) 0 else a) (0 : Int) c) := by
  have e := itI_s (fun i a => if bAnd (bShr cs i) 1 = 1 then a + max (t - S.1 i) 0 else a) (0 : Int) h
  by_cases q : bAnd (bShr cs c) 1 = 1
  · rw [if_pos q] at e
    exact Or.inl ⟨q, e⟩
  · rw [if_neg q] at e
    exact Or.inr ⟨q, e⟩
set_option maxRecDepth 20000 in
theorem ct_X12_enough {X : XT} {s0 : YT} {M : gM} {n : Int} (h0 : yRel X s0) (hO : xOK X) {t : Int} (ht : iR t) : CT yX12_enough cX12_enough 6 (some .int) (rmk 4 0 0) [vr 152, vi t] (YO s0 M) n (yP (xEnough X t) M n) := by
  refine CT.of (by decide) (fun _ => Nat.le_of_ble_eq_true rfl) (fun κ C E => ?_)
  show G κ (YO s0 M) n [some (vr 152), some (vi t), none, none, none, none] 0 [] 0 0
  obtain ⟨E0, hE⟩ : ∃ E0, E0 = enN 42 X t 0 := ⟨_, rfl⟩
  obtain ⟨cs, hcs⟩ : ∃ cs, cs = (psCells (xP X) (bShl 1 (xP X).1 - 1)) := ⟨_, rfl⟩
  have li : ∀ (z : Nat) (c is L i : Int) (s : YT) (S : SLT) (b : Int → Int), L = itI (fun i a => if bAnd (bShr cs i) 1 = 1 then a + max (t - S.1 i) 0 else a) (0 : Int) c → 0 ≤ L → ((is = 1 ∧ L = 0) ∨ (is = 0 ∧ ¬ L = 0)) → (1 ≤ t ∧ t ≤ 999) → sfOK S → 0 ≤ c ∧ c ≤ 15 → (15 - c).toNat = z → (∀ is, (is = 1 ∧ sfLack S t cs = 0) ∨ (is = 0 ∧ ¬ sfLack S t cs = 0) → G κ (YO (yS 5 s S b) M) n [some (vr 152), some (vi t), some (vi cs), some (vi i), some (vi is), some (vi 15)] 101 [] 0 0) → G κ (YO (yS 5 s S b) M) n [some (vr 152), some (vi t), some (vi cs), some (vi i), some (vi is), some (vi c)] 53 [] 0 0 := by
    intro z
    induction z using Nat.strongRecOn with
    | ind z ih =>
      intro c is L i s S b hL hL0 his ht2 hS h1 hz hk
      refine s_w5_iload C dX12_enough_53 ?_
      refine g_bipush C dX12_enough_55 (by decide) ?_
      refine g_icmp_ge 101 C dX12_enough_57 (by decide) (by first | assumption | (unfold iR; omega)) (by first | assumption | (unfold iR; omega)) (fun c57 => ?_) (fun c57 => ?_)
      · have ec : c = 15 := by omega
        subst ec
        refine hk is ?_
        rw [hL] at his
        exact his
      · have hcb := hS.1 c h1.1 (by omega)
        have hs := lack_s S t cs h1.1
        rw [← hL] at hs
        have h01 := bAnd01 (bShr cs c)
        refine s_w4_iload C dX12_enough_60 ?_
        refine g_if_eq 92 C dX12_enough_62 (by decide) (by unfold iR; omega) (fun c62 => ?_) (fun c62 => ?_)
        · refine g_iconst C dX12_enough_92 ?_
          refine s_w4_istore C dX12_enough_93 rfl ?_
          refine s_w5_iinc C dX12_enough_95 rfl ?_
          refine g_goto 53 C dX12_enough_98 (by decide) ?_
          exact ih _ (by omega) (c + 1) _ _ i s S b rfl (by omega) (by omega) ht2 hS (by omega) rfl hk
        · refine s_n2_iload C dX12_enough_65 ?_
          refine s_w5_iload C dX12_enough_66 ?_
          refine g_ishr C dX12_enough_68 ?_
          refine g_iconst C dX12_enough_69 ?_
          refine g_iand C dX12_enough_70 ?_
          refine g_if_eq 88 C dX12_enough_71 (by decide) (by exact bAnd_R _ _) (fun c71 => ?_) (fun c71 => ?_)
          · refine g_iconst C dX12_enough_88 ?_
            refine g_goto 93 C dX12_enough_89 (by decide) ?_
            refine s_w4_istore C dX12_enough_93 rfl ?_
            refine s_w5_iinc C dX12_enough_95 rfl ?_
            refine g_goto 53 C dX12_enough_98 (by decide) ?_
            exact ih _ (by omega) (c + 1) _ _ i s S b rfl (by omega) (by omega) ht2 hS (by omega) rfl hk
          · refine s_n0_aload C dX12_enough_74 ?_
            refine g_get C fd_X12_25_12 dX12_enough_75 (YO_o ..) rfl ?_
            refine g_bipush C dX12_enough_78 (by decide) ?_
            refine s_w5_iload C dX12_enough_80 ?_
            refine g_iadd C dX12_enough_82 ?_
            refine g_iald C dX12_enough_83 (YO_a5 ..) (by omega) ?_
            show G κ _ n _ _ (vi (pk S b (6 + c)) :: _) _ _
            rw [pS_f (by omega)]
            refine s_n1_iload C dX12_enough_84 ?_
            refine g_icmp_lt 92 C dX12_enough_85 (by decide) (by unfold iR; omega) (by unfold iR; omega) (fun c85 => ?_) (fun c85 => ?_)
            · refine g_iconst C dX12_enough_92 ?_
              refine s_w4_istore C dX12_enough_93 rfl ?_
              refine s_w5_iinc C dX12_enough_95 rfl ?_
              refine g_goto 53 C dX12_enough_98 (by decide) ?_
              exact ih _ (by omega) (c + 1) _ _ i s S b rfl (by omega) (by omega) ht2 hS (by omega) rfl hk
            · refine g_iconst C dX12_enough_88 ?_
              refine g_goto 93 C dX12_enough_89 (by decide) ?_
              refine s_w4_istore C dX12_enough_93 rfl ?_
              refine s_w5_iinc C dX12_enough_95 rfl ?_
              refine g_goto 53 C dX12_enough_98 (by decide) ?_
              exact ih _ (by omega) (c + 1) _ _ i s S b rfl (by omega) (by omega) ht2 hS (by omega) rfl hk
  have lp : ∀ (f : Nat) (i : Int) (s : YT) (b : Int → Int) (q4 q5 : Option gV), yR X s b → 1 ≤ t ∧ t ≤ 999 → 0 ≤ i ∧ i ≤ 41 → 42 ≤ f + i → ¬ X.1 0 = 0 → E0 = enN f X t i → G κ (YO (yS 5 s (xRnd X i) b) M) n [some (vr 152), some (vi t), some (vi cs), some (vi i), q4, q5] 41 [] 0 0 := by
    intro f
    induction f with
    | zero => intro i s b q4 q5 hR h0 h1 h2 h3 h4; exfalso; omega
    | succ f ih =>
      intro i s b q4 q5 hR h0 h1 h2 h3 h4
      have hS := xRnd_ok hO h1.1
      unfold enN at h4
      rw [← hcs] at h4
      refine s_n3_iload C dX12_enough_41 ?_
      refine g_bipush C dX12_enough_42 (by decide) ?_
      refine g_icmp_gt 122 C dX12_enough_44 (by decide) (by first | assumption | (unfold iR; omega)) (by first | assumption | (unfold iR; omega)) (fun c44 => ?_) (fun c44 => ?_)
      · refine g_ldc (-1000000) C wd_621 dX12_enough_122 ?_
        refine g_iret C E dX12_enough_124 (by decide) ?_
        rw [if_pos (by omega)] at h4
        unfold xEnough
        rw [if_neg h3, if_neg (not_not_intro h0), ← hE, h4]
        exact ⟨rfl, rfl, _, rfl, b, (hR.t5 _ _).g24 hO _⟩
      · refine g_iconst C dX12_enough_47 ?_
        refine s_w4_istore C dX12_enough_48 rfl ?_
        refine g_iconst C dX12_enough_50 ?_
        refine s_w5_istore C dX12_enough_51 rfl ?_
        refine li _ 0 1 0 i s (xRnd X i) b rfl (by omega) (by omega) h0 hS (by omega) rfl (fun is his => ?_)
        refine s_w4_iload C dX12_enough_101 ?_
        refine g_if_eq 108 C dX12_enough_103 (by decide) (by unfold iR; omega) (fun c103 => ?_) (fun c103 => ?_)
        · refine s_n0_aload C dX12_enough_108 ?_
          refine s_n0_aload C dX12_enough_109 ?_
          refine g_get C fd_X12_25_12 dX12_enough_110 (YO_o ..) rfl ?_
          refine g_invV C (ct_X12_allPasses hR.tab hR.bk hO.ps hS) (YO_o ..) cv_X12_214_12 (rmk_ok (by decide) (by decide) (by decide) (by decide)) (Nat.le_of_ble_eq_true rfl) rfl dX12_enough_113 rfl (q_v0 ?_)
          refine s_w3_iinc C dX12_enough_116 rfl ?_
          refine g_goto 41 C dX12_enough_119 (by decide) ?_
          rw [if_neg (by omega), if_neg (by omega)] at h4
          have e : xRnd X (i + 1) = psAll (xP X) (xRnd X i) := itI_s (fun _ S => psAll (xP X) S) (xC X) h1.1
          rw [← e]
          exact ih (i + 1) s b _ _ hR h0 (by omega) (by omega) h3 h4
        · refine s_n3_iload C dX12_enough_106 ?_
          refine g_iret C E dX12_enough_107 (by decide) ?_
          rw [if_neg (by omega), if_pos (by omega)] at h4
          unfold xEnough
          rw [if_neg h3, if_neg (not_not_intro h0), ← hE, h4]
          exact ⟨rfl, rfl, _, rfl, b, (hR.t5 _ _).g24 hO _⟩
  refine s_n0_aload C dX12_enough_0 ?_
  refine g_iconst C dX12_enough_1 ?_
  refine g_put C fp_X12_44_12 dX12_enough_2 (YO_o ..) (Nat.le_of_ble_eq_true rfl) (gfit_i _) ?_
  rw [YO_p0]
  obtain ⟨b, hR⟩ := h0
  have hR := hR.th 0
  generalize ((fu s0.1 0 0, s0.2) : YT) = s at hR ⊢
  refine s_n0_aload C dX12_enough_5 ?_
  refine g_invV C (ct_X12_isThere hR.tab hR.bk hO.td) (YO_o ..) cv_X12_177_12 (rmk_ok (by decide) (by decide) (by decide) (by decide)) (Nat.le_of_ble_eq_true rfl) rfl dX12_enough_6 rfl (q_r0 ?_)
  refine g_tifne 15 C dX12_enough_9 (by decide)  (fun c9 => ?_) (fun c9 => ?_)
  · refine s_n1_iload C dX12_enough_15 ?_
    refine g_i2l C dX12_enough_16 (by first | assumption | (unfold iR; omega)) ?_
    refine g_lconst1 C dX12_enough_17 ?_
    refine g_ldc2 (999) C wd_761 dX12_enough_18 ?_
    refine g_invS C (ct_X12_in (v := t) (lo := 1) (hi := 999) (by unfold iR at *; unfold lR; omega) (by unfold iR at *; unfold lR; omega) (by unfold iR at *; unfold lR; omega)) cs_X12_54 (rmk_ok (by decide) (by decide) (by decide) (by decide)) (Nat.le_of_ble_eq_true rfl) rfl dX12_enough_21 rfl (q_r0 ?_)
    refine g_bifne 30 C dX12_enough_24 (by decide)  (fun c24 => ?_) (fun c24 => ?_)
    · refine s_n0_aload C dX12_enough_30 ?_
      refine g_invV C (ct_X12_overAll hR hO) (YO_o ..) cv_X12_235_12 (rmk_ok (by decide) (by decide) (by decide) (by decide)) (Nat.le_of_ble_eq_true rfl) rfl dX12_enough_31 rfl (q_r0 ?_)
      rw [← hcs]
      refine s_n2_istore C dX12_enough_34 rfl ?_
      refine s_n0_aload C dX12_enough_35 ?_
      refine g_invV C (ct_X12_layThen hR.tab) (YO_o ..) cv_X12_211_12 (rmk_ok (by decide) (by decide) (by decide) (by decide)) (Nat.le_of_ble_eq_true rfl) rfl dX12_enough_36 rfl (q_v0 ?_)
      refine g_iconst C dX12_enough_39 ?_
      refine s_n3_istore C dX12_enough_40 rfl ?_
      exact lp 42 0 s b _ _ hR c24 (by omega) (by omega) c9 hE
    · refine g_ldc (-1000001) C wd_609 dX12_enough_27 ?_
      refine g_iret C E dX12_enough_29 (by decide) ?_
      unfold xEnough
      rw [if_neg c9, if_pos c24]
      exact ⟨rfl, rfl, _, rfl, b, hR⟩
  · refine g_ldc (-1000002) C wd_706 dX12_enough_12 ?_
    refine g_iret C E dX12_enough_14 (by decide) ?_
    unfold xEnough
    rw [if_pos c9]
    exact ⟨rfl, rfl, _, rfl, b, hR⟩
theorem thin_0 {S : SLT} {L : Int} {c : Int} (hc : 0 ≤ c) (h : ∀ i, 0 ≤ i → i < c → ¬ S.1 i = L) : itI (fun i x => if S.1 i = L then bOr x (bShl 1 i) else x) (0 : Int) c = 0 := by
  have := itI_inv (g := fun i x => if S.1 i = L then bOr x (bShl 1 i) else x) (a := (0 : Int)) (fun i x => i ≤ c → x = 0) (fun _ => rfl) (fun i x h0 hx h1 => by
    rw [if_neg (h i h0 (by omega))]
    exact hx (by omega)) hc
  exact this (Int.le_refl _)
theorem min_le {S : SLT} {m : Int} : ∀ c : Nat, ∀ i : Int, 0 ≤ i → i < c → itI (fun i m => min m (S.1 i)) m (c : Int) ≤ S.1 i := by
  intro c
  induction c with
  | zero => intro i h0 h1; omega
  | succ c ih =>
    intro i h0 h1
    have e : itI (fun i m => min m (S.1 i)) m ((c + 1 : Nat) : Int) = min (itI (fun i m => min m (S.1 i)) m (c : Int)) (S.1 c) := by show itI _ _ ((c : Int) + 1) = _; exact itI_s _ _ (by omega)
    rw [e]
    by_cases q : i = c
    · rw [q]; omega
    · have := ih i h0 (by omega); omega
theorem min_1000 {S : SLT} (hS : sfOK S) {c : Int} (h : 1 ≤ c) (h2 : c ≤ 15) : itI (fun i m => min m (S.1 i)) (1000 : Int) c = itI (fun i m => min m (S.1 i)) (999 : Int) c := by
  have hk : ∀ d : Nat, d ≤ 14 → itI (fun i m => min m (S.1 i)) (1000 : Int) (1 + (d : Int)) = itI (fun i m => min m (S.1 i)) (999 : Int) (1 + (d : Int)) := by
    intro d
    induction d with
    | zero =>
      intro _
      have := hS.1 0 (by decide) (by decide)
      show min 1000 (S.1 0) = min 999 (S.1 0)
      omega
    | succ d ih =>
      intro hd
      have e : ∀ m : Int, itI (fun i m => min m (S.1 i)) m (1 + ((d + 1 : Nat) : Int)) = min (itI (fun i m => min m (S.1 i)) m (1 + (d : Int))) (S.1 (1 + d)) := fun m => by rw [show 1 + ((d + 1 : Nat) : Int) = (1 + (d : Int)) + 1 by omega]; exact itI_s _ _ (by omega)
      rw [e, e, ih (by omega)]
  have := hk (c - 1).toNat (by omega)
  rwa [show 1 + (((c - 1).toNat : Nat) : Int) = c by omega] at this
set_option maxRecDepth 20000 in
theorem ct_X12_thin {X : XT} {s0 : YT} {M : gM} {n : Int} (h0 : yRel X s0) (hO : xOK X)  : CT yX12_thin cX12_thin 5 (some .int) (rmk 1 0 0) [vr 152] (YO s0 M) n (yP (xThin X) M n) := by
  refine CT.of (by decide) (fun _ => Nat.le_of_ble_eq_true rfl) (fun κ C E => ?_)
  show G κ (YO s0 M) n [some (vr 152), none, none, none, none] 0 [] 0 0
  have lp : ∀ (z : Nat) (k L T : Int) (q4 : Option gV) (s : YT) (b : Int → Int), yR X s b → ¬ X.1 0 = 0 → L = itI (fun i m => min m ((xC X).1 i)) (1000 : Int) k → T = itI (fun i x => if (xC X).1 i = L then bOr x (bShl 1 i) else x) (0 : Int) k → 0 ≤ L ∧ L ≤ 1000 → 0 ≤ k ∧ k ≤ 15 → (15 - k).toNat = z → G κ (YO s M) n [some (vr 152), some (vi L), some (vi T), some (vi k), q4] 23 [] 0 0 := by
    intro z
    induction z using Nat.strongRecOn with
    | ind z ih =>
      intro k L T q4 s b hR q1 hL hT hb1 h1 hz
      refine s_n3_iload C dX12_thin_23 ?_
      refine g_bipush C dX12_thin_24 (by decide) ?_
      refine g_icmp_ge 87 C dX12_thin_26 (by decide) (by first | assumption | (unfold iR; omega)) (by first | assumption | (unfold iR; omega)) (fun c26 => ?_) (fun c26 => ?_)
      · refine s_n2_iload C dX12_thin_87 ?_
        refine g_iret C E dX12_thin_88 (by decide) ?_
        have ek : k = 15 := by omega
        subst ek
        unfold xThin
        rw [if_neg q1]
        refine ⟨?_, rfl, _, rfl, b, hR⟩
        rw [hT]
        have eL : L = sfThin (xC X) := by rw [hL, min_1000 hO.cs (by omega) (by omega)]; rfl
        rw [eL]
        rfl
      · have hcb := hO.cs.1 k h1.1 (by omega)
        refine s_n0_aload C dX12_thin_29 ?_
        refine g_get C fd_X12_19_12 dX12_thin_30 (YO_o ..) rfl ?_
        refine g_bipush C dX12_thin_33 (by decide) ?_
        refine s_n3_iload C dX12_thin_35 ?_
        refine g_iadd C dX12_thin_36 ?_
        refine g_iald C dX12_thin_37 (YO_a3 ..) (by omega) ?_
        rw [hR.tab, pS_f (by omega)]
        refine s_w4_istore C dX12_thin_38 rfl ?_
        refine s_w4_iload C dX12_thin_40 ?_
        refine s_n1_iload C dX12_thin_42 ?_
        refine g_icmp_ge 52 C dX12_thin_43 (by decide) (by first | assumption | (unfold iR; omega)) (by first | assumption | (unfold iR; omega)) (fun c43 => ?_) (fun c43 => ?_)
        · refine s_w4_iload C dX12_thin_52 ?_
          refine s_n1_iload C dX12_thin_54 ?_
          refine g_icmp_ne 66 C dX12_thin_55 (by decide) (by first | assumption | (unfold iR; omega)) (by first | assumption | (unfold iR; omega)) (fun c55 => ?_) (fun c55 => ?_)
          · refine s_n2_iload C dX12_thin_66 ?_
            refine s_n2_istore C dX12_thin_67 rfl ?_
            refine s_w4_iload C dX12_thin_68 ?_
            refine s_n1_iload C dX12_thin_70 ?_
            refine g_icmp_ge 79 C dX12_thin_71 (by decide) (by first | assumption | (unfold iR; omega)) (by first | assumption | (unfold iR; omega)) (fun c71 => ?_) (fun c71 => by exfalso; omega)
            refine s_n1_iload C dX12_thin_79 ?_
            refine s_n1_istore C dX12_thin_80 rfl ?_
            refine s_w3_iinc C dX12_thin_81 rfl ?_
            refine g_goto 23 C dX12_thin_84 (by decide) ?_
            have e1 : itI (fun i m => min m ((xC X).1 i)) (1000 : Int) (k + 1) = L := (itI_s (fun i m => min m ((xC X).1 i)) (1000 : Int) h1.1).trans (by rw [← hL]; omega)
            have e2 := itI_s (fun i x => if (xC X).1 i = L then bOr x (bShl 1 i) else x) (0 : Int) h1.1
            rw [if_neg c55, ← hT] at e2
            exact ih _ (by omega) (k + 1) _ _ _ s b hR q1 e1.symm e2.symm (by omega) (by omega) rfl
          · refine s_n2_iload C dX12_thin_58 ?_
            refine g_iconst C dX12_thin_59 ?_
            refine s_n3_iload C dX12_thin_60 ?_
            refine g_ishl C dX12_thin_61 ?_
            refine g_ior C dX12_thin_62 ?_
            refine g_goto 67 C dX12_thin_63 (by decide) ?_
            refine s_n2_istore C dX12_thin_67 rfl ?_
            refine s_w4_iload C dX12_thin_68 ?_
            refine s_n1_iload C dX12_thin_70 ?_
            refine g_icmp_ge 79 C dX12_thin_71 (by decide) (by first | assumption | (unfold iR; omega)) (by first | assumption | (unfold iR; omega)) (fun c71 => ?_) (fun c71 => by exfalso; omega)
            refine s_n1_iload C dX12_thin_79 ?_
            refine s_n1_istore C dX12_thin_80 rfl ?_
            refine s_w3_iinc C dX12_thin_81 rfl ?_
            refine g_goto 23 C dX12_thin_84 (by decide) ?_
            have e1 : itI (fun i m => min m ((xC X).1 i)) (1000 : Int) (k + 1) = L := (itI_s (fun i m => min m ((xC X).1 i)) (1000 : Int) h1.1).trans (by rw [← hL]; omega)
            have e2 := itI_s (fun i x => if (xC X).1 i = L then bOr x (bShl 1 i) else x) (0 : Int) h1.1
            rw [if_pos c55, ← hT] at e2
            exact ih _ (by omega) (k + 1) _ _ _ s b hR q1 e1.symm e2.symm (by omega) (by omega) rfl
        · refine g_iconst C dX12_thin_46 ?_
          refine s_n3_iload C dX12_thin_47 ?_
          refine g_ishl C dX12_thin_48 ?_
          refine g_goto 67 C dX12_thin_49 (by decide) ?_
          refine s_n2_istore C dX12_thin_67 rfl ?_
          refine s_w4_iload C dX12_thin_68 ?_
          refine s_n1_iload C dX12_thin_70 ?_
          refine g_icmp_ge 79 C dX12_thin_71 (by decide) (by first | assumption | (unfold iR; omega)) (by first | assumption | (unfold iR; omega)) (fun c71 => by exfalso; omega) (fun c71 => ?_)
          refine s_w4_iload C dX12_thin_74 ?_
          refine g_goto 80 C dX12_thin_76 (by decide) ?_
          refine s_n1_istore C dX12_thin_80 rfl ?_
          refine s_w3_iinc C dX12_thin_81 rfl ?_
          refine g_goto 23 C dX12_thin_84 (by decide) ?_
          have e1 : itI (fun i m => min m ((xC X).1 i)) (1000 : Int) (k + 1) = (xC X).1 k := (itI_s (fun i m => min m ((xC X).1 i)) (1000 : Int) h1.1).trans (by rw [← hL]; omega)
          have e2 := itI_s (fun i x => if (xC X).1 i = (xC X).1 k then bOr x (bShl 1 i) else x) (0 : Int) h1.1
          rw [if_pos rfl, thin_0 h1.1 (fun i i0 i1 => by have := min_le (S := xC X) (m := 1000) k.toNat i i0 (by omega); rw [show ((k.toNat : Nat) : Int) = k by omega, ← hL] at this; omega), bOr_0 (bShl_R _ _)] at e2
          exact ih _ (by omega) (k + 1) _ _ _ s b hR q1 e1.symm e2.symm (by omega) (by omega) rfl
  refine s_n0_aload C dX12_thin_0 ?_
  refine g_iconst C dX12_thin_1 ?_
  refine g_put C fp_X12_44_12 dX12_thin_2 (YO_o ..) (Nat.le_of_ble_eq_true rfl) (gfit_i _) ?_
  rw [YO_p0]
  obtain ⟨b, hR⟩ := h0
  have hR := hR.th 0
  generalize ((fu s0.1 0 0, s0.2) : YT) = s at hR ⊢
  refine s_n0_aload C dX12_thin_5 ?_
  refine g_invV C (ct_X12_isThere hR.tab hR.bk hO.td) (YO_o ..) cv_X12_177_12 (rmk_ok (by decide) (by decide) (by decide) (by decide)) (Nat.le_of_ble_eq_true rfl) rfl dX12_thin_6 rfl (q_r0 ?_)
  refine g_tifne 15 C dX12_thin_9 (by decide)  (fun c9 => ?_) (fun c9 => ?_)
  · refine g_sipush C dX12_thin_15 (by decide) ?_
    refine s_n1_istore C dX12_thin_18 rfl ?_
    refine g_iconst C dX12_thin_19 ?_
    refine s_n2_istore C dX12_thin_20 rfl ?_
    refine g_iconst C dX12_thin_21 ?_
    refine s_n3_istore C dX12_thin_22 rfl ?_
    exact lp _ 0 1000 0 _ s b hR c9 rfl rfl (by omega) (by omega) rfl
  · refine g_ldc (-1000002) C wd_706 dX12_thin_12 ?_
    refine g_iret C E dX12_thin_14 (by decide) ?_
    unfold xThin
    rw [if_pos c9]
    exact ⟨rfl, rfl, _, rfl, b, hR⟩
set_option maxRecDepth 20000 in
theorem ct_X12_wetFor {X : XT} {s0 : YT} {M : gM} {n : Int} (h0 : yRel X s0) (hO : xOK X) {a t : Int} (ha : iR a) (ht : iR t) : CT yX12_wetFor cX12_wetFor 7 (some .int) (rmk 3 0 0) [vr 152, vi a, vi t] (YO s0 M) n (yP (xWet X a t) M n) := by
  refine CT.of (by decide) (fun _ => Nat.le_of_ble_eq_true rfl) (fun κ C E => ?_)
  show G κ (YO s0 M) n [some (vr 152), some (vi a), some (vi t), none, none, none, none] 0 [] 0 0
  obtain ⟨E0, hE⟩ : ∃ E0, E0 = wfN 101 X a t 0 := ⟨_, rfl⟩
  have li : ∀ (z : Nat) (k A w : Int) (q6 : Option gV) (s : YT) (b : Int → Int), yR X s b → (0 ≤ a ∧ a < (xP X).1) → (0 ≤ t ∧ t ≤ 99) → (0 ≤ w ∧ w ≤ 99) → A = gaI (xC X) (pGo ((xP X).2.1 a) ((xP X).2.2.1 a) ((xP X).2.2.2 a) (sfWet (xC X) w)) t k ((xP X).2.2.2 a) → 0 ≤ k ∧ k ≤ (xP X).2.2.1 a → ((xP X).2.2.1 a - k).toNat = z → (∀ q6, G κ (YO (yS 5 s (pGo ((xP X).2.1 a) ((xP X).2.2.1 a) ((xP X).2.2.2 a) (sfWet (xC X) w)) b) M) n [some (vr 152), some (vi a), some (vi t), some (vi w), some (vi (gaI (xC X) (pGo ((xP X).2.1 a) ((xP X).2.2.1 a) ((xP X).2.2.2 a) (sfWet (xC X) w)) t ((xP X).2.2.1 a) ((xP X).2.2.2 a))), some (vi ((xP X).2.2.1 a)), q6] 124 [] 0 0) → G κ (YO (yS 5 s (pGo ((xP X).2.1 a) ((xP X).2.2.1 a) ((xP X).2.2.2 a) (sfWet (xC X) w)) b) M) n [some (vr 152), some (vi a), some (vi t), some (vi w), some (vi A), some (vi k), q6] 62 [] 0 0 := by
    intro z
    induction z using Nat.strongRecOn with
    | ind z ih =>
      intro k A w q6 s b hR q1 q2 q3 hA h1 hz hk
      have hwa := (hO.ps.2.2 a q1.1 q1.2).2
      have w1 := hwa.1
      have w2 := hwa.2.1
      have hS2 : sfOK (pGo ((xP X).2.1 a) ((xP X).2.2.1 a) ((xP X).2.2.2 a) (sfWet (xC X) w)) := pGo_ok hwa (sfWet_ok hO.cs q3)
      have hA01 := gaI_b (xC X) (pGo ((xP X).2.1 a) ((xP X).2.2.1 a) ((xP X).2.2.2 a) (sfWet (xC X) w)) t ((xP X).2.2.2 a) h1.1
      rw [← hA] at hA01
      have es : gaI (xC X) (pGo ((xP X).2.1 a) ((xP X).2.2.1 a) ((xP X).2.2.2 a) (sfWet (xC X) w)) t (k + 1) ((xP X).2.2.2 a) = (if A = 0 then 0 else if decide ((xC X).1 ((xP X).2.2.2 a k) + t ≤ (pGo ((xP X).2.1 a) ((xP X).2.2.1 a) ((xP X).2.2.2 a) (sfWet (xC X) w)).1 ((xP X).2.2.2 a k)) then 1 else 0) := by rw [hA]; exact itI_s _ _ h1.1
      refine s_w5_iload C dX12_wetFor_62 ?_
      refine s_n0_aload C dX12_wetFor_64 ?_
      refine s_n1_iload C dX12_wetFor_65 ?_
      refine g_invV C (ct_X12_cellsOf (s := yS 5 s (pGo ((xP X).2.1 a) ((xP X).2.2.1 a) ((xP X).2.2.2 a) (sfWet (xC X) w)) b) (S := xC X) hR.tab hR.bk hO.ps q1) (YO_o ..) cv_X12_157_12 (rmk_ok (by decide) (by decide) (by decide) (by decide)) (Nat.le_of_ble_eq_true rfl) rfl dX12_wetFor_66 rfl (q_r0 ?_)
      refine g_icmp_ge 124 C dX12_wetFor_69 (by decide) (by first | assumption | (unfold iR; omega)) (by first | assumption | (unfold iR; omega)) (fun c69 => ?_) (fun c69 => ?_)
      · have ek : k = (xP X).2.2.1 a := by omega
        subst ek
        rw [hA]
        exact hk _
      · have hcc := hwa.2.2 k h1.1 (by omega)
        have b1 := hS2.1 ((xP X).2.2.2 a k) hcc.1 hcc.2
        have b2 := hO.cs.1 ((xP X).2.2.2 a k) hcc.1 hcc.2
        refine s_n0_aload C dX12_wetFor_72 ?_
        refine s_n1_iload C dX12_wetFor_73 ?_
        refine s_w5_iload C dX12_wetFor_74 ?_
        refine g_invV C (ct_X12_cellAt (s := yS 5 s (pGo ((xP X).2.1 a) ((xP X).2.2.1 a) ((xP X).2.2.2 a) (sfWet (xC X) w)) b) (S := xC X) hR.tab hR.bk hO.ps q1 (k := k) (by omega)) (YO_o ..) cv_X12_160_12 (rmk_ok (by decide) (by decide) (by decide) (by decide)) (Nat.le_of_ble_eq_true rfl) rfl dX12_wetFor_76 rfl (q_r0 ?_)
        refine s_w6_istore C dX12_wetFor_79 rfl ?_
        refine s_w4_iload C dX12_wetFor_81 ?_
        refine g_if_eq 115 C dX12_wetFor_83 (by decide) (by unfold iR; omega) (fun c83 => ?_) (fun c83 => ?_)
        · refine g_iconst C dX12_wetFor_115 ?_
          refine s_w4_istore C dX12_wetFor_116 rfl ?_
          refine s_w5_iinc C dX12_wetFor_118 rfl ?_
          refine g_goto 62 C dX12_wetFor_121 (by decide) ?_
          rw [if_pos c83] at es
          exact ih _ (by omega) (k + 1) _ w _ s b hR q1 q2 q3 es.symm (by omega) rfl hk
        · refine s_n0_aload C dX12_wetFor_86 ?_
          refine g_get C fd_X12_25_12 dX12_wetFor_87 (YO_o ..) rfl ?_
          refine g_bipush C dX12_wetFor_90 (by decide) ?_
          refine s_w6_iload C dX12_wetFor_92 ?_
          refine g_iadd C dX12_wetFor_94 ?_
          refine g_iald C dX12_wetFor_95 (YO_a5 ..) (by omega) ?_
          show G κ _ n _ _ (vi (pk (pGo ((xP X).2.1 a) ((xP X).2.2.1 a) ((xP X).2.2.2 a) (sfWet (xC X) w)) b (6 + (xP X).2.2.2 a k)) :: _) _ _
          rw [pS_f hcc]
          refine s_n0_aload C dX12_wetFor_96 ?_
          refine g_get C fd_X12_19_12 dX12_wetFor_97 (YO_o ..) rfl ?_
          refine g_bipush C dX12_wetFor_100 (by decide) ?_
          refine s_w6_iload C dX12_wetFor_102 ?_
          refine g_iadd C dX12_wetFor_104 ?_
          refine g_iald C dX12_wetFor_105 (YO_a3 ..) (by omega) ?_
          rw [show (yS 5 s (pGo ((xP X).2.1 a) ((xP X).2.2.1 a) ((xP X).2.2.2 a) (sfWet (xC X) w)) b).2 3 = pk (xC X) b from hR.tab, pS_f hcc]
          refine g_isub C dX12_wetFor_106 ?_
          refine s_n2_iload C dX12_wetFor_107 ?_
          refine g_icmp_lt 115 C dX12_wetFor_108 (by decide) (by unfold iR; omega) (by unfold iR; omega) (fun c108 => ?_) (fun c108 => ?_)
          · refine g_iconst C dX12_wetFor_115 ?_
            refine s_w4_istore C dX12_wetFor_116 rfl ?_
            refine s_w5_iinc C dX12_wetFor_118 rfl ?_
            refine g_goto 62 C dX12_wetFor_121 (by decide) ?_
            rw [if_neg c83, decide_eq_false (by omega)] at es
            exact ih _ (by omega) (k + 1) _ w _ s b hR q1 q2 q3 es.symm (by omega) rfl hk
          · refine g_iconst C dX12_wetFor_111 ?_
            refine g_goto 116 C dX12_wetFor_112 (by decide) ?_
            refine s_w4_istore C dX12_wetFor_116 rfl ?_
            refine s_w5_iinc C dX12_wetFor_118 rfl ?_
            refine g_goto 62 C dX12_wetFor_121 (by decide) ?_
            rw [if_neg c83, decide_eq_true (by omega)] at es
            exact ih _ (by omega) (k + 1) _ w _ s b hR q1 q2 q3 es.symm (by omega) rfl hk
  have lp : ∀ (f : Nat) (w : Int) (s : YT) (b : Int → Int) (q4 q5 q6 : Option gV), yR X s b → (0 ≤ a ∧ a < (xP X).1) → (0 ≤ t ∧ t ≤ 99) → 0 ≤ w ∧ w ≤ 100 → 101 ≤ f + w → E0 = wfN f X a t w → G κ (YO s M) n [some (vr 152), some (vi a), some (vi t), some (vi w), q4, q5, q6] 30 [] 0 0 := by
    intro f
    induction f with
    | zero => intro w s b q4 q5 q6 hR q1 q2 h1 h2 h4; exfalso; omega
    | succ f ih =>
      intro w s b q4 q5 q6 hR q1 q2 h1 h2 h4
      unfold wfN at h4
      have hwa := (hO.ps.2.2 a q1.1 q1.2).2
      have w1 := hwa.1
      have hgb := gaI_b (xC X) (pGo ((xP X).2.1 a) ((xP X).2.2.1 a) ((xP X).2.2.2 a) (sfWet (xC X) w)) t ((xP X).2.2.2 a) (len := (xP X).2.2.1 a) (by omega)
      refine s_n3_iload C dX12_wetFor_30 ?_
      refine g_bipush C dX12_wetFor_31 (by decide) ?_
      refine g_icmp_ge 137 C dX12_wetFor_33 (by decide) (by first | assumption | (unfold iR; omega)) (by first | assumption | (unfold iR; omega)) (fun c33 => ?_) (fun c33 => ?_)
      · refine g_ldc (-1000000) C wd_621 dX12_wetFor_137 ?_
        refine g_iret C E dX12_wetFor_139 (by decide) ?_
        rw [if_pos (by omega)] at h4
        unfold xWet
        rw [if_neg (not_not_intro q1), if_neg (not_not_intro q2), ← hE, h4]
        exact ⟨rfl, rfl, _, rfl, b, hR⟩
      · refine s_n0_aload C dX12_wetFor_36 ?_
        refine g_invV C (ct_X12_layThen hR.tab) (YO_o ..) cv_X12_211_12 (rmk_ok (by decide) (by decide) (by decide) (by decide)) (Nat.le_of_ble_eq_true rfl) rfl dX12_wetFor_37 rfl (q_v0 ?_)
        refine s_n0_aload C dX12_wetFor_40 ?_
        refine g_get C fd_X12_25_12 dX12_wetFor_41 (YO_o ..) rfl ?_
        refine g_iconst C dX12_wetFor_44 ?_
        refine s_n3_iload C dX12_wetFor_45 ?_
        refine g_iast C dX12_wetFor_46 (YO_a5 ..) (by omega) ?_
        rw [show (yS 5 s (xC X) b).2 5 = pk (xC X) b from rfl, pS_u2, yS_u5]
        refine s_n0_aload C dX12_wetFor_47 ?_
        refine s_n0_aload C dX12_wetFor_48 ?_
        refine g_get C fd_X12_25_12 dX12_wetFor_49 (YO_o ..) rfl ?_
        refine s_n1_iload C dX12_wetFor_52 ?_
        refine g_invV C (ct_X12_pass_5 (S := sfWet (xC X) w) (p := a) hR.tab hR.bk hO.ps q1 (sfWet_ok hO.cs (by omega))) (YO_o ..) cv_X12_173_12 (rmk_ok (by decide) (by decide) (by decide) (by decide)) (Nat.le_of_ble_eq_true rfl) rfl dX12_wetFor_53 rfl (q_v0 ?_)
        refine g_iconst C dX12_wetFor_56 ?_
        refine s_w4_istore C dX12_wetFor_57 rfl ?_
        refine g_iconst C dX12_wetFor_59 ?_
        refine s_w5_istore C dX12_wetFor_60 rfl ?_
        refine li _ 0 1 w _ s b hR q1 q2 (by omega) rfl (by omega) rfl (fun q6 => ?_)
        refine s_w4_iload C dX12_wetFor_124 ?_
        refine g_if_eq 131 C dX12_wetFor_126 (by decide) (by unfold iR; omega) (fun c126 => ?_) (fun c126 => ?_)
        · refine s_w3_iinc C dX12_wetFor_131 rfl ?_
          refine g_goto 30 C dX12_wetFor_134 (by decide) ?_
          rw [if_neg (by omega), if_pos c126] at h4
          exact ih (w + 1) _ b _ _ _ (hR.t5 _ _) q1 q2 (by omega) (by omega) h4
        · refine s_n3_iload C dX12_wetFor_129 ?_
          refine g_iret C E dX12_wetFor_130 (by decide) ?_
          rw [if_neg (by omega), if_neg c126] at h4
          unfold xWet
          rw [if_neg (not_not_intro q1), if_neg (not_not_intro q2), ← hE, h4]
          exact ⟨rfl, rfl, _, rfl, b, hR.t5 _ _⟩
  refine s_n0_aload C dX12_wetFor_0 ?_
  refine g_iconst C dX12_wetFor_1 ?_
  refine g_put C fp_X12_44_12 dX12_wetFor_2 (YO_o ..) (Nat.le_of_ble_eq_true rfl) (gfit_i _) ?_
  rw [YO_p0]
  obtain ⟨b, hR⟩ := h0
  have hR := hR.th 0
  generalize ((fu s0.1 0 0, s0.2) : YT) = s at hR ⊢
  refine s_n0_aload C dX12_wetFor_5 ?_
  refine s_n1_iload C dX12_wetFor_6 ?_
  refine g_invV C (ct_X12_isPass hR.tab hR.bk hO.ps (by assumption)) (YO_o ..) cv_X12_189_12 (rmk_ok (by decide) (by decide) (by decide) (by decide)) (Nat.le_of_ble_eq_true rfl) rfl dX12_wetFor_7 rfl (q_r0 ?_)
  refine g_bifeq 25 C dX12_wetFor_10 (by decide)  (fun c10 => ?_) (fun c10 => ?_)
  · refine g_ldc (-1000001) C wd_609 dX12_wetFor_25 ?_
    refine g_iret C E dX12_wetFor_27 (by decide) ?_
    unfold xWet
    rw [if_pos c10]
    exact ⟨rfl, rfl, _, rfl, b, hR⟩
  · refine s_n2_iload C dX12_wetFor_13 ?_
    refine g_i2l C dX12_wetFor_14 (by first | assumption | (unfold iR; omega)) ?_
    refine g_lconst0 C dX12_wetFor_15 ?_
    refine g_ldc2 (99) C wd_707 dX12_wetFor_16 ?_
    refine g_invS C (ct_X12_in (v := t) (lo := 0) (hi := 99) (by unfold iR at *; unfold lR; omega) (by unfold iR at *; unfold lR; omega) (by unfold iR at *; unfold lR; omega)) cs_X12_54 (rmk_ok (by decide) (by decide) (by decide) (by decide)) (Nat.le_of_ble_eq_true rfl) rfl dX12_wetFor_19 rfl (q_r0 ?_)
    refine g_bifne 28 C dX12_wetFor_22 (by decide)  (fun c22 => ?_) (fun c22 => ?_)
    · refine g_iconst C dX12_wetFor_28 ?_
      refine s_n3_istore C dX12_wetFor_29 rfl ?_
      exact lp 101 0 s b _ _ _ hR c10 c22 (by omega) (by omega) hE
    · refine g_ldc (-1000001) C wd_609 dX12_wetFor_25 ?_
      refine g_iret C E dX12_wetFor_27 (by decide) ?_
      unfold xWet
      rw [if_neg (not_not_intro c10), if_pos c22]
      exact ⟨rfl, rfl, _, rfl, b, hR⟩
