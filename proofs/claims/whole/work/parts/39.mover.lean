/-! PadPolishModel: over, order -/
theorem i32_demorgan (c a d : Int32) : (c &&& (a ^^^ -1)) &&& (d ^^^ -1) = c &&& ((a ||| d) ^^^ -1) := by
  apply Int32.toBitVec_inj.mp
  show (c.toBitVec &&& (a.toBitVec ^^^ BitVec.allOnes 32)) &&& (d.toBitVec ^^^ BitVec.allOnes 32) = c.toBitVec &&& ((a.toBitVec ||| d.toBitVec) ^^^ BitVec.allOnes 32)
  apply BitVec.eq_of_getLsbD_eq
  intro i hi
  simp only [BitVec.getLsbD_and, BitVec.getLsbD_xor, BitVec.getLsbD_or, BitVec.getLsbD_allOnes, hi, decide_true]
  cases c.toBitVec.getLsbD i <;> cases a.toBitVec.getLsbD i <;> cases d.toBitVec.getLsbD i <;> rfl
theorem i32_and_m1 (c : Int32) : c &&& -1 = c := by
  apply Int32.toBitVec_inj.mp
  show c.toBitVec &&& BitVec.allOnes 32 = c.toBitVec
  apply BitVec.eq_of_getLsbD_eq
  intro i hi
  simp only [BitVec.getLsbD_and, BitVec.getLsbD_allOnes, hi, decide_true]
  cases c.toBitVec.getLsbD i <;> rfl
theorem i32_xor_0 (c : Int32) : c &&& ((0 : Int32) ^^^ -1) = c := by
  rw [show (0 : Int32) ^^^ -1 = -1 by decide]
  exact i32_and_m1 c
theorem bAnd_dm (c a d : Int) : bAnd (bAnd c (bXor a (-1))) (bXor d (-1)) = bAnd c (bXor (bOr a d) (-1)) := by
  unfold bAnd bXor bOr
  rw [iI_of, iI_of, iI_of, iI_of, iI_of, show Int32.ofInt (-1) = -1 from rfl, i32_demorgan]
theorem bAnd_m1 {c : Int} (h : iR c) : bAnd c (-1) = c := by
  unfold bAnd
  rw [show Int32.ofInt (-1) = -1 from rfl, i32_and_m1, iI_toInt h]
theorem bAnd_x0 {c : Int} (h : iR c) : bAnd c (bXor 0 (-1)) = c := by
  unfold bAnd bXor
  rw [iI_of, show Int32.ofInt (-1) = -1 from rfl, show Int32.ofInt 0 = 0 from rfl, i32_xor_0, iI_toInt h]
theorem bits_f : ∀ v : Fin 16, itI (fun k x => x + bAnd (bShr (v.val : Int) k) 1) (0 : Int) 15 = bc4 (v.val : Int) := by decide +kernel
theorem bits_e {v : Int} (hv : 0 ≤ v ∧ v < 16) : itI (fun k x => x + bAnd (bShr v k) 1) (0 : Int) 15 = bc4 v := by
  have := bits_f ⟨v.toNat, by omega⟩
  simpa [show ((v.toNat : Nat) : Int) = v by omega] using this
set_option maxRecDepth 20000 in
theorem ct_X12_bits {v : Int} {M : gM} {n : Int} (hv : 0 ≤ v ∧ v < 16) : CT yX12_bits cX12_bits 3 (some .int) (rmk 0 0 0) [vi v] M n (qr (some (vi (bc4 v))) M n) := by
  refine CT.of (by decide) (fun _ => Nat.le_of_ble_eq_true rfl) (fun κ C E => ?_)
  show G κ M n [some (vi v), none, none] 0 [] 0 0
  have lp : ∀ (z : Nat) (k : Int), 0 ≤ k ∧ k ≤ 15 → (15 - k).toNat = z → G κ M n [some (vi v), some (vi (itI (fun k x => x + bAnd (bShr v k) 1) (0 : Int) k)), some (vi k)] 4 [] 0 0 := by
    intro z
    induction z using Nat.strongRecOn with
    | ind z ih =>
      intro k h1 hz
      refine s_n2_iload C dX12_bits_4 ?_
      refine g_bipush C dX12_bits_5 (by decide) ?_
      refine g_icmp_ge 24 C dX12_bits_7 (by decide) (by first | assumption | (unfold iR; omega)) (by first | assumption | (unfold iR; omega)) (fun c7 => ?_) (fun c7 => ?_)
      · refine s_n1_iload C dX12_bits_24 ?_
        refine g_iret C E dX12_bits_25 (by decide) ?_
        have e : k = 15 := by omega
        subst e
        rw [bits_e hv]
        exact ⟨rfl, rfl, rfl⟩
      · refine s_n1_iload C dX12_bits_10 ?_
        refine s_n0_iload C dX12_bits_11 ?_
        refine s_n2_iload C dX12_bits_12 ?_
        refine g_ishr C dX12_bits_13 ?_
        refine g_iconst C dX12_bits_14 ?_
        refine g_iand C dX12_bits_15 ?_
        refine g_iadd C dX12_bits_16 ?_
        refine s_n1_istore C dX12_bits_17 rfl ?_
        refine s_w2_iinc C dX12_bits_18 rfl ?_
        refine g_goto 4 C dX12_bits_21 (by decide) ?_
        have e := itI_s (fun k x => x + bAnd (bShr v k) 1) (0 : Int) h1.1
        rw [← e]
        exact ih _ (by omega) (k + 1) (by omega) rfl
  refine g_iconst C dX12_bits_0 ?_
  refine s_n1_istore C dX12_bits_1 rfl ?_
  refine g_iconst C dX12_bits_2 ?_
  refine s_n2_istore C dX12_bits_3 rfl ?_
  exact lp _ 0 (by omega) rfl
theorem ovN_q (X : XT) (cs : Int) {k : Int} (hk : 0 ≤ k) : ((ovN X cs k).1 = -1000000 ∧ (ovN X cs k).2 = 5) ∨ (0 ≤ (ovN X cs k).1 ∧ (ovN X cs k).1 < k ∧ (ovN X cs k).2 = bc4 (ovN X cs k).1) := itI_inv (g := fun s q => if bAnd cs (bXor (psCells (xP X) s) (-1)) = 0 ∧ bc4 s < q.2 then (s, bc4 s) else q) (a := ((-1000000 : Int), (5 : Int))) (fun i q => (q.1 = -1000000 ∧ q.2 = 5) ∨ (0 ≤ q.1 ∧ q.1 < i ∧ q.2 = bc4 q.1)) (Or.inl ⟨rfl, rfl⟩) (fun i x h0 hx => by
  split
  · exact Or.inr ⟨h0, by show i < i + 1; omega, rfl⟩
  · rcases hx with q | q
    · exact Or.inl q
    · exact Or.inr ⟨q.1, by omega, q.2.2⟩) hk
set_option maxRecDepth 20000 in
theorem ct_X12_over {X : XT} {s0 : YT} {M : gM} {n : Int} (h0 : yRel X s0) (hO : xOK X) {cs d : Int} (hcs : iR cs) (hd : iR d) : CT yX12_over cX12_over 7 (some .int) (rmk 2 0 0) [vr 152, vi cs, vi d] (YO s0 M) n (yP (xOver X cs d) M n) := by
  refine CT.of (by decide) (fun _ => Nat.le_of_ble_eq_true rfl) (fun κ C E => ?_)
  show G κ (YO s0 M) n [some (vr 152), some (vi cs), some (vi d), none, none, none, none] 0 [] 0 0
  have hp1 := hO.ps.1
  have hp2 := hO.ps.2.1
  have hA := psA_b hO.ps
  have hAd : dnA X = bShl 1 (xP X).1 - 1 := rfl
  have li : ∀ (z : Nat) (p T best set : Int) (s : YT) (b : Int → Int), yR X s b → (0 ≤ cs ∧ cs ≤ 32767) → T = bAnd cs (bXor (itI (fun p a => if bAnd (bShr set p) 1 = 1 then bOr a (psCell (xP X) p) else a) (0 : Int) p) (-1)) → 0 ≤ p ∧ p ≤ (xP X).1 → ((xP X).1 - p).toNat = z → (∀ q6, G κ (YO s M) n [some (vr 152), some (vi cs), some (vi d), some (vi best), some (vi set), some (vi (bAnd cs (bXor (psCells (xP X) set) (-1)))), q6] 105 [] 0 0) → G κ (YO s M) n [some (vr 152), some (vi cs), some (vi d), some (vi best), some (vi set), some (vi T), some (vi p)] 60 [] 0 0 := by
    intro z
    induction z using Nat.strongRecOn with
    | ind z ih =>
      intro p T best set s b hR q1 hT h1 hz hk
      have e5 : s.2 3 5 = (xP X).1 := by rw [hR.tab, pq_b (Or.inr (Or.inl rfl))]; exact hR.bk.2.2.1
      have es := itI_s (fun p a => if bAnd (bShr set p) 1 = 1 then bOr a (psCell (xP X) p) else a) (0 : Int) h1.1
      refine s_w6_iload C dX12_over_60 ?_
      refine s_n0_aload C dX12_over_62 ?_
      refine g_get C fd_X12_19_12 dX12_over_63 (YO_o ..) rfl ?_
      refine g_iconst C dX12_over_66 ?_
      refine g_iald C dX12_over_67 (YO_a3 ..) (by omega) ?_
      rw [e5]
      refine g_icmp_ge 105 C dX12_over_68 (by decide) (by first | assumption | (unfold iR; omega)) (by first | assumption | (unfold iR; omega)) (fun c68 => ?_) (fun c68 => ?_)
      · have ep : p = (xP X).1 := by omega
        subst ep
        rw [hT]
        exact hk _
      · refine s_w5_iload C dX12_over_71 ?_
        refine s_w4_iload C dX12_over_73 ?_
        refine s_w6_iload C dX12_over_75 ?_
        refine g_ishr C dX12_over_77 ?_
        refine g_iconst C dX12_over_78 ?_
        refine g_iand C dX12_over_79 ?_
        refine g_iconst C dX12_over_80 ?_
        refine g_icmp_ne 95 C dX12_over_81 (by decide) (by exact bAnd_R _ _) (by unfold iR; omega) (fun c81 => ?_) (fun c81 => ?_)
        · refine g_iconst C dX12_over_95 ?_
          refine g_iand C dX12_over_96 ?_
          refine s_w5_istore C dX12_over_97 rfl ?_
          refine s_w6_iinc C dX12_over_99 rfl ?_
          refine g_goto 60 C dX12_over_102 (by decide) ?_
          rw [if_neg c81] at es
          exact ih _ (by omega) (p + 1) _ best set s b hR q1 (by rw [es, hT, bAnd_m1 (bAnd_R _ _)]) (by omega) rfl hk
        · refine s_n0_aload C dX12_over_84 ?_
          refine s_w6_iload C dX12_over_85 ?_
          refine g_invV C (ct_X12_overBy hR.tab hR.bk hO.ps (p := p) ⟨h1.1, by omega⟩) (YO_o ..) cv_X12_208_12 (rmk_ok (by decide) (by decide) (by decide) (by decide)) (Nat.le_of_ble_eq_true rfl) rfl dX12_over_87 rfl (q_r0 ?_)
          refine g_iconst C dX12_over_90 ?_
          refine g_ixor C dX12_over_91 ?_
          refine g_goto 96 C dX12_over_92 (by decide) ?_
          refine g_iand C dX12_over_96 ?_
          refine s_w5_istore C dX12_over_97 rfl ?_
          refine s_w6_iinc C dX12_over_99 rfl ?_
          refine g_goto 60 C dX12_over_102 (by decide) ?_
          rw [if_pos c81] at es
          exact ih _ (by omega) (p + 1) _ best set s b hR q1 (by rw [es, hT, bAnd_dm]) (by omega) rfl hk
  have lp : ∀ (z : Nat) (j : Int) (s : YT) (b : Int → Int) (q5 q6 : Option gV), yR X s b → ¬ X.1 0 = 0 → (0 ≤ cs ∧ cs ≤ 32767) → (0 ≤ d ∧ d ≤ 1) → 0 ≤ j ∧ j ≤ dnA X + 1 → (dnA X + 1 - j).toNat = z → G κ (YO s M) n [some (vr 152), some (vi cs), some (vi d), some (vi (ovN X cs j).1), some (vi j), q5, q6] 41 [] 0 0 := by
    intro z
    induction z using Nat.strongRecOn with
    | ind z ih =>
      intro j s b q5 q6 hR q1 q2 q3 h1 hz
      have e5 : s.2 3 5 = (xP X).1 := by rw [hR.tab, pq_b (Or.inr (Or.inl rfl))]; exact hR.bk.2.2.1
      have es : ovN X cs (j + 1) = (if bAnd cs (bXor (psCells (xP X) j) (-1)) = 0 ∧ bc4 j < (ovN X cs j).2 then (j, bc4 j) else ovN X cs j) := itI_s _ _ h1.1
      have hq := ovN_q X cs h1.1
      have hbc : 0 ≤ bc4 j ∧ bc4 j ≤ 4 := by unfold bc4; omega
      refine s_w4_iload C dX12_over_41 ?_
      refine g_iconst C dX12_over_43 ?_
      refine s_n0_aload C dX12_over_44 ?_
      refine g_get C fd_X12_19_12 dX12_over_45 (YO_o ..) rfl ?_
      refine g_iconst C dX12_over_48 ?_
      refine g_iald C dX12_over_49 (YO_a3 ..) (by omega) ?_
      rw [e5]
      refine g_ishl C dX12_over_50 ?_
      refine g_icmp_ge 141 C dX12_over_51 (by decide) (by unfold iR; omega) (by exact bShl_R _ _) (fun c51 => ?_) (fun c51 => ?_)
      · refine s_n3_iload C dX12_over_141 ?_
        refine g_ldc (-1000000) C wd_621 dX12_over_142 ?_
        refine g_icmp_eq 152 C dX12_over_144 (by decide) (by unfold iR; omega) (by unfold iR; omega) (fun c144 => ?_) (fun c144 => ?_)
        · refine s_n3_iload C dX12_over_152 ?_
          refine g_goto 160 C dX12_over_153 (by decide) ?_
          refine g_iret C E dX12_over_160 (by decide) ?_
          have ej : j = dnA X + 1 := by omega
          subst ej
          unfold xOver
          rw [if_neg q1, if_neg (not_not_intro q2), if_neg (not_not_intro q3), if_pos (Or.inl c144)]
          exact ⟨rfl, rfl, _, rfl, b, hR⟩
        · refine s_n2_iload C dX12_over_147 ?_
          refine g_iconst C dX12_over_148 ?_
          refine g_icmp_ne 156 C dX12_over_149 (by decide) (by first | assumption | (unfold iR; omega)) (by first | assumption | (unfold iR; omega)) (fun c149 => ?_) (fun c149 => ?_)
          · refine s_n3_iload C dX12_over_156 ?_
            refine g_invS C (ct_X12_bits (v := (ovN X cs j).1) (by omega)) cs_X12_242 (rmk_ok (by decide) (by decide) (by decide) (by decide)) (Nat.le_of_ble_eq_true rfl) rfl dX12_over_157 rfl (q_r0 ?_)
            refine g_iret C E dX12_over_160 (by decide) ?_
            have ej : j = dnA X + 1 := by omega
            subst ej
            unfold xOver
            rw [if_neg q1, if_neg (not_not_intro q2), if_neg (not_not_intro q3), if_neg (fun q => q.elim c144 (fun q => c149 q))]
            exact ⟨by have e := (hq.resolve_left (fun q => c144 q.1)).2.2; rw [e], rfl, _, rfl, b, hR⟩
          · refine s_n3_iload C dX12_over_152 ?_
            refine g_goto 160 C dX12_over_153 (by decide) ?_
            refine g_iret C E dX12_over_160 (by decide) ?_
            have ej : j = dnA X + 1 := by omega
            subst ej
            unfold xOver
            rw [if_neg q1, if_neg (not_not_intro q2), if_neg (not_not_intro q3), if_pos (Or.inr c149)]
            exact ⟨rfl, rfl, _, rfl, b, hR⟩
      · refine s_n1_iload C dX12_over_54 ?_
        refine s_w5_istore C dX12_over_55 rfl ?_
        refine g_iconst C dX12_over_57 ?_
        refine s_w6_istore C dX12_over_58 rfl ?_
        refine li _ 0 cs _ j s b hR q2 ?_ (by omega) rfl (fun q6 => ?_)
        · exact (bAnd_x0 (by unfold iR; omega)).symm
        refine s_w5_iload C dX12_over_105 ?_
        refine g_if_ne 133 C dX12_over_107 (by decide) (by exact bAnd_R _ _) (fun c107 => ?_) (fun c107 => ?_)
        · refine s_n3_iload C dX12_over_133 ?_
          refine s_n3_istore C dX12_over_134 rfl ?_
          refine s_w4_iinc C dX12_over_135 rfl ?_
          refine g_goto 41 C dX12_over_138 (by decide) ?_
          rw [if_neg (fun q => c107 q.1)] at es
          have := ih _ (by omega) (j + 1) s b (some (vi (bAnd cs (bXor (psCells (xP X) j) (-1))))) q6 hR q1 q2 q3 (by omega) rfl
          rw [es] at this
          exact this
        · refine s_n3_iload C dX12_over_110 ?_
          refine g_ldc (-1000000) C wd_621 dX12_over_111 ?_
          refine g_icmp_eq 128 C dX12_over_113 (by decide) (by unfold iR; omega) (by unfold iR; omega) (fun c113 => ?_) (fun c113 => ?_)
          · refine s_w4_iload C dX12_over_128 ?_
            refine g_goto 134 C dX12_over_130 (by decide) ?_
            refine s_n3_istore C dX12_over_134 rfl ?_
            refine s_w4_iinc C dX12_over_135 rfl ?_
            refine g_goto 41 C dX12_over_138 (by decide) ?_
            rw [if_pos ⟨c107, by omega⟩] at es
            have := ih _ (by omega) (j + 1) s b (some (vi (bAnd cs (bXor (psCells (xP X) j) (-1))))) q6 hR q1 q2 q3 (by omega) rfl
            rw [es] at this
            exact this
          · refine s_w4_iload C dX12_over_116 ?_
            refine g_invS C (ct_X12_bits (v := j) (by omega)) cs_X12_242 (rmk_ok (by decide) (by decide) (by decide) (by decide)) (Nat.le_of_ble_eq_true rfl) rfl dX12_over_118 rfl (q_r0 ?_)
            refine s_n3_iload C dX12_over_121 ?_
            refine g_invS C (ct_X12_bits (v := (ovN X cs j).1) (by omega)) cs_X12_242 (rmk_ok (by decide) (by decide) (by decide) (by decide)) (Nat.le_of_ble_eq_true rfl) rfl dX12_over_122 rfl (q_r0 ?_)
            refine g_icmp_ge 133 C dX12_over_125 (by decide) (by unfold iR; omega) (by unfold iR bc4; omega) (fun c125 => ?_) (fun c125 => ?_)
            · refine s_n3_iload C dX12_over_133 ?_
              refine s_n3_istore C dX12_over_134 rfl ?_
              refine s_w4_iinc C dX12_over_135 rfl ?_
              refine g_goto 41 C dX12_over_138 (by decide) ?_
              rw [if_neg (fun q => by have := q.2; omega)] at es
              have := ih _ (by omega) (j + 1) s b (some (vi (bAnd cs (bXor (psCells (xP X) j) (-1))))) q6 hR q1 q2 q3 (by omega) rfl
              rw [es] at this
              exact this
            · refine s_w4_iload C dX12_over_128 ?_
              refine g_goto 134 C dX12_over_130 (by decide) ?_
              refine s_n3_istore C dX12_over_134 rfl ?_
              refine s_w4_iinc C dX12_over_135 rfl ?_
              refine g_goto 41 C dX12_over_138 (by decide) ?_
              rw [if_pos ⟨c107, by omega⟩] at es
              have := ih _ (by omega) (j + 1) s b (some (vi (bAnd cs (bXor (psCells (xP X) j) (-1))))) q6 hR q1 q2 q3 (by omega) rfl
              rw [es] at this
              exact this
  refine s_n0_aload C dX12_over_0 ?_
  refine g_iconst C dX12_over_1 ?_
  refine g_put C fp_X12_44_12 dX12_over_2 (YO_o ..) (Nat.le_of_ble_eq_true rfl) (gfit_i _) ?_
  rw [YO_p0]
  obtain ⟨b, hR⟩ := h0
  have hR := hR.th 0
  generalize ((fu s0.1 0 0, s0.2) : YT) = s at hR ⊢
  refine s_n0_aload C dX12_over_5 ?_
  refine g_invV C (ct_X12_isThere hR.tab hR.bk hO.td) (YO_o ..) cv_X12_177_12 (rmk_ok (by decide) (by decide) (by decide) (by decide)) (Nat.le_of_ble_eq_true rfl) rfl dX12_over_6 rfl (q_r0 ?_)
  refine g_tifne 15 C dX12_over_9 (by decide)  (fun c9 => ?_) (fun c9 => ?_)
  · refine s_n1_iload C dX12_over_15 ?_
    refine g_invS C (ct_X12_areCells (v := cs) (by assumption)) cs_X12_239 (rmk_ok (by decide) (by decide) (by decide) (by decide)) (Nat.le_of_ble_eq_true rfl) rfl dX12_over_16 rfl (q_r0 ?_)
    refine g_bifeq 32 C dX12_over_19 (by decide)  (fun c19 => ?_) (fun c19 => ?_)
    · refine g_ldc (-1000001) C wd_609 dX12_over_32 ?_
      refine g_iret C E dX12_over_34 (by decide) ?_
      unfold xOver
      rw [if_neg c9, if_pos c19]
      exact ⟨rfl, rfl, _, rfl, b, hR⟩
    · refine s_n2_iload C dX12_over_22 ?_
      refine g_i2l C dX12_over_23 (by first | assumption | (unfold iR; omega)) ?_
      refine g_lconst0 C dX12_over_24 ?_
      refine g_lconst1 C dX12_over_25 ?_
      refine g_invS C (ct_X12_in (v := d) (lo := 0) (hi := 1) (by unfold iR at *; unfold lR; omega) (by unfold iR at *; unfold lR; omega) (by unfold iR at *; unfold lR; omega)) cs_X12_54 (rmk_ok (by decide) (by decide) (by decide) (by decide)) (Nat.le_of_ble_eq_true rfl) rfl dX12_over_26 rfl (q_r0 ?_)
      refine g_bifne 35 C dX12_over_29 (by decide)  (fun c29 => ?_) (fun c29 => ?_)
      · refine g_ldc (-1000000) C wd_621 dX12_over_35 ?_
        refine s_n3_istore C dX12_over_37 rfl ?_
        refine g_iconst C dX12_over_38 ?_
        refine s_w4_istore C dX12_over_39 rfl ?_
        exact lp _ 0 s b _ _ hR c9 c19 c29 (by omega) rfl
      · refine g_ldc (-1000001) C wd_609 dX12_over_32 ?_
        refine g_iret C E dX12_over_34 (by decide) ?_
        unfold xOver
        rw [if_neg c9, if_neg (not_not_intro c19), if_pos c29]
        exact ⟨rfl, rfl, _, rfl, b, hR⟩
  · refine g_ldc (-1000002) C wd_706 dX12_over_12 ?_
    refine g_iret C E dX12_over_14 (by decide) ?_
    unfold xOver
    rw [if_pos c9]
    exact ⟨rfl, rfl, _, rfl, b, hR⟩
