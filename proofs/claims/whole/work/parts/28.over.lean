/-! PadPolish: over, dust -/
def bUshr (x z : Int) : Int := (((Int32.ofInt x).toUInt32 >>> ((Int32.ofInt z).toUInt32 &&& Int32.toUInt32 31)).toInt32).toInt
section GUS
variable {κ : gC} {y : MethodName} {cc : ByteArray} {nL : Nat} {rm : Room} {M : gM} {n : Int} {L : List (Option gV)} {pc : Nat} {st : List gV} {cells slots : Nat} {x z : Int}
theorem g_iushr (C : gF κ y cc nL rm) (hd : decode cc pc = .ok (.iushr, 1)) (g : G κ M n L (pc + 1) (vi (bUshr x z) :: st) cells slots) : G κ M n L pc (vi z :: vi x :: st) cells slots := fun H locs ls hP hS hL => lv_iushr C.x C.b hd (v := Int32.ofInt (bUshr x z)) (iI_of _).symm (g H locs ls hP hS hL)
end GUS
def bc4 (x : Int) : Int := x % 2 + x / 2 % 2 + x / 4 % 2 + x / 8 % 2
set_option maxRecDepth 20000 in
theorem ct_J6_bitCount_0f7a4 {x : Int} {M : gM} {n : Int} (hx : 0 ≤ x ∧ x < 16) : CT yJ6_bitCount_0f7a4 cJ6_bitCount_0f7a4 1 (some .int) (rmk 0 0 0) [vi x] M n (qr (some (vi (bc4 x))) M n) := by
  refine CT.of (by decide) (fun _ => Nat.le_of_ble_eq_true rfl) (fun κ C E => ?_)
  show G κ M n [some (vi x)] 0 [] 0 0
  refine s_n0_iload C dJ6_bitCount_0f7a4_0 ?_
  refine s_n0_iload C dJ6_bitCount_0f7a4_1 ?_
  refine g_iconst C dJ6_bitCount_0f7a4_2 ?_
  refine g_iushr C dJ6_bitCount_0f7a4_3 ?_
  refine g_ldcw (1431655765) C wd_804 dJ6_bitCount_0f7a4_4 ?_
  refine g_iand C dJ6_bitCount_0f7a4_7 ?_
  refine g_isub C dJ6_bitCount_0f7a4_8 ?_
  refine s_n0_istore C dJ6_bitCount_0f7a4_9 ?_
  refine s_n0_iload C dJ6_bitCount_0f7a4_10 ?_
  refine g_ldcw (858993459) C wd_805 dJ6_bitCount_0f7a4_11 ?_
  refine g_iand C dJ6_bitCount_0f7a4_14 ?_
  refine s_n0_iload C dJ6_bitCount_0f7a4_15 ?_
  refine g_iconst C dJ6_bitCount_0f7a4_16 ?_
  refine g_iushr C dJ6_bitCount_0f7a4_17 ?_
  refine g_ldcw (858993459) C wd_805 dJ6_bitCount_0f7a4_18 ?_
  refine g_iand C dJ6_bitCount_0f7a4_21 ?_
  refine g_iadd C dJ6_bitCount_0f7a4_22 ?_
  refine s_n0_istore C dJ6_bitCount_0f7a4_23 ?_
  refine s_n0_iload C dJ6_bitCount_0f7a4_24 ?_
  refine s_n0_iload C dJ6_bitCount_0f7a4_25 ?_
  refine g_iconst C dJ6_bitCount_0f7a4_26 ?_
  refine g_iushr C dJ6_bitCount_0f7a4_27 ?_
  refine g_iadd C dJ6_bitCount_0f7a4_28 ?_
  refine g_ldcw (252645135) C wd_806 dJ6_bitCount_0f7a4_29 ?_
  refine g_iand C dJ6_bitCount_0f7a4_32 ?_
  refine s_n0_istore C dJ6_bitCount_0f7a4_33 ?_
  refine s_n0_iload C dJ6_bitCount_0f7a4_34 ?_
  refine s_n0_iload C dJ6_bitCount_0f7a4_35 ?_
  refine g_bipush C dJ6_bitCount_0f7a4_36 (by decide) ?_
  refine g_iushr C dJ6_bitCount_0f7a4_38 ?_
  refine g_iadd C dJ6_bitCount_0f7a4_39 ?_
  refine s_n0_istore C dJ6_bitCount_0f7a4_40 ?_
  refine s_n0_iload C dJ6_bitCount_0f7a4_41 ?_
  refine s_n0_iload C dJ6_bitCount_0f7a4_42 ?_
  refine g_bipush C dJ6_bitCount_0f7a4_43 (by decide) ?_
  refine g_iushr C dJ6_bitCount_0f7a4_45 ?_
  refine g_iadd C dJ6_bitCount_0f7a4_46 ?_
  refine s_n0_istore C dJ6_bitCount_0f7a4_47 ?_
  refine s_n0_iload C dJ6_bitCount_0f7a4_48 ?_
  refine g_bipush C dJ6_bitCount_0f7a4_49 (by decide) ?_
  refine g_iand C dJ6_bitCount_0f7a4_51 ?_
  refine g_iret C E dJ6_bitCount_0f7a4_52 (by decide) ?_
  rcases (show x = 0 ∨ x = 1 ∨ x = 2 ∨ x = 3 ∨ x = 4 ∨ x = 5 ∨ x = 6 ∨ x = 7 ∨ x = 8 ∨ x = 9 ∨ x = 10 ∨ x = 11 ∨ x = 12 ∨ x = 13 ∨ x = 14 ∨ x = 15 by omega) with rfl | rfl | rfl | rfl | rfl | rfl | rfl | rfl | rfl | rfl | rfl | rfl | rfl | rfl | rfl | rfl <;> exact ⟨by decide, rfl, rfl⟩
def ovN (X : XT) (cs k : Int) : Int × Int := itI (fun s q => if bAnd cs (bXor (psCells (xP X) s) (-1)) = 0 ∧ bc4 s < q.2 then (s, bc4 s) else q) (-1000000, 5) k
def xOver (X : XT) (cs b : Int) : Int × XT := if X.1 0 = 0 then (-1000002, X) else if ¬ (0 ≤ cs ∧ cs ≤ 32767) then (-1000001, X) else if ¬ (0 ≤ b ∧ b ≤ 1) then (-1000001, X) else (if (ovN X cs (dnA X + 1)).1 = -1000000 ∨ b = 1 then (ovN X cs (dnA X + 1)).1 else (ovN X cs (dnA X + 1)).2, X)
theorem ovN_b (X : XT) (cs : Int) {k : Int} (hk : 0 ≤ k) : ((ovN X cs k).1 = -1000000 ∨ (0 ≤ (ovN X cs k).1 ∧ (ovN X cs k).1 < k)) ∧ 0 ≤ (ovN X cs k).2 ∧ (ovN X cs k).2 ≤ 5 := itI_inv (g := (fun s q => if bAnd cs (bXor (psCells (xP X) s) (-1)) = 0 ∧ bc4 s < q.2 then (s, bc4 s) else q)) (a := ((-1000000 : Int), (5 : Int))) (fun i q => (q.1 = -1000000 ∨ (0 ≤ q.1 ∧ q.1 < i)) ∧ 0 ≤ q.2 ∧ q.2 ≤ 5) (by decide) (fun i x h0 hx => by
  split
  · unfold bc4
    dsimp only
    omega
  · omega) hk
set_option maxRecDepth 20000 in
theorem ct_X11_over {X : XT} {ℓ : Int → Int} {F : gM} {n : Int} {M : gM} (hX : XL X ℓ F n M) (hO : xOK X) {cs b : Int} (hcs : iR cs) (hb : iR b) : CT yX11_over cX11_over 7 (some .int) (rmk 4 0 0) [vr 0, vi cs, vi b] M n (xPost (xOver X cs b) F n) := by
  refine CT.of (by decide) (fun _ => Nat.le_of_ble_eq_true rfl) (fun κ C E => ?_)
  show G κ M n [some (vr 0), some (vi cs), some (vi b), none, none, none, none] 0 [] 0 0
  have hc := hO.c
  have htd := hO.td
  have hA := psA_b hO.ps
  have hAd : dnA X = bShl 1 (xP X).1 - 1 := rfl
  have lp : ∀ (m : Nat) (j : Int) (q : Option gV), ¬ X.1 0 = 0 → (0 ≤ cs ∧ cs ≤ 32767) → (0 ≤ b ∧ b ≤ 1) → 0 ≤ j ∧ j ≤ dnA X + 1 → (dnA X + 1 - j).toNat = m → G κ M n [some (vr 0), some (vi cs), some (vi b), some (vi (ovN X cs j).1), some (vi (ovN X cs j).2), some (vi j), q] 42 [] 0 0 := by
    intro m
    induction m using Nat.strongRecOn with
    | ind m ih =>
      intro j q q1 q2 q3 h1 hm
      have es : ovN X cs (j + 1) = (if bAnd cs (bXor (psCells (xP X) j) (-1)) = 0 ∧ bc4 j < (ovN X cs j).2 then (j, bc4 j) else ovN X cs j) := itI_s _ _ h1.1
      have hb := ovN_b X cs h1.1
      have hbc : 0 ≤ bc4 j ∧ bc4 j ≤ 4 := by unfold bc4; omega
      refine s_w5_iload C dX11_over_42 ?_
      refine s_n0_aload C dX11_over_44 ?_
      refine g_invV C (ct_X11_allPasses hX hO) hX.o cv_X11_229_11 (rmk_ok (by decide) (by decide) (by decide) (by decide)) (Nat.le_of_ble_eq_true rfl) rfl dX11_over_45 rfl (q_r0 ?_)
      refine g_icmp_gt 105 C dX11_over_48 (by decide) (by unfold iR; omega) (by unfold iR; omega) (fun c48 => ?_) (fun c48 => ?_)
      · refine s_n3_iload C dX11_over_105 ?_
        refine g_ldc (-1000000) C wd_457 dX11_over_106 ?_
        refine g_icmp_eq 116 C dX11_over_108 (by decide) (by first | assumption | (unfold iR; omega)) (by first | assumption | (unfold iR; omega)) (fun c108 => ?_) (fun c108 => ?_)
        · refine s_n3_iload C dX11_over_116 ?_
          refine g_goto 122 C dX11_over_117 (by decide) ?_
          refine g_iret C E dX11_over_122 (by decide) ?_
          have ej : j = dnA X + 1 := by omega
          subst ej
          unfold xOver
          rw [if_neg q1, if_neg (not_not_intro q2), if_neg (not_not_intro q3), if_pos (Or.inl c108)]
          exact ⟨rfl, rfl, _, hX⟩
        · refine s_n2_iload C dX11_over_111 ?_
          refine g_iconst C dX11_over_112 ?_
          refine g_icmp_ne 120 C dX11_over_113 (by decide) (by first | assumption | (unfold iR; omega)) (by first | assumption | (unfold iR; omega)) (fun c113 => ?_) (fun c113 => ?_)
          · refine s_w4_iload C dX11_over_120 ?_
            refine g_iret C E dX11_over_122 (by decide) ?_
            have ej : j = dnA X + 1 := by omega
            subst ej
            unfold xOver
            rw [if_neg q1, if_neg (not_not_intro q2), if_neg (not_not_intro q3), if_neg (fun q => q.elim c108 (fun q => c113 q))]
            exact ⟨rfl, rfl, _, hX⟩
          · refine s_n3_iload C dX11_over_116 ?_
            refine g_goto 122 C dX11_over_117 (by decide) ?_
            refine g_iret C E dX11_over_122 (by decide) ?_
            have ej : j = dnA X + 1 := by omega
            subst ej
            unfold xOver
            rw [if_neg q1, if_neg (not_not_intro q2), if_neg (not_not_intro q3), if_pos (Or.inr c113)]
            exact ⟨rfl, rfl, _, hX⟩
      · refine s_n1_iload C dX11_over_51 ?_
        refine s_n0_aload C dX11_over_52 ?_
        refine g_get C fd_X11_58_11 dX11_over_53 hX.o rfl ?_
        refine s_w5_iload C dX11_over_56 ?_
        refine g_invV C (ct_X8_cellsOf hO.ps (hX.cur hc) (hX.ls (X.1 5) hc.1 (by omega))) (hX.cur hO.c) cv_X11_232_8 (rmk_ok (by decide) (by decide) (by decide) (by decide)) (Nat.le_of_ble_eq_true rfl) rfl dX11_over_58 rfl (q_r0 ?_)
        refine g_iconst C dX11_over_61 ?_
        refine g_ixor C dX11_over_62 ?_
        refine g_iand C dX11_over_63 ?_
        refine g_if_ne 71 C dX11_over_64 (by decide) (by exact bAnd_R _ _) (fun c64 => ?_) (fun c64 => ?_)
        · refine g_iconst C dX11_over_71 ?_
          refine s_w6_istore C dX11_over_72 rfl ?_
          refine s_w6_iload C dX11_over_74 ?_
          refine g_if_eq 99 C dX11_over_76 (by decide) (by unfold iR; omega) (fun c76 => ?_) (fun c76 => by exfalso; omega)
          refine s_w5_iinc C dX11_over_99 rfl ?_
          refine g_goto 42 C dX11_over_102 (by decide) ?_
          rw [if_neg (fun q => c64 q.1)] at es
          have := ih _ (by omega) (j + 1) (some (vi 0)) q1 q2 q3 (by omega) rfl
          rw [es] at this
          exact this
        · refine g_iconst C dX11_over_67 ?_
          refine g_goto 72 C dX11_over_68 (by decide) ?_
          refine s_w6_istore C dX11_over_72 rfl ?_
          refine s_w6_iload C dX11_over_74 ?_
          refine g_if_eq 99 C dX11_over_76 (by decide) (by unfold iR; omega) (fun c76 => by exfalso; omega) (fun c76 => ?_)
          refine s_w5_iload C dX11_over_79 ?_
          refine g_invS C (ct_J6_bitCount_0f7a4 (x := j) (by omega)) cs_X11_245 (rmk_ok (by decide) (by decide) (by decide) (by decide)) (Nat.le_of_ble_eq_true rfl) rfl dX11_over_81 rfl (q_r0 ?_)
          refine s_w4_iload C dX11_over_84 ?_
          refine g_icmp_ge 99 C dX11_over_86 (by decide) (by first | assumption | (unfold iR; omega)) (by first | assumption | (unfold iR; omega)) (fun c86 => ?_) (fun c86 => ?_)
          · refine s_w5_iinc C dX11_over_99 rfl ?_
            refine g_goto 42 C dX11_over_102 (by decide) ?_
            rw [if_neg (fun q => by have := q.2; omega)] at es
            have := ih _ (by omega) (j + 1) (some (vi 1)) q1 q2 q3 (by omega) rfl
            rw [es] at this
            exact this
          · refine s_w5_iload C dX11_over_89 ?_
            refine s_n3_istore C dX11_over_91 rfl ?_
            refine s_w5_iload C dX11_over_92 ?_
            refine g_invS C (ct_J6_bitCount_0f7a4 (x := j) (by omega)) cs_X11_245 (rmk_ok (by decide) (by decide) (by decide) (by decide)) (Nat.le_of_ble_eq_true rfl) rfl dX11_over_94 rfl (q_r0 ?_)
            refine s_w4_istore C dX11_over_97 rfl ?_
            refine s_w5_iinc C dX11_over_99 rfl ?_
            refine g_goto 42 C dX11_over_102 (by decide) ?_
            rw [if_pos ⟨c64, by omega⟩] at es
            have := ih _ (by omega) (j + 1) (some (vi 1)) q1 q2 q3 (by omega) rfl
            rw [es] at this
            exact this
  refine s_n0_aload C dX11_over_0 ?_
  refine g_get C fd_X11_133_11 dX11_over_1 hX.o rfl ?_
  refine g_if_ne 10 C dX11_over_4 (by decide) (by first | assumption | (unfold iR; omega)) (fun c4 => ?_) (fun c4 => ?_)
  · refine s_n1_iload C dX11_over_10 ?_
    refine g_iconst C dX11_over_11 ?_
    refine g_sipush C dX11_over_12 (by decide) ?_
    refine g_invS C (ct_X11_isWithin (by first | assumption | (unfold iR; omega)) (by first | assumption | (unfold iR; omega)) (by first | assumption | (unfold iR; omega))) cs_X11_70 (rmk_ok (by decide) (by decide) (by decide) (by decide)) (Nat.le_of_ble_eq_true rfl) rfl dX11_over_15 rfl (q_r0 ?_)
    refine g_bifeq 30 C dX11_over_18 (by decide)  (fun c18 => ?_) (fun c18 => ?_)
    · refine g_ldc (-1000001) C wd_364 dX11_over_30 ?_
      refine g_iret C E dX11_over_32 (by decide) ?_
      unfold xOver
      rw [if_neg c4, if_pos c18]
      exact ⟨rfl, rfl, _, hX⟩
    · refine s_n2_iload C dX11_over_21 ?_
      refine g_iconst C dX11_over_22 ?_
      refine g_iconst C dX11_over_23 ?_
      refine g_invS C (ct_X11_isWithin (by first | assumption | (unfold iR; omega)) (by first | assumption | (unfold iR; omega)) (by first | assumption | (unfold iR; omega))) cs_X11_70 (rmk_ok (by decide) (by decide) (by decide) (by decide)) (Nat.le_of_ble_eq_true rfl) rfl dX11_over_24 rfl (q_r0 ?_)
      refine g_bifne 33 C dX11_over_27 (by decide)  (fun c27 => ?_) (fun c27 => ?_)
      · refine g_ldc (-1000000) C wd_457 dX11_over_33 ?_
        refine s_n3_istore C dX11_over_35 rfl ?_
        refine g_iconst C dX11_over_36 ?_
        refine s_w4_istore C dX11_over_37 rfl ?_
        refine g_iconst C dX11_over_39 ?_
        refine s_w5_istore C dX11_over_40 rfl ?_
        exact lp _ 0 _ c4 c18 c27 (by omega) rfl
      · refine g_ldc (-1000001) C wd_364 dX11_over_30 ?_
        refine g_iret C E dX11_over_32 (by decide) ?_
        unfold xOver
        rw [if_neg c4, if_neg (not_not_intro c18), if_pos c27]
        exact ⟨rfl, rfl, _, hX⟩
  · refine g_ldc (-1000002) C wd_415 dX11_over_7 ?_
    refine g_iret C E dX11_over_9 (by decide) ?_
    unfold xOver
    rw [if_pos c4]
    exact ⟨rfl, rfl, _, hX⟩
def pwI (b e : Int) : Int := itI (fun _ a => a * b) 1 e
def wyN (m j : Int) : Int := itI (fun j w => w * (m - j) / (j + 1)) 1 j
def abN (p m k j : Int) : Int := itI (fun j a => if j < k then a else a + wyN m j * pwI p j * pwI (10 - p) (m - j)) 0 j
def cdN : Nat → Int → Int → Int
  | 0, _, d => d
  | f + 1, r, d => if r = 0 then d else cdN f (d % r) r
def duA (p m k b : Int) : Int := if ¬ (0 ≤ p ∧ p ≤ 10) then -1000001 else if ¬ (0 ≤ m ∧ m ≤ 10) then -1000001 else if ¬ (0 ≤ k ∧ k ≤ m) then -1000001 else if ¬ (0 ≤ b ∧ b ≤ 1) then -1000001 else if b = 0 then abN p m k (m + 1) / cdN 100 (abN p m k (m + 1)) (pwI 10 m) else pwI 10 m / cdN 100 (abN p m k (m + 1)) (pwI 10 m)
theorem wyN_f : ∀ m : Fin 11, ∀ j : Fin 12, j.val ≤ m.val + 1 → 0 ≤ wyN m.val j.val ∧ wyN m.val j.val ≤ 252 := by decide +kernel
theorem wyN_b {m j : Int} (hm : 0 ≤ m ∧ m ≤ 10) (hj : 0 ≤ j ∧ j ≤ m + 1) : 0 ≤ wyN m j ∧ wyN m j ≤ 252 := by
  have := wyN_f ⟨m.toNat, by omega⟩ ⟨j.toNat, by omega⟩ (by show j.toNat ≤ m.toNat + 1; omega)
  simpa [show ((m.toNat : Nat) : Int) = m by omega, show ((j.toNat : Nat) : Int) = j by omega] using this
theorem pw_f : ∀ m : Fin 11, 1 ≤ pwI 10 m.val ∧ pwI 10 m.val ≤ 10000000000 := by decide +kernel
theorem pw_b {m : Int} (hm : 0 ≤ m ∧ m ≤ 10) : 1 ≤ pwI 10 m ∧ pwI 10 m ≤ 10000000000 := by
  have := pw_f ⟨m.toNat, by omega⟩
  simpa [show ((m.toNat : Nat) : Int) = m by omega] using this
theorem ab_f : ∀ p : Fin 11, ∀ m : Fin 11, ∀ k : Fin 11, 0 ≤ abN p.val m.val k.val (m.val + 1) ∧ abN p.val m.val k.val (m.val + 1) ≤ 10000000000 := by decide +kernel
theorem ab_b {p m k : Int} (hp : 0 ≤ p ∧ p ≤ 10) (hm : 0 ≤ m ∧ m ≤ 10) (hk : 0 ≤ k ∧ k ≤ m) : 0 ≤ abN p m k (m + 1) ∧ abN p m k (m + 1) ≤ 10000000000 := by
  have := ab_f ⟨p.toNat, by omega⟩ ⟨m.toNat, by omega⟩ ⟨k.toNat, by omega⟩
  simpa [show ((m.toNat : Nat) : Int) = m by omega, show ((p.toNat : Nat) : Int) = p by omega, show ((k.toNat : Nat) : Int) = k by omega] using this
theorem cdN_b : ∀ (f : Nat) (r d : Int), 0 ≤ r → r ≤ 10000000000 → 1 ≤ d → d ≤ 10000000000 → 1 ≤ cdN f r d ∧ cdN f r d ≤ 10000000000
  | 0, r, d, _, _, h3, h4 => ⟨h3, h4⟩
  | f + 1, r, d, h1, h2, h3, h4 => by
    unfold cdN
    split
    · exact ⟨h3, h4⟩
    · have a := Int.emod_nonneg d (b := r) (by omega)
      have b := Int.emod_lt_of_pos d (b := r) (by omega)
      exact cdN_b f (d % r) r a (by omega) (by omega) h2
set_option maxRecDepth 20000 in
theorem ct_X11_power {b e : Int} {M : gM} {n : Int} (he : 0 ≤ e ∧ e ≤ 100) : CT yX11_power cX11_power 6 (some .long) (rmk 0 0 0) [vl b, vi e] M n (qr (some (vl (pwI b e))) M n) := by
  refine CT.of (by decide) (fun _ => Nat.le_of_ble_eq_true rfl) (fun κ C E => ?_)
  show G κ M n [some (vl b), none, some (vi e), none, none, none] 0 [] 0 0
  have lp : ∀ (m : Nat) (i : Int), 0 ≤ i ∧ i ≤ e → (e - i).toNat = m → G κ M n [some (vl b), none, some (vi e), some (vl (pwI b i)), none, some (vi i)] 5 [] 0 0 := by
    intro m
    induction m using Nat.strongRecOn with
    | ind m ih =>
      intro i h1 hm
      refine s_w5_iload C dX11_power_5 ?_
      refine s_n2_iload C dX11_power_7 ?_
      refine g_icmp_ge 21 C dX11_power_8 (by decide) (by first | assumption | (unfold iR; omega)) (by first | assumption | (unfold iR; omega)) (fun c8 => ?_) (fun c8 => ?_)
      · refine s_n3_lload C dX11_power_21 ?_
        refine g_lret C E dX11_power_22 (by decide) ?_
        have e1 : i = e := by omega
        subst e1
        exact ⟨rfl, rfl, rfl⟩
      · refine s_n3_lload C dX11_power_11 ?_
        refine s_n0_lload C dX11_power_12 ?_
        refine g_lmul C dX11_power_13 ?_
        refine s_n3_lstore C dX11_power_14 rfl ?_
        refine s_w5_iinc C dX11_power_15 rfl ?_
        refine g_goto 5 C dX11_power_18 (by decide) ?_
        have es : pwI b (i + 1) = pwI b i * b := itI_s _ _ h1.1
        have := ih _ (by omega) (i + 1) (by omega) rfl
        rw [es] at this
        exact this
  refine g_lconst1 C dX11_power_0 ?_
  refine s_n3_lstore C dX11_power_1 rfl ?_
  refine g_iconst C dX11_power_2 ?_
  refine s_w5_istore C dX11_power_3 rfl ?_
  exact lp _ 0 (by omega) rfl
set_option maxRecDepth 20000 in
theorem ct_X11_commonDivisor {a b : Int} {M : gM} {n : Int} (ha : 0 ≤ a ∧ a ≤ 10000000000) (hb : 1 ≤ b ∧ b ≤ 10000000000) : CT yX11_commonDivisor cX11_commonDivisor 11 (some .long) (rmk 0 0 0) [vl a, vl b] M n (qr (some (vl (cdN 100 a b))) M n) := by
  refine CT.of (by decide) (fun _ => Nat.le_of_ble_eq_true rfl) (fun κ C E => ?_)
  show G κ M n [some (vl a), none, some (vl b), none, none, none, none, none, none, none, none] 0 [] 0 0
  obtain ⟨E0, hE⟩ : ∃ E0, E0 = cdN 100 a b := ⟨_, rfl⟩
  have lp : ∀ (f : Nat) (i r d : Int) (q q2 : Option gV), q2 = none → i + f = 100 → 0 ≤ i → (0 ≤ r ∧ r ≤ 10000000000) → (1 ≤ d ∧ d ≤ 10000000000) → E0 = cdN f r d → G κ M n [some (vl a), none, some (vl b), none, some (vl r), none, some (vl d), none, some (vi i), q, q2] 9 [] 0 0 := by
    intro f
    induction f with
    | zero =>
      intro i r d q q2 hq2 h1 h0 hr hd h4
      unfold cdN at h4
      have ei : i = 100 := by omega
      refine s_w8_iload C dX11_commonDivisor_9 ?_
      refine g_bipush C dX11_commonDivisor_11 (by decide) ?_
      refine g_icmp_ge 44 C dX11_commonDivisor_13 (by decide) (by first | assumption | (unfold iR; omega)) (by first | assumption | (unfold iR; omega)) (fun c13 => ?_) (fun c13 => by exfalso; omega)
      refine s_w6_lload C dX11_commonDivisor_44 ?_
      refine g_lret C E dX11_commonDivisor_46 (by decide) ?_
      rw [← hE, h4]
      exact ⟨rfl, rfl, rfl⟩
    | succ f ih =>
      intro i r d q q2 hq2 h1 h0 hr hd h4
      subst hq2
      unfold cdN at h4
      refine s_w8_iload C dX11_commonDivisor_9 ?_
      refine g_bipush C dX11_commonDivisor_11 (by decide) ?_
      refine g_icmp_ge 44 C dX11_commonDivisor_13 (by decide) (by first | assumption | (unfold iR; omega)) (by first | assumption | (unfold iR; omega)) (fun c13 => by exfalso; omega) (fun c13 => ?_)
      refine s_w4_lload C dX11_commonDivisor_16 ?_
      refine g_lconst0 C dX11_commonDivisor_18 ?_
      refine g_lcmp C dX11_commonDivisor_19 (by unfold lR; omega) (by unfold lR; omega) ?_
      refine g_if_eq 44 C dX11_commonDivisor_20 (by decide) (by exact lCmp_R _ _) (fun c20 => ?_) (fun c20 => ?_)
      · refine s_w6_lload C dX11_commonDivisor_44 ?_
        refine g_lret C E dX11_commonDivisor_46 (by decide) ?_
        rw [if_pos ((lCmp0 _ _).mp c20)] at h4
        rw [← hE, h4]
        exact ⟨rfl, rfl, rfl⟩
      · refine s_w6_lload C dX11_commonDivisor_23 ?_
        refine s_w4_lload C dX11_commonDivisor_25 ?_
        refine g_lrem C dX11_commonDivisor_27 (by have r0 : ¬ r = 0 := fun q => c20 ((lCmp0 r 0).mpr q); omega) ?_
        refine s_w9_lstore C dX11_commonDivisor_28 rfl ?_
        refine s_w4_lload C dX11_commonDivisor_30 ?_
        refine s_w6_lstore C dX11_commonDivisor_32 rfl ?_
        refine s_w9_lload C dX11_commonDivisor_34 ?_
        refine s_w4_lstore C dX11_commonDivisor_36 rfl ?_
        refine s_w8_iinc C dX11_commonDivisor_38 rfl ?_
        refine g_goto 9 C dX11_commonDivisor_41 (by decide) ?_
        have r0 : ¬ r = 0 := fun q => c20 ((lCmp0 _ _).mpr q)
        rw [if_neg r0] at h4
        have a1 := Int.emod_nonneg d (b := r) (by omega)
        have a2 := Int.emod_lt_of_pos d (b := r) (by omega)
        exact ih (i + 1) (d % r) r _ _ rfl (by omega) (by omega) (by omega) (by omega) h4
  refine s_n0_lload C dX11_commonDivisor_0 ?_
  refine s_w4_lstore C dX11_commonDivisor_1 rfl ?_
  refine s_n2_lload C dX11_commonDivisor_3 ?_
  refine s_w6_lstore C dX11_commonDivisor_4 rfl ?_
  refine g_iconst C dX11_commonDivisor_6 ?_
  refine s_w8_istore C dX11_commonDivisor_7 rfl ?_
  exact lp 100 0 a b _ _ rfl (by omega) (by omega) ha hb hE
set_option maxRecDepth 20000 in
theorem ct_X11_dust {p m k b : Int} {M : gM} {n : Int} (hp : iR p) (hm : iR m) (hk : iR k) (hb : iR b) : CT yX11_dust cX11_dust 13 (some .long) (rmk 1 0 0) [vr 0, vi p, vi m, vi k, vi b] M n (qr (some (vl (duA p m k b))) M n) := by
  refine CT.of (by decide) (fun _ => Nat.le_of_ble_eq_true rfl) (fun κ C E => ?_)
  show G κ M n [some (vr 0), some (vi p), some (vi m), some (vi k), some (vi b), none, none, none, none, none, none, none, none] 0 [] 0 0
  have lp : ∀ (z : Nat) (j : Int), (0 ≤ p ∧ p ≤ 10) → (0 ≤ m ∧ m ≤ 10) → (0 ≤ k ∧ k ≤ m) → (0 ≤ b ∧ b ≤ 1) → 0 ≤ j ∧ j ≤ m + 1 → (m + 1 - j).toNat = z → G κ M n [some (vr 0), some (vi p), some (vi m), some (vi k), some (vi b), some (vl (wyN m j)), none, some (vl (abN p m k j)), none, some (vi j), none, none, none] 52 [] 0 0 := by
    intro z
    induction z using Nat.strongRecOn with
    | ind z ih =>
      intro j q1 q2 q3 q4 h1 hm
      have e1 : wyN m (j + 1) = wyN m j * (m - j) / (j + 1) := itI_s _ _ h1.1
      have e2 : abN p m k (j + 1) = (if j < k then abN p m k j else abN p m k j + wyN m j * pwI p j * pwI (10 - p) (m - j)) := itI_s _ _ h1.1
      have hw := wyN_b q2 h1
      refine s_w9_iload C dX11_dust_52 ?_
      refine s_n2_iload C dX11_dust_54 ?_
      refine g_icmp_gt 114 C dX11_dust_55 (by decide) (by first | assumption | (unfold iR; omega)) (by first | assumption | (unfold iR; omega)) (fun c55 => ?_) (fun c55 => ?_)
      · have ej : j = m + 1 := by omega
        subst ej
        have hab := ab_b q1 q2 q3
        have hpw := pw_b q2
        have hcd := cdN_b 100 (abN p m k (m + 1)) (pwI 10 m) hab.1 hab.2 hpw.1 hpw.2
        refine g_ldc2 (10) C wd_512 dX11_dust_114 ?_
        refine s_n2_iload C dX11_dust_117 ?_
        refine g_invS C (ct_X11_power (e := m) (by omega)) cs_X11_263 (rmk_ok (by decide) (by decide) (by decide) (by decide)) (Nat.le_of_ble_eq_true rfl) rfl dX11_dust_118 rfl (q_r0 ?_)
        refine s_w9_lstore C dX11_dust_121 rfl ?_
        refine s_w7_lload C dX11_dust_123 ?_
        refine s_w9_lload C dX11_dust_125 ?_
        refine g_invS C (ct_X11_commonDivisor hab hpw) cs_X11_269 (rmk_ok (by decide) (by decide) (by decide) (by decide)) (Nat.le_of_ble_eq_true rfl) rfl dX11_dust_127 rfl (q_r0 ?_)
        refine s_w11_lstore C dX11_dust_130 rfl ?_
        refine s_w4_iload C dX11_dust_132 ?_
        refine g_if_ne 142 C dX11_dust_134 (by decide) (by first | assumption | (unfold iR; omega)) (fun c134 => ?_) (fun c134 => ?_)
        · refine s_w9_lload C dX11_dust_142 ?_
          refine s_w11_lload C dX11_dust_144 ?_
          refine g_ldiv C dX11_dust_146 (by omega) ?_
          refine g_lret C E dX11_dust_147 (by decide) ?_
          unfold duA
          rw [if_neg (not_not_intro q1), if_neg (not_not_intro q2), if_neg (not_not_intro q3), if_neg (not_not_intro q4), if_neg c134]
          exact ⟨rfl, rfl, rfl⟩
        · refine s_w7_lload C dX11_dust_137 ?_
          refine g_goto 144 C dX11_dust_139 (by decide) ?_
          refine s_w11_lload C dX11_dust_144 ?_
          refine g_ldiv C dX11_dust_146 (by omega) ?_
          refine g_lret C E dX11_dust_147 (by decide) ?_
          unfold duA
          rw [if_neg (not_not_intro q1), if_neg (not_not_intro q2), if_neg (not_not_intro q3), if_neg (not_not_intro q4), if_pos c134]
          exact ⟨rfl, rfl, rfl⟩
      · refine s_w9_iload C dX11_dust_58 ?_
        refine s_n3_iload C dX11_dust_60 ?_
        refine g_icmp_lt 92 C dX11_dust_61 (by decide) (by first | assumption | (unfold iR; omega)) (by first | assumption | (unfold iR; omega)) (fun c61 => ?_) (fun c61 => ?_)
        · refine s_w5_lload C dX11_dust_92 ?_
          refine s_n2_iload C dX11_dust_94 ?_
          refine s_w9_iload C dX11_dust_95 ?_
          refine g_isub C dX11_dust_97 ?_
          refine g_i2l C dX11_dust_98 (by first | assumption | (unfold iR; omega)) ?_
          refine g_lmul C dX11_dust_99 ?_
          refine s_w9_iload C dX11_dust_100 ?_
          refine g_iconst C dX11_dust_102 ?_
          refine g_iadd C dX11_dust_103 ?_
          refine g_i2l C dX11_dust_104 (by first | assumption | (unfold iR; omega)) ?_
          have hmul : 0 ≤ wyN m j * (m - j) ∧ wyN m j * (m - j) ≤ 2520 := by rcases (show m - j = 0 ∨ m - j = 1 ∨ m - j = 2 ∨ m - j = 3 ∨ m - j = 4 ∨ m - j = 5 ∨ m - j = 6 ∨ m - j = 7 ∨ m - j = 8 ∨ m - j = 9 ∨ m - j = 10 by omega) with q | q | q | q | q | q | q | q | q | q | q <;> rw [q] <;> omega
          refine g_ldiv C dX11_dust_105 (by omega) ?_
          refine s_w5_lstore C dX11_dust_106 rfl ?_
          refine s_w9_iinc C dX11_dust_108 rfl ?_
          refine g_goto 52 C dX11_dust_111 (by decide) ?_
          rw [if_pos c61] at e2
          have := ih _ (by omega) (j + 1) q1 q2 q3 q4 (by omega) rfl
          rw [e1, e2] at this
          exact this
        · refine s_w7_lload C dX11_dust_64 ?_
          refine s_w5_lload C dX11_dust_66 ?_
          refine s_n1_iload C dX11_dust_68 ?_
          refine g_i2l C dX11_dust_69 (by first | assumption | (unfold iR; omega)) ?_
          refine s_w9_iload C dX11_dust_70 ?_
          refine g_invS C (ct_X11_power (e := j) (by omega)) cs_X11_263 (rmk_ok (by decide) (by decide) (by decide) (by decide)) (Nat.le_of_ble_eq_true rfl) rfl dX11_dust_72 rfl (q_r0 ?_)
          refine g_lmul C dX11_dust_75 ?_
          refine g_bipush C dX11_dust_76 (by decide) ?_
          refine s_n1_iload C dX11_dust_78 ?_
          refine g_isub C dX11_dust_79 ?_
          refine g_i2l C dX11_dust_80 (by first | assumption | (unfold iR; omega)) ?_
          refine s_n2_iload C dX11_dust_81 ?_
          refine s_w9_iload C dX11_dust_82 ?_
          refine g_isub C dX11_dust_84 ?_
          refine g_invS C (ct_X11_power (e := m - j) (by omega)) cs_X11_263 (rmk_ok (by decide) (by decide) (by decide) (by decide)) (Nat.le_of_ble_eq_true rfl) rfl dX11_dust_85 rfl (q_r0 ?_)
          refine g_lmul C dX11_dust_88 ?_
          refine g_ladd C dX11_dust_89 ?_
          refine s_w7_lstore C dX11_dust_90 rfl ?_
          refine s_w5_lload C dX11_dust_92 ?_
          refine s_n2_iload C dX11_dust_94 ?_
          refine s_w9_iload C dX11_dust_95 ?_
          refine g_isub C dX11_dust_97 ?_
          refine g_i2l C dX11_dust_98 (by first | assumption | (unfold iR; omega)) ?_
          refine g_lmul C dX11_dust_99 ?_
          refine s_w9_iload C dX11_dust_100 ?_
          refine g_iconst C dX11_dust_102 ?_
          refine g_iadd C dX11_dust_103 ?_
          refine g_i2l C dX11_dust_104 (by first | assumption | (unfold iR; omega)) ?_
          have hmul : 0 ≤ wyN m j * (m - j) ∧ wyN m j * (m - j) ≤ 2520 := by rcases (show m - j = 0 ∨ m - j = 1 ∨ m - j = 2 ∨ m - j = 3 ∨ m - j = 4 ∨ m - j = 5 ∨ m - j = 6 ∨ m - j = 7 ∨ m - j = 8 ∨ m - j = 9 ∨ m - j = 10 by omega) with q | q | q | q | q | q | q | q | q | q | q <;> rw [q] <;> omega
          refine g_ldiv C dX11_dust_105 (by omega) ?_
          refine s_w5_lstore C dX11_dust_106 rfl ?_
          refine s_w9_iinc C dX11_dust_108 rfl ?_
          refine g_goto 52 C dX11_dust_111 (by decide) ?_
          rw [if_neg (by omega)] at e2
          have := ih _ (by omega) (j + 1) q1 q2 q3 q4 (by omega) rfl
          rw [e1, e2] at this
          exact this
  refine s_n1_iload C dX11_dust_0 ?_
  refine g_iconst C dX11_dust_1 ?_
  refine g_bipush C dX11_dust_2 (by decide) ?_
  refine g_invS C (ct_X11_isWithin (by first | assumption | (unfold iR; omega)) (by first | assumption | (unfold iR; omega)) (by first | assumption | (unfold iR; omega))) cs_X11_70 (rmk_ok (by decide) (by decide) (by decide) (by decide)) (Nat.le_of_ble_eq_true rfl) rfl dX11_dust_4 rfl (q_r0 ?_)
  refine g_bifeq 39 C dX11_dust_7 (by decide)  (fun c7 => ?_) (fun c7 => ?_)
  · refine g_ldc2 (-1000001) C wd_508 dX11_dust_39 ?_
    refine g_lret C E dX11_dust_42 (by decide) ?_
    unfold duA
    rw [if_pos c7]
    exact ⟨rfl, rfl, rfl⟩
  · refine s_n2_iload C dX11_dust_10 ?_
    refine g_iconst C dX11_dust_11 ?_
    refine g_bipush C dX11_dust_12 (by decide) ?_
    refine g_invS C (ct_X11_isWithin (by first | assumption | (unfold iR; omega)) (by first | assumption | (unfold iR; omega)) (by first | assumption | (unfold iR; omega))) cs_X11_70 (rmk_ok (by decide) (by decide) (by decide) (by decide)) (Nat.le_of_ble_eq_true rfl) rfl dX11_dust_14 rfl (q_r0 ?_)
    refine g_bifeq 39 C dX11_dust_17 (by decide)  (fun c17 => ?_) (fun c17 => ?_)
    · refine g_ldc2 (-1000001) C wd_508 dX11_dust_39 ?_
      refine g_lret C E dX11_dust_42 (by decide) ?_
      unfold duA
      rw [if_neg (not_not_intro c7), if_pos c17]
      exact ⟨rfl, rfl, rfl⟩
    · refine s_n3_iload C dX11_dust_20 ?_
      refine g_iconst C dX11_dust_21 ?_
      refine s_n2_iload C dX11_dust_22 ?_
      refine g_invS C (ct_X11_isWithin (by first | assumption | (unfold iR; omega)) (by first | assumption | (unfold iR; omega)) (by first | assumption | (unfold iR; omega))) cs_X11_70 (rmk_ok (by decide) (by decide) (by decide) (by decide)) (Nat.le_of_ble_eq_true rfl) rfl dX11_dust_23 rfl (q_r0 ?_)
      refine g_bifeq 39 C dX11_dust_26 (by decide)  (fun c26 => ?_) (fun c26 => ?_)
      · refine g_ldc2 (-1000001) C wd_508 dX11_dust_39 ?_
        refine g_lret C E dX11_dust_42 (by decide) ?_
        unfold duA
        rw [if_neg (not_not_intro c7), if_neg (not_not_intro c17), if_pos c26]
        exact ⟨rfl, rfl, rfl⟩
      · refine s_w4_iload C dX11_dust_29 ?_
        refine g_iconst C dX11_dust_31 ?_
        refine g_iconst C dX11_dust_32 ?_
        refine g_invS C (ct_X11_isWithin (by first | assumption | (unfold iR; omega)) (by first | assumption | (unfold iR; omega)) (by first | assumption | (unfold iR; omega))) cs_X11_70 (rmk_ok (by decide) (by decide) (by decide) (by decide)) (Nat.le_of_ble_eq_true rfl) rfl dX11_dust_33 rfl (q_r0 ?_)
        refine g_bifne 43 C dX11_dust_36 (by decide)  (fun c36 => ?_) (fun c36 => ?_)
        · refine g_lconst1 C dX11_dust_43 ?_
          refine s_w5_lstore C dX11_dust_44 rfl ?_
          refine g_lconst0 C dX11_dust_46 ?_
          refine s_w7_lstore C dX11_dust_47 rfl ?_
          refine g_iconst C dX11_dust_49 ?_
          refine s_w9_istore C dX11_dust_50 rfl ?_
          exact lp _ 0 c7 c17 c26 c36 (by omega) rfl
        · refine g_ldc2 (-1000001) C wd_508 dX11_dust_39 ?_
          refine g_lret C E dX11_dust_42 (by decide) ?_
          unfold duA
          rw [if_neg (not_not_intro c7), if_neg (not_not_intro c17), if_neg (not_not_intro c26), if_pos c36]
          exact ⟨rfl, rfl, rfl⟩
