/-! PadPolishModel: dust -/
def mwN (p m j i : Int) : Int := itI (fun i w => w * (if i < j then p else 10 - p)) (wyN m j) i
theorem mw_f : ∀ p : Fin 11, ∀ m : Fin 11, ∀ j : Fin 11, j.val ≤ m.val → mwN p.val m.val j.val m.val = wyN m.val j.val * pwI p.val j.val * pwI (10 - p.val) ((m.val : Int) - j.val) := by decide +kernel
theorem mw_e {p m j : Int} (hp : 0 ≤ p ∧ p ≤ 10) (hm : 0 ≤ m ∧ m ≤ 10) (hj : 0 ≤ j ∧ j ≤ m) : mwN p m j m = wyN m j * pwI p j * pwI (10 - p) (m - j) := by
  have := mw_f ⟨p.toNat, by omega⟩ ⟨m.toNat, by omega⟩ ⟨j.toNat, by omega⟩ (by show j.toNat ≤ m.toNat; omega)
  simpa [show ((m.toNat : Nat) : Int) = m by omega, show ((p.toNat : Nat) : Int) = p by omega, show ((j.toNat : Nat) : Int) = j by omega] using this
def mgP : Nat → Int → Int → Int × Int
  | 0, x, y => (x, y)
  | f + 1, x, y => if y = 0 then (x, y) else mgP f y (x % y)
theorem mg_f : ∀ p : Fin 11, ∀ m : Fin 11, ∀ k : Fin 11, k.val ≤ m.val → mgP 100 (abN p.val m.val k.val (m.val + 1)) (pwI 10 m.val) = (cdN 100 (abN p.val m.val k.val (m.val + 1)) (pwI 10 m.val), 0) := by decide +kernel
theorem mg_e {p m k : Int} (hp : 0 ≤ p ∧ p ≤ 10) (hm : 0 ≤ m ∧ m ≤ 10) (hk : 0 ≤ k ∧ k ≤ m) : mgP 100 (abN p m k (m + 1)) (pwI 10 m) = (cdN 100 (abN p m k (m + 1)) (pwI 10 m), 0) := by
  have := mg_f ⟨p.toNat, by omega⟩ ⟨m.toNat, by omega⟩ ⟨k.toNat, by omega⟩ (by show k.toNat ≤ m.toNat; omega)
  simpa [show ((m.toNat : Nat) : Int) = m by omega, show ((p.toNat : Nat) : Int) = p by omega, show ((k.toNat : Nat) : Int) = k by omega] using this
set_option maxRecDepth 20000 in
theorem ct_X12_dust {X : XT} {s0 : YT} {M : gM} {n : Int} (h0 : yRel X s0) (hO : xOK X) {p m k d : Int} (hp : iR p) (hm : iR m) (hk : iR k) (hd : iR d) : CT yX12_dust cX12_dust 17 (some .long) (rmk 1 0 0) [vr 152, vi p, vi m, vi k, vi d] (YO s0 M) n (fun r M2 n2 => r = some (vl (duA p m k d)) ∧ n2 = n ∧ ∃ s', M2 = YO s' M ∧ yRel X s') := by
  refine CT.of (by decide) (fun _ => Nat.le_of_ble_eq_true rfl) (fun κ C E => ?_)
  show G κ (YO s0 M) n [some (vr 152), some (vi p), some (vi m), some (vi k), some (vi d), none, none, none, none, none, none, none, none, none, none, none, none] 0 [] 0 0
  have l4 : ∀ (f : Nat) (x y : Int) (s : YT) (b : Int → Int) (q15 : Option gV), yR X s b → (0 ≤ p ∧ p ≤ 10) → (0 ≤ m ∧ m ≤ 10) → (0 ≤ k ∧ k ≤ m) → (0 ≤ d ∧ d ≤ 1) → mgP f x y = (cdN 100 (abN p m k (m + 1)) (pwI 10 m), 0) → (0 ≤ x ∧ x ≤ 10000000000) → (0 ≤ y ∧ y ≤ 10000000000) → G κ (YO s M) n [some (vr 152), some (vi p), some (vi m), some (vi k), some (vi d), some (vl (pwI 10 m)), none, some (vl (abN p m k (m + 1))), none, some (vl (wyN m (m + 1))), none, some (vl x), none, some (vl y), none, q15, none] 184 [] 0 0 := by
    intro f
    induction f with
    | zero =>
      intro x y s b q15 hR q1 q2 q3 q4 hg hx hy
      unfold mgP at hg
      have hab := ab_b q1 q2 q3
      have hpw := pw_b q2
      have hcd := cdN_b 100 (abN p m k (m + 1)) (pwI 10 m) hab.1 hab.2 hpw.1 hpw.2
      refine s_w13_lload C dX12_dust_184 ?_
      refine g_lconst0 C dX12_dust_186 ?_
      refine g_lcmp C dX12_dust_187 (by unfold lR; omega) (by unfold lR; omega) ?_
      refine g_if_eq 209 C dX12_dust_188 (by decide) (by exact lCmp_R _ _) (fun c188 => ?_) (fun c188 => by exfalso; exact c188 ((lCmp0 _ _).mpr (congrArg Prod.snd hg)))
      have y0 : y = 0 := (lCmp0 _ _).mp c188
      have hx1 : x = cdN 100 (abN p m k (m + 1)) (pwI 10 m) := congrArg Prod.fst hg
      refine s_w4_iload C dX12_dust_209 ?_
      refine g_if_ne 219 C dX12_dust_211 (by decide) (by first | assumption | (unfold iR; omega)) (fun c211 => ?_) (fun c211 => ?_)
      · refine s_w5_lload C dX12_dust_219 ?_
        refine s_w11_lload C dX12_dust_221 ?_
        refine g_ldiv C dX12_dust_223 (by omega) ?_
        refine g_lret C E dX12_dust_224 (by decide) ?_
        unfold duA
        rw [if_neg (not_not_intro q1), if_neg (not_not_intro q2), if_neg (not_not_intro q3), if_neg (not_not_intro q4), if_neg c211]
        rw [show x = cdN 100 (abN p m k (m + 1)) (pwI 10 m) from hx1]
        exact ⟨rfl, rfl, _, rfl, b, hR⟩
      · refine s_w7_lload C dX12_dust_214 ?_
        refine g_goto 221 C dX12_dust_216 (by decide) ?_
        refine s_w11_lload C dX12_dust_221 ?_
        refine g_ldiv C dX12_dust_223 (by omega) ?_
        refine g_lret C E dX12_dust_224 (by decide) ?_
        unfold duA
        rw [if_neg (not_not_intro q1), if_neg (not_not_intro q2), if_neg (not_not_intro q3), if_neg (not_not_intro q4), if_pos c211]
        rw [show x = cdN 100 (abN p m k (m + 1)) (pwI 10 m) from hx1]
        exact ⟨rfl, rfl, _, rfl, b, hR⟩
    | succ f ih =>
      intro x y s b q15 hR q1 q2 q3 q4 hg hx hy
      unfold mgP at hg
      have hab := ab_b q1 q2 q3
      have hpw := pw_b q2
      have hcd := cdN_b 100 (abN p m k (m + 1)) (pwI 10 m) hab.1 hab.2 hpw.1 hpw.2
      refine s_w13_lload C dX12_dust_184 ?_
      refine g_lconst0 C dX12_dust_186 ?_
      refine g_lcmp C dX12_dust_187 (by unfold lR; omega) (by unfold lR; omega) ?_
      refine g_if_eq 209 C dX12_dust_188 (by decide) (by exact lCmp_R _ _) (fun c188 => ?_) (fun c188 => ?_)
      · have y0 : y = 0 := (lCmp0 _ _).mp c188
        rw [if_pos y0] at hg
        have hx1 : x = cdN 100 (abN p m k (m + 1)) (pwI 10 m) := congrArg Prod.fst hg
        refine s_w4_iload C dX12_dust_209 ?_
        refine g_if_ne 219 C dX12_dust_211 (by decide) (by first | assumption | (unfold iR; omega)) (fun c211 => ?_) (fun c211 => ?_)
        · refine s_w5_lload C dX12_dust_219 ?_
          refine s_w11_lload C dX12_dust_221 ?_
          refine g_ldiv C dX12_dust_223 (by omega) ?_
          refine g_lret C E dX12_dust_224 (by decide) ?_
          unfold duA
          rw [if_neg (not_not_intro q1), if_neg (not_not_intro q2), if_neg (not_not_intro q3), if_neg (not_not_intro q4), if_neg c211]
          rw [show x = cdN 100 (abN p m k (m + 1)) (pwI 10 m) from hx1]
          exact ⟨rfl, rfl, _, rfl, b, hR⟩
        · refine s_w7_lload C dX12_dust_214 ?_
          refine g_goto 221 C dX12_dust_216 (by decide) ?_
          refine s_w11_lload C dX12_dust_221 ?_
          refine g_ldiv C dX12_dust_223 (by omega) ?_
          refine g_lret C E dX12_dust_224 (by decide) ?_
          unfold duA
          rw [if_neg (not_not_intro q1), if_neg (not_not_intro q2), if_neg (not_not_intro q3), if_neg (not_not_intro q4), if_pos c211]
          rw [show x = cdN 100 (abN p m k (m + 1)) (pwI 10 m) from hx1]
          exact ⟨rfl, rfl, _, rfl, b, hR⟩
      · refine s_w11_lload C dX12_dust_191 ?_
        refine s_w13_lload C dX12_dust_193 ?_
        refine g_lrem C dX12_dust_195 (by have y0 : ¬ y = 0 := fun q => c188 ((lCmp0 y 0).mpr q); omega) ?_
        refine s_w15_lstore C dX12_dust_196 rfl ?_
        refine s_w13_lload C dX12_dust_198 ?_
        refine s_w11_lstore C dX12_dust_200 rfl ?_
        refine s_w15_lload C dX12_dust_202 ?_
        refine s_w13_lstore C dX12_dust_204 rfl ?_
        refine g_goto 184 C dX12_dust_206 (by decide) ?_
        have y0 : ¬ y = 0 := fun q => c188 ((lCmp0 _ _).mpr q)
        rw [if_neg y0] at hg
        have a1 := Int.emod_nonneg x (b := y) (by omega)
        have a2 := Int.emod_lt_of_pos x (b := y) (by omega)
        exact ih y (x % y) s b _ hR q1 q2 q3 q4 hg (by omega) (by omega)
  have l3 : ∀ (z : Nat) (i j : Int) (s : YT), (0 ≤ p ∧ p ≤ 10) → (0 ≤ m ∧ m ≤ 10) → (0 ≤ k ∧ k ≤ m) → (0 ≤ d ∧ d ≤ 1) → (0 ≤ j ∧ j ≤ m) → 0 ≤ i ∧ i ≤ m → (m - i).toNat = z → G κ (YO s M) n [some (vr 152), some (vi p), some (vi m), some (vi k), some (vi d), some (vl (pwI 10 m)), none, some (vl (abN p m k j)), none, some (vl (wyN m j)), none, some (vi j), some (vl (mwN p m j m)), none, some (vi m), none, none] 137 [] 0 0 → G κ (YO s M) n [some (vr 152), some (vi p), some (vi m), some (vi k), some (vi d), some (vl (pwI 10 m)), none, some (vl (abN p m k j)), none, some (vl (wyN m j)), none, some (vi j), some (vl (mwN p m j i)), none, some (vi i), none, none] 103 [] 0 0 := by
    intro z
    induction z using Nat.strongRecOn with
    | ind z ih =>
      intro i j s q1 q2 q3 q4 hj h1 hz hk
      have es : mwN p m j (i + 1) = mwN p m j i * (if i < j then p else 10 - p) := itI_s _ _ h1.1
      refine s_w14_iload C dX12_dust_103 ?_
      refine s_n2_iload C dX12_dust_105 ?_
      refine g_icmp_ge 137 C dX12_dust_106 (by decide) (by first | assumption | (unfold iR; omega)) (by first | assumption | (unfold iR; omega)) (fun c106 => ?_) (fun c106 => ?_)
      · have ei : i = m := by omega
        subst ei
        exact hk
      · refine s_w12_lload C dX12_dust_109 ?_
        refine s_w14_iload C dX12_dust_111 ?_
        refine s_w11_iload C dX12_dust_113 ?_
        refine g_icmp_ge 123 C dX12_dust_115 (by decide) (by first | assumption | (unfold iR; omega)) (by first | assumption | (unfold iR; omega)) (fun c115 => ?_) (fun c115 => ?_)
        · refine g_bipush C dX12_dust_123 (by decide) ?_
          refine s_n1_iload C dX12_dust_125 ?_
          refine g_isub C dX12_dust_126 ?_
          refine g_i2l C dX12_dust_127 (by first | assumption | (unfold iR; omega)) ?_
          refine g_lmul C dX12_dust_128 ?_
          refine s_w12_lstore C dX12_dust_129 rfl ?_
          refine s_w14_iinc C dX12_dust_131 rfl ?_
          refine g_goto 103 C dX12_dust_134 (by decide) ?_
          rw [if_neg (by omega)] at es
          have := ih _ (by omega) (i + 1) j s q1 q2 q3 q4 hj (by omega) rfl hk
          rw [es] at this
          exact this
        · refine s_n1_iload C dX12_dust_118 ?_
          refine g_i2l C dX12_dust_119 (by first | assumption | (unfold iR; omega)) ?_
          refine g_goto 128 C dX12_dust_120 (by decide) ?_
          refine g_lmul C dX12_dust_128 ?_
          refine s_w12_lstore C dX12_dust_129 rfl ?_
          refine s_w14_iinc C dX12_dust_131 rfl ?_
          refine g_goto 103 C dX12_dust_134 (by decide) ?_
          rw [if_pos (by omega)] at es
          have := ih _ (by omega) (i + 1) j s q1 q2 q3 q4 hj (by omega) rfl hk
          rw [es] at this
          exact this
  have l2 : ∀ (z : Nat) (j : Int) (s : YT) (b : Int → Int) (q12 q14 : Option gV), yR X s b → (0 ≤ p ∧ p ≤ 10) → (0 ≤ m ∧ m ≤ 10) → (0 ≤ k ∧ k ≤ m) → (0 ≤ d ∧ d ≤ 1) → 0 ≤ j ∧ j ≤ m + 1 → (m + 1 - j).toNat = z → G κ (YO s M) n [some (vr 152), some (vi p), some (vi m), some (vi k), some (vi d), some (vl (pwI 10 m)), none, some (vl (abN p m k j)), none, some (vl (wyN m j)), none, some (vi j), q12, none, q14, none, none] 90 [] 0 0 := by
    intro z
    induction z using Nat.strongRecOn with
    | ind z ih =>
      intro j s b q12 q14 hR q1 q2 q3 q4 h1 hz
      have e1 : wyN m (j + 1) = wyN m j * (m - j) / (j + 1) := itI_s _ _ h1.1
      have e2 : abN p m k (j + 1) = (if j < k then abN p m k j else abN p m k j + wyN m j * pwI p j * pwI (10 - p) (m - j)) := itI_s _ _ h1.1
      have hw := wyN_b q2 h1
      refine s_w11_iload C dX12_dust_90 ?_
      refine s_n2_iload C dX12_dust_92 ?_
      refine g_icmp_gt 176 C dX12_dust_93 (by decide) (by first | assumption | (unfold iR; omega)) (by first | assumption | (unfold iR; omega)) (fun c93 => ?_) (fun c93 => ?_)
      · have ej : j = m + 1 := by omega
        subst ej
        refine s_w7_lload C dX12_dust_176 ?_
        refine s_w11_lstore C dX12_dust_178 rfl ?_
        refine s_w5_lload C dX12_dust_180 ?_
        refine s_w13_lstore C dX12_dust_182 rfl ?_
        have hab := ab_b q1 q2 q3
        have hpw := pw_b q2
        exact l4 100 _ _ s b _ hR q1 q2 q3 q4 (mg_e q1 q2 q3) hab (by omega)
      · refine s_w9_lload C dX12_dust_96 ?_
        refine s_w12_lstore C dX12_dust_98 rfl ?_
        refine g_iconst C dX12_dust_100 ?_
        refine s_w14_istore C dX12_dust_101 rfl ?_
        refine l3 _ 0 j s q1 q2 q3 q4 (by omega) (by omega) rfl ?_
        refine s_w7_lload C dX12_dust_137 ?_
        refine s_w11_iload C dX12_dust_139 ?_
        refine s_n3_iload C dX12_dust_141 ?_
        refine g_icmp_lt 150 C dX12_dust_142 (by decide) (by first | assumption | (unfold iR; omega)) (by first | assumption | (unfold iR; omega)) (fun c142 => ?_) (fun c142 => ?_)
        · refine g_lconst0 C dX12_dust_150 ?_
          refine g_ladd C dX12_dust_151 ?_
          refine s_w7_lstore C dX12_dust_152 rfl ?_
          refine s_w9_lload C dX12_dust_154 ?_
          refine s_n2_iload C dX12_dust_156 ?_
          refine s_w11_iload C dX12_dust_157 ?_
          refine g_isub C dX12_dust_159 ?_
          refine g_i2l C dX12_dust_160 (by first | assumption | (unfold iR; omega)) ?_
          refine g_lmul C dX12_dust_161 ?_
          refine s_w11_iload C dX12_dust_162 ?_
          refine g_iconst C dX12_dust_164 ?_
          refine g_iadd C dX12_dust_165 ?_
          refine g_i2l C dX12_dust_166 (by first | assumption | (unfold iR; omega)) ?_
          have hmul : 0 ≤ wyN m j * (m - j) ∧ wyN m j * (m - j) ≤ 2520 := by rcases (show m - j = 0 ∨ m - j = 1 ∨ m - j = 2 ∨ m - j = 3 ∨ m - j = 4 ∨ m - j = 5 ∨ m - j = 6 ∨ m - j = 7 ∨ m - j = 8 ∨ m - j = 9 ∨ m - j = 10 by omega) with q | q | q | q | q | q | q | q | q | q | q <;> rw [q] <;> omega
          refine g_ldiv C dX12_dust_167 (by omega) ?_
          refine s_w9_lstore C dX12_dust_168 rfl ?_
          refine s_w11_iinc C dX12_dust_170 rfl ?_
          refine g_goto 90 C dX12_dust_173 (by decide) ?_
          rw [if_pos c142] at e2
          rw [Int.add_zero]
          have := ih _ (by omega) (j + 1) s b (some (vl (mwN p m j m))) (some (vi m)) hR q1 q2 q3 q4 (by omega) rfl
          rw [e1, e2] at this
          exact this
        · refine s_w12_lload C dX12_dust_145 ?_
          refine g_goto 151 C dX12_dust_147 (by decide) ?_
          refine g_ladd C dX12_dust_151 ?_
          refine s_w7_lstore C dX12_dust_152 rfl ?_
          refine s_w9_lload C dX12_dust_154 ?_
          refine s_n2_iload C dX12_dust_156 ?_
          refine s_w11_iload C dX12_dust_157 ?_
          refine g_isub C dX12_dust_159 ?_
          refine g_i2l C dX12_dust_160 (by first | assumption | (unfold iR; omega)) ?_
          refine g_lmul C dX12_dust_161 ?_
          refine s_w11_iload C dX12_dust_162 ?_
          refine g_iconst C dX12_dust_164 ?_
          refine g_iadd C dX12_dust_165 ?_
          refine g_i2l C dX12_dust_166 (by first | assumption | (unfold iR; omega)) ?_
          have hmul : 0 ≤ wyN m j * (m - j) ∧ wyN m j * (m - j) ≤ 2520 := by rcases (show m - j = 0 ∨ m - j = 1 ∨ m - j = 2 ∨ m - j = 3 ∨ m - j = 4 ∨ m - j = 5 ∨ m - j = 6 ∨ m - j = 7 ∨ m - j = 8 ∨ m - j = 9 ∨ m - j = 10 by omega) with q | q | q | q | q | q | q | q | q | q | q <;> rw [q] <;> omega
          refine g_ldiv C dX12_dust_167 (by omega) ?_
          refine s_w9_lstore C dX12_dust_168 rfl ?_
          refine s_w11_iinc C dX12_dust_170 rfl ?_
          refine g_goto 90 C dX12_dust_173 (by decide) ?_
          rw [if_neg (by omega), ← mw_e q1 q2 ⟨h1.1, by omega⟩] at e2
          have := ih _ (by omega) (j + 1) s b (some (vl (mwN p m j m))) (some (vi m)) hR q1 q2 q3 q4 (by omega) rfl
          rw [e1, e2] at this
          exact this
  have l1 : ∀ (z : Nat) (j : Int) (s : YT) (b : Int → Int), yR X s b → (0 ≤ p ∧ p ≤ 10) → (0 ≤ m ∧ m ≤ 10) → (0 ≤ k ∧ k ≤ m) → (0 ≤ d ∧ d ≤ 1) → 0 ≤ j ∧ j ≤ m → (m - j).toNat = z → G κ (YO s M) n [some (vr 152), some (vi p), some (vi m), some (vi k), some (vi d), some (vl (pwI 10 j)), none, some (vl 0), none, some (vi j), none, none, none, none, none, none, none] 64 [] 0 0 := by
    intro z
    induction z using Nat.strongRecOn with
    | ind z ih =>
      intro j s b hR q1 q2 q3 q4 h1 hz
      have es : pwI 10 (j + 1) = pwI 10 j * 10 := itI_s _ _ h1.1
      refine s_w9_iload C dX12_dust_64 ?_
      refine s_n2_iload C dX12_dust_66 ?_
      refine g_icmp_ge 84 C dX12_dust_67 (by decide) (by first | assumption | (unfold iR; omega)) (by first | assumption | (unfold iR; omega)) (fun c67 => ?_) (fun c67 => ?_)
      · refine g_lconst1 C dX12_dust_84 ?_
        refine s_w9_lstore C dX12_dust_85 rfl ?_
        refine g_iconst C dX12_dust_87 ?_
        refine s_w11_istore C dX12_dust_88 rfl ?_
        have ej : j = m := by omega
        subst ej
        exact l2 _ 0 s b none none hR q1 q2 q3 q4 (by omega) rfl
      · refine s_w5_lload C dX12_dust_70 ?_
        refine g_ldc2 (10) C wd_773 dX12_dust_72 ?_
        refine g_lmul C dX12_dust_75 ?_
        refine s_w5_lstore C dX12_dust_76 rfl ?_
        refine s_w9_iinc C dX12_dust_78 rfl ?_
        refine g_goto 64 C dX12_dust_81 (by decide) ?_
        have := ih _ (by omega) (j + 1) s b hR q1 q2 q3 q4 (by omega) rfl
        rw [es] at this
        exact this
  refine s_n0_aload C dX12_dust_0 ?_
  refine g_iconst C dX12_dust_1 ?_
  refine g_put C fp_X12_44_12 dX12_dust_2 (YO_o ..) (Nat.le_of_ble_eq_true rfl) (gfit_i _) ?_
  rw [YO_p0]
  obtain ⟨b, hR⟩ := h0
  have hR := hR.th 0
  generalize ((fu s0.1 0 0, s0.2) : YT) = s at hR ⊢
  refine s_n1_iload C dX12_dust_5 ?_
  refine g_i2l C dX12_dust_6 (by first | assumption | (unfold iR; omega)) ?_
  refine g_lconst0 C dX12_dust_7 ?_
  refine g_ldc2 (10) C wd_773 dX12_dust_8 ?_
  refine g_invS C (ct_X12_in (v := p) (lo := 0) (hi := 10) (by unfold iR at *; unfold lR; omega) (by unfold iR at *; unfold lR; omega) (by unfold iR at *; unfold lR; omega)) cs_X12_54 (rmk_ok (by decide) (by decide) (by decide) (by decide)) (Nat.le_of_ble_eq_true rfl) rfl dX12_dust_11 rfl (q_r0 ?_)
  refine g_bifeq 51 C dX12_dust_14 (by decide)  (fun c14 => ?_) (fun c14 => ?_)
  · refine g_ldc2 (-1000001) C wd_774 dX12_dust_51 ?_
    refine g_lret C E dX12_dust_54 (by decide) ?_
    unfold duA
    rw [if_pos c14]
    exact ⟨rfl, rfl, _, rfl, b, hR⟩
  · refine s_n2_iload C dX12_dust_17 ?_
    refine g_i2l C dX12_dust_18 (by first | assumption | (unfold iR; omega)) ?_
    refine g_lconst0 C dX12_dust_19 ?_
    refine g_ldc2 (10) C wd_773 dX12_dust_20 ?_
    refine g_invS C (ct_X12_in (v := m) (lo := 0) (hi := 10) (by unfold iR at *; unfold lR; omega) (by unfold iR at *; unfold lR; omega) (by unfold iR at *; unfold lR; omega)) cs_X12_54 (rmk_ok (by decide) (by decide) (by decide) (by decide)) (Nat.le_of_ble_eq_true rfl) rfl dX12_dust_23 rfl (q_r0 ?_)
    refine g_bifeq 51 C dX12_dust_26 (by decide)  (fun c26 => ?_) (fun c26 => ?_)
    · refine g_ldc2 (-1000001) C wd_774 dX12_dust_51 ?_
      refine g_lret C E dX12_dust_54 (by decide) ?_
      unfold duA
      rw [if_neg (not_not_intro c14), if_pos c26]
      exact ⟨rfl, rfl, _, rfl, b, hR⟩
    · refine s_n3_iload C dX12_dust_29 ?_
      refine g_i2l C dX12_dust_30 (by first | assumption | (unfold iR; omega)) ?_
      refine g_lconst0 C dX12_dust_31 ?_
      refine s_n2_iload C dX12_dust_32 ?_
      refine g_i2l C dX12_dust_33 (by first | assumption | (unfold iR; omega)) ?_
      refine g_invS C (ct_X12_in (v := k) (lo := 0) (hi := m) (by unfold iR at *; unfold lR; omega) (by unfold iR at *; unfold lR; omega) (by unfold iR at *; unfold lR; omega)) cs_X12_54 (rmk_ok (by decide) (by decide) (by decide) (by decide)) (Nat.le_of_ble_eq_true rfl) rfl dX12_dust_34 rfl (q_r0 ?_)
      refine g_bifeq 51 C dX12_dust_37 (by decide)  (fun c37 => ?_) (fun c37 => ?_)
      · refine g_ldc2 (-1000001) C wd_774 dX12_dust_51 ?_
        refine g_lret C E dX12_dust_54 (by decide) ?_
        unfold duA
        rw [if_neg (not_not_intro c14), if_neg (not_not_intro c26), if_pos c37]
        exact ⟨rfl, rfl, _, rfl, b, hR⟩
      · refine s_w4_iload C dX12_dust_40 ?_
        refine g_i2l C dX12_dust_42 (by first | assumption | (unfold iR; omega)) ?_
        refine g_lconst0 C dX12_dust_43 ?_
        refine g_lconst1 C dX12_dust_44 ?_
        refine g_invS C (ct_X12_in (v := d) (lo := 0) (hi := 1) (by unfold iR at *; unfold lR; omega) (by unfold iR at *; unfold lR; omega) (by unfold iR at *; unfold lR; omega)) cs_X12_54 (rmk_ok (by decide) (by decide) (by decide) (by decide)) (Nat.le_of_ble_eq_true rfl) rfl dX12_dust_45 rfl (q_r0 ?_)
        refine g_bifne 55 C dX12_dust_48 (by decide)  (fun c48 => ?_) (fun c48 => ?_)
        · refine g_lconst1 C dX12_dust_55 ?_
          refine s_w5_lstore C dX12_dust_56 rfl ?_
          refine g_lconst0 C dX12_dust_58 ?_
          refine s_w7_lstore C dX12_dust_59 rfl ?_
          refine g_iconst C dX12_dust_61 ?_
          refine s_w9_istore C dX12_dust_62 rfl ?_
          exact l1 _ 0 s b hR c14 c26 c37 c48 (by omega) rfl
        · refine g_ldc2 (-1000001) C wd_774 dX12_dust_51 ?_
          refine g_lret C E dX12_dust_54 (by decide) ?_
          unfold duA
          rw [if_neg (not_not_intro c14), if_neg (not_not_intro c26), if_neg (not_not_intro c37), if_pos c48]
          exact ⟨rfl, rfl, _, rfl, b, hR⟩
