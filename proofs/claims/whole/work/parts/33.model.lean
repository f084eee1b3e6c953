/-! PadPolishModel: its cells, what they mean -/
abbrev YT : Type := (Int → Int) × (Int → Int → Int)
def yObj (sc : Int → Int) : List gV := [vi (sc 0), vi (sc 1), vr 153, vr 154, vr 155, vr 156, vr 157, vr 158, vr 159, vi (sc 9), vr 160, vi (sc 11), vi (sc 12), vi (sc 13), vi (sc 14), vi (sc 15), vi (sc 16), vi (sc 17), vi (sc 18), vi (sc 19), vr 161, vr 162, vr 163, vi (sc 23)]
def YO (s : YT) (M : gM) : gM := fun a => if a = 152 then some (gO 12 (yObj s.1)) else if a = 153 then some (gA 0 8 (s.2 0)) else if a = 154 then some (gA 0 8 (s.2 1)) else if a = 155 then some (gA 0 320 (s.2 2)) else if a = 156 then some (gA 0 95 (s.2 3)) else if a = 157 then some (gA 0 95 (s.2 4)) else if a = 158 then some (gA 0 95 (s.2 5)) else if a = 159 then some (gA 0 2280 (s.2 6)) else if a = 160 then some (gA 0 120 (s.2 7)) else if a = 161 then some (gA 1 2 (s.2 8)) else if a = 162 then some (gA 0 190 (s.2 9)) else if a = 163 then some (gA 0 16 (s.2 10)) else M a
section YOS
variable (s : YT) (M : gM)
theorem YO_o : YO s M 152 = some (gO 12 (yObj s.1)) := rfl
theorem YO_a0 : YO s M 153 = some (gA 0 8 (s.2 0)) := rfl
theorem YO_a1 : YO s M 154 = some (gA 0 8 (s.2 1)) := rfl
theorem YO_a2 : YO s M 155 = some (gA 0 320 (s.2 2)) := rfl
theorem YO_a3 : YO s M 156 = some (gA 0 95 (s.2 3)) := rfl
theorem YO_a4 : YO s M 157 = some (gA 0 95 (s.2 4)) := rfl
theorem YO_a5 : YO s M 158 = some (gA 0 95 (s.2 5)) := rfl
theorem YO_a6 : YO s M 159 = some (gA 0 2280 (s.2 6)) := rfl
theorem YO_a7 : YO s M 160 = some (gA 0 120 (s.2 7)) := rfl
theorem YO_a8 : YO s M 161 = some (gA 1 2 (s.2 8)) := rfl
theorem YO_a9 : YO s M 162 = some (gA 0 190 (s.2 9)) := rfl
theorem YO_a10 : YO s M 163 = some (gA 0 16 (s.2 10)) := rfl
theorem YO_out {a : Int} (h : a < 152 ∨ 164 ≤ a) : YO s M a = M a := by
  unfold YO
  rw [if_neg (by omega), if_neg (by omega), if_neg (by omega), if_neg (by omega), if_neg (by omega), if_neg (by omega), if_neg (by omega), if_neg (by omega), if_neg (by omega), if_neg (by omega), if_neg (by omega), if_neg (by omega)]
theorem YO_p0 (x : Int) : gu (YO s M) 152 (gO 12 ((yObj s.1).set 0 (vi x))) = YO (fu s.1 0 x, s.2) M := by
  funext a
  unfold gu YO
  by_cases h : a = 152
  · rw [if_pos h, if_pos h]
    rfl
  · rw [if_neg h, if_neg h, if_neg h]
theorem YO_p1 (x : Int) : gu (YO s M) 152 (gO 12 ((yObj s.1).set 1 (vi x))) = YO (fu s.1 1 x, s.2) M := by
  funext a
  unfold gu YO
  by_cases h : a = 152
  · rw [if_pos h, if_pos h]
    rfl
  · rw [if_neg h, if_neg h, if_neg h]
theorem YO_p9 (x : Int) : gu (YO s M) 152 (gO 12 ((yObj s.1).set 9 (vi x))) = YO (fu s.1 9 x, s.2) M := by
  funext a
  unfold gu YO
  by_cases h : a = 152
  · rw [if_pos h, if_pos h]
    rfl
  · rw [if_neg h, if_neg h, if_neg h]
theorem YO_p11 (x : Int) : gu (YO s M) 152 (gO 12 ((yObj s.1).set 11 (vi x))) = YO (fu s.1 11 x, s.2) M := by
  funext a
  unfold gu YO
  by_cases h : a = 152
  · rw [if_pos h, if_pos h]
    rfl
  · rw [if_neg h, if_neg h, if_neg h]
theorem YO_p12 (x : Int) : gu (YO s M) 152 (gO 12 ((yObj s.1).set 12 (vi x))) = YO (fu s.1 12 x, s.2) M := by
  funext a
  unfold gu YO
  by_cases h : a = 152
  · rw [if_pos h, if_pos h]
    rfl
  · rw [if_neg h, if_neg h, if_neg h]
theorem YO_p13 (x : Int) : gu (YO s M) 152 (gO 12 ((yObj s.1).set 13 (vi x))) = YO (fu s.1 13 x, s.2) M := by
  funext a
  unfold gu YO
  by_cases h : a = 152
  · rw [if_pos h, if_pos h]
    rfl
  · rw [if_neg h, if_neg h, if_neg h]
theorem YO_p14 (x : Int) : gu (YO s M) 152 (gO 12 ((yObj s.1).set 14 (vi x))) = YO (fu s.1 14 x, s.2) M := by
  funext a
  unfold gu YO
  by_cases h : a = 152
  · rw [if_pos h, if_pos h]
    rfl
  · rw [if_neg h, if_neg h, if_neg h]
theorem YO_p15 (x : Int) : gu (YO s M) 152 (gO 12 ((yObj s.1).set 15 (vi x))) = YO (fu s.1 15 x, s.2) M := by
  funext a
  unfold gu YO
  by_cases h : a = 152
  · rw [if_pos h, if_pos h]
    rfl
  · rw [if_neg h, if_neg h, if_neg h]
theorem YO_p16 (x : Int) : gu (YO s M) 152 (gO 12 ((yObj s.1).set 16 (vi x))) = YO (fu s.1 16 x, s.2) M := by
  funext a
  unfold gu YO
  by_cases h : a = 152
  · rw [if_pos h, if_pos h]
    rfl
  · rw [if_neg h, if_neg h, if_neg h]
theorem YO_p17 (x : Int) : gu (YO s M) 152 (gO 12 ((yObj s.1).set 17 (vi x))) = YO (fu s.1 17 x, s.2) M := by
  funext a
  unfold gu YO
  by_cases h : a = 152
  · rw [if_pos h, if_pos h]
    rfl
  · rw [if_neg h, if_neg h, if_neg h]
theorem YO_p18 (x : Int) : gu (YO s M) 152 (gO 12 ((yObj s.1).set 18 (vi x))) = YO (fu s.1 18 x, s.2) M := by
  funext a
  unfold gu YO
  by_cases h : a = 152
  · rw [if_pos h, if_pos h]
    rfl
  · rw [if_neg h, if_neg h, if_neg h]
theorem YO_p19 (x : Int) : gu (YO s M) 152 (gO 12 ((yObj s.1).set 19 (vi x))) = YO (fu s.1 19 x, s.2) M := by
  funext a
  unfold gu YO
  by_cases h : a = 152
  · rw [if_pos h, if_pos h]
    rfl
  · rw [if_neg h, if_neg h, if_neg h]
theorem YO_p23 (x : Int) : gu (YO s M) 152 (gO 12 ((yObj s.1).set 23 (vi x))) = YO (fu s.1 23 x, s.2) M := by
  funext a
  unfold gu YO
  by_cases h : a = 152
  · rw [if_pos h, if_pos h]
    rfl
  · rw [if_neg h, if_neg h, if_neg h]
theorem YO_u0 (f : Int → Int) : gu (YO s M) 153 (gA 0 8 f) = YO (s.1, fu s.2 0 f) M := by
  funext a
  by_cases h : a = 153
  · subst h
    rfl
  · rw [gu_ne _ _ h]
    by_cases h1 : 152 ≤ a ∧ a < 164
    · rcases (show a = 152 ∨ a = 153 ∨ a = 154 ∨ a = 155 ∨ a = 156 ∨ a = 157 ∨ a = 158 ∨ a = 159 ∨ a = 160 ∨ a = 161 ∨ a = 162 ∨ a = 163 by omega) with rfl | rfl | rfl | rfl | rfl | rfl | rfl | rfl | rfl | rfl | rfl | rfl <;> first | rfl | exact absurd rfl h
    · rw [YO_out _ _ (by omega), YO_out _ _ (by omega)]
theorem YO_u1 (f : Int → Int) : gu (YO s M) 154 (gA 0 8 f) = YO (s.1, fu s.2 1 f) M := by
  funext a
  by_cases h : a = 154
  · subst h
    rfl
  · rw [gu_ne _ _ h]
    by_cases h1 : 152 ≤ a ∧ a < 164
    · rcases (show a = 152 ∨ a = 153 ∨ a = 154 ∨ a = 155 ∨ a = 156 ∨ a = 157 ∨ a = 158 ∨ a = 159 ∨ a = 160 ∨ a = 161 ∨ a = 162 ∨ a = 163 by omega) with rfl | rfl | rfl | rfl | rfl | rfl | rfl | rfl | rfl | rfl | rfl | rfl <;> first | rfl | exact absurd rfl h
    · rw [YO_out _ _ (by omega), YO_out _ _ (by omega)]
theorem YO_u2 (f : Int → Int) : gu (YO s M) 155 (gA 0 320 f) = YO (s.1, fu s.2 2 f) M := by
  funext a
  by_cases h : a = 155
  · subst h
    rfl
  · rw [gu_ne _ _ h]
    by_cases h1 : 152 ≤ a ∧ a < 164
    · rcases (show a = 152 ∨ a = 153 ∨ a = 154 ∨ a = 155 ∨ a = 156 ∨ a = 157 ∨ a = 158 ∨ a = 159 ∨ a = 160 ∨ a = 161 ∨ a = 162 ∨ a = 163 by omega) with rfl | rfl | rfl | rfl | rfl | rfl | rfl | rfl | rfl | rfl | rfl | rfl <;> first | rfl | exact absurd rfl h
    · rw [YO_out _ _ (by omega), YO_out _ _ (by omega)]
theorem YO_u3 (f : Int → Int) : gu (YO s M) 156 (gA 0 95 f) = YO (s.1, fu s.2 3 f) M := by
  funext a
  by_cases h : a = 156
  · subst h
    rfl
  · rw [gu_ne _ _ h]
    by_cases h1 : 152 ≤ a ∧ a < 164
    · rcases (show a = 152 ∨ a = 153 ∨ a = 154 ∨ a = 155 ∨ a = 156 ∨ a = 157 ∨ a = 158 ∨ a = 159 ∨ a = 160 ∨ a = 161 ∨ a = 162 ∨ a = 163 by omega) with rfl | rfl | rfl | rfl | rfl | rfl | rfl | rfl | rfl | rfl | rfl | rfl <;> first | rfl | exact absurd rfl h
    · rw [YO_out _ _ (by omega), YO_out _ _ (by omega)]
theorem YO_u4 (f : Int → Int) : gu (YO s M) 157 (gA 0 95 f) = YO (s.1, fu s.2 4 f) M := by
  funext a
  by_cases h : a = 157
  · subst h
    rfl
  · rw [gu_ne _ _ h]
    by_cases h1 : 152 ≤ a ∧ a < 164
    · rcases (show a = 152 ∨ a = 153 ∨ a = 154 ∨ a = 155 ∨ a = 156 ∨ a = 157 ∨ a = 158 ∨ a = 159 ∨ a = 160 ∨ a = 161 ∨ a = 162 ∨ a = 163 by omega) with rfl | rfl | rfl | rfl | rfl | rfl | rfl | rfl | rfl | rfl | rfl | rfl <;> first | rfl | exact absurd rfl h
    · rw [YO_out _ _ (by omega), YO_out _ _ (by omega)]
theorem YO_u5 (f : Int → Int) : gu (YO s M) 158 (gA 0 95 f) = YO (s.1, fu s.2 5 f) M := by
  funext a
  by_cases h : a = 158
  · subst h
    rfl
  · rw [gu_ne _ _ h]
    by_cases h1 : 152 ≤ a ∧ a < 164
    · rcases (show a = 152 ∨ a = 153 ∨ a = 154 ∨ a = 155 ∨ a = 156 ∨ a = 157 ∨ a = 158 ∨ a = 159 ∨ a = 160 ∨ a = 161 ∨ a = 162 ∨ a = 163 by omega) with rfl | rfl | rfl | rfl | rfl | rfl | rfl | rfl | rfl | rfl | rfl | rfl <;> first | rfl | exact absurd rfl h
    · rw [YO_out _ _ (by omega), YO_out _ _ (by omega)]
theorem YO_u6 (f : Int → Int) : gu (YO s M) 159 (gA 0 2280 f) = YO (s.1, fu s.2 6 f) M := by
  funext a
  by_cases h : a = 159
  · subst h
    rfl
  · rw [gu_ne _ _ h]
    by_cases h1 : 152 ≤ a ∧ a < 164
    · rcases (show a = 152 ∨ a = 153 ∨ a = 154 ∨ a = 155 ∨ a = 156 ∨ a = 157 ∨ a = 158 ∨ a = 159 ∨ a = 160 ∨ a = 161 ∨ a = 162 ∨ a = 163 by omega) with rfl | rfl | rfl | rfl | rfl | rfl | rfl | rfl | rfl | rfl | rfl | rfl <;> first | rfl | exact absurd rfl h
    · rw [YO_out _ _ (by omega), YO_out _ _ (by omega)]
theorem YO_u7 (f : Int → Int) : gu (YO s M) 160 (gA 0 120 f) = YO (s.1, fu s.2 7 f) M := by
  funext a
  by_cases h : a = 160
  · subst h
    rfl
  · rw [gu_ne _ _ h]
    by_cases h1 : 152 ≤ a ∧ a < 164
    · rcases (show a = 152 ∨ a = 153 ∨ a = 154 ∨ a = 155 ∨ a = 156 ∨ a = 157 ∨ a = 158 ∨ a = 159 ∨ a = 160 ∨ a = 161 ∨ a = 162 ∨ a = 163 by omega) with rfl | rfl | rfl | rfl | rfl | rfl | rfl | rfl | rfl | rfl | rfl | rfl <;> first | rfl | exact absurd rfl h
    · rw [YO_out _ _ (by omega), YO_out _ _ (by omega)]
theorem YO_u8 (f : Int → Int) : gu (YO s M) 161 (gA 1 2 f) = YO (s.1, fu s.2 8 f) M := by
  funext a
  by_cases h : a = 161
  · subst h
    rfl
  · rw [gu_ne _ _ h]
    by_cases h1 : 152 ≤ a ∧ a < 164
    · rcases (show a = 152 ∨ a = 153 ∨ a = 154 ∨ a = 155 ∨ a = 156 ∨ a = 157 ∨ a = 158 ∨ a = 159 ∨ a = 160 ∨ a = 161 ∨ a = 162 ∨ a = 163 by omega) with rfl | rfl | rfl | rfl | rfl | rfl | rfl | rfl | rfl | rfl | rfl | rfl <;> first | rfl | exact absurd rfl h
    · rw [YO_out _ _ (by omega), YO_out _ _ (by omega)]
theorem YO_u9 (f : Int → Int) : gu (YO s M) 162 (gA 0 190 f) = YO (s.1, fu s.2 9 f) M := by
  funext a
  by_cases h : a = 162
  · subst h
    rfl
  · rw [gu_ne _ _ h]
    by_cases h1 : 152 ≤ a ∧ a < 164
    · rcases (show a = 152 ∨ a = 153 ∨ a = 154 ∨ a = 155 ∨ a = 156 ∨ a = 157 ∨ a = 158 ∨ a = 159 ∨ a = 160 ∨ a = 161 ∨ a = 162 ∨ a = 163 by omega) with rfl | rfl | rfl | rfl | rfl | rfl | rfl | rfl | rfl | rfl | rfl | rfl <;> first | rfl | exact absurd rfl h
    · rw [YO_out _ _ (by omega), YO_out _ _ (by omega)]
theorem YO_u10 (f : Int → Int) : gu (YO s M) 163 (gA 0 16 f) = YO (s.1, fu s.2 10 f) M := by
  funext a
  by_cases h : a = 163
  · subst h
    rfl
  · rw [gu_ne _ _ h]
    by_cases h1 : 152 ≤ a ∧ a < 164
    · rcases (show a = 152 ∨ a = 153 ∨ a = 154 ∨ a = 155 ∨ a = 156 ∨ a = 157 ∨ a = 158 ∨ a = 159 ∨ a = 160 ∨ a = 161 ∨ a = 162 ∨ a = 163 by omega) with rfl | rfl | rfl | rfl | rfl | rfl | rfl | rfl | rfl | rfl | rfl | rfl <;> first | rfl | exact absurd rfl h
    · rw [YO_out _ _ (by omega), YO_out _ _ (by omega)]
end YOS
def YOi (s : YT) (M : gM) : Prop := ∀ a, 152 ≤ a → a < 164 → YO s M a = M a
theorem YO_self {s : YT} {M : gM} (h : YOi s M) : YO s M = M := by
  funext a
  by_cases h1 : 152 ≤ a ∧ a < 164
  · exact h a h1.1 h1.2
  · exact YO_out _ _ (by omega)
theorem fu_fu {α : Type} (f : Int → α) (k : Int) (x y : α) : fu (fu f k x) k y = fu f k y := by
  funext j
  unfold fu
  split <;> rfl
def yS (i : Int) (s : YT) (S : SLT) (b : Int → Int) : YT := (s.1, fu s.2 i (pk S b))
theorem yS_u3 (s : YT) (S S2 : SLT) (b : Int → Int) (M : gM) : gu (YO (yS 3 s S b) M) 156 (gA 0 95 (pk S2 b)) = YO (yS 3 s S2 b) M := by
  rw [YO_u3]
  show YO (s.1, fu (fu s.2 3 (pk S b)) 3 (pk S2 b)) M = _
  rw [fu_fu]
  rfl
theorem yS_u5 (s : YT) (S S2 : SLT) (b : Int → Int) (M : gM) : gu (YO (yS 5 s S b) M) 158 (gA 0 95 (pk S2 b)) = YO (yS 5 s S2 b) M := by
  rw [YO_u5]
  show YO (s.1, fu (fu s.2 5 (pk S b)) 5 (pk S2 b)) M = _
  rw [fu_fu]
  rfl
theorem yS_3 {s : YT} {S : SLT} {b : Int → Int} (h : s.2 3 = pk S b) : yS 3 s S b = s := by
  unfold yS
  rw [← h, show fu s.2 3 (s.2 3) = s.2 by funext j; unfold fu; split <;> simp_all]
def bOK (t : Int) (ps : PST) (sk : Int) (b : Int → Int) : Prop := b 0 = t ∧ b 1 = sk ∧ b 5 = ps.1 ∧ ∀ p, 0 ≤ p → p < ps.1 → b (51 + 11 * p) = kiOf (ps.2.1 p) ∧ b (51 + 11 * p + 1) = ps.2.2.1 p ∧ ∀ k, 0 ≤ k → k < ps.2.2.1 p → b (51 + 11 * p + 2 + k) = ps.2.2.2 p k
theorem km_goOver {ci : Nat} {a : Int} {Z : SLT} {b : Int → Int} {M : gM} {n c : Int} (hk : isKi ci) (hS : sfOK Z) (hc : 0 ≤ c ∧ c < 15) : CT yX12_goOver cX12_goOver 6 none (rmk 1 0 0) [vr a, vi (kiOf ci), vi c] (gu M a (gA 0 95 (pk Z b))) n (qr none (gu M a (gA 0 95 (pk (pTouch ci c Z) b))) n) := by
  obtain ⟨f, s, h, w, l, p⟩ := Z
  rcases hk with rfl | rfl | rfl | rfl | rfl
  · exact ct_X12_goOver_1 hS hc
  · exact ct_X12_goOver_2 hS hc
  · exact ct_X12_goOver_4 hS hc
  · exact ct_X12_goOver_5 hS hc
  · exact ct_X12_goOver_6 hS hc
theorem km_stands {a : Int} {Z : SLT} {b : Int → Int} {M : gM} {n c : Int} (hS : sfOK Z) (hc : 0 ≤ c ∧ c < 15) : CT yX12_stands cX12_stands 2 none (rmk 0 0 0) [vr a, vi c] (gu M a (gA 0 95 (pk Z b))) n (qr none (gu M a (gA 0 95 (pk (sfTear Z c) b))) n) := by
  obtain ⟨f, s, h, w, l, p⟩ := Z
  exact ct_X12_stands hS hc
theorem km_rests {a : Int} {Z : SLT} {b : Int → Int} {M : gM} {n : Int} (hS : sfOK Z) (hk : 0 ≤ b 1 ∧ b 1 ≤ 99) : CT yX12_rests cX12_rests 2 none (rmk 0 0 0) [vr a] (gu M a (gA 0 95 (pk Z b))) n (qr none (gu M a (gA 0 95 (pk (sfSink Z (b 1)) b))) n) := by
  obtain ⟨f, s, h, w, l, p⟩ := Z
  exact ct_X12_rests hS hk
theorem kiOf_b {ci : Nat} : 1 ≤ kiOf ci ∧ kiOf ci ≤ 5 := by
  unfold kiOf
  (repeat' split) <;> omega
set_option maxRecDepth 20000 in
theorem ct_X12_isThere {s : YT} {S : SLT} {b : Int → Int} {t sk : Int} {ps : PST} {M : gM} {n : Int} (ht : s.2 3 = pk S b) (hb : bOK t ps sk b) (h01 : t = 0 ∨ t = 1) : CT yX12_isThere cX12_isThere 1 (some .boolean) (rmk 0 0 0) [vr 152] (YO s M) n (qr (some (vi (if t = 0 then 0 else 1))) (YO s M) n) := by
  refine CT.of (by decide) (fun _ => Nat.le_of_ble_eq_true rfl) (fun κ C E => ?_)
  show G κ (YO s M) n [some (vr 152)] 0 [] 0 0
  have e0 : s.2 3 0 = t := by rw [ht, pq_b (Or.inl (by decide))]; exact hb.1
  refine s_n0_aload C dX12_isThere_0 ?_
  refine g_get C fd_X12_19_12 dX12_isThere_1 (YO_o ..) rfl ?_
  refine g_iconst C dX12_isThere_4 ?_
  refine g_iald C dX12_isThere_5 (YO_a3 ..) (by omega) ?_
  rw [e0]
  refine g_iconst C dX12_isThere_6 ?_
  refine g_icmp_ne 14 C dX12_isThere_7 (by decide) (by first | assumption | (unfold iR; omega)) (by first | assumption | (unfold iR; omega)) (fun c7 => ?_) (fun c7 => ?_)
  · refine g_iconst C dX12_isThere_14 ?_
    refine g_zret C E dX12_isThere_15 (by decide) (by omega) ?_
    rw [if_pos (by omega)]
    exact ⟨rfl, rfl, rfl⟩
  · refine g_iconst C dX12_isThere_10 ?_
    refine g_goto 15 C dX12_isThere_11 (by decide) ?_
    refine g_zret C E dX12_isThere_15 (by decide) (by omega) ?_
    rw [if_neg (by omega)]
    exact ⟨rfl, rfl, rfl⟩
set_option maxRecDepth 20000 in
theorem ct_X12_isPass {s : YT} {S : SLT} {b : Int → Int} {t sk : Int} {ps : PST} {M : gM} {n : Int} (ht : s.2 3 = pk S b) (hb : bOK t ps sk b) (hps : psOK ps) {p : Int} (hp : iR p) : CT yX12_isPass cX12_isPass 2 (some .boolean) (rmk 1 0 0) [vr 152, vi p] (YO s M) n (qr (some (vi (if 0 ≤ p ∧ p < ps.1 then 1 else 0))) (YO s M) n) := by
  refine CT.of (by decide) (fun _ => Nat.le_of_ble_eq_true rfl) (fun κ C E => ?_)
  show G κ (YO s M) n [some (vr 152), some (vi p)] 0 [] 0 0
  have e5 : s.2 3 5 = ps.1 := by rw [ht, pq_b (Or.inr (Or.inl rfl))]; exact hb.2.2.1
  have h1 := hps.1
  have h2 := hps.2.1
  refine s_n1_iload C dX12_isPass_0 ?_
  refine g_i2l C dX12_isPass_1 (by exact hp) ?_
  refine g_lconst0 C dX12_isPass_2 ?_
  refine s_n0_aload C dX12_isPass_3 ?_
  refine g_get C fd_X12_19_12 dX12_isPass_4 (YO_o ..) rfl ?_
  refine g_iconst C dX12_isPass_7 ?_
  refine g_iald C dX12_isPass_8 (YO_a3 ..) (by omega) ?_
  rw [e5]
  refine g_iconst C dX12_isPass_9 ?_
  refine g_isub C dX12_isPass_10 ?_
  refine g_i2l C dX12_isPass_11 (by unfold iR; omega) ?_
  refine g_invS C (ct_X12_in (v := p) (by unfold lR; unfold iR at hp; omega) (by unfold lR; omega) (by unfold lR; omega)) cs_X12_54 (rmk_ok (by decide) (by decide) (by decide) (by decide)) (Nat.le_of_ble_eq_true rfl) rfl dX12_isPass_12 rfl (q_r0 ?_)
  refine g_zret C E dX12_isPass_15 (by decide) (by split <;> omega) ?_
  by_cases q : 0 ≤ p ∧ p < ps.1
  · rw [if_pos q, if_pos (by omega)]
    exact ⟨rfl, rfl, rfl⟩
  · rw [if_neg q, if_neg (by omega)]
    exact ⟨rfl, rfl, rfl⟩
set_option maxRecDepth 20000 in
theorem ct_X12_kindOf {s : YT} {S : SLT} {b : Int → Int} {t sk : Int} {ps : PST} {M : gM} {n : Int} (ht : s.2 3 = pk S b) (hb : bOK t ps sk b) (hps : psOK ps) {p : Int} (hp : 0 ≤ p ∧ p < ps.1)  : CT yX12_kindOf cX12_kindOf 2 (some .int) (rmk 0 0 0) [vr 152, vi p] (YO s M) n (qr (some (vi (kiOf (ps.2.1 p)))) (YO s M) n) := by
  refine CT.of (by decide) (fun _ => Nat.le_of_ble_eq_true rfl) (fun κ C E => ?_)
  show G κ (YO s M) n [some (vr 152), some (vi p)] 0 [] 0 0
  have h2 := hps.2.1
  have hw := (hps.2.2 p hp.1 hp.2).2.2.1
  have e : s.2 3 (51 + 11 * p) = kiOf (ps.2.1 p) := by rw [ht, pq_b (k := 51 + 11 * p) (Or.inr (Or.inr (by omega)))]; exact (hb.2.2.2 p hp.1 hp.2).1
  refine s_n0_aload C dX12_kindOf_0 ?_
  refine g_get C fd_X12_19_12 dX12_kindOf_1 (YO_o ..) rfl ?_
  refine g_bipush C dX12_kindOf_4 (by decide) ?_
  refine g_bipush C dX12_kindOf_6 (by decide) ?_
  refine s_n1_iload C dX12_kindOf_8 ?_
  refine g_imul C dX12_kindOf_9 ?_
  refine g_iadd C dX12_kindOf_10 ?_
  refine g_iald C dX12_kindOf_11 (YO_a3 ..) (by omega) ?_
  rw [e]
  refine g_iret C E dX12_kindOf_12 (by decide) ?_
  exact ⟨rfl, rfl, rfl⟩
set_option maxRecDepth 20000 in
theorem ct_X12_cellsOf {s : YT} {S : SLT} {b : Int → Int} {t sk : Int} {ps : PST} {M : gM} {n : Int} (ht : s.2 3 = pk S b) (hb : bOK t ps sk b) (hps : psOK ps) {p : Int} (hp : 0 ≤ p ∧ p < ps.1)  : CT yX12_cellsOf cX12_cellsOf 2 (some .int) (rmk 0 0 0) [vr 152, vi p] (YO s M) n (qr (some (vi (ps.2.2.1 p))) (YO s M) n) := by
  refine CT.of (by decide) (fun _ => Nat.le_of_ble_eq_true rfl) (fun κ C E => ?_)
  show G κ (YO s M) n [some (vr 152), some (vi p)] 0 [] 0 0
  have h2 := hps.2.1
  have hw := (hps.2.2 p hp.1 hp.2).2.2.1
  have e : s.2 3 (51 + 11 * p + 1) = ps.2.2.1 p := by rw [ht, pq_b (k := 51 + 11 * p + 1) (Or.inr (Or.inr (by omega)))]; exact (hb.2.2.2 p hp.1 hp.2).2.1
  refine s_n0_aload C dX12_cellsOf_0 ?_
  refine g_get C fd_X12_19_12 dX12_cellsOf_1 (YO_o ..) rfl ?_
  refine g_bipush C dX12_cellsOf_4 (by decide) ?_
  refine g_bipush C dX12_cellsOf_6 (by decide) ?_
  refine s_n1_iload C dX12_cellsOf_8 ?_
  refine g_imul C dX12_cellsOf_9 ?_
  refine g_iadd C dX12_cellsOf_10 ?_
  refine g_iconst C dX12_cellsOf_11 ?_
  refine g_iadd C dX12_cellsOf_12 ?_
  refine g_iald C dX12_cellsOf_13 (YO_a3 ..) (by omega) ?_
  rw [e]
  refine g_iret C E dX12_cellsOf_14 (by decide) ?_
  exact ⟨rfl, rfl, rfl⟩
set_option maxRecDepth 20000 in
theorem ct_X12_cellAt {s : YT} {S : SLT} {b : Int → Int} {t sk : Int} {ps : PST} {M : gM} {n : Int} (ht : s.2 3 = pk S b) (hb : bOK t ps sk b) (hps : psOK ps) {p : Int} (hp : 0 ≤ p ∧ p < ps.1) {k : Int} (hk : 0 ≤ k ∧ k < ps.2.2.1 p)  : CT yX12_cellAt cX12_cellAt 3 (some .int) (rmk 0 0 0) [vr 152, vi p, vi k] (YO s M) n (qr (some (vi (ps.2.2.2 p k))) (YO s M) n) := by
  refine CT.of (by decide) (fun _ => Nat.le_of_ble_eq_true rfl) (fun κ C E => ?_)
  show G κ (YO s M) n [some (vr 152), some (vi p), some (vi k)] 0 [] 0 0
  have h2 := hps.2.1
  have hw := (hps.2.2 p hp.1 hp.2).2.2.1
  have e : s.2 3 (51 + 11 * p + 2 + k) = ps.2.2.2 p k := by rw [ht, pq_b (k := 51 + 11 * p + 2 + k) (Or.inr (Or.inr (by omega)))]; exact (hb.2.2.2 p hp.1 hp.2).2.2 k hk.1 hk.2
  refine s_n0_aload C dX12_cellAt_0 ?_
  refine g_get C fd_X12_19_12 dX12_cellAt_1 (YO_o ..) rfl ?_
  refine g_bipush C dX12_cellAt_4 (by decide) ?_
  refine g_bipush C dX12_cellAt_6 (by decide) ?_
  refine s_n1_iload C dX12_cellAt_8 ?_
  refine g_imul C dX12_cellAt_9 ?_
  refine g_iadd C dX12_cellAt_10 ?_
  refine g_iconst C dX12_cellAt_11 ?_
  refine g_iadd C dX12_cellAt_12 ?_
  refine s_n2_iload C dX12_cellAt_13 ?_
  refine g_iadd C dX12_cellAt_14 ?_
  refine g_iald C dX12_cellAt_15 (YO_a3 ..) (by omega) ?_
  rw [e]
  refine g_iret C E dX12_cellAt_16 (by decide) ?_
  exact ⟨rfl, rfl, rfl⟩
set_option maxRecDepth 20000 in
theorem ct_X12_overBy {s : YT} {S : SLT} {b : Int → Int} {t sk : Int} {ps : PST} {M : gM} {n : Int} (ht : s.2 3 = pk S b) (hb : bOK t ps sk b) (hps : psOK ps) {p : Int} (hp : 0 ≤ p ∧ p < ps.1)  : CT yX12_overBy cX12_overBy 4 (some .int) (rmk 1 0 0) [vr 152, vi p] (YO s M) n (qr (some (vi (psCell ps p))) (YO s M) n) := by
  refine CT.of (by decide) (fun _ => Nat.le_of_ble_eq_true rfl) (fun κ C E => ?_)
  show G κ (YO s M) n [some (vr 152), some (vi p), none, none] 0 [] 0 0
  have hw := (hps.2.2 p hp.1 hp.2).2
  have hw1 := hw.1
  have hw2 := hw.2.1
  have lp : ∀ (m : Nat) (k : Int), 0 ≤ k ∧ k ≤ ps.2.2.1 p → (ps.2.2.1 p - k).toNat = m → G κ (YO s M) n [some (vr 152), some (vi p), some (vi (itI (fun i a => bOr a (bShl 1 (ps.2.2.2 p i))) (0 : Int) k)), some (vi k)] 4 [] 0 0 := by
    intro m
    induction m using Nat.strongRecOn with
    | ind m ih =>
      intro k h1 hm
      refine s_n3_iload C dX12_overBy_4 ?_
      refine s_n0_aload C dX12_overBy_5 ?_
      refine s_n1_iload C dX12_overBy_6 ?_
      refine g_invV C (ct_X12_cellsOf ht hb hps hp) (YO_o ..) cv_X12_157_12 (rmk_ok (by decide) (by decide) (by decide) (by decide)) (Nat.le_of_ble_eq_true rfl) rfl dX12_overBy_7 rfl (q_r0 ?_)
      refine g_icmp_ge 30 C dX12_overBy_10 (by decide) (by first | assumption | (unfold iR; omega)) (by first | assumption | (unfold iR; omega)) (fun c10 => ?_) (fun c10 => ?_)
      · refine s_n2_iload C dX12_overBy_30 ?_
        refine g_iret C E dX12_overBy_31 (by decide) ?_
        have e : k = ps.2.2.1 p := by omega
        subst e
        exact ⟨rfl, rfl, rfl⟩
      · refine s_n2_iload C dX12_overBy_13 ?_
        refine g_iconst C dX12_overBy_14 ?_
        refine s_n0_aload C dX12_overBy_15 ?_
        refine s_n1_iload C dX12_overBy_16 ?_
        refine s_n3_iload C dX12_overBy_17 ?_
        refine g_invV C (ct_X12_cellAt ht hb hps hp (k := k) (by omega)) (YO_o ..) cv_X12_160_12 (rmk_ok (by decide) (by decide) (by decide) (by decide)) (Nat.le_of_ble_eq_true rfl) rfl dX12_overBy_18 rfl (q_r0 ?_)
        refine g_ishl C dX12_overBy_21 ?_
        refine g_ior C dX12_overBy_22 ?_
        refine s_n2_istore C dX12_overBy_23 rfl ?_
        refine s_w3_iinc C dX12_overBy_24 rfl ?_
        refine g_goto 4 C dX12_overBy_27 (by decide) ?_
        have e := itI_s (fun i a => bOr a (bShl 1 (ps.2.2.2 p i))) (0 : Int) h1.1
        rw [← e]
        exact ih _ (by omega) (k + 1) (by omega) rfl
  refine g_iconst C dX12_overBy_0 ?_
  refine s_n2_istore C dX12_overBy_1 rfl ?_
  refine g_iconst C dX12_overBy_2 ?_
  refine s_n3_istore C dX12_overBy_3 rfl ?_
  exact lp _ 0 (by omega) rfl
set_option maxRecDepth 20000 in
theorem ct_X12_pass_3 {s : YT} {S St : SLT} {b : Int → Int} {t sk : Int} {ps : PST} {M : gM} {n : Int} (hb : bOK t ps sk b) (hps : psOK ps) {p : Int} (hp : 0 ≤ p ∧ p < ps.1) (hS : sfOK S) : CT yX12_pass cX12_pass 4 none (rmk 2 0 0) [vr 152, vr 156, vi p] (YO (yS 3 s S b) M) n (qr none (YO (yS 3 s (pGo (ps.2.1 p) (ps.2.2.1 p) (ps.2.2.2 p) S) b) M) n) := by
  refine CT.of (by decide) (fun _ => Nat.le_of_ble_eq_true rfl) (fun κ C E => ?_)
  show G κ (YO (yS 3 s S b) M) n [some (vr 152), some (vr 156), some (vi p), none] 0 [] 0 0
  obtain ⟨hki, hw⟩ := hps.2.2 p hp.1 hp.2
  have hw1 := hw.1
  have hw2 := hw.2.1
  have lp : ∀ (m : Nat) (k : Int), 0 ≤ k ∧ k ≤ ps.2.2.1 p → (ps.2.2.1 p - k).toNat = m → G κ (YO (yS 3 s (itI (fun i S => pTouch (ps.2.1 p) (ps.2.2.2 p i) S) S k) b) M) n [some (vr 152), some (vr 156), some (vi p), some (vi k)] 2 [] 0 0 := by
    intro m
    induction m using Nat.strongRecOn with
    | ind m ih =>
      intro k h1 hm
      have hSk : sfOK (itI (fun i S => pTouch (ps.2.1 p) (ps.2.2.2 p i) S) S k) := pGo_okI hw hS h1.1 h1.2
      refine s_n3_iload C dX12_pass_2 ?_
      refine s_n0_aload C dX12_pass_3 ?_
      refine s_n2_iload C dX12_pass_4 ?_
      refine g_invV C (ct_X12_cellsOf (s := yS 3 s (itI (fun i S => pTouch (ps.2.1 p) (ps.2.2.2 p i) S) S k) b) (S := itI (fun i S => pTouch (ps.2.1 p) (ps.2.2.2 p i) S) S k) (show (yS 3 s (itI (fun i S => pTouch (ps.2.1 p) (ps.2.2.2 p i) S) S k) b).2 3 = _ from rfl) hb hps hp) (YO_o ..) cv_X12_157_12 (rmk_ok (by decide) (by decide) (by decide) (by decide)) (Nat.le_of_ble_eq_true rfl) rfl dX12_pass_5 rfl (q_r0 ?_)
      refine g_icmp_ge 32 C dX12_pass_8 (by decide) (by first | assumption | (unfold iR; omega)) (by first | assumption | (unfold iR; omega)) (fun c8 => ?_) (fun c8 => ?_)
      · refine g_vret C E dX12_pass_32 (by decide) ?_
        have e : k = ps.2.2.1 p := by omega
        subst e
        exact ⟨rfl, rfl, rfl⟩
      · refine s_n1_aload C dX12_pass_11 ?_
        refine s_n0_aload C dX12_pass_12 ?_
        refine s_n2_iload C dX12_pass_13 ?_
        refine g_invV C (ct_X12_kindOf (s := yS 3 s (itI (fun i S => pTouch (ps.2.1 p) (ps.2.2.2 p i) S) S k) b) (S := itI (fun i S => pTouch (ps.2.1 p) (ps.2.2.2 p i) S) S k) (show (yS 3 s (itI (fun i S => pTouch (ps.2.1 p) (ps.2.2.2 p i) S) S k) b).2 3 = _ from rfl) hb hps hp) (YO_o ..) cv_X12_167_12 (rmk_ok (by decide) (by decide) (by decide) (by decide)) (Nat.le_of_ble_eq_true rfl) rfl dX12_pass_14 rfl (q_r0 ?_)
        refine s_n0_aload C dX12_pass_17 ?_
        refine s_n2_iload C dX12_pass_18 ?_
        refine s_n3_iload C dX12_pass_19 ?_
        refine g_invV C (ct_X12_cellAt (s := yS 3 s (itI (fun i S => pTouch (ps.2.1 p) (ps.2.2.2 p i) S) S k) b) (S := itI (fun i S => pTouch (ps.2.1 p) (ps.2.2.2 p i) S) S k) (show (yS 3 s (itI (fun i S => pTouch (ps.2.1 p) (ps.2.2.2 p i) S) S k) b).2 3 = _ from rfl) hb hps hp (k := k) (by omega)) (YO_o ..) cv_X12_160_12 (rmk_ok (by decide) (by decide) (by decide) (by decide)) (Nat.le_of_ble_eq_true rfl) rfl dX12_pass_20 rfl (q_r0 ?_)
        refine g_invS C ((km_goOver (a := 156) (M := YO (yS 3 s (itI (fun i S => pTouch (ps.2.1 p) (ps.2.2.2 p i) S) S k) b) M) (b := b) hki hSk (hw.2.2 k h1.1 (by omega))).conv (gu_self (show YO (yS 3 s (itI (fun i S => pTouch (ps.2.1 p) (ps.2.2.2 p i) S) S k) b) M 156 = some (gA 0 95 (pk _ b)) from rfl)) rfl) cs_X12_170 (rmk_ok (by decide) (by decide) (by decide) (by decide)) (Nat.le_of_ble_eq_true rfl) rfl dX12_pass_23 rfl (q_v0 ?_)
        rw [yS_u3]
        refine s_w3_iinc C dX12_pass_26 rfl ?_
        refine g_goto 2 C dX12_pass_29 (by decide) ?_
        have e := itI_s (fun i S => pTouch (ps.2.1 p) (ps.2.2.2 p i) S) S h1.1
        rw [← e]
        exact ih _ (by omega) (k + 1) (by omega) rfl
  refine g_iconst C dX12_pass_0 ?_
  refine s_n3_istore C dX12_pass_1 rfl ?_
  exact lp _ 0 (by omega) rfl
set_option maxRecDepth 20000 in
theorem ct_X12_pass_5 {s : YT} {S St : SLT} {b : Int → Int} {t sk : Int} {ps : PST} {M : gM} {n : Int} (ht : s.2 3 = pk St b) (hb : bOK t ps sk b) (hps : psOK ps) {p : Int} (hp : 0 ≤ p ∧ p < ps.1) (hS : sfOK S) : CT yX12_pass cX12_pass 4 none (rmk 2 0 0) [vr 152, vr 158, vi p] (YO (yS 5 s S b) M) n (qr none (YO (yS 5 s (pGo (ps.2.1 p) (ps.2.2.1 p) (ps.2.2.2 p) S) b) M) n) := by
  refine CT.of (by decide) (fun _ => Nat.le_of_ble_eq_true rfl) (fun κ C E => ?_)
  show G κ (YO (yS 5 s S b) M) n [some (vr 152), some (vr 158), some (vi p), none] 0 [] 0 0
  obtain ⟨hki, hw⟩ := hps.2.2 p hp.1 hp.2
  have hw1 := hw.1
  have hw2 := hw.2.1
  have lp : ∀ (m : Nat) (k : Int), 0 ≤ k ∧ k ≤ ps.2.2.1 p → (ps.2.2.1 p - k).toNat = m → G κ (YO (yS 5 s (itI (fun i S => pTouch (ps.2.1 p) (ps.2.2.2 p i) S) S k) b) M) n [some (vr 152), some (vr 158), some (vi p), some (vi k)] 2 [] 0 0 := by
    intro m
    induction m using Nat.strongRecOn with
    | ind m ih =>
      intro k h1 hm
      have hSk : sfOK (itI (fun i S => pTouch (ps.2.1 p) (ps.2.2.2 p i) S) S k) := pGo_okI hw hS h1.1 h1.2
      refine s_n3_iload C dX12_pass_2 ?_
      refine s_n0_aload C dX12_pass_3 ?_
      refine s_n2_iload C dX12_pass_4 ?_
      refine g_invV C (ct_X12_cellsOf (s := yS 5 s (itI (fun i S => pTouch (ps.2.1 p) (ps.2.2.2 p i) S) S k) b) (S := St) (show (yS 5 s (itI (fun i S => pTouch (ps.2.1 p) (ps.2.2.2 p i) S) S k) b).2 3 = _ from ht) hb hps hp) (YO_o ..) cv_X12_157_12 (rmk_ok (by decide) (by decide) (by decide) (by decide)) (Nat.le_of_ble_eq_true rfl) rfl dX12_pass_5 rfl (q_r0 ?_)
      refine g_icmp_ge 32 C dX12_pass_8 (by decide) (by first | assumption | (unfold iR; omega)) (by first | assumption | (unfold iR; omega)) (fun c8 => ?_) (fun c8 => ?_)
      · refine g_vret C E dX12_pass_32 (by decide) ?_
        have e : k = ps.2.2.1 p := by omega
        subst e
        exact ⟨rfl, rfl, rfl⟩
      · refine s_n1_aload C dX12_pass_11 ?_
        refine s_n0_aload C dX12_pass_12 ?_
        refine s_n2_iload C dX12_pass_13 ?_
        refine g_invV C (ct_X12_kindOf (s := yS 5 s (itI (fun i S => pTouch (ps.2.1 p) (ps.2.2.2 p i) S) S k) b) (S := St) (show (yS 5 s (itI (fun i S => pTouch (ps.2.1 p) (ps.2.2.2 p i) S) S k) b).2 3 = _ from ht) hb hps hp) (YO_o ..) cv_X12_167_12 (rmk_ok (by decide) (by decide) (by decide) (by decide)) (Nat.le_of_ble_eq_true rfl) rfl dX12_pass_14 rfl (q_r0 ?_)
        refine s_n0_aload C dX12_pass_17 ?_
        refine s_n2_iload C dX12_pass_18 ?_
        refine s_n3_iload C dX12_pass_19 ?_
        refine g_invV C (ct_X12_cellAt (s := yS 5 s (itI (fun i S => pTouch (ps.2.1 p) (ps.2.2.2 p i) S) S k) b) (S := St) (show (yS 5 s (itI (fun i S => pTouch (ps.2.1 p) (ps.2.2.2 p i) S) S k) b).2 3 = _ from ht) hb hps hp (k := k) (by omega)) (YO_o ..) cv_X12_160_12 (rmk_ok (by decide) (by decide) (by decide) (by decide)) (Nat.le_of_ble_eq_true rfl) rfl dX12_pass_20 rfl (q_r0 ?_)
        refine g_invS C ((km_goOver (a := 158) (M := YO (yS 5 s (itI (fun i S => pTouch (ps.2.1 p) (ps.2.2.2 p i) S) S k) b) M) (b := b) hki hSk (hw.2.2 k h1.1 (by omega))).conv (gu_self (show YO (yS 5 s (itI (fun i S => pTouch (ps.2.1 p) (ps.2.2.2 p i) S) S k) b) M 158 = some (gA 0 95 (pk _ b)) from rfl)) rfl) cs_X12_170 (rmk_ok (by decide) (by decide) (by decide) (by decide)) (Nat.le_of_ble_eq_true rfl) rfl dX12_pass_23 rfl (q_v0 ?_)
        rw [yS_u5]
        refine s_w3_iinc C dX12_pass_26 rfl ?_
        refine g_goto 2 C dX12_pass_29 (by decide) ?_
        have e := itI_s (fun i S => pTouch (ps.2.1 p) (ps.2.2.2 p i) S) S h1.1
        rw [← e]
        exact ih _ (by omega) (k + 1) (by omega) rfl
  refine g_iconst C dX12_pass_0 ?_
  refine s_n3_istore C dX12_pass_1 rfl ?_
  exact lp _ 0 (by omega) rfl
set_option maxRecDepth 20000 in
theorem ct_X12_allPasses {s : YT} {S St : SLT} {b : Int → Int} {t sk : Int} {ps : PST} {M : gM} {n : Int} (ht : s.2 3 = pk St b) (hb : bOK t ps sk b) (hps : psOK ps) (hS : sfOK S) : CT yX12_allPasses cX12_allPasses 3 none (rmk 3 0 0) [vr 152, vr 158] (YO (yS 5 s S b) M) n (qr none (YO (yS 5 s (psAll ps S) b) M) n) := by
  refine CT.of (by decide) (fun _ => Nat.le_of_ble_eq_true rfl) (fun κ C E => ?_)
  show G κ (YO (yS 5 s S b) M) n [some (vr 152), some (vr 158), none] 0 [] 0 0
  have e5 : s.2 3 5 = ps.1 := by rw [ht, pq_b (Or.inr (Or.inl rfl))]; exact hb.2.2.1
  have q1 := hps.1
  have q2 := hps.2.1
  have lp : ∀ (m : Nat) (k : Int), 0 ≤ k ∧ k ≤ ps.1 → (ps.1 - k).toNat = m → G κ (YO (yS 5 s (itI (fun p S => pGo (ps.2.1 p) (ps.2.2.1 p) (ps.2.2.2 p) S) S k) b) M) n [some (vr 152), some (vr 158), some (vi k)] 2 [] 0 0 := by
    intro m
    induction m using Nat.strongRecOn with
    | ind m ih =>
      intro k h1 hm
      have hSk : sfOK (itI (fun p S => pGo (ps.2.1 p) (ps.2.2.1 p) (ps.2.2.2 p) S) S k) := psAll_okI hps hS h1.1 h1.2
      refine s_n2_iload C dX12_allPasses_2 ?_
      refine s_n0_aload C dX12_allPasses_3 ?_
      refine g_get C fd_X12_19_12 dX12_allPasses_4 (YO_o ..) rfl ?_
      refine g_iconst C dX12_allPasses_7 ?_
      refine g_iald C dX12_allPasses_8 (YO_a3 ..) (by omega) ?_
      rw [show (yS 5 s (itI (fun p S => pGo (ps.2.1 p) (ps.2.2.1 p) (ps.2.2.2 p) S) S k) b).2 3 5 = ps.1 from e5]
      refine g_icmp_ge 24 C dX12_allPasses_9 (by decide) (by first | assumption | (unfold iR; omega)) (by first | assumption | (unfold iR; omega)) (fun c9 => ?_) (fun c9 => ?_)
      · refine g_vret C E dX12_allPasses_24 (by decide) ?_
        have e : k = ps.1 := by omega
        subst e
        exact ⟨rfl, rfl, rfl⟩
      · refine s_n0_aload C dX12_allPasses_12 ?_
        refine s_n1_aload C dX12_allPasses_13 ?_
        refine s_n2_iload C dX12_allPasses_14 ?_
        refine g_invV C (ct_X12_pass_5 (p := k) ht hb hps ⟨h1.1, by omega⟩ hSk) (YO_o ..) cv_X12_173_12 (rmk_ok (by decide) (by decide) (by decide) (by decide)) (Nat.le_of_ble_eq_true rfl) rfl dX12_allPasses_15 rfl (q_v0 ?_)
        refine s_w2_iinc C dX12_allPasses_18 rfl ?_
        refine g_goto 2 C dX12_allPasses_21 (by decide) ?_
        have e := itI_s (fun p S => pGo (ps.2.1 p) (ps.2.2.1 p) (ps.2.2.2 p) S) S h1.1
        rw [← e]
        exact ih _ (by omega) (k + 1) (by omega) rfl
  refine g_iconst C dX12_allPasses_0 ?_
  refine s_n2_istore C dX12_allPasses_1 rfl ?_
  exact lp _ 0 (by omega) rfl
def mix (f g : Int → Int) (k : Int) : Int → Int := fun j => if 0 ≤ j ∧ j < k then f j else g j
theorem mix_0 (f g : Int → Int) : mix f g 0 = g := by
  funext j
  unfold mix
  rw [if_neg (by omega)]
theorem mix_s (f g : Int → Int) {k : Int} (h : 0 ≤ k) : up (mix f g k) k (f k) = mix f g (k + 1) := by
  funext j
  unfold up mix
  by_cases e : j = k
  · rw [if_pos e, if_pos (by omega), e]
  · rw [if_neg e]
    by_cases e2 : 0 ≤ j ∧ j < k
    · rw [if_pos e2, if_pos (by omega)]
    · rw [if_neg e2, if_neg (by omega)]
theorem mix_in (f g : Int → Int) {k j : Int} (h0 : 0 ≤ j) (h1 : j < k) : mix f g k j = f j := if_pos ⟨h0, h1⟩
theorem fu_id {α : Type} (f : Int → α) (k : Int) : fu f k (f k) = f := by
  funext j
  unfold fu
  split
  · rename_i h; rw [h]
  · rfl
theorem fu5_id (s : YT) : ((s.1, fu s.2 5 (s.2 5)) : YT) = s := by rw [fu_id]
set_option maxRecDepth 20000 in
theorem ct_X12_layThen {s : YT} {S : SLT} {b : Int → Int} {M : gM} {n : Int} (ht : s.2 3 = pk S b) : CT yX12_layThen cX12_layThen 2 none (rmk 0 0 0) [vr 152] (YO s M) n (qr none (YO (yS 5 s S b) M) n) := by
  refine CT.of (by decide) (fun _ => Nat.le_of_ble_eq_true rfl) (fun κ C E => ?_)
  show G κ (YO s M) n [some (vr 152), none] 0 [] 0 0
  have lp : ∀ (m : Nat) (k : Int), 0 ≤ k ∧ k ≤ 95 → (95 - k).toNat = m → G κ (YO (s.1, fu s.2 5 (mix (s.2 3) (s.2 5) k)) M) n [some (vr 152), some (vi k)] 2 [] 0 0 := by
    intro m
    induction m using Nat.strongRecOn with
    | ind m ih =>
      intro k h1 hm
      refine s_n1_iload C dX12_layThen_2 ?_
      refine g_bipush C dX12_layThen_3 (by decide) ?_
      refine g_icmp_ge 26 C dX12_layThen_5 (by decide) (by first | assumption | (unfold iR; omega)) (by first | assumption | (unfold iR; omega)) (fun c5 => ?_) (fun c5 => ?_)
      · have e : k = 95 := by omega
        subst e
        rw [← YO_u5]
        refine G.arr (f' := pk S b) (fun j j0 j1 => by rw [mix_in _ _ j0 j1, ht]) ?_
        rw [YO_u5]
        refine g_vret C E dX12_layThen_26 (by decide) ?_
        exact ⟨rfl, rfl, rfl⟩
      · refine s_n0_aload C dX12_layThen_8 ?_
        refine g_get C fd_X12_25_12 dX12_layThen_9 (YO_o ..) rfl ?_
        refine s_n1_iload C dX12_layThen_12 ?_
        refine s_n0_aload C dX12_layThen_13 ?_
        refine g_get C fd_X12_19_12 dX12_layThen_14 (YO_o ..) rfl ?_
        refine s_n1_iload C dX12_layThen_17 ?_
        refine g_iald C dX12_layThen_18 (YO_a3 ..) (by omega) ?_
        refine g_iast C dX12_layThen_19 (YO_a5 ..) (by omega) ?_
        rw [YO_u5]
        show G κ (YO (s.1, fu (fu s.2 5 (mix (s.2 3) (s.2 5) k)) 5 (up (mix (s.2 3) (s.2 5) k) k (s.2 3 k))) M) n _ _ _ _ _
        rw [fu_fu, mix_s _ _ h1.1]
        refine s_w1_iinc C dX12_layThen_20 rfl ?_
        refine g_goto 2 C dX12_layThen_23 (by decide) ?_
        exact ih _ (by omega) (k + 1) (by omega) rfl
  refine g_iconst C dX12_layThen_0 ?_
  refine s_n1_istore C dX12_layThen_1 rfl ?_
  have := lp _ 0 (by omega) rfl
  rw [mix_0] at this
  rwa [show ((s.1, fu s.2 5 (s.2 5)) : YT) = s from fu5_id s] at this
