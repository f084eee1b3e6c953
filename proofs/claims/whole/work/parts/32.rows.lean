/-! PadPolishModel: its rows of 95 ints -/
theorem up_id (f : Int → Int) (c : Int) : up f c (f c) = f := by
  funext j
  unfold up
  split
  · rename_i h; rw [h]
  · rfl
def pk (S : SLT) (b : Int → Int) (k : Int) : Int := if k = 2 then S.2.2.2.1 else if k = 3 then S.2.2.2.2.1 else if k = 4 then S.2.2.2.2.2 else if 6 ≤ k ∧ k < 21 then S.1 (k - 6) else if 21 ≤ k ∧ k < 36 then S.2.1 (k - 21) else if 36 ≤ k ∧ k < 51 then S.2.2.1 (k - 36) else b k
section PK
variable {f s h : Int → Int} {w l p : Int} {b : Int → Int} {c x : Int} {S : SLT}
theorem pq_2 : pk (f, s, h, w, l, p) b 2 = w := rfl
theorem pq_3 : pk (f, s, h, w, l, p) b 3 = l := rfl
theorem pq_4 : pk (f, s, h, w, l, p) b 4 = p := rfl
theorem pq_f (hc : 0 ≤ c ∧ c < 15) : pk (f, s, h, w, l, p) b (6 + c) = f c := by
  unfold pk
  rw [if_neg (by omega), if_neg (by omega), if_neg (by omega), if_pos (by omega), show 6 + c - 6 = c by omega]
theorem pq_s (hc : 0 ≤ c ∧ c < 15) : pk (f, s, h, w, l, p) b (21 + c) = s c := by
  unfold pk
  rw [if_neg (by omega), if_neg (by omega), if_neg (by omega), if_neg (by omega), if_pos (by omega), show 21 + c - 21 = c by omega]
theorem pq_h (hc : 0 ≤ c ∧ c < 15) : pk (f, s, h, w, l, p) b (36 + c) = h c := by
  unfold pk
  rw [if_neg (by omega), if_neg (by omega), if_neg (by omega), if_neg (by omega), if_neg (by omega), if_pos (by omega), show 36 + c - 36 = c by omega]
theorem pq_b {k : Int} (h : k < 2 ∨ k = 5 ∨ 51 ≤ k) : pk S b k = b k := by
  unfold pk
  rw [if_neg (by omega), if_neg (by omega), if_neg (by omega), if_neg (by omega), if_neg (by omega), if_neg (by omega)]
theorem pq_u2 : up (pk (f, s, h, w, l, p) b) 2 x = pk (f, s, h, x, l, p) b := by
  funext k
  unfold up pk
  dsimp only
  (repeat' split) <;> first | rfl | omega
theorem pq_u3 : up (pk (f, s, h, w, l, p) b) 3 x = pk (f, s, h, w, x, p) b := by
  funext k
  unfold up pk
  dsimp only
  (repeat' split) <;> first | rfl | omega
theorem pq_u4 : up (pk (f, s, h, w, l, p) b) 4 x = pk (f, s, h, w, l, x) b := by
  funext k
  unfold up pk
  dsimp only
  (repeat' split) <;> first | rfl | omega
theorem pq_uf (hc : 0 ≤ c ∧ c < 15) : up (pk (f, s, h, w, l, p) b) (6 + c) x = pk (up f c x, s, h, w, l, p) b := by
  funext k
  unfold up pk
  dsimp only
  (repeat' split) <;> first | rfl | omega
theorem pq_us (hc : 0 ≤ c ∧ c < 15) : up (pk (f, s, h, w, l, p) b) (21 + c) x = pk (f, up s c x, h, w, l, p) b := by
  funext k
  unfold up pk
  dsimp only
  (repeat' split) <;> first | rfl | omega
theorem pq_uh (hc : 0 ≤ c ∧ c < 15) : up (pk (f, s, h, w, l, p) b) (36 + c) x = pk (f, s, up h c x, w, l, p) b := by
  funext k
  unfold up pk
  dsimp only
  (repeat' split) <;> first | rfl | omega
theorem pS_f (hc : 0 ≤ c ∧ c < 15) : pk S b (6 + c) = S.1 c := by
  obtain ⟨f, s, h, w, l, p⟩ := S
  exact pq_f hc
theorem pS_s (hc : 0 ≤ c ∧ c < 15) : pk S b (21 + c) = S.2.1 c := by
  obtain ⟨f, s, h, w, l, p⟩ := S
  exact pq_s hc
theorem pS_h (hc : 0 ≤ c ∧ c < 15) : pk S b (36 + c) = S.2.2.1 c := by
  obtain ⟨f, s, h, w, l, p⟩ := S
  exact pq_h hc
end PK
set_option maxRecDepth 20000 in
theorem ct_X12_in {v lo hi : Int} {M : gM} {n : Int} (hv : lR v) (hl : lR lo) (hh : lR hi) : CT yX12_in cX12_in 6 (some .boolean) (rmk 0 0 0) [vl v, vl lo, vl hi] M n (qr (some (vi (if lo ≤ v ∧ v ≤ hi then 1 else 0))) M n) := by
  refine CT.of (by decide) (fun _ => Nat.le_of_ble_eq_true rfl) (fun κ C E => ?_)
  show G κ M n [some (vl v), none, some (vl lo), none, some (vl hi), none] 0 [] 0 0
  have q1 : lCmp v lo < 0 ↔ v < lo := by unfold lCmp; (repeat' split) <;> omega
  have q2 : 0 < lCmp v hi ↔ hi < v := by unfold lCmp; (repeat' split) <;> omega
  refine s_n0_lload C dX12_in_0 ?_
  refine s_n2_lload C dX12_in_1 ?_
  refine g_lcmp C dX12_in_2 (by assumption) (by assumption) ?_
  refine g_if_lt 17 C dX12_in_3 (by decide) (by exact lCmp_R _ _) (fun c3 => ?_) (fun c3 => ?_)
  · refine g_iconst C dX12_in_17 ?_
    refine g_zret C E dX12_in_18 (by decide) (by omega) ?_
    rw [if_neg (by omega)]
    exact ⟨rfl, rfl, rfl⟩
  · refine s_n0_lload C dX12_in_6 ?_
    refine s_w4_lload C dX12_in_7 ?_
    refine g_lcmp C dX12_in_9 (by assumption) (by assumption) ?_
    refine g_if_gt 17 C dX12_in_10 (by decide) (by exact lCmp_R _ _) (fun c10 => ?_) (fun c10 => ?_)
    · refine g_iconst C dX12_in_17 ?_
      refine g_zret C E dX12_in_18 (by decide) (by omega) ?_
      rw [if_neg (by omega)]
      exact ⟨rfl, rfl, rfl⟩
    · refine g_iconst C dX12_in_13 ?_
      refine g_goto 18 C dX12_in_14 (by decide) ?_
      refine g_zret C E dX12_in_18 (by decide) (by omega) ?_
      rw [if_pos (by omega)]
      exact ⟨rfl, rfl, rfl⟩
set_option maxRecDepth 20000 in
theorem ct_X12_isRow {v : Int} {M : gM} {n : Int} (hv : iR v) : CT yX12_isRow cX12_isRow 1 (some .boolean) (rmk 1 0 0) [vi v] M n (qr (some (vi (if 0 ≤ v ∧ v ≤ 7 then 1 else 0))) M n) := by
  refine CT.of (by decide) (fun _ => Nat.le_of_ble_eq_true rfl) (fun κ C E => ?_)
  show G κ M n [some (vi v)] 0 [] 0 0
  refine s_n0_iload C dX12_isRow_0 ?_
  refine g_i2l C dX12_isRow_1 (by exact hv) ?_
  refine g_lconst0 C dX12_isRow_2 ?_
  refine g_ldc2 (7) C wd_599 dX12_isRow_3 ?_
  refine g_invS C (ct_X12_in (v := v) (by unfold lR; unfold iR at *; omega) (by unfold lR; unfold iR at *; omega) (by unfold lR; unfold iR at *; omega)) cs_X12_54 (rmk_ok (by decide) (by decide) (by decide) (by decide)) (Nat.le_of_ble_eq_true rfl) rfl dX12_isRow_6 rfl (q_r0 ?_)
  refine g_zret C E dX12_isRow_9 (by decide) (by split <;> omega) ?_
  exact ⟨rfl, rfl, rfl⟩
set_option maxRecDepth 20000 in
theorem ct_X12_isCell {v : Int} {M : gM} {n : Int} (hv : iR v) : CT yX12_isCell cX12_isCell 1 (some .boolean) (rmk 1 0 0) [vi v] M n (qr (some (vi (if 0 ≤ v ∧ v ≤ 14 then 1 else 0))) M n) := by
  refine CT.of (by decide) (fun _ => Nat.le_of_ble_eq_true rfl) (fun κ C E => ?_)
  show G κ M n [some (vi v)] 0 [] 0 0
  refine s_n0_iload C dX12_isCell_0 ?_
  refine g_i2l C dX12_isCell_1 (by exact hv) ?_
  refine g_lconst0 C dX12_isCell_2 ?_
  refine g_ldc2 (14) C wd_678 dX12_isCell_3 ?_
  refine g_invS C (ct_X12_in (v := v) (by unfold lR; unfold iR at *; omega) (by unfold lR; unfold iR at *; omega) (by unfold lR; unfold iR at *; omega)) cs_X12_54 (rmk_ok (by decide) (by decide) (by decide) (by decide)) (Nat.le_of_ble_eq_true rfl) rfl dX12_isCell_6 rfl (q_r0 ?_)
  refine g_zret C E dX12_isCell_9 (by decide) (by split <;> omega) ?_
  exact ⟨rfl, rfl, rfl⟩
set_option maxRecDepth 20000 in
theorem ct_X12_areCells {v : Int} {M : gM} {n : Int} (hv : iR v) : CT yX12_areCells cX12_areCells 1 (some .boolean) (rmk 1 0 0) [vi v] M n (qr (some (vi (if 0 ≤ v ∧ v ≤ 32767 then 1 else 0))) M n) := by
  refine CT.of (by decide) (fun _ => Nat.le_of_ble_eq_true rfl) (fun κ C E => ?_)
  show G κ M n [some (vi v)] 0 [] 0 0
  refine s_n0_iload C dX12_areCells_0 ?_
  refine g_i2l C dX12_areCells_1 (by exact hv) ?_
  refine g_lconst0 C dX12_areCells_2 ?_
  refine g_ldc2 (32767) C wd_679 dX12_areCells_3 ?_
  refine g_invS C (ct_X12_in (v := v) (by unfold lR; unfold iR at *; omega) (by unfold lR; unfold iR at *; omega) (by unfold lR; unfold iR at *; omega)) cs_X12_54 (rmk_ok (by decide) (by decide) (by decide) (by decide)) (Nat.le_of_ble_eq_true rfl) rfl dX12_areCells_6 rfl (q_r0 ?_)
  refine g_zret C E dX12_areCells_9 (by decide) (by split <;> omega) ?_
  exact ⟨rfl, rfl, rfl⟩
set_option maxRecDepth 20000 in
theorem ct_X12_lay {a : Int} {f s h : Int → Int} {w l p : Int} {b : Int → Int} {M : gM} {n : Int} (hS : sfOK (f, s, h, w, l, p)) {c k : Int} (hc : 0 ≤ c ∧ c < 15) (hk : 0 ≤ k ∧ k ≤ 1000) : CT yX12_lay cX12_lay 5 none (rmk 0 0 0) [vr a, vi c, vi k] (gu M a (gA 0 95 (pk (f, s, h, w, l, p) b))) n (qr none (gu M a (gA 0 95 (pk (sfHaze (sfLay (f, s, h, w, l, p) c k) c) b))) n) := by
  refine CT.of (by decide) (fun _ => Nat.le_of_ble_eq_true rfl) (fun κ C E => ?_)
  show G κ (gu M a (gA 0 95 (pk (f, s, h, w, l, p) b))) n [some (vr a), some (vi c), some (vi k), none, none] 0 [] 0 0
  have hcb := hS.1 c hc.1 hc.2
  have hw1 := hS.2
  dsimp only at hcb hw1
  refine s_n0_aload C dX12_lay_0 ?_
  refine g_bipush C dX12_lay_1 (by decide) ?_
  refine s_n1_iload C dX12_lay_3 ?_
  refine g_iadd C dX12_lay_4 ?_
  refine g_iald C dX12_lay_5 (gu_same ..) (by omega) ?_
  rw [pq_f hc]
  refine s_n2_iload C dX12_lay_6 ?_
  refine g_iadd C dX12_lay_7 ?_
  refine g_sipush C dX12_lay_8 (by decide) ?_
  refine g_icmp_le 27 C dX12_lay_11 (by decide) (by first | assumption | (unfold iR; omega)) (by first | assumption | (unfold iR; omega)) (fun c11 => ?_) (fun c11 => ?_)
  · refine s_n2_iload C dX12_lay_27 ?_
    refine s_n3_istore C dX12_lay_28 rfl ?_
    refine s_n0_aload C dX12_lay_29 ?_
    refine g_bipush C dX12_lay_30 (by decide) ?_
    refine s_n1_iload C dX12_lay_32 ?_
    refine g_iadd C dX12_lay_33 ?_
    refine g_dup2 C dX12_lay_34 ?_
    refine g_iald C dX12_lay_35 (gu_same ..) (by omega) ?_
    rw [pq_f hc]
    refine s_n3_iload C dX12_lay_36 ?_
    refine g_iadd C dX12_lay_37 ?_
    refine g_iast C dX12_lay_38 (gu_same ..) (by omega) ?_
    rw [gu_gu, pq_uf hc]
    refine s_n0_aload C dX12_lay_39 ?_
    refine g_bipush C dX12_lay_40 (by decide) ?_
    refine s_n1_iload C dX12_lay_42 ?_
    refine g_iadd C dX12_lay_43 ?_
    refine g_dup2 C dX12_lay_44 ?_
    refine g_iald C dX12_lay_45 (gu_same ..) (by omega) ?_
    rw [pq_s hc]
    refine s_n3_iload C dX12_lay_46 ?_
    refine g_iadd C dX12_lay_47 ?_
    refine g_iast C dX12_lay_48 (gu_same ..) (by omega) ?_
    rw [gu_gu, pq_us hc]
    refine s_n0_aload C dX12_lay_49 ?_
    refine g_bipush C dX12_lay_50 (by decide) ?_
    refine s_n1_iload C dX12_lay_52 ?_
    refine g_iadd C dX12_lay_53 ?_
    refine g_iald C dX12_lay_54 (gu_same ..) (by omega) ?_
    rw [pq_h hc]
    refine s_n0_aload C dX12_lay_55 ?_
    refine g_iconst C dX12_lay_56 ?_
    refine g_iald C dX12_lay_57 (gu_same ..) (by omega) ?_
    rw [pq_3]
    refine g_iconst C dX12_lay_58 ?_
    refine g_idiv C dX12_lay_59 (by show 0 ≤ l ∧ l < 2147483648 ∧ (0 : Int) < 4 ∧ (4 : Int) < 2147483648; omega) ?_
    refine g_iadd C dX12_lay_60 ?_
    refine s_w4_istore C dX12_lay_61 rfl ?_
    refine s_n0_aload C dX12_lay_63 ?_
    refine g_bipush C dX12_lay_64 (by decide) ?_
    refine s_n1_iload C dX12_lay_66 ?_
    refine g_iadd C dX12_lay_67 ?_
    refine s_w4_iload C dX12_lay_68 ?_
    refine g_bipush C dX12_lay_70 (by decide) ?_
    refine g_icmp_le 80 C dX12_lay_72 (by decide) (by show iR (h c + l / 4); unfold iR; omega) (by unfold iR; omega) (fun c72 => ?_) (fun c72 => ?_)
    · refine s_w4_iload C dX12_lay_80 ?_
      refine g_iast C dX12_lay_82 (gu_same ..) (by omega) ?_
      rw [gu_gu, pq_uh hc]
      refine g_vret C E dX12_lay_83 (by decide) ?_
      have e1 : min k (999 - f c) = k := by omega
      have e2 : min (h c + l / 4) 99 = h c + l / 4 := by omega
      refine ⟨rfl, ?_, rfl⟩
      unfold sfHaze sfLay
      rw [e1]
      dsimp only
      rw [e2]
    · refine g_bipush C dX12_lay_75 (by decide) ?_
      refine g_goto 82 C dX12_lay_77 (by decide) ?_
      refine g_iast C dX12_lay_82 (gu_same ..) (by omega) ?_
      rw [gu_gu, pq_uh hc]
      refine g_vret C E dX12_lay_83 (by decide) ?_
      have e1 : min k (999 - f c) = k := by omega
      have e2 : min (h c + l / 4) 99 = 99 := by omega
      refine ⟨rfl, ?_, rfl⟩
      unfold sfHaze sfLay
      rw [e1]
      dsimp only
      rw [e2]
  · refine g_sipush C dX12_lay_14 (by decide) ?_
    refine s_n0_aload C dX12_lay_17 ?_
    refine g_bipush C dX12_lay_18 (by decide) ?_
    refine s_n1_iload C dX12_lay_20 ?_
    refine g_iadd C dX12_lay_21 ?_
    refine g_iald C dX12_lay_22 (gu_same ..) (by omega) ?_
    rw [pq_f hc]
    refine g_isub C dX12_lay_23 ?_
    refine g_goto 28 C dX12_lay_24 (by decide) ?_
    refine s_n3_istore C dX12_lay_28 rfl ?_
    refine s_n0_aload C dX12_lay_29 ?_
    refine g_bipush C dX12_lay_30 (by decide) ?_
    refine s_n1_iload C dX12_lay_32 ?_
    refine g_iadd C dX12_lay_33 ?_
    refine g_dup2 C dX12_lay_34 ?_
    refine g_iald C dX12_lay_35 (gu_same ..) (by omega) ?_
    rw [pq_f hc]
    refine s_n3_iload C dX12_lay_36 ?_
    refine g_iadd C dX12_lay_37 ?_
    refine g_iast C dX12_lay_38 (gu_same ..) (by omega) ?_
    rw [gu_gu, pq_uf hc]
    refine s_n0_aload C dX12_lay_39 ?_
    refine g_bipush C dX12_lay_40 (by decide) ?_
    refine s_n1_iload C dX12_lay_42 ?_
    refine g_iadd C dX12_lay_43 ?_
    refine g_dup2 C dX12_lay_44 ?_
    refine g_iald C dX12_lay_45 (gu_same ..) (by omega) ?_
    rw [pq_s hc]
    refine s_n3_iload C dX12_lay_46 ?_
    refine g_iadd C dX12_lay_47 ?_
    refine g_iast C dX12_lay_48 (gu_same ..) (by omega) ?_
    rw [gu_gu, pq_us hc]
    refine s_n0_aload C dX12_lay_49 ?_
    refine g_bipush C dX12_lay_50 (by decide) ?_
    refine s_n1_iload C dX12_lay_52 ?_
    refine g_iadd C dX12_lay_53 ?_
    refine g_iald C dX12_lay_54 (gu_same ..) (by omega) ?_
    rw [pq_h hc]
    refine s_n0_aload C dX12_lay_55 ?_
    refine g_iconst C dX12_lay_56 ?_
    refine g_iald C dX12_lay_57 (gu_same ..) (by omega) ?_
    rw [pq_3]
    refine g_iconst C dX12_lay_58 ?_
    refine g_idiv C dX12_lay_59 (by show 0 ≤ l ∧ l < 2147483648 ∧ (0 : Int) < 4 ∧ (4 : Int) < 2147483648; omega) ?_
    refine g_iadd C dX12_lay_60 ?_
    refine s_w4_istore C dX12_lay_61 rfl ?_
    refine s_n0_aload C dX12_lay_63 ?_
    refine g_bipush C dX12_lay_64 (by decide) ?_
    refine s_n1_iload C dX12_lay_66 ?_
    refine g_iadd C dX12_lay_67 ?_
    refine s_w4_iload C dX12_lay_68 ?_
    refine g_bipush C dX12_lay_70 (by decide) ?_
    refine g_icmp_le 80 C dX12_lay_72 (by decide) (by show iR (h c + l / 4); unfold iR; omega) (by unfold iR; omega) (fun c72 => ?_) (fun c72 => ?_)
    · refine s_w4_iload C dX12_lay_80 ?_
      refine g_iast C dX12_lay_82 (gu_same ..) (by omega) ?_
      rw [gu_gu, pq_uh hc]
      refine g_vret C E dX12_lay_83 (by decide) ?_
      have e1 : min k (999 - f c) = 999 - f c := by omega
      have e2 : min (h c + l / 4) 99 = h c + l / 4 := by omega
      refine ⟨rfl, ?_, rfl⟩
      unfold sfHaze sfLay
      rw [e1]
      dsimp only
      rw [e2]
    · refine g_bipush C dX12_lay_75 (by decide) ?_
      refine g_goto 82 C dX12_lay_77 (by decide) ?_
      refine g_iast C dX12_lay_82 (gu_same ..) (by omega) ?_
      rw [gu_gu, pq_uh hc]
      refine g_vret C E dX12_lay_83 (by decide) ?_
      have e1 : min k (999 - f c) = 999 - f c := by omega
      have e2 : min (h c + l / 4) 99 = 99 := by omega
      refine ⟨rfl, ?_, rfl⟩
      unfold sfHaze sfLay
      rw [e1]
      dsimp only
      rw [e2]
set_option maxRecDepth 20000 in
theorem ct_X12_stands {a : Int} {f s h : Int → Int} {w l p : Int} {b : Int → Int} {M : gM} {n : Int} (hS : sfOK (f, s, h, w, l, p)) {c : Int} (hc : 0 ≤ c ∧ c < 15) : CT yX12_stands cX12_stands 2 none (rmk 0 0 0) [vr a, vi c] (gu M a (gA 0 95 (pk (f, s, h, w, l, p) b))) n (qr none (gu M a (gA 0 95 (pk (sfTear (f, s, h, w, l, p) c) b))) n) := by
  refine CT.of (by decide) (fun _ => Nat.le_of_ble_eq_true rfl) (fun κ C E => ?_)
  show G κ (gu M a (gA 0 95 (pk (f, s, h, w, l, p) b))) n [some (vr a), some (vi c)] 0 [] 0 0
  have hcb := hS.1 c hc.1 hc.2
  have hw1 := hS.2
  dsimp only at hcb hw1
  refine s_n0_aload C dX12_stands_0 ?_
  refine g_bipush C dX12_stands_1 (by decide) ?_
  refine s_n1_iload C dX12_stands_3 ?_
  refine g_iadd C dX12_stands_4 ?_
  refine s_n0_aload C dX12_stands_5 ?_
  refine g_bipush C dX12_stands_6 (by decide) ?_
  refine s_n1_iload C dX12_stands_8 ?_
  refine g_iadd C dX12_stands_9 ?_
  refine g_iald C dX12_stands_10 (gu_same ..) (by omega) ?_
  rw [pq_f hc]
  refine g_bipush C dX12_stands_11 (by decide) ?_
  refine g_icmp_ge 20 C dX12_stands_13 (by decide) (by first | assumption | (unfold iR; omega)) (by first | assumption | (unfold iR; omega)) (fun c13 => ?_) (fun c13 => ?_)
  · refine s_n0_aload C dX12_stands_20 ?_
    refine g_bipush C dX12_stands_21 (by decide) ?_
    refine s_n1_iload C dX12_stands_23 ?_
    refine g_iadd C dX12_stands_24 ?_
    refine g_iald C dX12_stands_25 (gu_same ..) (by omega) ?_
    rw [pq_f hc]
    refine g_bipush C dX12_stands_26 (by decide) ?_
    refine g_isub C dX12_stands_28 ?_
    refine g_iast C dX12_stands_29 (gu_same ..) (by omega) ?_
    rw [gu_gu, pq_uf hc]
    refine s_n0_aload C dX12_stands_30 ?_
    refine g_bipush C dX12_stands_31 (by decide) ?_
    refine s_n1_iload C dX12_stands_33 ?_
    refine g_iadd C dX12_stands_34 ?_
    refine g_iconst C dX12_stands_35 ?_
    refine g_iast C dX12_stands_36 (gu_same ..) (by omega) ?_
    rw [gu_gu, pq_us hc]
    refine g_vret C E dX12_stands_37 (by decide) ?_
    have e1 : max (f c - 10) 0 = f c - 10 := by omega
    refine ⟨rfl, ?_, rfl⟩
    unfold sfTear
    rw [e1]
  · refine g_iconst C dX12_stands_16 ?_
    refine g_goto 29 C dX12_stands_17 (by decide) ?_
    refine g_iast C dX12_stands_29 (gu_same ..) (by omega) ?_
    rw [gu_gu, pq_uf hc]
    refine s_n0_aload C dX12_stands_30 ?_
    refine g_bipush C dX12_stands_31 (by decide) ?_
    refine s_n1_iload C dX12_stands_33 ?_
    refine g_iadd C dX12_stands_34 ?_
    refine g_iconst C dX12_stands_35 ?_
    refine g_iast C dX12_stands_36 (gu_same ..) (by omega) ?_
    rw [gu_gu, pq_us hc]
    refine g_vret C E dX12_stands_37 (by decide) ?_
    have e1 : max (f c - 10) 0 = 0 := by omega
    refine ⟨rfl, ?_, rfl⟩
    unfold sfTear
    rw [e1]
theorem sfSink1_ok {S : SLT} {c k : Int} (h : sfOK S) (hc : 0 ≤ c ∧ c < 15) (hk : 0 ≤ k ∧ k ≤ 99) : sfOK (sfSinkAt k c S) := by
  obtain ⟨f, s, hz, w, l, p⟩ := S
  exact sfSinkAt_ok h hc hk
set_option maxRecDepth 20000 in
theorem ct_X12_rests {a : Int} {f s h : Int → Int} {w l p : Int} {b : Int → Int} {M : gM} {n : Int} (hS : sfOK (f, s, h, w, l, p)) (hk : 0 ≤ b 1 ∧ b 1 ≤ 99) : CT yX12_rests cX12_rests 2 none (rmk 0 0 0) [vr a] (gu M a (gA 0 95 (pk (f, s, h, w, l, p) b))) n (qr none (gu M a (gA 0 95 (pk (sfSink (f, s, h, w, l, p) (b 1)) b))) n) := by
  refine CT.of (by decide) (fun _ => Nat.le_of_ble_eq_true rfl) (fun κ C E => ?_)
  show G κ (gu M a (gA 0 95 (pk (f, s, h, w, l, p) b))) n [some (vr a), none] 0 [] 0 0
  have lp : ∀ (m : Nat) (c : Int) (S0 : SLT), sfOK S0 → S0 = itI (sfSinkAt (b 1)) (f, s, h, w, l, p) c → 0 ≤ c ∧ c ≤ 15 → (15 - c).toNat = m → G κ (gu M a (gA 0 95 (pk S0 b))) n [some (vr a), some (vi c)] 2 [] 0 0 := by
    intro m
    induction m using Nat.strongRecOn with
    | ind m ih =>
      intro c S0 hS0 e0 h1 hm
      obtain ⟨f0, s0, h0, w0, l0, p0⟩ := S0
      refine s_n1_iload C dX12_rests_2 ?_
      refine g_bipush C dX12_rests_3 (by decide) ?_
      refine g_icmp_ge 76 C dX12_rests_5 (by decide) (by first | assumption | (unfold iR; omega)) (by first | assumption | (unfold iR; omega)) (fun c5 => ?_) (fun c5 => ?_)
      · refine g_vret C E dX12_rests_76 (by decide) ?_
        have e : c = 15 := by omega
        subst e
        refine ⟨rfl, ?_, rfl⟩
        rw [e0]
        rfl
      · have hc : 0 ≤ c ∧ c < 15 := by omega
        have hcb := hS0.1 c hc.1 hc.2
        dsimp only at hcb
        refine s_n0_aload C dX12_rests_8 ?_
        refine g_bipush C dX12_rests_9 (by decide) ?_
        refine s_n1_iload C dX12_rests_11 ?_
        refine g_iadd C dX12_rests_12 ?_
        refine s_n0_aload C dX12_rests_13 ?_
        refine g_bipush C dX12_rests_14 (by decide) ?_
        refine s_n1_iload C dX12_rests_16 ?_
        refine g_iadd C dX12_rests_17 ?_
        refine g_iald C dX12_rests_18 (gu_same ..) (by omega) ?_
        rw [pq_f hc]
        refine s_n0_aload C dX12_rests_19 ?_
        refine g_iconst C dX12_rests_20 ?_
        refine g_iald C dX12_rests_21 (gu_same ..) (by omega) ?_
        rw [pq_b (Or.inl (by decide))]
        refine g_icmp_ge 29 C dX12_rests_22 (by decide) (by first | assumption | (unfold iR; omega)) (by first | assumption | (unfold iR; omega)) (fun c22 => ?_) (fun c22 => ?_)
        · refine s_n0_aload C dX12_rests_29 ?_
          refine g_bipush C dX12_rests_30 (by decide) ?_
          refine s_n1_iload C dX12_rests_32 ?_
          refine g_iadd C dX12_rests_33 ?_
          refine g_iald C dX12_rests_34 (gu_same ..) (by omega) ?_
          rw [pq_f hc]
          refine s_n0_aload C dX12_rests_35 ?_
          refine g_iconst C dX12_rests_36 ?_
          refine g_iald C dX12_rests_37 (gu_same ..) (by omega) ?_
          rw [pq_b (Or.inl (by decide))]
          refine g_isub C dX12_rests_38 ?_
          refine g_iast C dX12_rests_39 (gu_same ..) (by omega) ?_
          rw [gu_gu, pq_uf hc]
          refine s_n0_aload C dX12_rests_40 ?_
          refine g_bipush C dX12_rests_41 (by decide) ?_
          refine s_n1_iload C dX12_rests_43 ?_
          refine g_iadd C dX12_rests_44 ?_
          refine g_iconst C dX12_rests_45 ?_
          refine g_iast C dX12_rests_46 (gu_same ..) (by omega) ?_
          rw [gu_gu, pq_us hc]
          refine s_n0_aload C dX12_rests_47 ?_
          refine g_bipush C dX12_rests_48 (by decide) ?_
          refine s_n1_iload C dX12_rests_50 ?_
          refine g_iadd C dX12_rests_51 ?_
          refine g_dup2 C dX12_rests_52 ?_
          refine g_iald C dX12_rests_53 (gu_same ..) (by omega) ?_
          rw [pq_h hc]
          refine s_n0_aload C dX12_rests_54 ?_
          refine g_bipush C dX12_rests_55 (by decide) ?_
          refine s_n1_iload C dX12_rests_57 ?_
          refine g_iadd C dX12_rests_58 ?_
          refine g_iald C dX12_rests_59 (gu_same ..) (by omega) ?_
          rw [pq_h hc]
          refine g_if_le 67 C dX12_rests_60 (by decide) (by first | assumption | (unfold iR; omega)) (fun c60 => ?_) (fun c60 => ?_)
          · refine g_iconst C dX12_rests_67 ?_
            refine g_isub C dX12_rests_68 ?_
            refine g_iast C dX12_rests_69 (gu_same ..) (by omega) ?_
            rw [gu_gu, pq_uh hc]
            refine s_w1_iinc C dX12_rests_70 rfl ?_
            refine g_goto 2 C dX12_rests_73 (by decide) ?_
            have e1 : max (f0 c - b 1) 0 = f0 c - b 1 := by omega
            have e2 : max (h0 c - 1) 0 = h0 c - 0 := by omega
            have es : sfSinkAt (b 1) c (f0, s0, h0, w0, l0, p0) = (up f0 c (f0 c - b 1), up s0 c 0, up h0 c (h0 c - 0), (w0, l0, p0)) := by unfold sfSinkAt sfTakeHaze; rw [e1]; dsimp only; rw [e2]
            refine ih _ (by omega) (c + 1) _ ?_ ?_ (by omega) rfl
            · have := sfSink1_ok hS0 hc hk
              rw [es] at this
              exact this
            · rw [itI_s _ _ h1.1, ← e0, es]
          · refine g_iconst C dX12_rests_63 ?_
            refine g_goto 68 C dX12_rests_64 (by decide) ?_
            refine g_isub C dX12_rests_68 ?_
            refine g_iast C dX12_rests_69 (gu_same ..) (by omega) ?_
            rw [gu_gu, pq_uh hc]
            refine s_w1_iinc C dX12_rests_70 rfl ?_
            refine g_goto 2 C dX12_rests_73 (by decide) ?_
            have e1 : max (f0 c - b 1) 0 = f0 c - b 1 := by omega
            have e2 : max (h0 c - 1) 0 = h0 c - 1 := by omega
            have es : sfSinkAt (b 1) c (f0, s0, h0, w0, l0, p0) = (up f0 c (f0 c - b 1), up s0 c 0, up h0 c (h0 c - 1), (w0, l0, p0)) := by unfold sfSinkAt sfTakeHaze; rw [e1]; dsimp only; rw [e2]
            refine ih _ (by omega) (c + 1) _ ?_ ?_ (by omega) rfl
            · have := sfSink1_ok hS0 hc hk
              rw [es] at this
              exact this
            · rw [itI_s _ _ h1.1, ← e0, es]
        · refine g_iconst C dX12_rests_25 ?_
          refine g_goto 39 C dX12_rests_26 (by decide) ?_
          refine g_iast C dX12_rests_39 (gu_same ..) (by omega) ?_
          rw [gu_gu, pq_uf hc]
          refine s_n0_aload C dX12_rests_40 ?_
          refine g_bipush C dX12_rests_41 (by decide) ?_
          refine s_n1_iload C dX12_rests_43 ?_
          refine g_iadd C dX12_rests_44 ?_
          refine g_iconst C dX12_rests_45 ?_
          refine g_iast C dX12_rests_46 (gu_same ..) (by omega) ?_
          rw [gu_gu, pq_us hc]
          refine s_n0_aload C dX12_rests_47 ?_
          refine g_bipush C dX12_rests_48 (by decide) ?_
          refine s_n1_iload C dX12_rests_50 ?_
          refine g_iadd C dX12_rests_51 ?_
          refine g_dup2 C dX12_rests_52 ?_
          refine g_iald C dX12_rests_53 (gu_same ..) (by omega) ?_
          rw [pq_h hc]
          refine s_n0_aload C dX12_rests_54 ?_
          refine g_bipush C dX12_rests_55 (by decide) ?_
          refine s_n1_iload C dX12_rests_57 ?_
          refine g_iadd C dX12_rests_58 ?_
          refine g_iald C dX12_rests_59 (gu_same ..) (by omega) ?_
          rw [pq_h hc]
          refine g_if_le 67 C dX12_rests_60 (by decide) (by first | assumption | (unfold iR; omega)) (fun c60 => ?_) (fun c60 => ?_)
          · refine g_iconst C dX12_rests_67 ?_
            refine g_isub C dX12_rests_68 ?_
            refine g_iast C dX12_rests_69 (gu_same ..) (by omega) ?_
            rw [gu_gu, pq_uh hc]
            refine s_w1_iinc C dX12_rests_70 rfl ?_
            refine g_goto 2 C dX12_rests_73 (by decide) ?_
            have e1 : max (f0 c - b 1) 0 = 0 := by omega
            have e2 : max (h0 c - 1) 0 = h0 c - 0 := by omega
            have es : sfSinkAt (b 1) c (f0, s0, h0, w0, l0, p0) = (up f0 c (0), up s0 c 0, up h0 c (h0 c - 0), (w0, l0, p0)) := by unfold sfSinkAt sfTakeHaze; rw [e1]; dsimp only; rw [e2]
            refine ih _ (by omega) (c + 1) _ ?_ ?_ (by omega) rfl
            · have := sfSink1_ok hS0 hc hk
              rw [es] at this
              exact this
            · rw [itI_s _ _ h1.1, ← e0, es]
          · refine g_iconst C dX12_rests_63 ?_
            refine g_goto 68 C dX12_rests_64 (by decide) ?_
            refine g_isub C dX12_rests_68 ?_
            refine g_iast C dX12_rests_69 (gu_same ..) (by omega) ?_
            rw [gu_gu, pq_uh hc]
            refine s_w1_iinc C dX12_rests_70 rfl ?_
            refine g_goto 2 C dX12_rests_73 (by decide) ?_
            have e1 : max (f0 c - b 1) 0 = 0 := by omega
            have e2 : max (h0 c - 1) 0 = h0 c - 1 := by omega
            have es : sfSinkAt (b 1) c (f0, s0, h0, w0, l0, p0) = (up f0 c (0), up s0 c 0, up h0 c (h0 c - 1), (w0, l0, p0)) := by unfold sfSinkAt sfTakeHaze; rw [e1]; dsimp only; rw [e2]
            refine ih _ (by omega) (c + 1) _ ?_ ?_ (by omega) rfl
            · have := sfSink1_ok hS0 hc hk
              rw [es] at this
              exact this
            · rw [itI_s _ _ h1.1, ← e0, es]
  refine g_iconst C dX12_rests_0 ?_
  refine s_n1_istore C dX12_rests_1 rfl ?_
  exact lp _ 0 (f, s, h, w, l, p) hS rfl (by omega) rfl
set_option maxRecDepth 20000 in
theorem ct_X12_filmOf {a : Int} {S : SLT} {b : Int → Int} {M : gM} {n : Int} (hM : M a = some (gA 0 95 (pk S b))) : CT yX12_filmOf cX12_filmOf 3 (some .int) (rmk 0 0 0) [vr a] M n (qr (some (vi (sfAll S))) M n) := by
  refine CT.of (by decide) (fun _ => Nat.le_of_ble_eq_true rfl) (fun κ C E => ?_)
  show G κ M n [some (vr a), none, none] 0 [] 0 0
  have lp : ∀ (m : Nat) (c : Int), 0 ≤ c ∧ c ≤ 15 → (15 - c).toNat = m → G κ M n [some (vr a), some (vi (itI (fun i a => a + S.1 i) (0 : Int) c)), some (vi c)] 4 [] 0 0 := by
    intro m
    induction m using Nat.strongRecOn with
    | ind m ih =>
      intro c h1 hm
      refine s_n2_iload C dX12_filmOf_4 ?_
      refine g_bipush C dX12_filmOf_5 (by decide) ?_
      refine g_icmp_ge 25 C dX12_filmOf_7 (by decide) (by first | assumption | (unfold iR; omega)) (by first | assumption | (unfold iR; omega)) (fun c7 => ?_) (fun c7 => ?_)
      · refine s_n1_iload C dX12_filmOf_25 ?_
        refine g_iret C E dX12_filmOf_26 (by decide) ?_
        have e : c = 15 := by omega
        subst e
        exact ⟨rfl, rfl, rfl⟩
      · refine s_n1_iload C dX12_filmOf_10 ?_
        refine s_n0_aload C dX12_filmOf_11 ?_
        refine g_bipush C dX12_filmOf_12 (by decide) ?_
        refine s_n2_iload C dX12_filmOf_14 ?_
        refine g_iadd C dX12_filmOf_15 ?_
        refine g_iald C dX12_filmOf_16 hM (by omega) ?_
        rw [pS_f (show 0 ≤ c ∧ c < 15 by omega)]
        refine g_iadd C dX12_filmOf_17 ?_
        refine s_n1_istore C dX12_filmOf_18 rfl ?_
        refine s_w2_iinc C dX12_filmOf_19 rfl ?_
        refine g_goto 4 C dX12_filmOf_22 (by decide) ?_
        have e := itI_s (fun i a => a + S.1 i) (0 : Int) h1.1
        rw [← e]
        exact ih _ (by omega) (c + 1) (by omega) rfl
  refine g_iconst C dX12_filmOf_0 ?_
  refine s_n1_istore C dX12_filmOf_1 rfl ?_
  refine g_iconst C dX12_filmOf_2 ?_
  refine s_n2_istore C dX12_filmOf_3 rfl ?_
  exact lp _ 0 (by omega) rfl
set_option maxRecDepth 20000 in
theorem ct_X12_unevenOf {a : Int} {S : SLT} {b : Int → Int} {M : gM} {n : Int} (hS : sfOK S) (hM : M a = some (gA 0 95 (pk S b))) : CT yX12_unevenOf cX12_unevenOf 4 (some .int) (rmk 0 0 0) [vr a] M n (qr (some (vi (sfUneven S))) M n) := by
  refine CT.of (by decide) (fun _ => Nat.le_of_ble_eq_true rfl) (fun κ C E => ?_)
  show G κ M n [some (vr a), none, none, none] 0 [] 0 0
  have lp : ∀ (m : Nat) (c mx mn : Int), mx = itI (fun i m => max m (S.1 i)) (0 : Int) c → mn = itI (fun i m => min m (S.1 i)) (999 : Int) c → 0 ≤ mx ∧ mx ≤ 999 → 0 ≤ mn ∧ mn ≤ 999 → 0 ≤ c ∧ c ≤ 15 → (15 - c).toNat = m → G κ M n [some (vr a), some (vi mx), some (vi mn), some (vi c)] 8 [] 0 0 := by
    intro m
    induction m using Nat.strongRecOn with
    | ind m ih =>
      intro c mx mn h5 h6 h7 h8 h1 hm
      refine s_n3_iload C dX12_unevenOf_8 ?_
      refine g_bipush C dX12_unevenOf_9 (by decide) ?_
      refine g_icmp_ge 62 C dX12_unevenOf_11 (by decide) (by first | assumption | (unfold iR; omega)) (by first | assumption | (unfold iR; omega)) (fun c11 => ?_) (fun c11 => ?_)
      · refine s_n1_iload C dX12_unevenOf_62 ?_
        refine s_n2_iload C dX12_unevenOf_63 ?_
        refine g_isub C dX12_unevenOf_64 ?_
        refine g_iret C E dX12_unevenOf_65 (by decide) ?_
        have e : c = 15 := by omega
        subst e
        refine ⟨?_, rfl, rfl⟩
        rw [h5, h6]
        rfl
      · have hc : 0 ≤ c ∧ c < 15 := by omega
        have hcb := hS.1 c hc.1 hc.2
        have e1 := itI_s (fun i m => max m (S.1 i)) (0 : Int) h1.1
        have e2 := itI_s (fun i m => min m (S.1 i)) (999 : Int) h1.1
        rw [← h5] at e1
        rw [← h6] at e2
        refine s_n0_aload C dX12_unevenOf_14 ?_
        refine g_bipush C dX12_unevenOf_15 (by decide) ?_
        refine s_n3_iload C dX12_unevenOf_17 ?_
        refine g_iadd C dX12_unevenOf_18 ?_
        refine g_iald C dX12_unevenOf_19 hM (by omega) ?_
        rw [pS_f hc]
        refine s_n1_iload C dX12_unevenOf_20 ?_
        refine g_icmp_le 33 C dX12_unevenOf_21 (by decide) (by first | assumption | (unfold iR; omega)) (by first | assumption | (unfold iR; omega)) (fun c21 => ?_) (fun c21 => ?_)
        · refine s_n1_iload C dX12_unevenOf_33 ?_
          refine s_n1_istore C dX12_unevenOf_34 rfl ?_
          refine s_n0_aload C dX12_unevenOf_35 ?_
          refine g_bipush C dX12_unevenOf_36 (by decide) ?_
          refine s_n3_iload C dX12_unevenOf_38 ?_
          refine g_iadd C dX12_unevenOf_39 ?_
          refine g_iald C dX12_unevenOf_40 hM (by omega) ?_
          rw [pS_f hc]
          refine s_n2_iload C dX12_unevenOf_41 ?_
          refine g_icmp_ge 54 C dX12_unevenOf_42 (by decide) (by first | assumption | (unfold iR; omega)) (by first | assumption | (unfold iR; omega)) (fun c42 => ?_) (fun c42 => ?_)
          · refine s_n2_iload C dX12_unevenOf_54 ?_
            refine s_n2_istore C dX12_unevenOf_55 rfl ?_
            refine s_w3_iinc C dX12_unevenOf_56 rfl ?_
            refine g_goto 8 C dX12_unevenOf_59 (by decide) ?_
            exact ih _ (by omega) (c + 1) _ _ (by rw [e1]; omega) (by rw [e2]; omega) (by omega) (by omega) (by omega) rfl
          · refine s_n0_aload C dX12_unevenOf_45 ?_
            refine g_bipush C dX12_unevenOf_46 (by decide) ?_
            refine s_n3_iload C dX12_unevenOf_48 ?_
            refine g_iadd C dX12_unevenOf_49 ?_
            refine g_iald C dX12_unevenOf_50 hM (by omega) ?_
            rw [pS_f hc]
            refine g_goto 55 C dX12_unevenOf_51 (by decide) ?_
            refine s_n2_istore C dX12_unevenOf_55 rfl ?_
            refine s_w3_iinc C dX12_unevenOf_56 rfl ?_
            refine g_goto 8 C dX12_unevenOf_59 (by decide) ?_
            exact ih _ (by omega) (c + 1) _ _ (by rw [e1]; omega) (by rw [e2]; omega) (by omega) (by omega) (by omega) rfl
        · refine s_n0_aload C dX12_unevenOf_24 ?_
          refine g_bipush C dX12_unevenOf_25 (by decide) ?_
          refine s_n3_iload C dX12_unevenOf_27 ?_
          refine g_iadd C dX12_unevenOf_28 ?_
          refine g_iald C dX12_unevenOf_29 hM (by omega) ?_
          rw [pS_f hc]
          refine g_goto 34 C dX12_unevenOf_30 (by decide) ?_
          refine s_n1_istore C dX12_unevenOf_34 rfl ?_
          refine s_n0_aload C dX12_unevenOf_35 ?_
          refine g_bipush C dX12_unevenOf_36 (by decide) ?_
          refine s_n3_iload C dX12_unevenOf_38 ?_
          refine g_iadd C dX12_unevenOf_39 ?_
          refine g_iald C dX12_unevenOf_40 hM (by omega) ?_
          rw [pS_f hc]
          refine s_n2_iload C dX12_unevenOf_41 ?_
          refine g_icmp_ge 54 C dX12_unevenOf_42 (by decide) (by first | assumption | (unfold iR; omega)) (by first | assumption | (unfold iR; omega)) (fun c42 => ?_) (fun c42 => ?_)
          · refine s_n2_iload C dX12_unevenOf_54 ?_
            refine s_n2_istore C dX12_unevenOf_55 rfl ?_
            refine s_w3_iinc C dX12_unevenOf_56 rfl ?_
            refine g_goto 8 C dX12_unevenOf_59 (by decide) ?_
            exact ih _ (by omega) (c + 1) _ _ (by rw [e1]; omega) (by rw [e2]; omega) (by omega) (by omega) (by omega) rfl
          · refine s_n0_aload C dX12_unevenOf_45 ?_
            refine g_bipush C dX12_unevenOf_46 (by decide) ?_
            refine s_n3_iload C dX12_unevenOf_48 ?_
            refine g_iadd C dX12_unevenOf_49 ?_
            refine g_iald C dX12_unevenOf_50 hM (by omega) ?_
            rw [pS_f hc]
            refine g_goto 55 C dX12_unevenOf_51 (by decide) ?_
            refine s_n2_istore C dX12_unevenOf_55 rfl ?_
            refine s_w3_iinc C dX12_unevenOf_56 rfl ?_
            refine g_goto 8 C dX12_unevenOf_59 (by decide) ?_
            exact ih _ (by omega) (c + 1) _ _ (by rw [e1]; omega) (by rw [e2]; omega) (by omega) (by omega) (by omega) rfl
  refine g_iconst C dX12_unevenOf_0 ?_
  refine s_n1_istore C dX12_unevenOf_1 rfl ?_
  refine g_sipush C dX12_unevenOf_2 (by decide) ?_
  refine s_n2_istore C dX12_unevenOf_5 rfl ?_
  refine g_iconst C dX12_unevenOf_6 ?_
  refine s_n3_istore C dX12_unevenOf_7 rfl ?_
  exact lp _ 0 0 999 rfl rfl (by omega) (by omega) (by omega) rfl
theorem km_lay {a : Int} {Z : SLT} {b : Int → Int} {M : gM} {n c k : Int} (hS : sfOK Z) (hc : 0 ≤ c ∧ c < 15) (hk : 0 ≤ k ∧ k ≤ 1000) : CT yX12_lay cX12_lay 5 none (rmk 0 0 0) [vr a, vi c, vi k] (gu M a (gA 0 95 (pk Z b))) n (qr none (gu M a (gA 0 95 (pk (sfHaze (sfLay Z c k) c) b))) n) := by
  obtain ⟨f, s, h, w, l, p⟩ := Z
  exact ct_X12_lay hS hc hk
theorem pS_2 {Z : SLT} {b : Int → Int} : pk Z b 2 = Z.2.2.2.1 := rfl
theorem pS_u2 {Z : SLT} {b : Int → Int} {x : Int} : up (pk Z b) 2 x = pk (Z.1, Z.2.1, Z.2.2.1, x, Z.2.2.2.2) b := by
  obtain ⟨f, s, h, w, l, p⟩ := Z
  exact pq_u2
def kiOk (ci : Nat) : Prop := True
set_option maxRecDepth 20000 in
theorem ct_X12_goOver_4 {a : Int} {f s h : Int → Int} {w l p : Int} {b : Int → Int} {M : gM} {n : Int} (hS : sfOK (f, s, h, w, l, p)) {c : Int} (hc : 0 ≤ c ∧ c < 15) : CT yX12_goOver cX12_goOver 6 none (rmk 1 0 0) [vr a, vi 1, vi c] (gu M a (gA 0 95 (pk (f, s, h, w, l, p) b))) n (qr none (gu M a (gA 0 95 (pk (pTouch 4 c (f, s, h, w, l, p)) b))) n) := by
  refine CT.of (by decide) (fun _ => Nat.le_of_ble_eq_true rfl) (fun κ C E => ?_)
  show G κ (gu M a (gA 0 95 (pk (f, s, h, w, l, p) b))) n [some (vr a), some (vi 1), some (vi c), none, none, none] 0 [] 0 0
  have hcb := hS.1 c hc.1 hc.2
  have hw1 := hS.2
  dsimp only at hcb hw1
  have hok : sfOK (pFirst 4 (f, s, h, w, l, p) c) := pFirst_ok hS hc
  refine s_n0_aload C dX12_goOver_0 ?_
  refine g_iconst C dX12_goOver_1 ?_
  refine g_iald C dX12_goOver_2 (gu_same ..) (by omega) ?_
  rw [pq_2]
  refine g_iconst C dX12_goOver_3 ?_
  refine g_idiv C dX12_goOver_4 (by show 0 ≤ w ∧ w < 2147483648 ∧ (0 : Int) < 4 ∧ (4 : Int) < 2147483648; omega) ?_
  refine s_n3_istore C dX12_goOver_5 rfl ?_
  refine s_n1_iload C dX12_goOver_6 ?_
  refine g_tswI 32 C dX12_goOver_7 (by first | assumption | (unfold iR; omega)) (by decide) (by decide) rfl (by decide) ?_
  refine s_n0_aload C dX12_goOver_32 ?_
  refine s_n2_iload C dX12_goOver_33 ?_
  refine s_n3_iload C dX12_goOver_34 ?_
  refine g_invS C (km_lay (Z := (f, s, h, w, l, p)) (k := w / 4) hS hc (by omega)) cs_X12_163 (rmk_ok (by decide) (by decide) (by decide) (by decide)) (Nat.le_of_ble_eq_true rfl) rfl dX12_goOver_35 rfl (q_v0 ?_)
  refine g_goto 237 C dX12_goOver_38 (by decide) ?_
  refine s_n0_aload C dX12_goOver_237 ?_
  refine g_iconst C dX12_goOver_238 ?_
  refine g_dup2 C dX12_goOver_239 ?_
  refine g_iald C dX12_goOver_240 (gu_same ..) (by omega) ?_
  rw [pS_2]
  show G κ _ n _ _ (vi w :: _) _ _
  refine s_n0_aload C dX12_goOver_241 ?_
  refine g_iconst C dX12_goOver_242 ?_
  refine g_iald C dX12_goOver_243 (gu_same ..) (by omega) ?_
  rw [pS_2]
  show G κ _ n _ _ (vi w :: _) _ _
  refine g_if_le 251 C dX12_goOver_244 (by decide) (by show iR w; unfold iR; omega) (fun c244 => ?_) (fun c244 => ?_)
  · refine g_iconst C dX12_goOver_251 ?_
    refine g_isub C dX12_goOver_252 ?_
    refine g_iast C dX12_goOver_253 (gu_same ..) (by omega) ?_
    rw [gu_gu, pS_u2]
    refine g_vret C E dX12_goOver_254 (by decide) ?_
    refine ⟨rfl, ?_, rfl⟩
    have ed : max (w - 1) 0 = w - 0 := by omega
    have et : pTouch 4 c (f, s, h, w, l, p) = sfDry (sfHaze (sfLay (f, s, h, w, l, p) c (w / 4)) c) := rfl
    rw [et]
    show _ = gu M a (gA 0 95 (pk (_, _, _, max (w - 1) 0, _) b))
    rw [ed]
  · refine g_iconst C dX12_goOver_247 ?_
    refine g_goto 252 C dX12_goOver_248 (by decide) ?_
    refine g_isub C dX12_goOver_252 ?_
    refine g_iast C dX12_goOver_253 (gu_same ..) (by omega) ?_
    rw [gu_gu, pS_u2]
    refine g_vret C E dX12_goOver_254 (by decide) ?_
    refine ⟨rfl, ?_, rfl⟩
    have ed : max (w - 1) 0 = w - 1 := by omega
    have et : pTouch 4 c (f, s, h, w, l, p) = sfDry (sfHaze (sfLay (f, s, h, w, l, p) c (w / 4)) c) := rfl
    rw [et]
    show _ = gu M a (gA 0 95 (pk (_, _, _, max (w - 1) 0, _) b))
    rw [ed]
set_option maxRecDepth 20000 in
theorem ct_X12_goOver_5 {a : Int} {f s h : Int → Int} {w l p : Int} {b : Int → Int} {M : gM} {n : Int} (hS : sfOK (f, s, h, w, l, p)) {c : Int} (hc : 0 ≤ c ∧ c < 15) : CT yX12_goOver cX12_goOver 6 none (rmk 1 0 0) [vr a, vi 2, vi c] (gu M a (gA 0 95 (pk (f, s, h, w, l, p) b))) n (qr none (gu M a (gA 0 95 (pk (pTouch 5 c (f, s, h, w, l, p)) b))) n) := by
  refine CT.of (by decide) (fun _ => Nat.le_of_ble_eq_true rfl) (fun κ C E => ?_)
  show G κ (gu M a (gA 0 95 (pk (f, s, h, w, l, p) b))) n [some (vr a), some (vi 2), some (vi c), none, none, none] 0 [] 0 0
  have hcb := hS.1 c hc.1 hc.2
  have hw1 := hS.2
  dsimp only at hcb hw1
  have hok : sfOK (pFirst 5 (f, s, h, w, l, p) c) := pFirst_ok hS hc
  refine s_n0_aload C dX12_goOver_0 ?_
  refine g_iconst C dX12_goOver_1 ?_
  refine g_iald C dX12_goOver_2 (gu_same ..) (by omega) ?_
  rw [pq_2]
  refine g_iconst C dX12_goOver_3 ?_
  refine g_idiv C dX12_goOver_4 (by show 0 ≤ w ∧ w < 2147483648 ∧ (0 : Int) < 4 ∧ (4 : Int) < 2147483648; omega) ?_
  refine s_n3_istore C dX12_goOver_5 rfl ?_
  refine s_n1_iload C dX12_goOver_6 ?_
  refine g_tswI 41 C dX12_goOver_7 (by first | assumption | (unfold iR; omega)) (by decide) (by decide) rfl (by decide) ?_
  refine s_n0_aload C dX12_goOver_41 ?_
  refine g_bipush C dX12_goOver_42 (by decide) ?_
  refine s_n2_iload C dX12_goOver_44 ?_
  refine g_iadd C dX12_goOver_45 ?_
  refine g_iald C dX12_goOver_46 (gu_same ..) (by omega) ?_
  rw [pq_s hc]
  refine g_iconst C dX12_goOver_47 ?_
  refine g_idiv C dX12_goOver_48 (by show 0 ≤ s c ∧ s c < 2147483648 ∧ (0 : Int) < 2 ∧ (2 : Int) < 2147483648; omega) ?_
  refine s_w4_istore C dX12_goOver_49 rfl ?_
  refine s_n0_aload C dX12_goOver_51 ?_
  refine g_bipush C dX12_goOver_52 (by decide) ?_
  refine s_n2_iload C dX12_goOver_54 ?_
  refine g_iadd C dX12_goOver_55 ?_
  refine g_dup2 C dX12_goOver_56 ?_
  refine g_iald C dX12_goOver_57 (gu_same ..) (by omega) ?_
  rw [pq_f hc]
  refine s_w4_iload C dX12_goOver_58 ?_
  refine g_isub C dX12_goOver_60 ?_
  refine g_iast C dX12_goOver_61 (gu_same ..) (by omega) ?_
  rw [gu_gu, pq_uf hc]
  refine s_n0_aload C dX12_goOver_62 ?_
  refine g_bipush C dX12_goOver_63 (by decide) ?_
  refine s_n2_iload C dX12_goOver_65 ?_
  refine g_iadd C dX12_goOver_66 ?_
  refine g_dup2 C dX12_goOver_67 ?_
  refine g_iald C dX12_goOver_68 (gu_same ..) (by omega) ?_
  rw [pq_s hc]
  refine s_w4_iload C dX12_goOver_69 ?_
  refine g_isub C dX12_goOver_71 ?_
  refine g_iast C dX12_goOver_72 (gu_same ..) (by omega) ?_
  rw [gu_gu, pq_us hc]
  refine s_n0_aload C dX12_goOver_73 ?_
  refine s_n2_iload C dX12_goOver_74 ?_
  refine g_iconst C dX12_goOver_75 ?_
  refine s_n3_iload C dX12_goOver_76 ?_
  refine g_imul C dX12_goOver_77 ?_
  refine g_invS C (km_lay (Z := sfTakeSoft (f, s, h, w, l, p) c (s c / 2)) (k := 2 * (w / 4)) hok hc (by omega)) cs_X12_163 (rmk_ok (by decide) (by decide) (by decide) (by decide)) (Nat.le_of_ble_eq_true rfl) rfl dX12_goOver_78 rfl (q_v0 ?_)
  refine g_goto 237 C dX12_goOver_81 (by decide) ?_
  refine s_n0_aload C dX12_goOver_237 ?_
  refine g_iconst C dX12_goOver_238 ?_
  refine g_dup2 C dX12_goOver_239 ?_
  refine g_iald C dX12_goOver_240 (gu_same ..) (by omega) ?_
  rw [pS_2]
  show G κ _ n _ _ (vi w :: _) _ _
  refine s_n0_aload C dX12_goOver_241 ?_
  refine g_iconst C dX12_goOver_242 ?_
  refine g_iald C dX12_goOver_243 (gu_same ..) (by omega) ?_
  rw [pS_2]
  show G κ _ n _ _ (vi w :: _) _ _
  refine g_if_le 251 C dX12_goOver_244 (by decide) (by show iR w; unfold iR; omega) (fun c244 => ?_) (fun c244 => ?_)
  · refine g_iconst C dX12_goOver_251 ?_
    refine g_isub C dX12_goOver_252 ?_
    refine g_iast C dX12_goOver_253 (gu_same ..) (by omega) ?_
    rw [gu_gu, pS_u2]
    refine g_vret C E dX12_goOver_254 (by decide) ?_
    refine ⟨rfl, ?_, rfl⟩
    have ed : max (w - 1) 0 = w - 0 := by omega
    have et : pTouch 5 c (f, s, h, w, l, p) = sfDry (sfHaze (sfLay (sfTakeSoft (f, s, h, w, l, p) c (s c / 2)) c (w / 4 * 2)) c) := rfl
    rw [et, Int.mul_comm (w / 4) 2]
    show _ = gu M a (gA 0 95 (pk (_, _, _, max (w - 1) 0, _) b))
    rw [ed]
  · refine g_iconst C dX12_goOver_247 ?_
    refine g_goto 252 C dX12_goOver_248 (by decide) ?_
    refine g_isub C dX12_goOver_252 ?_
    refine g_iast C dX12_goOver_253 (gu_same ..) (by omega) ?_
    rw [gu_gu, pS_u2]
    refine g_vret C E dX12_goOver_254 (by decide) ?_
    refine ⟨rfl, ?_, rfl⟩
    have ed : max (w - 1) 0 = w - 1 := by omega
    have et : pTouch 5 c (f, s, h, w, l, p) = sfDry (sfHaze (sfLay (sfTakeSoft (f, s, h, w, l, p) c (s c / 2)) c (w / 4 * 2)) c) := rfl
    rw [et, Int.mul_comm (w / 4) 2]
    show _ = gu M a (gA 0 95 (pk (_, _, _, max (w - 1) 0, _) b))
    rw [ed]
set_option maxRecDepth 20000 in
theorem ct_X12_goOver_2 {a : Int} {f s h : Int → Int} {w l p : Int} {b : Int → Int} {M : gM} {n : Int} (hS : sfOK (f, s, h, w, l, p)) {c : Int} (hc : 0 ≤ c ∧ c < 15) : CT yX12_goOver cX12_goOver 6 none (rmk 1 0 0) [vr a, vi 3, vi c] (gu M a (gA 0 95 (pk (f, s, h, w, l, p) b))) n (qr none (gu M a (gA 0 95 (pk (pTouch 2 c (f, s, h, w, l, p)) b))) n) := by
  refine CT.of (by decide) (fun _ => Nat.le_of_ble_eq_true rfl) (fun κ C E => ?_)
  show G κ (gu M a (gA 0 95 (pk (f, s, h, w, l, p) b))) n [some (vr a), some (vi 3), some (vi c), none, none, none] 0 [] 0 0
  have hcb := hS.1 c hc.1 hc.2
  have hw1 := hS.2
  dsimp only at hcb hw1
  have hok : sfOK (pFirst 2 (f, s, h, w, l, p) c) := pFirst_ok hS hc
  refine s_n0_aload C dX12_goOver_0 ?_
  refine g_iconst C dX12_goOver_1 ?_
  refine g_iald C dX12_goOver_2 (gu_same ..) (by omega) ?_
  rw [pq_2]
  refine g_iconst C dX12_goOver_3 ?_
  refine g_idiv C dX12_goOver_4 (by show 0 ≤ w ∧ w < 2147483648 ∧ (0 : Int) < 4 ∧ (4 : Int) < 2147483648; omega) ?_
  refine s_n3_istore C dX12_goOver_5 rfl ?_
  refine s_n1_iload C dX12_goOver_6 ?_
  refine g_tswI 84 C dX12_goOver_7 (by first | assumption | (unfold iR; omega)) (by decide) (by decide) rfl (by decide) ?_
  refine s_n0_aload C dX12_goOver_84 ?_
  refine g_iconst C dX12_goOver_85 ?_
  refine g_iald C dX12_goOver_86 (gu_same ..) (by omega) ?_
  rw [pq_2]
  refine g_if_ne 154 C dX12_goOver_87 (by decide) (by first | assumption | (unfold iR; omega)) (fun c87 => ?_) (fun c87 => ?_)
  · have hS2 := hS
    have ep : pFirst 2 (f, s, h, w, l, p) c = (f, s, h, w, l, p) := if_neg c87
    refine s_n0_aload C dX12_goOver_154 ?_
    refine s_n2_iload C dX12_goOver_155 ?_
    refine s_n3_iload C dX12_goOver_156 ?_
    refine g_iconst C dX12_goOver_157 ?_
    refine g_idiv C dX12_goOver_158 (by show 0 ≤ w / 4 ∧ w / 4 < 2147483648 ∧ (0 : Int) < 2 ∧ (2 : Int) < 2147483648; omega) ?_
    refine g_invS C (km_lay (Z := (f, s, h, w, l, p)) (k := w / 4 / 2) hS2 hc (by omega)) cs_X12_163 (rmk_ok (by decide) (by decide) (by decide) (by decide)) (Nat.le_of_ble_eq_true rfl) rfl dX12_goOver_159 rfl (q_v0 ?_)
    refine g_goto 237 C dX12_goOver_162 (by decide) ?_
    refine s_n0_aload C dX12_goOver_237 ?_
    refine g_iconst C dX12_goOver_238 ?_
    refine g_dup2 C dX12_goOver_239 ?_
    refine g_iald C dX12_goOver_240 (gu_same ..) (by omega) ?_
    rw [pS_2]
    show G κ _ n _ _ (vi w :: _) _ _
    refine s_n0_aload C dX12_goOver_241 ?_
    refine g_iconst C dX12_goOver_242 ?_
    refine g_iald C dX12_goOver_243 (gu_same ..) (by omega) ?_
    rw [pS_2]
    show G κ _ n _ _ (vi w :: _) _ _
    refine g_if_le 251 C dX12_goOver_244 (by decide) (by show iR w; unfold iR; omega) (fun c244 => ?_) (fun c244 => ?_)
    · refine g_iconst C dX12_goOver_251 ?_
      refine g_isub C dX12_goOver_252 ?_
      refine g_iast C dX12_goOver_253 (gu_same ..) (by omega) ?_
      rw [gu_gu, pS_u2]
      refine g_vret C E dX12_goOver_254 (by decide) ?_
      refine ⟨rfl, ?_, rfl⟩
      have ed : max (w - 1) 0 = w - 0 := by omega
      have et : pTouch 2 c (f, s, h, w, l, p) = sfDry (sfHaze (sfLay (pFirst 2 (f, s, h, w, l, p) c) c ((pFirst 2 (f, s, h, w, l, p) c).2.2.2.1 / 4 / 2)) c) := rfl
      rw [et, ep]
      show _ = gu M a (gA 0 95 (pk (_, _, _, max (w - 1) 0, _) b))
      rw [ed]
    · refine g_iconst C dX12_goOver_247 ?_
      refine g_goto 252 C dX12_goOver_248 (by decide) ?_
      refine g_isub C dX12_goOver_252 ?_
      refine g_iast C dX12_goOver_253 (gu_same ..) (by omega) ?_
      rw [gu_gu, pS_u2]
      refine g_vret C E dX12_goOver_254 (by decide) ?_
      refine ⟨rfl, ?_, rfl⟩
      have ed : max (w - 1) 0 = w - 1 := by omega
      have et : pTouch 2 c (f, s, h, w, l, p) = sfDry (sfHaze (sfLay (pFirst 2 (f, s, h, w, l, p) c) c ((pFirst 2 (f, s, h, w, l, p) c).2.2.2.1 / 4 / 2)) c) := rfl
      rw [et, ep]
      show _ = gu M a (gA 0 95 (pk (_, _, _, max (w - 1) 0, _) b))
      rw [ed]
  · refine s_n0_aload C dX12_goOver_90 ?_
    refine g_bipush C dX12_goOver_91 (by decide) ?_
    refine s_n2_iload C dX12_goOver_93 ?_
    refine g_iadd C dX12_goOver_94 ?_
    refine s_n0_aload C dX12_goOver_95 ?_
    refine g_bipush C dX12_goOver_96 (by decide) ?_
    refine s_n2_iload C dX12_goOver_98 ?_
    refine g_iadd C dX12_goOver_99 ?_
    refine g_iald C dX12_goOver_100 (gu_same ..) (by omega) ?_
    rw [pq_f hc]
    refine g_iconst C dX12_goOver_101 ?_
    refine g_icmp_ge 109 C dX12_goOver_102 (by decide) (by first | assumption | (unfold iR; omega)) (by first | assumption | (unfold iR; omega)) (fun c102 => ?_) (fun c102 => ?_)
    · refine s_n0_aload C dX12_goOver_109 ?_
      refine g_bipush C dX12_goOver_110 (by decide) ?_
      refine s_n2_iload C dX12_goOver_112 ?_
      refine g_iadd C dX12_goOver_113 ?_
      refine g_iald C dX12_goOver_114 (gu_same ..) (by omega) ?_
      rw [pq_f hc]
      refine g_iconst C dX12_goOver_115 ?_
      refine g_isub C dX12_goOver_116 ?_
      refine g_iast C dX12_goOver_117 (gu_same ..) (by omega) ?_
      rw [gu_gu, pq_uf hc]
      refine s_n0_aload C dX12_goOver_118 ?_
      refine g_bipush C dX12_goOver_119 (by decide) ?_
      refine s_n2_iload C dX12_goOver_121 ?_
      refine g_iadd C dX12_goOver_122 ?_
      refine s_n0_aload C dX12_goOver_123 ?_
      refine g_bipush C dX12_goOver_124 (by decide) ?_
      refine s_n2_iload C dX12_goOver_126 ?_
      refine g_iadd C dX12_goOver_127 ?_
      refine g_iald C dX12_goOver_128 (gu_same ..) (by omega) ?_
      rw [pq_s hc]
      refine s_n0_aload C dX12_goOver_129 ?_
      refine g_bipush C dX12_goOver_130 (by decide) ?_
      refine s_n2_iload C dX12_goOver_132 ?_
      refine g_iadd C dX12_goOver_133 ?_
      refine g_iald C dX12_goOver_134 (gu_same ..) (by omega) ?_
      rw [pq_f hc]
      rw [up_same]
      refine g_icmp_le 147 C dX12_goOver_135 (by decide) (by first | assumption | (unfold iR; omega)) (by first | assumption | (unfold iR; omega)) (fun c135 => ?_) (fun c135 => ?_)
      · refine s_n0_aload C dX12_goOver_147 ?_
        refine g_bipush C dX12_goOver_148 (by decide) ?_
        refine s_n2_iload C dX12_goOver_150 ?_
        refine g_iadd C dX12_goOver_151 ?_
        refine g_iald C dX12_goOver_152 (gu_same ..) (by omega) ?_
        rw [pq_s hc]
        refine g_iast C dX12_goOver_153 (gu_same ..) (by omega) ?_
        rw [gu_gu, pq_us hc]
        have e1 : max (f c - 2) 0 = f c - 2 := by omega
        have e2 : min (s c) (f c - 2) = s c := by omega
        have hS2 : sfOK (up f c (f c - 2), up s c (s c), (h, w, l, p)) := by have := hok; rw [show pFirst 2 (f, s, h, w, l, p) c = sfScratch (f, s, h, w, l, p) c from if_pos c87] at this; unfold sfScratch at this; rwa [e1, e2] at this
        have ep : pFirst 2 (f, s, h, w, l, p) c = (up f c (f c - 2), up s c (s c), (h, w, l, p)) := by rw [show pFirst 2 (f, s, h, w, l, p) c = sfScratch (f, s, h, w, l, p) c from if_pos c87]; unfold sfScratch; rw [e1, e2]
        refine s_n0_aload C dX12_goOver_154 ?_
        refine s_n2_iload C dX12_goOver_155 ?_
        refine s_n3_iload C dX12_goOver_156 ?_
        refine g_iconst C dX12_goOver_157 ?_
        refine g_idiv C dX12_goOver_158 (by show 0 ≤ w / 4 ∧ w / 4 < 2147483648 ∧ (0 : Int) < 2 ∧ (2 : Int) < 2147483648; omega) ?_
        refine g_invS C (km_lay (Z := (up f c (f c - 2), up s c (s c), (h, w, l, p))) (k := w / 4 / 2) hS2 hc (by omega)) cs_X12_163 (rmk_ok (by decide) (by decide) (by decide) (by decide)) (Nat.le_of_ble_eq_true rfl) rfl dX12_goOver_159 rfl (q_v0 ?_)
        refine g_goto 237 C dX12_goOver_162 (by decide) ?_
        refine s_n0_aload C dX12_goOver_237 ?_
        refine g_iconst C dX12_goOver_238 ?_
        refine g_dup2 C dX12_goOver_239 ?_
        refine g_iald C dX12_goOver_240 (gu_same ..) (by omega) ?_
        rw [pS_2]
        show G κ _ n _ _ (vi w :: _) _ _
        refine s_n0_aload C dX12_goOver_241 ?_
        refine g_iconst C dX12_goOver_242 ?_
        refine g_iald C dX12_goOver_243 (gu_same ..) (by omega) ?_
        rw [pS_2]
        show G κ _ n _ _ (vi w :: _) _ _
        refine g_if_le 251 C dX12_goOver_244 (by decide) (by show iR w; unfold iR; omega) (fun c244 => ?_) (fun c244 => ?_)
        · refine g_iconst C dX12_goOver_251 ?_
          refine g_isub C dX12_goOver_252 ?_
          refine g_iast C dX12_goOver_253 (gu_same ..) (by omega) ?_
          rw [gu_gu, pS_u2]
          refine g_vret C E dX12_goOver_254 (by decide) ?_
          refine ⟨rfl, ?_, rfl⟩
          have ed : max (w - 1) 0 = w - 0 := by omega
          have et : pTouch 2 c (f, s, h, w, l, p) = sfDry (sfHaze (sfLay (pFirst 2 (f, s, h, w, l, p) c) c ((pFirst 2 (f, s, h, w, l, p) c).2.2.2.1 / 4 / 2)) c) := rfl
          rw [et, ep]
          show _ = gu M a (gA 0 95 (pk (_, _, _, max (w - 1) 0, _) b))
          rw [ed]
        · refine g_iconst C dX12_goOver_247 ?_
          refine g_goto 252 C dX12_goOver_248 (by decide) ?_
          refine g_isub C dX12_goOver_252 ?_
          refine g_iast C dX12_goOver_253 (gu_same ..) (by omega) ?_
          rw [gu_gu, pS_u2]
          refine g_vret C E dX12_goOver_254 (by decide) ?_
          refine ⟨rfl, ?_, rfl⟩
          have ed : max (w - 1) 0 = w - 1 := by omega
          have et : pTouch 2 c (f, s, h, w, l, p) = sfDry (sfHaze (sfLay (pFirst 2 (f, s, h, w, l, p) c) c ((pFirst 2 (f, s, h, w, l, p) c).2.2.2.1 / 4 / 2)) c) := rfl
          rw [et, ep]
          show _ = gu M a (gA 0 95 (pk (_, _, _, max (w - 1) 0, _) b))
          rw [ed]
      · refine s_n0_aload C dX12_goOver_138 ?_
        refine g_bipush C dX12_goOver_139 (by decide) ?_
        refine s_n2_iload C dX12_goOver_141 ?_
        refine g_iadd C dX12_goOver_142 ?_
        refine g_iald C dX12_goOver_143 (gu_same ..) (by omega) ?_
        rw [pq_f hc]
        rw [up_same]
        refine g_goto 153 C dX12_goOver_144 (by decide) ?_
        refine g_iast C dX12_goOver_153 (gu_same ..) (by omega) ?_
        rw [gu_gu, pq_us hc]
        have e1 : max (f c - 2) 0 = f c - 2 := by omega
        have e2 : min (s c) (f c - 2) = f c - 2 := by omega
        have hS2 : sfOK (up f c (f c - 2), up s c (f c - 2), (h, w, l, p)) := by have := hok; rw [show pFirst 2 (f, s, h, w, l, p) c = sfScratch (f, s, h, w, l, p) c from if_pos c87] at this; unfold sfScratch at this; rwa [e1, e2] at this
        have ep : pFirst 2 (f, s, h, w, l, p) c = (up f c (f c - 2), up s c (f c - 2), (h, w, l, p)) := by rw [show pFirst 2 (f, s, h, w, l, p) c = sfScratch (f, s, h, w, l, p) c from if_pos c87]; unfold sfScratch; rw [e1, e2]
        refine s_n0_aload C dX12_goOver_154 ?_
        refine s_n2_iload C dX12_goOver_155 ?_
        refine s_n3_iload C dX12_goOver_156 ?_
        refine g_iconst C dX12_goOver_157 ?_
        refine g_idiv C dX12_goOver_158 (by show 0 ≤ w / 4 ∧ w / 4 < 2147483648 ∧ (0 : Int) < 2 ∧ (2 : Int) < 2147483648; omega) ?_
        refine g_invS C (km_lay (Z := (up f c (f c - 2), up s c (f c - 2), (h, w, l, p))) (k := w / 4 / 2) hS2 hc (by omega)) cs_X12_163 (rmk_ok (by decide) (by decide) (by decide) (by decide)) (Nat.le_of_ble_eq_true rfl) rfl dX12_goOver_159 rfl (q_v0 ?_)
        refine g_goto 237 C dX12_goOver_162 (by decide) ?_
        refine s_n0_aload C dX12_goOver_237 ?_
        refine g_iconst C dX12_goOver_238 ?_
        refine g_dup2 C dX12_goOver_239 ?_
        refine g_iald C dX12_goOver_240 (gu_same ..) (by omega) ?_
        rw [pS_2]
        show G κ _ n _ _ (vi w :: _) _ _
        refine s_n0_aload C dX12_goOver_241 ?_
        refine g_iconst C dX12_goOver_242 ?_
        refine g_iald C dX12_goOver_243 (gu_same ..) (by omega) ?_
        rw [pS_2]
        show G κ _ n _ _ (vi w :: _) _ _
        refine g_if_le 251 C dX12_goOver_244 (by decide) (by show iR w; unfold iR; omega) (fun c244 => ?_) (fun c244 => ?_)
        · refine g_iconst C dX12_goOver_251 ?_
          refine g_isub C dX12_goOver_252 ?_
          refine g_iast C dX12_goOver_253 (gu_same ..) (by omega) ?_
          rw [gu_gu, pS_u2]
          refine g_vret C E dX12_goOver_254 (by decide) ?_
          refine ⟨rfl, ?_, rfl⟩
          have ed : max (w - 1) 0 = w - 0 := by omega
          have et : pTouch 2 c (f, s, h, w, l, p) = sfDry (sfHaze (sfLay (pFirst 2 (f, s, h, w, l, p) c) c ((pFirst 2 (f, s, h, w, l, p) c).2.2.2.1 / 4 / 2)) c) := rfl
          rw [et, ep]
          show _ = gu M a (gA 0 95 (pk (_, _, _, max (w - 1) 0, _) b))
          rw [ed]
        · refine g_iconst C dX12_goOver_247 ?_
          refine g_goto 252 C dX12_goOver_248 (by decide) ?_
          refine g_isub C dX12_goOver_252 ?_
          refine g_iast C dX12_goOver_253 (gu_same ..) (by omega) ?_
          rw [gu_gu, pS_u2]
          refine g_vret C E dX12_goOver_254 (by decide) ?_
          refine ⟨rfl, ?_, rfl⟩
          have ed : max (w - 1) 0 = w - 1 := by omega
          have et : pTouch 2 c (f, s, h, w, l, p) = sfDry (sfHaze (sfLay (pFirst 2 (f, s, h, w, l, p) c) c ((pFirst 2 (f, s, h, w, l, p) c).2.2.2.1 / 4 / 2)) c) := rfl
          rw [et, ep]
          show _ = gu M a (gA 0 95 (pk (_, _, _, max (w - 1) 0, _) b))
          rw [ed]
    · refine g_iconst C dX12_goOver_105 ?_
      refine g_goto 117 C dX12_goOver_106 (by decide) ?_
      refine g_iast C dX12_goOver_117 (gu_same ..) (by omega) ?_
      rw [gu_gu, pq_uf hc]
      refine s_n0_aload C dX12_goOver_118 ?_
      refine g_bipush C dX12_goOver_119 (by decide) ?_
      refine s_n2_iload C dX12_goOver_121 ?_
      refine g_iadd C dX12_goOver_122 ?_
      refine s_n0_aload C dX12_goOver_123 ?_
      refine g_bipush C dX12_goOver_124 (by decide) ?_
      refine s_n2_iload C dX12_goOver_126 ?_
      refine g_iadd C dX12_goOver_127 ?_
      refine g_iald C dX12_goOver_128 (gu_same ..) (by omega) ?_
      rw [pq_s hc]
      refine s_n0_aload C dX12_goOver_129 ?_
      refine g_bipush C dX12_goOver_130 (by decide) ?_
      refine s_n2_iload C dX12_goOver_132 ?_
      refine g_iadd C dX12_goOver_133 ?_
      refine g_iald C dX12_goOver_134 (gu_same ..) (by omega) ?_
      rw [pq_f hc]
      rw [up_same]
      refine g_icmp_le 147 C dX12_goOver_135 (by decide) (by first | assumption | (unfold iR; omega)) (by first | assumption | (unfold iR; omega)) (fun c135 => ?_) (fun c135 => ?_)
      · refine s_n0_aload C dX12_goOver_147 ?_
        refine g_bipush C dX12_goOver_148 (by decide) ?_
        refine s_n2_iload C dX12_goOver_150 ?_
        refine g_iadd C dX12_goOver_151 ?_
        refine g_iald C dX12_goOver_152 (gu_same ..) (by omega) ?_
        rw [pq_s hc]
        refine g_iast C dX12_goOver_153 (gu_same ..) (by omega) ?_
        rw [gu_gu, pq_us hc]
        have e1 : max (f c - 2) 0 = 0 := by omega
        have e2 : min (s c) (0) = s c := by omega
        have hS2 : sfOK (up f c (0), up s c (s c), (h, w, l, p)) := by have := hok; rw [show pFirst 2 (f, s, h, w, l, p) c = sfScratch (f, s, h, w, l, p) c from if_pos c87] at this; unfold sfScratch at this; rwa [e1, e2] at this
        have ep : pFirst 2 (f, s, h, w, l, p) c = (up f c (0), up s c (s c), (h, w, l, p)) := by rw [show pFirst 2 (f, s, h, w, l, p) c = sfScratch (f, s, h, w, l, p) c from if_pos c87]; unfold sfScratch; rw [e1, e2]
        refine s_n0_aload C dX12_goOver_154 ?_
        refine s_n2_iload C dX12_goOver_155 ?_
        refine s_n3_iload C dX12_goOver_156 ?_
        refine g_iconst C dX12_goOver_157 ?_
        refine g_idiv C dX12_goOver_158 (by show 0 ≤ w / 4 ∧ w / 4 < 2147483648 ∧ (0 : Int) < 2 ∧ (2 : Int) < 2147483648; omega) ?_
        refine g_invS C (km_lay (Z := (up f c (0), up s c (s c), (h, w, l, p))) (k := w / 4 / 2) hS2 hc (by omega)) cs_X12_163 (rmk_ok (by decide) (by decide) (by decide) (by decide)) (Nat.le_of_ble_eq_true rfl) rfl dX12_goOver_159 rfl (q_v0 ?_)
        refine g_goto 237 C dX12_goOver_162 (by decide) ?_
        refine s_n0_aload C dX12_goOver_237 ?_
        refine g_iconst C dX12_goOver_238 ?_
        refine g_dup2 C dX12_goOver_239 ?_
        refine g_iald C dX12_goOver_240 (gu_same ..) (by omega) ?_
        rw [pS_2]
        show G κ _ n _ _ (vi w :: _) _ _
        refine s_n0_aload C dX12_goOver_241 ?_
        refine g_iconst C dX12_goOver_242 ?_
        refine g_iald C dX12_goOver_243 (gu_same ..) (by omega) ?_
        rw [pS_2]
        show G κ _ n _ _ (vi w :: _) _ _
        refine g_if_le 251 C dX12_goOver_244 (by decide) (by show iR w; unfold iR; omega) (fun c244 => ?_) (fun c244 => ?_)
        · refine g_iconst C dX12_goOver_251 ?_
          refine g_isub C dX12_goOver_252 ?_
          refine g_iast C dX12_goOver_253 (gu_same ..) (by omega) ?_
          rw [gu_gu, pS_u2]
          refine g_vret C E dX12_goOver_254 (by decide) ?_
          refine ⟨rfl, ?_, rfl⟩
          have ed : max (w - 1) 0 = w - 0 := by omega
          have et : pTouch 2 c (f, s, h, w, l, p) = sfDry (sfHaze (sfLay (pFirst 2 (f, s, h, w, l, p) c) c ((pFirst 2 (f, s, h, w, l, p) c).2.2.2.1 / 4 / 2)) c) := rfl
          rw [et, ep]
          show _ = gu M a (gA 0 95 (pk (_, _, _, max (w - 1) 0, _) b))
          rw [ed]
        · refine g_iconst C dX12_goOver_247 ?_
          refine g_goto 252 C dX12_goOver_248 (by decide) ?_
          refine g_isub C dX12_goOver_252 ?_
          refine g_iast C dX12_goOver_253 (gu_same ..) (by omega) ?_
          rw [gu_gu, pS_u2]
          refine g_vret C E dX12_goOver_254 (by decide) ?_
          refine ⟨rfl, ?_, rfl⟩
          have ed : max (w - 1) 0 = w - 1 := by omega
          have et : pTouch 2 c (f, s, h, w, l, p) = sfDry (sfHaze (sfLay (pFirst 2 (f, s, h, w, l, p) c) c ((pFirst 2 (f, s, h, w, l, p) c).2.2.2.1 / 4 / 2)) c) := rfl
          rw [et, ep]
          show _ = gu M a (gA 0 95 (pk (_, _, _, max (w - 1) 0, _) b))
          rw [ed]
      · refine s_n0_aload C dX12_goOver_138 ?_
        refine g_bipush C dX12_goOver_139 (by decide) ?_
        refine s_n2_iload C dX12_goOver_141 ?_
        refine g_iadd C dX12_goOver_142 ?_
        refine g_iald C dX12_goOver_143 (gu_same ..) (by omega) ?_
        rw [pq_f hc]
        rw [up_same]
        refine g_goto 153 C dX12_goOver_144 (by decide) ?_
        refine g_iast C dX12_goOver_153 (gu_same ..) (by omega) ?_
        rw [gu_gu, pq_us hc]
        have e1 : max (f c - 2) 0 = 0 := by omega
        have e2 : min (s c) (0) = 0 := by omega
        have hS2 : sfOK (up f c (0), up s c (0), (h, w, l, p)) := by have := hok; rw [show pFirst 2 (f, s, h, w, l, p) c = sfScratch (f, s, h, w, l, p) c from if_pos c87] at this; unfold sfScratch at this; rwa [e1, e2] at this
        have ep : pFirst 2 (f, s, h, w, l, p) c = (up f c (0), up s c (0), (h, w, l, p)) := by rw [show pFirst 2 (f, s, h, w, l, p) c = sfScratch (f, s, h, w, l, p) c from if_pos c87]; unfold sfScratch; rw [e1, e2]
        refine s_n0_aload C dX12_goOver_154 ?_
        refine s_n2_iload C dX12_goOver_155 ?_
        refine s_n3_iload C dX12_goOver_156 ?_
        refine g_iconst C dX12_goOver_157 ?_
        refine g_idiv C dX12_goOver_158 (by show 0 ≤ w / 4 ∧ w / 4 < 2147483648 ∧ (0 : Int) < 2 ∧ (2 : Int) < 2147483648; omega) ?_
        refine g_invS C (km_lay (Z := (up f c (0), up s c (0), (h, w, l, p))) (k := w / 4 / 2) hS2 hc (by omega)) cs_X12_163 (rmk_ok (by decide) (by decide) (by decide) (by decide)) (Nat.le_of_ble_eq_true rfl) rfl dX12_goOver_159 rfl (q_v0 ?_)
        refine g_goto 237 C dX12_goOver_162 (by decide) ?_
        refine s_n0_aload C dX12_goOver_237 ?_
        refine g_iconst C dX12_goOver_238 ?_
        refine g_dup2 C dX12_goOver_239 ?_
        refine g_iald C dX12_goOver_240 (gu_same ..) (by omega) ?_
        rw [pS_2]
        show G κ _ n _ _ (vi w :: _) _ _
        refine s_n0_aload C dX12_goOver_241 ?_
        refine g_iconst C dX12_goOver_242 ?_
        refine g_iald C dX12_goOver_243 (gu_same ..) (by omega) ?_
        rw [pS_2]
        show G κ _ n _ _ (vi w :: _) _ _
        refine g_if_le 251 C dX12_goOver_244 (by decide) (by show iR w; unfold iR; omega) (fun c244 => ?_) (fun c244 => ?_)
        · refine g_iconst C dX12_goOver_251 ?_
          refine g_isub C dX12_goOver_252 ?_
          refine g_iast C dX12_goOver_253 (gu_same ..) (by omega) ?_
          rw [gu_gu, pS_u2]
          refine g_vret C E dX12_goOver_254 (by decide) ?_
          refine ⟨rfl, ?_, rfl⟩
          have ed : max (w - 1) 0 = w - 0 := by omega
          have et : pTouch 2 c (f, s, h, w, l, p) = sfDry (sfHaze (sfLay (pFirst 2 (f, s, h, w, l, p) c) c ((pFirst 2 (f, s, h, w, l, p) c).2.2.2.1 / 4 / 2)) c) := rfl
          rw [et, ep]
          show _ = gu M a (gA 0 95 (pk (_, _, _, max (w - 1) 0, _) b))
          rw [ed]
        · refine g_iconst C dX12_goOver_247 ?_
          refine g_goto 252 C dX12_goOver_248 (by decide) ?_
          refine g_isub C dX12_goOver_252 ?_
          refine g_iast C dX12_goOver_253 (gu_same ..) (by omega) ?_
          rw [gu_gu, pS_u2]
          refine g_vret C E dX12_goOver_254 (by decide) ?_
          refine ⟨rfl, ?_, rfl⟩
          have ed : max (w - 1) 0 = w - 1 := by omega
          have et : pTouch 2 c (f, s, h, w, l, p) = sfDry (sfHaze (sfLay (pFirst 2 (f, s, h, w, l, p) c) c ((pFirst 2 (f, s, h, w, l, p) c).2.2.2.1 / 4 / 2)) c) := rfl
          rw [et, ep]
          show _ = gu M a (gA 0 95 (pk (_, _, _, max (w - 1) 0, _) b))
          rw [ed]
set_option maxRecDepth 20000 in
theorem ct_X12_goOver_1 {a : Int} {f s h : Int → Int} {w l p : Int} {b : Int → Int} {M : gM} {n : Int} (hS : sfOK (f, s, h, w, l, p)) {c : Int} (hc : 0 ≤ c ∧ c < 15) : CT yX12_goOver cX12_goOver 6 none (rmk 1 0 0) [vr a, vi 4, vi c] (gu M a (gA 0 95 (pk (f, s, h, w, l, p) b))) n (qr none (gu M a (gA 0 95 (pk (pTouch 1 c (f, s, h, w, l, p)) b))) n) := by
  refine CT.of (by decide) (fun _ => Nat.le_of_ble_eq_true rfl) (fun κ C E => ?_)
  show G κ (gu M a (gA 0 95 (pk (f, s, h, w, l, p) b))) n [some (vr a), some (vi 4), some (vi c), none, none, none] 0 [] 0 0
  have hcb := hS.1 c hc.1 hc.2
  have hw1 := hS.2
  dsimp only at hcb hw1
  have hok : sfOK (pFirst 1 (f, s, h, w, l, p) c) := pFirst_ok hS hc
  refine s_n0_aload C dX12_goOver_0 ?_
  refine g_iconst C dX12_goOver_1 ?_
  refine g_iald C dX12_goOver_2 (gu_same ..) (by omega) ?_
  rw [pq_2]
  refine g_iconst C dX12_goOver_3 ?_
  refine g_idiv C dX12_goOver_4 (by show 0 ≤ w ∧ w < 2147483648 ∧ (0 : Int) < 4 ∧ (4 : Int) < 2147483648; omega) ?_
  refine s_n3_istore C dX12_goOver_5 rfl ?_
  refine s_n1_iload C dX12_goOver_6 ?_
  refine g_tswO 165 C dX12_goOver_7 (by first | assumption | (unfold iR; omega)) (by omega) (by decide) ?_
  refine s_n1_iload C dX12_goOver_165 ?_
  refine g_iconst C dX12_goOver_166 ?_
  refine g_icmp_ne 175 C dX12_goOver_167 (by decide) (by first | assumption | (unfold iR; omega)) (by first | assumption | (unfold iR; omega)) (fun c167 => ?_) (fun c167 => by exfalso; omega)
  refine g_iconst C dX12_goOver_175 ?_
  refine s_w5_istore C dX12_goOver_176 rfl ?_
  refine s_n0_aload C dX12_goOver_178 ?_
  refine g_bipush C dX12_goOver_179 (by decide) ?_
  refine s_n2_iload C dX12_goOver_181 ?_
  refine g_iadd C dX12_goOver_182 ?_
  refine s_n0_aload C dX12_goOver_183 ?_
  refine g_bipush C dX12_goOver_184 (by decide) ?_
  refine s_n2_iload C dX12_goOver_186 ?_
  refine g_iadd C dX12_goOver_187 ?_
  refine g_iald C dX12_goOver_188 (gu_same ..) (by omega) ?_
  rw [pq_h hc]
  refine s_w5_iload C dX12_goOver_189 ?_
  refine g_icmp_ge 198 C dX12_goOver_191 (by decide) (by first | assumption | (unfold iR; omega)) (by first | assumption | (unfold iR; omega)) (fun c191 => ?_) (fun c191 => ?_)
  · refine s_n0_aload C dX12_goOver_198 ?_
    refine g_bipush C dX12_goOver_199 (by decide) ?_
    refine s_n2_iload C dX12_goOver_201 ?_
    refine g_iadd C dX12_goOver_202 ?_
    refine g_iald C dX12_goOver_203 (gu_same ..) (by omega) ?_
    rw [pq_h hc]
    refine s_w5_iload C dX12_goOver_204 ?_
    refine g_isub C dX12_goOver_206 ?_
    refine g_iast C dX12_goOver_207 (gu_same ..) (by omega) ?_
    rw [gu_gu, pq_uh hc]
    refine s_n0_aload C dX12_goOver_208 ?_
    refine g_bipush C dX12_goOver_209 (by decide) ?_
    refine s_n2_iload C dX12_goOver_211 ?_
    refine g_iadd C dX12_goOver_212 ?_
    refine g_iald C dX12_goOver_213 (gu_same ..) (by omega) ?_
    rw [pq_s hc]
    refine g_if_le 237 C dX12_goOver_214 (by decide) (by show iR (s c); unfold iR; omega) (fun c214 => ?_) (fun c214 => ?_)
    · refine s_n0_aload C dX12_goOver_237 ?_
      refine g_iconst C dX12_goOver_238 ?_
      refine g_dup2 C dX12_goOver_239 ?_
      refine g_iald C dX12_goOver_240 (gu_same ..) (by omega) ?_
      rw [pS_2]
      show G κ _ n _ _ (vi w :: _) _ _
      refine s_n0_aload C dX12_goOver_241 ?_
      refine g_iconst C dX12_goOver_242 ?_
      refine g_iald C dX12_goOver_243 (gu_same ..) (by omega) ?_
      rw [pS_2]
      show G κ _ n _ _ (vi w :: _) _ _
      refine g_if_le 251 C dX12_goOver_244 (by decide) (by show iR w; unfold iR; omega) (fun c244 => ?_) (fun c244 => ?_)
      · refine g_iconst C dX12_goOver_251 ?_
        refine g_isub C dX12_goOver_252 ?_
        refine g_iast C dX12_goOver_253 (gu_same ..) (by omega) ?_
        rw [gu_gu, pS_u2]
        refine g_vret C E dX12_goOver_254 (by decide) ?_
        refine ⟨rfl, ?_, rfl⟩
        have e1 : max (h c - 4) 0 = h c - 4 := by omega
        have e2 : min (s c) 1 = 0 := by omega
        have ed : max (w - 1) 0 = w - 0 := by omega
        have et : pTouch 1 c (f, s, h, w, l, p) = sfDry (sfTakeSoft (sfTakeHaze (f, s, h, w, l, p) c 4) c (min (s c) 1)) := rfl
        rw [et, e2]
        unfold sfTakeHaze
        rw [e1]
        have eu : sfTakeSoft (f, s, up h c (h c - 4), (w, l, p)) c 0 = (f, s, up h c (h c - 4), (w, l, p)) := by unfold sfTakeSoft; dsimp only; rw [Int.sub_zero, Int.sub_zero, up_id, up_id]
        rw [eu]
        show _ = gu M a (gA 0 95 (pk (_, _, _, max (w - 1) 0, _) b))
        rw [ed]
      · refine g_iconst C dX12_goOver_247 ?_
        refine g_goto 252 C dX12_goOver_248 (by decide) ?_
        refine g_isub C dX12_goOver_252 ?_
        refine g_iast C dX12_goOver_253 (gu_same ..) (by omega) ?_
        rw [gu_gu, pS_u2]
        refine g_vret C E dX12_goOver_254 (by decide) ?_
        refine ⟨rfl, ?_, rfl⟩
        have e1 : max (h c - 4) 0 = h c - 4 := by omega
        have e2 : min (s c) 1 = 0 := by omega
        have ed : max (w - 1) 0 = w - 1 := by omega
        have et : pTouch 1 c (f, s, h, w, l, p) = sfDry (sfTakeSoft (sfTakeHaze (f, s, h, w, l, p) c 4) c (min (s c) 1)) := rfl
        rw [et, e2]
        unfold sfTakeHaze
        rw [e1]
        have eu : sfTakeSoft (f, s, up h c (h c - 4), (w, l, p)) c 0 = (f, s, up h c (h c - 4), (w, l, p)) := by unfold sfTakeSoft; dsimp only; rw [Int.sub_zero, Int.sub_zero, up_id, up_id]
        rw [eu]
        show _ = gu M a (gA 0 95 (pk (_, _, _, max (w - 1) 0, _) b))
        rw [ed]
    · refine s_n0_aload C dX12_goOver_217 ?_
      refine g_bipush C dX12_goOver_218 (by decide) ?_
      refine s_n2_iload C dX12_goOver_220 ?_
      refine g_iadd C dX12_goOver_221 ?_
      refine g_dup2 C dX12_goOver_222 ?_
      refine g_iald C dX12_goOver_223 (gu_same ..) (by omega) ?_
      rw [pq_f hc]
      refine g_iconst C dX12_goOver_224 ?_
      refine g_isub C dX12_goOver_225 ?_
      refine g_iast C dX12_goOver_226 (gu_same ..) (by omega) ?_
      rw [gu_gu, pq_uf hc]
      refine s_n0_aload C dX12_goOver_227 ?_
      refine g_bipush C dX12_goOver_228 (by decide) ?_
      refine s_n2_iload C dX12_goOver_230 ?_
      refine g_iadd C dX12_goOver_231 ?_
      refine g_dup2 C dX12_goOver_232 ?_
      refine g_iald C dX12_goOver_233 (gu_same ..) (by omega) ?_
      rw [pq_s hc]
      refine g_iconst C dX12_goOver_234 ?_
      refine g_isub C dX12_goOver_235 ?_
      refine g_iast C dX12_goOver_236 (gu_same ..) (by omega) ?_
      rw [gu_gu, pq_us hc]
      refine s_n0_aload C dX12_goOver_237 ?_
      refine g_iconst C dX12_goOver_238 ?_
      refine g_dup2 C dX12_goOver_239 ?_
      refine g_iald C dX12_goOver_240 (gu_same ..) (by omega) ?_
      rw [pS_2]
      show G κ _ n _ _ (vi w :: _) _ _
      refine s_n0_aload C dX12_goOver_241 ?_
      refine g_iconst C dX12_goOver_242 ?_
      refine g_iald C dX12_goOver_243 (gu_same ..) (by omega) ?_
      rw [pS_2]
      show G κ _ n _ _ (vi w :: _) _ _
      refine g_if_le 251 C dX12_goOver_244 (by decide) (by show iR w; unfold iR; omega) (fun c244 => ?_) (fun c244 => ?_)
      · refine g_iconst C dX12_goOver_251 ?_
        refine g_isub C dX12_goOver_252 ?_
        refine g_iast C dX12_goOver_253 (gu_same ..) (by omega) ?_
        rw [gu_gu, pS_u2]
        refine g_vret C E dX12_goOver_254 (by decide) ?_
        refine ⟨rfl, ?_, rfl⟩
        have e1 : max (h c - 4) 0 = h c - 4 := by omega
        have e2 : min (s c) 1 = 1 := by omega
        have ed : max (w - 1) 0 = w - 0 := by omega
        have et : pTouch 1 c (f, s, h, w, l, p) = sfDry (sfTakeSoft (sfTakeHaze (f, s, h, w, l, p) c 4) c (min (s c) 1)) := rfl
        rw [et, e2]
        unfold sfTakeHaze
        rw [e1]
        show _ = gu M a (gA 0 95 (pk (_, _, _, max (w - 1) 0, _) b))
        first | (rw [ed]; done) | (rw [ed]; rfl)
      · refine g_iconst C dX12_goOver_247 ?_
        refine g_goto 252 C dX12_goOver_248 (by decide) ?_
        refine g_isub C dX12_goOver_252 ?_
        refine g_iast C dX12_goOver_253 (gu_same ..) (by omega) ?_
        rw [gu_gu, pS_u2]
        refine g_vret C E dX12_goOver_254 (by decide) ?_
        refine ⟨rfl, ?_, rfl⟩
        have e1 : max (h c - 4) 0 = h c - 4 := by omega
        have e2 : min (s c) 1 = 1 := by omega
        have ed : max (w - 1) 0 = w - 1 := by omega
        have et : pTouch 1 c (f, s, h, w, l, p) = sfDry (sfTakeSoft (sfTakeHaze (f, s, h, w, l, p) c 4) c (min (s c) 1)) := rfl
        rw [et, e2]
        unfold sfTakeHaze
        rw [e1]
        show _ = gu M a (gA 0 95 (pk (_, _, _, max (w - 1) 0, _) b))
        first | (rw [ed]; done) | (rw [ed]; rfl)
  · refine g_iconst C dX12_goOver_194 ?_
    refine g_goto 207 C dX12_goOver_195 (by decide) ?_
    refine g_iast C dX12_goOver_207 (gu_same ..) (by omega) ?_
    rw [gu_gu, pq_uh hc]
    refine s_n0_aload C dX12_goOver_208 ?_
    refine g_bipush C dX12_goOver_209 (by decide) ?_
    refine s_n2_iload C dX12_goOver_211 ?_
    refine g_iadd C dX12_goOver_212 ?_
    refine g_iald C dX12_goOver_213 (gu_same ..) (by omega) ?_
    rw [pq_s hc]
    refine g_if_le 237 C dX12_goOver_214 (by decide) (by show iR (s c); unfold iR; omega) (fun c214 => ?_) (fun c214 => ?_)
    · refine s_n0_aload C dX12_goOver_237 ?_
      refine g_iconst C dX12_goOver_238 ?_
      refine g_dup2 C dX12_goOver_239 ?_
      refine g_iald C dX12_goOver_240 (gu_same ..) (by omega) ?_
      rw [pS_2]
      show G κ _ n _ _ (vi w :: _) _ _
      refine s_n0_aload C dX12_goOver_241 ?_
      refine g_iconst C dX12_goOver_242 ?_
      refine g_iald C dX12_goOver_243 (gu_same ..) (by omega) ?_
      rw [pS_2]
      show G κ _ n _ _ (vi w :: _) _ _
      refine g_if_le 251 C dX12_goOver_244 (by decide) (by show iR w; unfold iR; omega) (fun c244 => ?_) (fun c244 => ?_)
      · refine g_iconst C dX12_goOver_251 ?_
        refine g_isub C dX12_goOver_252 ?_
        refine g_iast C dX12_goOver_253 (gu_same ..) (by omega) ?_
        rw [gu_gu, pS_u2]
        refine g_vret C E dX12_goOver_254 (by decide) ?_
        refine ⟨rfl, ?_, rfl⟩
        have e1 : max (h c - 4) 0 = 0 := by omega
        have e2 : min (s c) 1 = 0 := by omega
        have ed : max (w - 1) 0 = w - 0 := by omega
        have et : pTouch 1 c (f, s, h, w, l, p) = sfDry (sfTakeSoft (sfTakeHaze (f, s, h, w, l, p) c 4) c (min (s c) 1)) := rfl
        rw [et, e2]
        unfold sfTakeHaze
        rw [e1]
        have eu : sfTakeSoft (f, s, up h c (0), (w, l, p)) c 0 = (f, s, up h c (0), (w, l, p)) := by unfold sfTakeSoft; dsimp only; rw [Int.sub_zero, Int.sub_zero, up_id, up_id]
        rw [eu]
        show _ = gu M a (gA 0 95 (pk (_, _, _, max (w - 1) 0, _) b))
        rw [ed]
      · refine g_iconst C dX12_goOver_247 ?_
        refine g_goto 252 C dX12_goOver_248 (by decide) ?_
        refine g_isub C dX12_goOver_252 ?_
        refine g_iast C dX12_goOver_253 (gu_same ..) (by omega) ?_
        rw [gu_gu, pS_u2]
        refine g_vret C E dX12_goOver_254 (by decide) ?_
        refine ⟨rfl, ?_, rfl⟩
        have e1 : max (h c - 4) 0 = 0 := by omega
        have e2 : min (s c) 1 = 0 := by omega
        have ed : max (w - 1) 0 = w - 1 := by omega
        have et : pTouch 1 c (f, s, h, w, l, p) = sfDry (sfTakeSoft (sfTakeHaze (f, s, h, w, l, p) c 4) c (min (s c) 1)) := rfl
        rw [et, e2]
        unfold sfTakeHaze
        rw [e1]
        have eu : sfTakeSoft (f, s, up h c (0), (w, l, p)) c 0 = (f, s, up h c (0), (w, l, p)) := by unfold sfTakeSoft; dsimp only; rw [Int.sub_zero, Int.sub_zero, up_id, up_id]
        rw [eu]
        show _ = gu M a (gA 0 95 (pk (_, _, _, max (w - 1) 0, _) b))
        rw [ed]
    · refine s_n0_aload C dX12_goOver_217 ?_
      refine g_bipush C dX12_goOver_218 (by decide) ?_
      refine s_n2_iload C dX12_goOver_220 ?_
      refine g_iadd C dX12_goOver_221 ?_
      refine g_dup2 C dX12_goOver_222 ?_
      refine g_iald C dX12_goOver_223 (gu_same ..) (by omega) ?_
      rw [pq_f hc]
      refine g_iconst C dX12_goOver_224 ?_
      refine g_isub C dX12_goOver_225 ?_
      refine g_iast C dX12_goOver_226 (gu_same ..) (by omega) ?_
      rw [gu_gu, pq_uf hc]
      refine s_n0_aload C dX12_goOver_227 ?_
      refine g_bipush C dX12_goOver_228 (by decide) ?_
      refine s_n2_iload C dX12_goOver_230 ?_
      refine g_iadd C dX12_goOver_231 ?_
      refine g_dup2 C dX12_goOver_232 ?_
      refine g_iald C dX12_goOver_233 (gu_same ..) (by omega) ?_
      rw [pq_s hc]
      refine g_iconst C dX12_goOver_234 ?_
      refine g_isub C dX12_goOver_235 ?_
      refine g_iast C dX12_goOver_236 (gu_same ..) (by omega) ?_
      rw [gu_gu, pq_us hc]
      refine s_n0_aload C dX12_goOver_237 ?_
      refine g_iconst C dX12_goOver_238 ?_
      refine g_dup2 C dX12_goOver_239 ?_
      refine g_iald C dX12_goOver_240 (gu_same ..) (by omega) ?_
      rw [pS_2]
      show G κ _ n _ _ (vi w :: _) _ _
      refine s_n0_aload C dX12_goOver_241 ?_
      refine g_iconst C dX12_goOver_242 ?_
      refine g_iald C dX12_goOver_243 (gu_same ..) (by omega) ?_
      rw [pS_2]
      show G κ _ n _ _ (vi w :: _) _ _
      refine g_if_le 251 C dX12_goOver_244 (by decide) (by show iR w; unfold iR; omega) (fun c244 => ?_) (fun c244 => ?_)
      · refine g_iconst C dX12_goOver_251 ?_
        refine g_isub C dX12_goOver_252 ?_
        refine g_iast C dX12_goOver_253 (gu_same ..) (by omega) ?_
        rw [gu_gu, pS_u2]
        refine g_vret C E dX12_goOver_254 (by decide) ?_
        refine ⟨rfl, ?_, rfl⟩
        have e1 : max (h c - 4) 0 = 0 := by omega
        have e2 : min (s c) 1 = 1 := by omega
        have ed : max (w - 1) 0 = w - 0 := by omega
        have et : pTouch 1 c (f, s, h, w, l, p) = sfDry (sfTakeSoft (sfTakeHaze (f, s, h, w, l, p) c 4) c (min (s c) 1)) := rfl
        rw [et, e2]
        unfold sfTakeHaze
        rw [e1]
        show _ = gu M a (gA 0 95 (pk (_, _, _, max (w - 1) 0, _) b))
        first | (rw [ed]; done) | (rw [ed]; rfl)
      · refine g_iconst C dX12_goOver_247 ?_
        refine g_goto 252 C dX12_goOver_248 (by decide) ?_
        refine g_isub C dX12_goOver_252 ?_
        refine g_iast C dX12_goOver_253 (gu_same ..) (by omega) ?_
        rw [gu_gu, pS_u2]
        refine g_vret C E dX12_goOver_254 (by decide) ?_
        refine ⟨rfl, ?_, rfl⟩
        have e1 : max (h c - 4) 0 = 0 := by omega
        have e2 : min (s c) 1 = 1 := by omega
        have ed : max (w - 1) 0 = w - 1 := by omega
        have et : pTouch 1 c (f, s, h, w, l, p) = sfDry (sfTakeSoft (sfTakeHaze (f, s, h, w, l, p) c 4) c (min (s c) 1)) := rfl
        rw [et, e2]
        unfold sfTakeHaze
        rw [e1]
        show _ = gu M a (gA 0 95 (pk (_, _, _, max (w - 1) 0, _) b))
        first | (rw [ed]; done) | (rw [ed]; rfl)
set_option maxRecDepth 20000 in
theorem ct_X12_goOver_6 {a : Int} {f s h : Int → Int} {w l p : Int} {b : Int → Int} {M : gM} {n : Int} (hS : sfOK (f, s, h, w, l, p)) {c : Int} (hc : 0 ≤ c ∧ c < 15) : CT yX12_goOver cX12_goOver 6 none (rmk 1 0 0) [vr a, vi 5, vi c] (gu M a (gA 0 95 (pk (f, s, h, w, l, p) b))) n (qr none (gu M a (gA 0 95 (pk (pTouch 6 c (f, s, h, w, l, p)) b))) n) := by
  refine CT.of (by decide) (fun _ => Nat.le_of_ble_eq_true rfl) (fun κ C E => ?_)
  show G κ (gu M a (gA 0 95 (pk (f, s, h, w, l, p) b))) n [some (vr a), some (vi 5), some (vi c), none, none, none] 0 [] 0 0
  have hcb := hS.1 c hc.1 hc.2
  have hw1 := hS.2
  dsimp only at hcb hw1
  have hok : sfOK (pFirst 6 (f, s, h, w, l, p) c) := pFirst_ok hS hc
  refine s_n0_aload C dX12_goOver_0 ?_
  refine g_iconst C dX12_goOver_1 ?_
  refine g_iald C dX12_goOver_2 (gu_same ..) (by omega) ?_
  rw [pq_2]
  refine g_iconst C dX12_goOver_3 ?_
  refine g_idiv C dX12_goOver_4 (by show 0 ≤ w ∧ w < 2147483648 ∧ (0 : Int) < 4 ∧ (4 : Int) < 2147483648; omega) ?_
  refine s_n3_istore C dX12_goOver_5 rfl ?_
  refine s_n1_iload C dX12_goOver_6 ?_
  refine g_tswO 165 C dX12_goOver_7 (by first | assumption | (unfold iR; omega)) (by omega) (by decide) ?_
  refine s_n1_iload C dX12_goOver_165 ?_
  refine g_iconst C dX12_goOver_166 ?_
  refine g_icmp_ne 175 C dX12_goOver_167 (by decide) (by first | assumption | (unfold iR; omega)) (by first | assumption | (unfold iR; omega)) (fun c167 => by exfalso; omega) (fun c167 => ?_)
  refine g_bipush C dX12_goOver_170 (by decide) ?_
  refine g_goto 176 C dX12_goOver_172 (by decide) ?_
  refine s_w5_istore C dX12_goOver_176 rfl ?_
  refine s_n0_aload C dX12_goOver_178 ?_
  refine g_bipush C dX12_goOver_179 (by decide) ?_
  refine s_n2_iload C dX12_goOver_181 ?_
  refine g_iadd C dX12_goOver_182 ?_
  refine s_n0_aload C dX12_goOver_183 ?_
  refine g_bipush C dX12_goOver_184 (by decide) ?_
  refine s_n2_iload C dX12_goOver_186 ?_
  refine g_iadd C dX12_goOver_187 ?_
  refine g_iald C dX12_goOver_188 (gu_same ..) (by omega) ?_
  rw [pq_h hc]
  refine s_w5_iload C dX12_goOver_189 ?_
  refine g_icmp_ge 198 C dX12_goOver_191 (by decide) (by first | assumption | (unfold iR; omega)) (by first | assumption | (unfold iR; omega)) (fun c191 => ?_) (fun c191 => ?_)
  · refine s_n0_aload C dX12_goOver_198 ?_
    refine g_bipush C dX12_goOver_199 (by decide) ?_
    refine s_n2_iload C dX12_goOver_201 ?_
    refine g_iadd C dX12_goOver_202 ?_
    refine g_iald C dX12_goOver_203 (gu_same ..) (by omega) ?_
    rw [pq_h hc]
    refine s_w5_iload C dX12_goOver_204 ?_
    refine g_isub C dX12_goOver_206 ?_
    refine g_iast C dX12_goOver_207 (gu_same ..) (by omega) ?_
    rw [gu_gu, pq_uh hc]
    refine s_n0_aload C dX12_goOver_208 ?_
    refine g_bipush C dX12_goOver_209 (by decide) ?_
    refine s_n2_iload C dX12_goOver_211 ?_
    refine g_iadd C dX12_goOver_212 ?_
    refine g_iald C dX12_goOver_213 (gu_same ..) (by omega) ?_
    rw [pq_s hc]
    refine g_if_le 237 C dX12_goOver_214 (by decide) (by show iR (s c); unfold iR; omega) (fun c214 => ?_) (fun c214 => ?_)
    · refine s_n0_aload C dX12_goOver_237 ?_
      refine g_iconst C dX12_goOver_238 ?_
      refine g_dup2 C dX12_goOver_239 ?_
      refine g_iald C dX12_goOver_240 (gu_same ..) (by omega) ?_
      rw [pS_2]
      show G κ _ n _ _ (vi w :: _) _ _
      refine s_n0_aload C dX12_goOver_241 ?_
      refine g_iconst C dX12_goOver_242 ?_
      refine g_iald C dX12_goOver_243 (gu_same ..) (by omega) ?_
      rw [pS_2]
      show G κ _ n _ _ (vi w :: _) _ _
      refine g_if_le 251 C dX12_goOver_244 (by decide) (by show iR w; unfold iR; omega) (fun c244 => ?_) (fun c244 => ?_)
      · refine g_iconst C dX12_goOver_251 ?_
        refine g_isub C dX12_goOver_252 ?_
        refine g_iast C dX12_goOver_253 (gu_same ..) (by omega) ?_
        rw [gu_gu, pS_u2]
        refine g_vret C E dX12_goOver_254 (by decide) ?_
        refine ⟨rfl, ?_, rfl⟩
        have e1 : max (h c - 8) 0 = h c - 8 := by omega
        have e2 : min (s c) 1 = 0 := by omega
        have ed : max (w - 1) 0 = w - 0 := by omega
        have et : pTouch 6 c (f, s, h, w, l, p) = sfDry (sfTakeSoft (sfTakeHaze (f, s, h, w, l, p) c 8) c (min (s c) 1)) := rfl
        rw [et, e2]
        unfold sfTakeHaze
        rw [e1]
        have eu : sfTakeSoft (f, s, up h c (h c - 8), (w, l, p)) c 0 = (f, s, up h c (h c - 8), (w, l, p)) := by unfold sfTakeSoft; dsimp only; rw [Int.sub_zero, Int.sub_zero, up_id, up_id]
        rw [eu]
        show _ = gu M a (gA 0 95 (pk (_, _, _, max (w - 1) 0, _) b))
        rw [ed]
      · refine g_iconst C dX12_goOver_247 ?_
        refine g_goto 252 C dX12_goOver_248 (by decide) ?_
        refine g_isub C dX12_goOver_252 ?_
        refine g_iast C dX12_goOver_253 (gu_same ..) (by omega) ?_
        rw [gu_gu, pS_u2]
        refine g_vret C E dX12_goOver_254 (by decide) ?_
        refine ⟨rfl, ?_, rfl⟩
        have e1 : max (h c - 8) 0 = h c - 8 := by omega
        have e2 : min (s c) 1 = 0 := by omega
        have ed : max (w - 1) 0 = w - 1 := by omega
        have et : pTouch 6 c (f, s, h, w, l, p) = sfDry (sfTakeSoft (sfTakeHaze (f, s, h, w, l, p) c 8) c (min (s c) 1)) := rfl
        rw [et, e2]
        unfold sfTakeHaze
        rw [e1]
        have eu : sfTakeSoft (f, s, up h c (h c - 8), (w, l, p)) c 0 = (f, s, up h c (h c - 8), (w, l, p)) := by unfold sfTakeSoft; dsimp only; rw [Int.sub_zero, Int.sub_zero, up_id, up_id]
        rw [eu]
        show _ = gu M a (gA 0 95 (pk (_, _, _, max (w - 1) 0, _) b))
        rw [ed]
    · refine s_n0_aload C dX12_goOver_217 ?_
      refine g_bipush C dX12_goOver_218 (by decide) ?_
      refine s_n2_iload C dX12_goOver_220 ?_
      refine g_iadd C dX12_goOver_221 ?_
      refine g_dup2 C dX12_goOver_222 ?_
      refine g_iald C dX12_goOver_223 (gu_same ..) (by omega) ?_
      rw [pq_f hc]
      refine g_iconst C dX12_goOver_224 ?_
      refine g_isub C dX12_goOver_225 ?_
      refine g_iast C dX12_goOver_226 (gu_same ..) (by omega) ?_
      rw [gu_gu, pq_uf hc]
      refine s_n0_aload C dX12_goOver_227 ?_
      refine g_bipush C dX12_goOver_228 (by decide) ?_
      refine s_n2_iload C dX12_goOver_230 ?_
      refine g_iadd C dX12_goOver_231 ?_
      refine g_dup2 C dX12_goOver_232 ?_
      refine g_iald C dX12_goOver_233 (gu_same ..) (by omega) ?_
      rw [pq_s hc]
      refine g_iconst C dX12_goOver_234 ?_
      refine g_isub C dX12_goOver_235 ?_
      refine g_iast C dX12_goOver_236 (gu_same ..) (by omega) ?_
      rw [gu_gu, pq_us hc]
      refine s_n0_aload C dX12_goOver_237 ?_
      refine g_iconst C dX12_goOver_238 ?_
      refine g_dup2 C dX12_goOver_239 ?_
      refine g_iald C dX12_goOver_240 (gu_same ..) (by omega) ?_
      rw [pS_2]
      show G κ _ n _ _ (vi w :: _) _ _
      refine s_n0_aload C dX12_goOver_241 ?_
      refine g_iconst C dX12_goOver_242 ?_
      refine g_iald C dX12_goOver_243 (gu_same ..) (by omega) ?_
      rw [pS_2]
      show G κ _ n _ _ (vi w :: _) _ _
      refine g_if_le 251 C dX12_goOver_244 (by decide) (by show iR w; unfold iR; omega) (fun c244 => ?_) (fun c244 => ?_)
      · refine g_iconst C dX12_goOver_251 ?_
        refine g_isub C dX12_goOver_252 ?_
        refine g_iast C dX12_goOver_253 (gu_same ..) (by omega) ?_
        rw [gu_gu, pS_u2]
        refine g_vret C E dX12_goOver_254 (by decide) ?_
        refine ⟨rfl, ?_, rfl⟩
        have e1 : max (h c - 8) 0 = h c - 8 := by omega
        have e2 : min (s c) 1 = 1 := by omega
        have ed : max (w - 1) 0 = w - 0 := by omega
        have et : pTouch 6 c (f, s, h, w, l, p) = sfDry (sfTakeSoft (sfTakeHaze (f, s, h, w, l, p) c 8) c (min (s c) 1)) := rfl
        rw [et, e2]
        unfold sfTakeHaze
        rw [e1]
        show _ = gu M a (gA 0 95 (pk (_, _, _, max (w - 1) 0, _) b))
        first | (rw [ed]; done) | (rw [ed]; rfl)
      · refine g_iconst C dX12_goOver_247 ?_
        refine g_goto 252 C dX12_goOver_248 (by decide) ?_
        refine g_isub C dX12_goOver_252 ?_
        refine g_iast C dX12_goOver_253 (gu_same ..) (by omega) ?_
        rw [gu_gu, pS_u2]
        refine g_vret C E dX12_goOver_254 (by decide) ?_
        refine ⟨rfl, ?_, rfl⟩
        have e1 : max (h c - 8) 0 = h c - 8 := by omega
        have e2 : min (s c) 1 = 1 := by omega
        have ed : max (w - 1) 0 = w - 1 := by omega
        have et : pTouch 6 c (f, s, h, w, l, p) = sfDry (sfTakeSoft (sfTakeHaze (f, s, h, w, l, p) c 8) c (min (s c) 1)) := rfl
        rw [et, e2]
        unfold sfTakeHaze
        rw [e1]
        show _ = gu M a (gA 0 95 (pk (_, _, _, max (w - 1) 0, _) b))
        first | (rw [ed]; done) | (rw [ed]; rfl)
  · refine g_iconst C dX12_goOver_194 ?_
    refine g_goto 207 C dX12_goOver_195 (by decide) ?_
    refine g_iast C dX12_goOver_207 (gu_same ..) (by omega) ?_
    rw [gu_gu, pq_uh hc]
    refine s_n0_aload C dX12_goOver_208 ?_
    refine g_bipush C dX12_goOver_209 (by decide) ?_
    refine s_n2_iload C dX12_goOver_211 ?_
    refine g_iadd C dX12_goOver_212 ?_
    refine g_iald C dX12_goOver_213 (gu_same ..) (by omega) ?_
    rw [pq_s hc]
    refine g_if_le 237 C dX12_goOver_214 (by decide) (by show iR (s c); unfold iR; omega) (fun c214 => ?_) (fun c214 => ?_)
    · refine s_n0_aload C dX12_goOver_237 ?_
      refine g_iconst C dX12_goOver_238 ?_
      refine g_dup2 C dX12_goOver_239 ?_
      refine g_iald C dX12_goOver_240 (gu_same ..) (by omega) ?_
      rw [pS_2]
      show G κ _ n _ _ (vi w :: _) _ _
      refine s_n0_aload C dX12_goOver_241 ?_
      refine g_iconst C dX12_goOver_242 ?_
      refine g_iald C dX12_goOver_243 (gu_same ..) (by omega) ?_
      rw [pS_2]
      show G κ _ n _ _ (vi w :: _) _ _
      refine g_if_le 251 C dX12_goOver_244 (by decide) (by show iR w; unfold iR; omega) (fun c244 => ?_) (fun c244 => ?_)
      · refine g_iconst C dX12_goOver_251 ?_
        refine g_isub C dX12_goOver_252 ?_
        refine g_iast C dX12_goOver_253 (gu_same ..) (by omega) ?_
        rw [gu_gu, pS_u2]
        refine g_vret C E dX12_goOver_254 (by decide) ?_
        refine ⟨rfl, ?_, rfl⟩
        have e1 : max (h c - 8) 0 = 0 := by omega
        have e2 : min (s c) 1 = 0 := by omega
        have ed : max (w - 1) 0 = w - 0 := by omega
        have et : pTouch 6 c (f, s, h, w, l, p) = sfDry (sfTakeSoft (sfTakeHaze (f, s, h, w, l, p) c 8) c (min (s c) 1)) := rfl
        rw [et, e2]
        unfold sfTakeHaze
        rw [e1]
        have eu : sfTakeSoft (f, s, up h c (0), (w, l, p)) c 0 = (f, s, up h c (0), (w, l, p)) := by unfold sfTakeSoft; dsimp only; rw [Int.sub_zero, Int.sub_zero, up_id, up_id]
        rw [eu]
        show _ = gu M a (gA 0 95 (pk (_, _, _, max (w - 1) 0, _) b))
        rw [ed]
      · refine g_iconst C dX12_goOver_247 ?_
        refine g_goto 252 C dX12_goOver_248 (by decide) ?_
        refine g_isub C dX12_goOver_252 ?_
        refine g_iast C dX12_goOver_253 (gu_same ..) (by omega) ?_
        rw [gu_gu, pS_u2]
        refine g_vret C E dX12_goOver_254 (by decide) ?_
        refine ⟨rfl, ?_, rfl⟩
        have e1 : max (h c - 8) 0 = 0 := by omega
        have e2 : min (s c) 1 = 0 := by omega
        have ed : max (w - 1) 0 = w - 1 := by omega
        have et : pTouch 6 c (f, s, h, w, l, p) = sfDry (sfTakeSoft (sfTakeHaze (f, s, h, w, l, p) c 8) c (min (s c) 1)) := rfl
        rw [et, e2]
        unfold sfTakeHaze
        rw [e1]
        have eu : sfTakeSoft (f, s, up h c (0), (w, l, p)) c 0 = (f, s, up h c (0), (w, l, p)) := by unfold sfTakeSoft; dsimp only; rw [Int.sub_zero, Int.sub_zero, up_id, up_id]
        rw [eu]
        show _ = gu M a (gA 0 95 (pk (_, _, _, max (w - 1) 0, _) b))
        rw [ed]
    · refine s_n0_aload C dX12_goOver_217 ?_
      refine g_bipush C dX12_goOver_218 (by decide) ?_
      refine s_n2_iload C dX12_goOver_220 ?_
      refine g_iadd C dX12_goOver_221 ?_
      refine g_dup2 C dX12_goOver_222 ?_
      refine g_iald C dX12_goOver_223 (gu_same ..) (by omega) ?_
      rw [pq_f hc]
      refine g_iconst C dX12_goOver_224 ?_
      refine g_isub C dX12_goOver_225 ?_
      refine g_iast C dX12_goOver_226 (gu_same ..) (by omega) ?_
      rw [gu_gu, pq_uf hc]
      refine s_n0_aload C dX12_goOver_227 ?_
      refine g_bipush C dX12_goOver_228 (by decide) ?_
      refine s_n2_iload C dX12_goOver_230 ?_
      refine g_iadd C dX12_goOver_231 ?_
      refine g_dup2 C dX12_goOver_232 ?_
      refine g_iald C dX12_goOver_233 (gu_same ..) (by omega) ?_
      rw [pq_s hc]
      refine g_iconst C dX12_goOver_234 ?_
      refine g_isub C dX12_goOver_235 ?_
      refine g_iast C dX12_goOver_236 (gu_same ..) (by omega) ?_
      rw [gu_gu, pq_us hc]
      refine s_n0_aload C dX12_goOver_237 ?_
      refine g_iconst C dX12_goOver_238 ?_
      refine g_dup2 C dX12_goOver_239 ?_
      refine g_iald C dX12_goOver_240 (gu_same ..) (by omega) ?_
      rw [pS_2]
      show G κ _ n _ _ (vi w :: _) _ _
      refine s_n0_aload C dX12_goOver_241 ?_
      refine g_iconst C dX12_goOver_242 ?_
      refine g_iald C dX12_goOver_243 (gu_same ..) (by omega) ?_
      rw [pS_2]
      show G κ _ n _ _ (vi w :: _) _ _
      refine g_if_le 251 C dX12_goOver_244 (by decide) (by show iR w; unfold iR; omega) (fun c244 => ?_) (fun c244 => ?_)
      · refine g_iconst C dX12_goOver_251 ?_
        refine g_isub C dX12_goOver_252 ?_
        refine g_iast C dX12_goOver_253 (gu_same ..) (by omega) ?_
        rw [gu_gu, pS_u2]
        refine g_vret C E dX12_goOver_254 (by decide) ?_
        refine ⟨rfl, ?_, rfl⟩
        have e1 : max (h c - 8) 0 = 0 := by omega
        have e2 : min (s c) 1 = 1 := by omega
        have ed : max (w - 1) 0 = w - 0 := by omega
        have et : pTouch 6 c (f, s, h, w, l, p) = sfDry (sfTakeSoft (sfTakeHaze (f, s, h, w, l, p) c 8) c (min (s c) 1)) := rfl
        rw [et, e2]
        unfold sfTakeHaze
        rw [e1]
        show _ = gu M a (gA 0 95 (pk (_, _, _, max (w - 1) 0, _) b))
        first | (rw [ed]; done) | (rw [ed]; rfl)
      · refine g_iconst C dX12_goOver_247 ?_
        refine g_goto 252 C dX12_goOver_248 (by decide) ?_
        refine g_isub C dX12_goOver_252 ?_
        refine g_iast C dX12_goOver_253 (gu_same ..) (by omega) ?_
        rw [gu_gu, pS_u2]
        refine g_vret C E dX12_goOver_254 (by decide) ?_
        refine ⟨rfl, ?_, rfl⟩
        have e1 : max (h c - 8) 0 = 0 := by omega
        have e2 : min (s c) 1 = 1 := by omega
        have ed : max (w - 1) 0 = w - 1 := by omega
        have et : pTouch 6 c (f, s, h, w, l, p) = sfDry (sfTakeSoft (sfTakeHaze (f, s, h, w, l, p) c 8) c (min (s c) 1)) := rfl
        rw [et, e2]
        unfold sfTakeHaze
        rw [e1]
        show _ = gu M a (gA 0 95 (pk (_, _, _, max (w - 1) 0, _) b))
        first | (rw [ed]; done) | (rw [ed]; rfl)
