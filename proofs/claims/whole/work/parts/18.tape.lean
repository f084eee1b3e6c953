/-! PadPolish$Tape, the small methods -/
/-- a Tape: bytes, way; length, at, fault -/
abbrev TPT : Type := (Int → Int) × (Int → Int) × (Int) × (Int) × (Int)
def TP (o : Int) (S : TPT) (M : gM) : gM := fun a => if a = o then some (gO 9 [vr (o + 1), vr (o + 2), vi S.2.2.1, vi S.2.2.2.1, vi S.2.2.2.2]) else if a = o + 1 then some (gA 0 120 S.1) else if a = o + 2 then some (gA 0 9 S.2.1) else M a
theorem TP_0 (o : Int) (b : Int → Int) (wy : Int → Int) (ln : Int) (at_ : Int) (fn : Int) (M : gM) : TP o (b, wy, ln, at_, fn) M (o) = some (gO 9 [vr (o + 1), vr (o + 2), vi ln, vi at_, vi fn]) := if_pos rfl
theorem TP_1 (o : Int) (b : Int → Int) (wy : Int → Int) (ln : Int) (at_ : Int) (fn : Int) (M : gM) : TP o (b, wy, ln, at_, fn) M (o + 1) = some (gA 0 120 b) := by unfold TP; rw [if_neg (by omega), if_pos rfl]
theorem TP_2 (o : Int) (b : Int → Int) (wy : Int → Int) (ln : Int) (at_ : Int) (fn : Int) (M : gM) : TP o (b, wy, ln, at_, fn) M (o + 2) = some (gA 0 9 wy) := by unfold TP; rw [if_neg (by omega), if_neg (by omega), if_pos rfl]
theorem TP_out {o a : Int} (S : TPT) (M : gM) (h : a < o ∨ o + 3 ≤ a) : TP o S M a = M a := by unfold TP; rw [if_neg (by omega), if_neg (by omega), if_neg (by omega)]
theorem TP_p2 (o : Int) (b : Int → Int) (wy : Int → Int) (ln : Int) (at_ : Int) (fn : Int) (M : gM) (x : Int) : gu (TP o (b, wy, ln, at_, fn) M) (o) (gO 9 ([vr (o + 1), vr (o + 2), vi ln, vi at_, vi fn].set 2 (vi x))) = TP o (b, wy, x, at_, fn) M := by
  funext a
  by_cases h : a = o
  · rw [h, gu_same]; exact (TP_0 ..).symm
  · rw [gu_ne _ _ h]; unfold TP; simp only [if_neg h]
theorem TP_p3 (o : Int) (b : Int → Int) (wy : Int → Int) (ln : Int) (at_ : Int) (fn : Int) (M : gM) (x : Int) : gu (TP o (b, wy, ln, at_, fn) M) (o) (gO 9 ([vr (o + 1), vr (o + 2), vi ln, vi at_, vi fn].set 3 (vi x))) = TP o (b, wy, ln, x, fn) M := by
  funext a
  by_cases h : a = o
  · rw [h, gu_same]; exact (TP_0 ..).symm
  · rw [gu_ne _ _ h]; unfold TP; simp only [if_neg h]
theorem TP_p4 (o : Int) (b : Int → Int) (wy : Int → Int) (ln : Int) (at_ : Int) (fn : Int) (M : gM) (x : Int) : gu (TP o (b, wy, ln, at_, fn) M) (o) (gO 9 ([vr (o + 1), vr (o + 2), vi ln, vi at_, vi fn].set 4 (vi x))) = TP o (b, wy, ln, at_, x) M := by
  funext a
  by_cases h : a = o
  · rw [h, gu_same]; exact (TP_0 ..).symm
  · rw [gu_ne _ _ h]; unfold TP; simp only [if_neg h]
theorem TP_s1 (o : Int) (b : Int → Int) (wy : Int → Int) (ln : Int) (at_ : Int) (fn : Int) (M : gM) (x : Int → Int) : gu (TP o (b, wy, ln, at_, fn) M) (o + 1) (gA 0 120 x) = TP o (x, wy, ln, at_, fn) M := by
  funext a
  by_cases h : a = o + 1
  · rw [h, gu_same]; exact (TP_1 ..).symm
  · rw [gu_ne _ _ h]; unfold TP; simp only [if_neg h]
theorem TP_s2 (o : Int) (b : Int → Int) (wy : Int → Int) (ln : Int) (at_ : Int) (fn : Int) (M : gM) (x : Int → Int) : gu (TP o (b, wy, ln, at_, fn) M) (o + 2) (gA 0 9 x) = TP o (b, x, ln, at_, fn) M := by
  funext a
  by_cases h : a = o + 2
  · rw [h, gu_same]; exact (TP_2 ..).symm
  · rw [gu_ne _ _ h]; unfold TP; simp only [if_neg h]
def TPi (o : Int) (S : TPT) (M : gM) : Prop := M (o) = some (gO 9 [vr (o + 1), vr (o + 2), vi S.2.2.1, vi S.2.2.2.1, vi S.2.2.2.2]) ∧ M (o + 1) = some (gA 0 120 S.1) ∧ M (o + 2) = some (gA 0 9 S.2.1)
theorem TP_self {o : Int} {S : TPT} {M : gM} (h : TPi o S M) : TP o S M = M := by
  funext a
  unfold TP
  by_cases h0 : a = o
  · rw [if_pos h0, h0]; exact (h.1).symm
  by_cases h1 : a = o + 1
  · rw [if_neg h0, if_pos h1, h1]; exact (h.2.1).symm
  by_cases h2 : a = o + 2
  · rw [if_neg h0, if_neg h1, if_pos h2, h2]; exact (h.2.2).symm
  rw [if_neg h0, if_neg h1, if_neg h2]
theorem TP_there (o : Int) (S : TPT) (M : gM) : TPi o S (TP o S M) := ⟨TP_0 o S.1 S.2.1 S.2.2.1 S.2.2.2.1 S.2.2.2.2 M, TP_1 o S.1 S.2.1 S.2.2.1 S.2.2.2.1 S.2.2.2.2 M, TP_2 o S.1 S.2.1 S.2.2.1 S.2.2.2.1 S.2.2.2.2 M⟩
theorem TP_twice (o : Int) (S S2 : TPT) (M : gM) : TP o S (TP o S2 M) = TP o S M := by
  funext a
  unfold TP
  by_cases h0 : a = o
  · simp only [if_pos h0]
  by_cases h1 : a = o + 1
  · simp only [if_neg h0, if_pos h1]
  by_cases h2 : a = o + 2
  · simp only [if_neg h0, if_neg h1, if_pos h2]
  simp only [if_neg h0, if_neg h1, if_neg h2]
section GLS
variable {κ : gC} {y : MethodName} {cc : ByteArray} {nL : Nat} {rm : Room} {M : gM} {n : Int} {L : List (Option gV)} {pc : Nat} {st : List gV} {cells slots : Nat} {x : Int}
theorem g_lsw4 {k1 o1 k2 o2 k3 o3 k4 o4 df : Int} {len : Nat} (t1 t2 t3 t4 t0 : Nat) (C : gF κ y cc nL rm) (hd : decode cc pc = .ok (.lookupswitch df #[(k1, o1), (k2, o2), (k3, o3), (k4, o4)], len)) (hs : k1 < k2 ∧ k2 < k3 ∧ k3 < k4) (hx : iR x) (e1 : (pc : Int) + o1 = (t1 : Int)) (e2 : (pc : Int) + o2 = (t2 : Int)) (e3 : (pc : Int) + o3 = (t3 : Int)) (e4 : (pc : Int) + o4 = (t4 : Int)) (e0 : (pc : Int) + df = (t0 : Int))
    (g1 : x = k1 → G κ M n L t1 st cells slots) (g2 : x = k2 → G κ M n L t2 st cells slots) (g3 : x = k3 → G κ M n L t3 st cells slots) (g4 : x = k4 → G κ M n L t4 st cells slots) (g0 : ¬ x = k1 → ¬ x = k2 → ¬ x = k3 → ¬ x = k4 → G κ M n L t0 st cells slots) : G κ M n L pc (vi x :: st) cells slots := by
  have hp : (#[(k1, o1), (k2, o2), (k3, o3), (k4, o4)].toList.zip (#[(k1, o1), (k2, o2), (k3, o3), (k4, o4)].toList.drop 1)).all (fun (a, next) => a.1 < next.1) = true := by
    simp [hs.1, hs.2.1, hs.2.2]
  by_cases h1 : x = k1
  · exact g_lsw t1 C hd hp hx (by rw [Op.lookupswitch.offset_cons, if_pos h1.symm]) e1 (g1 h1)
  by_cases h2 : x = k2
  · exact g_lsw t2 C hd hp hx (by rw [Op.lookupswitch.offset_cons, if_neg (Ne.symm h1), Op.lookupswitch.offset_cons, if_pos h2.symm]) e2 (g2 h2)
  by_cases h3 : x = k3
  · exact g_lsw t3 C hd hp hx (by rw [Op.lookupswitch.offset_cons, if_neg (Ne.symm h1), Op.lookupswitch.offset_cons, if_neg (Ne.symm h2), Op.lookupswitch.offset_cons, if_pos h3.symm]) e3 (g3 h3)
  by_cases h4 : x = k4
  · exact g_lsw t4 C hd hp hx (by rw [Op.lookupswitch.offset_cons, if_neg (Ne.symm h1), Op.lookupswitch.offset_cons, if_neg (Ne.symm h2), Op.lookupswitch.offset_cons, if_neg (Ne.symm h3), Op.lookupswitch.offset_cons, if_pos h4.symm]) e4 (g4 h4)
  · exact g_lsw t0 C hd hp hx (by rw [Op.lookupswitch.offset_cons, if_neg (Ne.symm h1), Op.lookupswitch.offset_cons, if_neg (Ne.symm h2), Op.lookupswitch.offset_cons, if_neg (Ne.symm h3), Op.lookupswitch.offset_cons, if_neg (Ne.symm h4)]; rfl) e0 (g0 h1 h2 h3 h4)
end GLS
theorem TP_gu {o a : Int} (T : TPT) (M : gM) (e : gE) (h : a < o ∨ o + 3 ≤ a) : gu (TP o T M) a e = TP o T (gu M a e) := by
  funext x
  by_cases hx : x = a
  · rw [hx, gu_same, TP_out _ _ h, gu_same]
  · rw [gu_ne _ _ hx]
    unfold TP
    rw [gu_ne _ _ hx]
theorem SL_gu {o a : Int} (S : SLT) (M : gM) (e : gE) (h : a < o ∨ o + 4 ≤ a) : gu (SL o S M) a e = SL o S (gu M a e) := by
  funext x
  by_cases hx : x = a
  · rw [hx, gu_same, SL_out _ _ h, gu_same]
  · rw [gu_ne _ _ hx]
    unfold SL
    rw [gu_ne _ _ hx]
def tpOK (T : TPT) : Prop := (∀ i, 0 ≤ i → i < 120 → 0 ≤ T.1 i ∧ T.1 i ≤ 255) ∧ 0 ≤ T.2.2.1 ∧ T.2.2.1 ≤ 120 ∧ 0 ≤ T.2.2.2.1 ∧ T.2.2.2.1 ≤ T.2.2.1
def tAt (T : TPT) (a : Int) : TPT := (T.1, T.2.1, T.2.2.1, a, T.2.2.2.2)
def tRef (T : TPT) (k : Int) : TPT := (T.1, T.2.1, T.2.2.1, T.2.2.2.1, k)
def tWay (T : TPT) (w : Int → Int) : TPT := (T.1, w, T.2.2)
def tNext (T : TPT) : Int := if T.2.2.2.1 < T.2.2.1 then T.1 T.2.2.2.1 else -1
abbrev tFig (T : TPT) (p : Int) : Prop := p < T.2.2.1 ∧ 48 ≤ T.1 p ∧ T.1 p ≤ 57
def tSign (T : TPT) (c : Int) : Int × TPT := if tNext T = c then (1, tAt T (T.2.2.2.1 + 1)) else (0, tRef T 1)
def tNumV (T : TPT) (most v k : Int) : Int × TPT := if v ≤ most then (v, tAt T (T.2.2.2.1 + k)) else (-1, tRef T 2)
def tNum (T : TPT) (most : Int) : Int × TPT :=
  if ¬ tFig T T.2.2.2.1 then (-1, tRef T 1)
  else if ¬ tFig T (T.2.2.2.1 + 1) then tNumV T most (T.1 T.2.2.2.1 - 48) 1
  else if ¬ tFig T (T.2.2.2.1 + 2) then tNumV T most ((T.1 T.2.2.2.1 - 48) * 10 + T.1 (T.2.2.2.1 + 1) - 48) 2
  else (-1, tRef T 1)
theorem tNext_b {T : TPT} (h : tpOK T) : -1 ≤ tNext T ∧ tNext T ≤ 255 := by
  unfold tNext
  split
  · have := h.1 T.2.2.2.1 h.2.2.2.1 (by have := h.2.2.1; omega)
    omega
  · omega
set_option maxRecDepth 20000 in
theorem ct_X9_init {M : gM} {n : Int} : CT yX9_init cX9_init 1 none (rmk 1 2 129) [vr n] (gu M n (gO 9 [vn, vn, vi 0, vi 0, vi 0])) (n + 1) (qr none (TP n (fun _ => 0, fun _ => 0, 0, 0, 0) M) (n + 3)) := by
  refine CT.of (by decide) (fun _ => Nat.le_of_ble_eq_true rfl) (fun κ C E => ?_)
  show G κ (gu M n (gO 9 [vn, vn, vi 0, vi 0, vi 0])) (n + 1) [some (vr n)] 0 [] 0 0
  refine s_n0_aload C dX9_init_0 ?_
  refine g_objInit C wd_229 wd_70 wdObj (by decide) (Nat.le_of_ble_eq_true rfl) rfl dX9_init_1 ?_
  refine s_n0_aload C dX9_init_4 ?_
  refine g_bipush C dX9_init_5 (by decide) ?_
  refine g_newI C wd_1178 dX9_init_7 (by omega) (by decide) ?_
  refine g_putF C rfl fp_X9_9_9 dX9_init_9 ((gu_ne _ _ (by omega)).trans (gu_same ..)) (Nat.le_of_ble_eq_true rfl) (gfit_a _ _) ?_
  refine s_n0_aload C dX9_init_12 ?_
  refine g_bipush C dX9_init_13 (by decide) ?_
  refine g_newI C wd_1178 dX9_init_15 (by omega) (by decide) ?_
  refine g_putF C rfl fp_X9_15_9 dX9_init_17 ((gu_ne _ _ (by omega)).trans (gu_same ..)) (Nat.le_of_ble_eq_true rfl) (gfit_a _ _) ?_
  refine g_vret C E dX9_init_20 (by decide) ?_
  refine ⟨rfl, ?_, by omega⟩
  funext a
  simp only [Int.add_assoc, Int.reduceAdd]
  unfold TP gu
  (repeat' split) <;> first | rfl | omega
set_option maxRecDepth 20000 in
theorem ct_X9_append {o : Int} {b wy : Int → Int} {ln at_ fn : Int} {M : gM} {n : Int} {x : Int} (hl : 0 ≤ ln ∧ ln ≤ 120) : CT yX9_append cX9_append 2 (some .boolean) (rmk 0 0 0) [vr o, vi x] (TP o (b, wy, ln, at_, fn) M) n (fun r M2 n2 => n2 = n ∧ ((120 ≤ ln ∧ r = some (vi 0) ∧ M2 = TP o (b, wy, ln, at_, fn) M) ∨ (ln < 120 ∧ r = some (vi 1) ∧ M2 = TP o (up b ln x, wy, ln + 1, at_, fn) M))) := by
  refine CT.of (by decide) (fun _ => Nat.le_of_ble_eq_true rfl) (fun κ C E => ?_)
  show G κ (TP o (b, wy, ln, at_, fn) M) n [some (vr o), some (vi x)] 0 [] 0 0
  refine s_n0_aload C dX9_append_0 ?_
  refine g_get C fd_X9_18_9 dX9_append_1 (TP_0 ..) rfl ?_
  refine g_bipush C dX9_append_4 (by decide) ?_
  refine g_icmp_lt 11 C dX9_append_6 (by decide) (by unfold iR; omega) (by unfold iR; omega) (fun c6 => ?_) (fun c6 => ?_)
  · refine s_n0_aload C dX9_append_11 ?_
    refine g_get C fd_X9_9_9 dX9_append_12 (TP_0 ..) rfl ?_
    refine s_n0_aload C dX9_append_15 ?_
    refine g_get C fd_X9_18_9 dX9_append_16 (TP_0 ..) rfl ?_
    refine s_n1_iload C dX9_append_19 ?_
    refine g_iast C dX9_append_20 (TP_1 ..) (by omega) ?_
    rw [TP_s1]
    refine s_n0_aload C dX9_append_21 ?_
    refine g_dup C dX9_append_22 rfl ?_
    refine g_get C fd_X9_18_9 dX9_append_23 (TP_0 ..) rfl ?_
    refine g_iconst C dX9_append_26 ?_
    refine g_iadd C dX9_append_27 ?_
    refine g_put C fp_X9_18_9 dX9_append_28 (TP_0 ..) (Nat.le_of_ble_eq_true rfl) (gfit_i _) ?_
    rw [TP_p2]
    refine g_iconst C dX9_append_31 ?_
    refine g_zret C E dX9_append_32 (by decide) (by omega) ?_
    exact ⟨rfl, Or.inr ⟨c6, rfl, rfl⟩⟩
  · refine g_iconst C dX9_append_9 ?_
    refine g_zret C E dX9_append_10 (by decide) (by omega) ?_
    exact ⟨rfl, Or.inl ⟨c6, rfl, rfl⟩⟩
set_option maxRecDepth 20000 in
theorem ct_X9_refuse {o : Int} {b wy : Int → Int} {ln at_ fn : Int} {M : gM} {n : Int} {k : Int} : CT yX9_refuse cX9_refuse 2 (some .boolean) (rmk 0 0 0) [vr o, vi k] (TP o (b, wy, ln, at_, fn) M) n (qr (some (vi 0)) (TP o (tRef (b, wy, ln, at_, fn) k) M) n) := by
  refine CT.of (by decide) (fun _ => Nat.le_of_ble_eq_true rfl) (fun κ C E => ?_)
  show G κ (TP o (b, wy, ln, at_, fn) M) n [some (vr o), some (vi k)] 0 [] 0 0
  refine s_n0_aload C dX9_refuse_0 ?_
  refine s_n1_iload C dX9_refuse_1 ?_
  refine g_put C fp_X9_121_9 dX9_refuse_2 (TP_0 ..) (Nat.le_of_ble_eq_true rfl) (gfit_i _) ?_
  rw [TP_p4]
  refine g_iconst C dX9_refuse_5 ?_
  refine g_zret C E dX9_refuse_6 (by decide) (by omega) ?_
  exact ⟨rfl, rfl, rfl⟩
set_option maxRecDepth 20000 in
theorem ct_X9_next {o : Int} {b wy : Int → Int} {ln at_ fn : Int} {M : gM} {n : Int} (hT : tpOK (b, wy, ln, at_, fn)) : CT yX9_next cX9_next 1 (some .int) (rmk 0 0 0) [vr o] (TP o (b, wy, ln, at_, fn) M) n (qr (some (vi (tNext (b, wy, ln, at_, fn)))) (TP o (b, wy, ln, at_, fn) M) n) := by
  refine CT.of (by decide) (fun _ => Nat.le_of_ble_eq_true rfl) (fun κ C E => ?_)
  show G κ (TP o (b, wy, ln, at_, fn) M) n [some (vr o)] 0 [] 0 0
  have b0 : 0 ≤ ln ∧ ln ≤ 120 ∧ 0 ≤ at_ ∧ at_ ≤ ln := hT.2
  refine s_n0_aload C dX9_next_0 ?_
  refine g_get C fd_X9_22_9 dX9_next_1 (TP_0 ..) rfl ?_
  refine s_n0_aload C dX9_next_4 ?_
  refine g_get C fd_X9_18_9 dX9_next_5 (TP_0 ..) rfl ?_
  refine g_icmp_ge 23 C dX9_next_8 (by decide) (by unfold iR; omega) (by unfold iR; omega) (fun c8 => ?_) (fun c8 => ?_)
  · refine g_iconst C dX9_next_23 ?_
    refine g_iret C E dX9_next_24 (by decide) ?_
    refine ⟨?_, rfl, rfl⟩
    unfold tNext
    rw [if_neg (by dsimp only; omega)]
  · refine s_n0_aload C dX9_next_11 ?_
    refine g_get C fd_X9_9_9 dX9_next_12 (TP_0 ..) rfl ?_
    refine s_n0_aload C dX9_next_15 ?_
    refine g_get C fd_X9_22_9 dX9_next_16 (TP_0 ..) rfl ?_
    refine g_iald C dX9_next_19 (TP_1 ..) (by omega) ?_
    refine g_goto 24 C dX9_next_20 (by decide) ?_
    refine g_iret C E dX9_next_24 (by decide) ?_
    refine ⟨?_, rfl, rfl⟩
    unfold tNext
    rw [if_pos (by dsimp only; omega)]
set_option maxRecDepth 20000 in
theorem ct_X9_isFigure {o : Int} {b wy : Int → Int} {ln at_ fn : Int} {M : gM} {n : Int} {p : Int} (hT : tpOK (b, wy, ln, at_, fn)) (hp : 0 ≤ p ∧ p ≤ 200) : CT yX9_isFigure cX9_isFigure 2 (some .boolean) (rmk 0 0 0) [vr o, vi p] (TP o (b, wy, ln, at_, fn) M) n (qr (some (vi (if tFig (b, wy, ln, at_, fn) p then 1 else 0))) (TP o (b, wy, ln, at_, fn) M) n) := by
  refine CT.of (by decide) (fun _ => Nat.le_of_ble_eq_true rfl) (fun κ C E => ?_)
  show G κ (TP o (b, wy, ln, at_, fn) M) n [some (vr o), some (vi p)] 0 [] 0 0
  have b0 : 0 ≤ ln ∧ ln ≤ 120 ∧ 0 ≤ at_ ∧ at_ ≤ ln := hT.2
  refine s_n1_iload C dX9_isFigure_0 ?_
  refine s_n0_aload C dX9_isFigure_1 ?_
  refine g_get C fd_X9_18_9 dX9_isFigure_2 (TP_0 ..) rfl ?_
  refine g_icmp_ge 34 C dX9_isFigure_5 (by decide) (by unfold iR; omega) (by unfold iR; omega) (fun c5 => ?_) (fun c5 => ?_)
  · refine g_iconst C dX9_isFigure_34 ?_
    refine g_zret C E dX9_isFigure_35 (by decide) (by omega) ?_
    rw [if_neg (show ¬ (p < ln ∧ 48 ≤ b p ∧ b p ≤ 57) by omega)]
    exact ⟨rfl, rfl, rfl⟩
  · have b1 : 0 ≤ b p ∧ b p ≤ 255 := hT.1 p hp.1 (by omega)
    refine s_n0_aload C dX9_isFigure_8 ?_
    refine g_get C fd_X9_9_9 dX9_isFigure_9 (TP_0 ..) rfl ?_
    refine s_n1_iload C dX9_isFigure_12 ?_
    refine g_iald C dX9_isFigure_13 (TP_1 ..) (by omega) ?_
    refine g_bipush C dX9_isFigure_14 (by decide) ?_
    refine g_icmp_lt 34 C dX9_isFigure_16 (by decide) (by unfold iR; omega) (by unfold iR; omega) (fun c16 => ?_) (fun c16 => ?_)
    · refine g_iconst C dX9_isFigure_34 ?_
      refine g_zret C E dX9_isFigure_35 (by decide) (by omega) ?_
      rw [if_neg (show ¬ (p < ln ∧ 48 ≤ b p ∧ b p ≤ 57) by omega)]
      exact ⟨rfl, rfl, rfl⟩
    · refine s_n0_aload C dX9_isFigure_19 ?_
      refine g_get C fd_X9_9_9 dX9_isFigure_20 (TP_0 ..) rfl ?_
      refine s_n1_iload C dX9_isFigure_23 ?_
      refine g_iald C dX9_isFigure_24 (TP_1 ..) (by omega) ?_
      refine g_bipush C dX9_isFigure_25 (by decide) ?_
      refine g_icmp_gt 34 C dX9_isFigure_27 (by decide) (by unfold iR; omega) (by unfold iR; omega) (fun c27 => ?_) (fun c27 => ?_)
      · refine g_iconst C dX9_isFigure_34 ?_
        refine g_zret C E dX9_isFigure_35 (by decide) (by omega) ?_
        rw [if_neg (show ¬ (p < ln ∧ 48 ≤ b p ∧ b p ≤ 57) by omega)]
        exact ⟨rfl, rfl, rfl⟩
      · refine g_iconst C dX9_isFigure_30 ?_
        refine g_goto 35 C dX9_isFigure_31 (by decide) ?_
        refine g_zret C E dX9_isFigure_35 (by decide) (by omega) ?_
        rw [if_pos (show p < ln ∧ 48 ≤ b p ∧ b p ≤ 57 by omega)]
        exact ⟨rfl, rfl, rfl⟩
theorem k_refuse {o : Int} {T : TPT} {M : gM} {n k : Int} : CT yX9_refuse cX9_refuse 2 (some .boolean) (rmk 0 0 0) [vr o, vi k] (TP o T M) n (qr (some (vi 0)) (TP o (tRef T k) M) n) := by
  obtain ⟨b, wy, ln, at_, fn⟩ := T
  exact ct_X9_refuse
theorem k_next {o : Int} {T : TPT} {M : gM} {n : Int} (hT : tpOK T) : CT yX9_next cX9_next 1 (some .int) (rmk 0 0 0) [vr o] (TP o T M) n (qr (some (vi (tNext T))) (TP o T M) n) := by
  obtain ⟨b, wy, ln, at_, fn⟩ := T
  exact ct_X9_next hT
theorem k_isFigure {o : Int} {T : TPT} {M : gM} {n p : Int} (hT : tpOK T) (hp : 0 ≤ p ∧ p ≤ 200) : CT yX9_isFigure cX9_isFigure 2 (some .boolean) (rmk 0 0 0) [vr o, vi p] (TP o T M) n (qr (some (vi (if tFig T p then 1 else 0))) (TP o T M) n) := by
  obtain ⟨b, wy, ln, at_, fn⟩ := T
  exact ct_X9_isFigure hT hp
set_option maxRecDepth 20000 in
theorem ct_X9_readSign {o : Int} {b wy : Int → Int} {ln at_ fn : Int} {M : gM} {n : Int} {c : Int} (hT : tpOK (b, wy, ln, at_, fn)) (hc : 0 ≤ c ∧ c ≤ 255) : CT yX9_readSign cX9_readSign 2 (some .boolean) (rmk 1 0 0) [vr o, vi c] (TP o (b, wy, ln, at_, fn) M) n (qr (some (vi (tSign (b, wy, ln, at_, fn) c).1)) (TP o (tSign (b, wy, ln, at_, fn) c).2 M) n) := by
  refine CT.of (by decide) (fun _ => Nat.le_of_ble_eq_true rfl) (fun κ C E => ?_)
  show G κ (TP o (b, wy, ln, at_, fn) M) n [some (vr o), some (vi c)] 0 [] 0 0
  have b0 : 0 ≤ ln ∧ ln ≤ 120 ∧ 0 ≤ at_ ∧ at_ ≤ ln := hT.2
  have bn := tNext_b hT
  refine s_n0_aload C dX9_readSign_0 ?_
  refine g_invV C (k_next hT) (TP_0 ..) cv_X9_60_9 (rmk_ok (by decide) (by decide) (by decide) (by decide)) (Nat.le_of_ble_eq_true rfl) rfl dX9_readSign_1 rfl (q_r ?_)
  refine s_n1_iload C dX9_readSign_4 ?_
  refine g_icmp_eq 14 C dX9_readSign_5 (by decide) (by unfold iR; omega) (by unfold iR; omega) (fun c5 => ?_) (fun c5 => ?_)
  · refine s_n0_aload C dX9_readSign_14 ?_
    refine g_dup C dX9_readSign_15 rfl ?_
    refine g_get C fd_X9_22_9 dX9_readSign_16 (TP_0 ..) rfl ?_
    refine g_iconst C dX9_readSign_19 ?_
    refine g_iadd C dX9_readSign_20 ?_
    refine g_put C fp_X9_22_9 dX9_readSign_21 (TP_0 ..) (Nat.le_of_ble_eq_true rfl) (gfit_i _) ?_
    rw [TP_p3]
    refine g_iconst C dX9_readSign_24 ?_
    refine g_zret C E dX9_readSign_25 (by decide) (by omega) ?_
    have e : tSign (b, wy, ln, at_, fn) c = (1, tAt (b, wy, ln, at_, fn) (at_ + 1)) := by unfold tSign; rw [if_pos c5]
    rw [e]
    exact ⟨rfl, rfl, rfl⟩
  · refine s_n0_aload C dX9_readSign_8 ?_
    refine g_iconst C dX9_readSign_9 ?_
    refine g_invV C (k_refuse) (TP_0 ..) cv_X9_64_9 (rmk_ok (by decide) (by decide) (by decide) (by decide)) (Nat.le_of_ble_eq_true rfl) rfl dX9_readSign_10 rfl (q_r ?_)
    refine g_zret C E dX9_readSign_13 (by decide) (by omega) ?_
    have e : tSign (b, wy, ln, at_, fn) c = (0, tRef (b, wy, ln, at_, fn) 1) := by unfold tSign; rw [if_neg c5]
    rw [e]
    exact ⟨rfl, rfl, rfl⟩
set_option maxRecDepth 20000 in
theorem ct_X9_readNumber {o : Int} {b wy : Int → Int} {ln at_ fn : Int} {M : gM} {n : Int} {most : Int} (hT : tpOK (b, wy, ln, at_, fn)) (hm : 0 ≤ most ∧ most ≤ 99) : CT yX9_readNumber cX9_readNumber 4 (some .int) (rmk 1 0 0) [vr o, vi most] (TP o (b, wy, ln, at_, fn) M) n (qr (some (vi (tNum (b, wy, ln, at_, fn) most).1)) (TP o (tNum (b, wy, ln, at_, fn) most).2 M) n) := by
  refine CT.of (by decide) (fun _ => Nat.le_of_ble_eq_true rfl) (fun κ C E => ?_)
  show G κ (TP o (b, wy, ln, at_, fn) M) n [some (vr o), some (vi most), none, none] 0 [] 0 0
  have b0 : 0 ≤ ln ∧ ln ≤ 120 ∧ 0 ≤ at_ ∧ at_ ≤ ln := hT.2
  by_cases f0 : tFig (b, wy, ln, at_, fn) at_
  · have f0q : at_ < ln ∧ 48 ≤ b at_ ∧ b at_ ≤ 57 := f0
    by_cases f1 : tFig (b, wy, ln, at_, fn) (at_ + 1)
    · have f1q : at_ + 1 < ln ∧ 48 ≤ b (at_ + 1) ∧ b (at_ + 1) ≤ 57 := f1
      by_cases f2 : tFig (b, wy, ln, at_, fn) (at_ + 2)
      · have f2q : at_ + 2 < ln ∧ 48 ≤ b (at_ + 2) ∧ b (at_ + 2) ≤ 57 := f2
        refine g_iconst C dX9_readNumber_0 ?_
        refine s_n2_istore C dX9_readNumber_1 rfl ?_
        refine g_iconst C dX9_readNumber_2 ?_
        refine s_n3_istore C dX9_readNumber_3 rfl ?_
        refine s_n2_iload C dX9_readNumber_4 ?_
        refine g_iconst C dX9_readNumber_5 ?_
        refine g_icmp_ge 48 C dX9_readNumber_6 (by decide) (by unfold iR; omega) (by unfold iR; omega) (fun c6 => by exfalso; omega) (fun c6 => ?_)
        refine s_n0_aload C dX9_readNumber_9 ?_
        refine s_n0_aload C dX9_readNumber_10 ?_
        refine g_get C fd_X9_22_9 dX9_readNumber_11 (TP_0 ..) rfl ?_
        refine s_n2_iload C dX9_readNumber_14 ?_
        refine g_iadd C dX9_readNumber_15 ?_
        rw [Int.add_zero]
        refine g_invV C (k_isFigure (p := at_) hT (by omega)) (TP_0 ..) cv_X9_118_9 (rmk_ok (by decide) (by decide) (by decide) (by decide)) (Nat.le_of_ble_eq_true rfl) rfl dX9_readNumber_16 rfl (q_r ?_)
        rw [if_pos f0]
        refine g_if_eq 48 C dX9_readNumber_19 (by decide) (by unfold iR; omega) (fun c19 => by exfalso; omega) (fun c19 => ?_)
        refine s_n3_iload C dX9_readNumber_22 ?_
        refine g_bipush C dX9_readNumber_23 (by decide) ?_
        refine g_imul C dX9_readNumber_25 ?_
        refine s_n0_aload C dX9_readNumber_26 ?_
        refine g_get C fd_X9_9_9 dX9_readNumber_27 (TP_0 ..) rfl ?_
        refine s_n0_aload C dX9_readNumber_30 ?_
        refine g_get C fd_X9_22_9 dX9_readNumber_31 (TP_0 ..) rfl ?_
        refine s_n2_iload C dX9_readNumber_34 ?_
        refine g_iadd C dX9_readNumber_35 ?_
        rw [Int.add_zero]
        refine g_iald C dX9_readNumber_36 (TP_1 ..) (by omega) ?_
        refine g_iadd C dX9_readNumber_37 ?_
        refine g_bipush C dX9_readNumber_38 (by decide) ?_
        refine g_isub C dX9_readNumber_40 ?_
        refine s_n3_istore C dX9_readNumber_41 rfl ?_
        refine s_w2_iinc C dX9_readNumber_42 rfl ?_
        simp only [Int.add_zero, Int.zero_mul, Int.zero_add, Int.reduceAdd]
        refine g_goto 4 C dX9_readNumber_45 (by decide) ?_
        refine s_n2_iload C dX9_readNumber_4 ?_
        refine g_iconst C dX9_readNumber_5 ?_
        refine g_icmp_ge 48 C dX9_readNumber_6 (by decide) (by unfold iR; omega) (by unfold iR; omega) (fun c6 => by exfalso; omega) (fun c6 => ?_)
        refine s_n0_aload C dX9_readNumber_9 ?_
        refine s_n0_aload C dX9_readNumber_10 ?_
        refine g_get C fd_X9_22_9 dX9_readNumber_11 (TP_0 ..) rfl ?_
        refine s_n2_iload C dX9_readNumber_14 ?_
        refine g_iadd C dX9_readNumber_15 ?_
        refine g_invV C (k_isFigure (p := at_ + 1) hT (by omega)) (TP_0 ..) cv_X9_118_9 (rmk_ok (by decide) (by decide) (by decide) (by decide)) (Nat.le_of_ble_eq_true rfl) rfl dX9_readNumber_16 rfl (q_r ?_)
        rw [if_pos f1]
        refine g_if_eq 48 C dX9_readNumber_19 (by decide) (by unfold iR; omega) (fun c19 => by exfalso; omega) (fun c19 => ?_)
        refine s_n3_iload C dX9_readNumber_22 ?_
        refine g_bipush C dX9_readNumber_23 (by decide) ?_
        refine g_imul C dX9_readNumber_25 ?_
        refine s_n0_aload C dX9_readNumber_26 ?_
        refine g_get C fd_X9_9_9 dX9_readNumber_27 (TP_0 ..) rfl ?_
        refine s_n0_aload C dX9_readNumber_30 ?_
        refine g_get C fd_X9_22_9 dX9_readNumber_31 (TP_0 ..) rfl ?_
        refine s_n2_iload C dX9_readNumber_34 ?_
        refine g_iadd C dX9_readNumber_35 ?_
        refine g_iald C dX9_readNumber_36 (TP_1 ..) (by omega) ?_
        refine g_iadd C dX9_readNumber_37 ?_
        refine g_bipush C dX9_readNumber_38 (by decide) ?_
        refine g_isub C dX9_readNumber_40 ?_
        refine s_n3_istore C dX9_readNumber_41 rfl ?_
        refine s_w2_iinc C dX9_readNumber_42 rfl ?_
        simp only [Int.add_zero, Int.zero_mul, Int.zero_add, Int.reduceAdd]
        refine g_goto 4 C dX9_readNumber_45 (by decide) ?_
        refine s_n2_iload C dX9_readNumber_4 ?_
        refine g_iconst C dX9_readNumber_5 ?_
        refine g_icmp_ge 48 C dX9_readNumber_6 (by decide) (by unfold iR; omega) (by unfold iR; omega) (fun c6 => by exfalso; omega) (fun c6 => ?_)
        refine s_n0_aload C dX9_readNumber_9 ?_
        refine s_n0_aload C dX9_readNumber_10 ?_
        refine g_get C fd_X9_22_9 dX9_readNumber_11 (TP_0 ..) rfl ?_
        refine s_n2_iload C dX9_readNumber_14 ?_
        refine g_iadd C dX9_readNumber_15 ?_
        refine g_invV C (k_isFigure (p := at_ + 2) hT (by omega)) (TP_0 ..) cv_X9_118_9 (rmk_ok (by decide) (by decide) (by decide) (by decide)) (Nat.le_of_ble_eq_true rfl) rfl dX9_readNumber_16 rfl (q_r ?_)
        rw [if_pos f2]
        refine g_if_eq 48 C dX9_readNumber_19 (by decide) (by unfold iR; omega) (fun c19 => by exfalso; omega) (fun c19 => ?_)
        refine s_n3_iload C dX9_readNumber_22 ?_
        refine g_bipush C dX9_readNumber_23 (by decide) ?_
        refine g_imul C dX9_readNumber_25 ?_
        refine s_n0_aload C dX9_readNumber_26 ?_
        refine g_get C fd_X9_9_9 dX9_readNumber_27 (TP_0 ..) rfl ?_
        refine s_n0_aload C dX9_readNumber_30 ?_
        refine g_get C fd_X9_22_9 dX9_readNumber_31 (TP_0 ..) rfl ?_
        refine s_n2_iload C dX9_readNumber_34 ?_
        refine g_iadd C dX9_readNumber_35 ?_
        refine g_iald C dX9_readNumber_36 (TP_1 ..) (by omega) ?_
        refine g_iadd C dX9_readNumber_37 ?_
        refine g_bipush C dX9_readNumber_38 (by decide) ?_
        refine g_isub C dX9_readNumber_40 ?_
        refine s_n3_istore C dX9_readNumber_41 rfl ?_
        refine s_w2_iinc C dX9_readNumber_42 rfl ?_
        simp only [Int.add_zero, Int.zero_mul, Int.zero_add, Int.reduceAdd]
        refine g_goto 4 C dX9_readNumber_45 (by decide) ?_
        refine s_n2_iload C dX9_readNumber_4 ?_
        refine g_iconst C dX9_readNumber_5 ?_
        refine g_icmp_ge 48 C dX9_readNumber_6 (by decide) (by unfold iR; omega) (by unfold iR; omega) (fun c6 => ?_) (fun c6 => by exfalso; omega)
        refine s_n2_iload C dX9_readNumber_48 ?_
        refine g_if_eq 57 C dX9_readNumber_49 (by decide) (by unfold iR; omega) (fun c49 => by exfalso; omega) (fun c49 => ?_)
        refine s_n2_iload C dX9_readNumber_52 ?_
        refine g_iconst C dX9_readNumber_53 ?_
        refine g_icmp_le 65 C dX9_readNumber_54 (by decide) (by unfold iR; omega) (by unfold iR; omega) (fun c54 => by exfalso; omega) (fun c54 => ?_)
        refine s_n0_aload C dX9_readNumber_57 ?_
        refine g_iconst C dX9_readNumber_58 ?_
        refine g_invV C (k_refuse) (TP_0 ..) cv_X9_64_9 (rmk_ok (by decide) (by decide) (by decide) (by decide)) (Nat.le_of_ble_eq_true rfl) rfl dX9_readNumber_59 rfl (q_r ?_)
        refine g_pop C dX9_readNumber_62 rfl ?_
        refine g_iconst C dX9_readNumber_63 ?_
        refine g_iret C E dX9_readNumber_64 (by decide) ?_
        have e : tNum (b, wy, ln, at_, fn) most = (-1, tRef (b, wy, ln, at_, fn) 1) := by unfold tNum; rw [if_neg (not_not_intro f0), if_neg (not_not_intro f1), if_neg (not_not_intro f2)]
        rw [e]
        exact ⟨rfl, rfl, rfl⟩
      · refine g_iconst C dX9_readNumber_0 ?_
        refine s_n2_istore C dX9_readNumber_1 rfl ?_
        refine g_iconst C dX9_readNumber_2 ?_
        refine s_n3_istore C dX9_readNumber_3 rfl ?_
        refine s_n2_iload C dX9_readNumber_4 ?_
        refine g_iconst C dX9_readNumber_5 ?_
        refine g_icmp_ge 48 C dX9_readNumber_6 (by decide) (by unfold iR; omega) (by unfold iR; omega) (fun c6 => by exfalso; omega) (fun c6 => ?_)
        refine s_n0_aload C dX9_readNumber_9 ?_
        refine s_n0_aload C dX9_readNumber_10 ?_
        refine g_get C fd_X9_22_9 dX9_readNumber_11 (TP_0 ..) rfl ?_
        refine s_n2_iload C dX9_readNumber_14 ?_
        refine g_iadd C dX9_readNumber_15 ?_
        rw [Int.add_zero]
        refine g_invV C (k_isFigure (p := at_) hT (by omega)) (TP_0 ..) cv_X9_118_9 (rmk_ok (by decide) (by decide) (by decide) (by decide)) (Nat.le_of_ble_eq_true rfl) rfl dX9_readNumber_16 rfl (q_r ?_)
        rw [if_pos f0]
        refine g_if_eq 48 C dX9_readNumber_19 (by decide) (by unfold iR; omega) (fun c19 => by exfalso; omega) (fun c19 => ?_)
        refine s_n3_iload C dX9_readNumber_22 ?_
        refine g_bipush C dX9_readNumber_23 (by decide) ?_
        refine g_imul C dX9_readNumber_25 ?_
        refine s_n0_aload C dX9_readNumber_26 ?_
        refine g_get C fd_X9_9_9 dX9_readNumber_27 (TP_0 ..) rfl ?_
        refine s_n0_aload C dX9_readNumber_30 ?_
        refine g_get C fd_X9_22_9 dX9_readNumber_31 (TP_0 ..) rfl ?_
        refine s_n2_iload C dX9_readNumber_34 ?_
        refine g_iadd C dX9_readNumber_35 ?_
        rw [Int.add_zero]
        refine g_iald C dX9_readNumber_36 (TP_1 ..) (by omega) ?_
        refine g_iadd C dX9_readNumber_37 ?_
        refine g_bipush C dX9_readNumber_38 (by decide) ?_
        refine g_isub C dX9_readNumber_40 ?_
        refine s_n3_istore C dX9_readNumber_41 rfl ?_
        refine s_w2_iinc C dX9_readNumber_42 rfl ?_
        simp only [Int.add_zero, Int.zero_mul, Int.zero_add, Int.reduceAdd]
        refine g_goto 4 C dX9_readNumber_45 (by decide) ?_
        refine s_n2_iload C dX9_readNumber_4 ?_
        refine g_iconst C dX9_readNumber_5 ?_
        refine g_icmp_ge 48 C dX9_readNumber_6 (by decide) (by unfold iR; omega) (by unfold iR; omega) (fun c6 => by exfalso; omega) (fun c6 => ?_)
        refine s_n0_aload C dX9_readNumber_9 ?_
        refine s_n0_aload C dX9_readNumber_10 ?_
        refine g_get C fd_X9_22_9 dX9_readNumber_11 (TP_0 ..) rfl ?_
        refine s_n2_iload C dX9_readNumber_14 ?_
        refine g_iadd C dX9_readNumber_15 ?_
        refine g_invV C (k_isFigure (p := at_ + 1) hT (by omega)) (TP_0 ..) cv_X9_118_9 (rmk_ok (by decide) (by decide) (by decide) (by decide)) (Nat.le_of_ble_eq_true rfl) rfl dX9_readNumber_16 rfl (q_r ?_)
        rw [if_pos f1]
        refine g_if_eq 48 C dX9_readNumber_19 (by decide) (by unfold iR; omega) (fun c19 => by exfalso; omega) (fun c19 => ?_)
        refine s_n3_iload C dX9_readNumber_22 ?_
        refine g_bipush C dX9_readNumber_23 (by decide) ?_
        refine g_imul C dX9_readNumber_25 ?_
        refine s_n0_aload C dX9_readNumber_26 ?_
        refine g_get C fd_X9_9_9 dX9_readNumber_27 (TP_0 ..) rfl ?_
        refine s_n0_aload C dX9_readNumber_30 ?_
        refine g_get C fd_X9_22_9 dX9_readNumber_31 (TP_0 ..) rfl ?_
        refine s_n2_iload C dX9_readNumber_34 ?_
        refine g_iadd C dX9_readNumber_35 ?_
        refine g_iald C dX9_readNumber_36 (TP_1 ..) (by omega) ?_
        refine g_iadd C dX9_readNumber_37 ?_
        refine g_bipush C dX9_readNumber_38 (by decide) ?_
        refine g_isub C dX9_readNumber_40 ?_
        refine s_n3_istore C dX9_readNumber_41 rfl ?_
        refine s_w2_iinc C dX9_readNumber_42 rfl ?_
        simp only [Int.add_zero, Int.zero_mul, Int.zero_add, Int.reduceAdd]
        refine g_goto 4 C dX9_readNumber_45 (by decide) ?_
        refine s_n2_iload C dX9_readNumber_4 ?_
        refine g_iconst C dX9_readNumber_5 ?_
        refine g_icmp_ge 48 C dX9_readNumber_6 (by decide) (by unfold iR; omega) (by unfold iR; omega) (fun c6 => by exfalso; omega) (fun c6 => ?_)
        refine s_n0_aload C dX9_readNumber_9 ?_
        refine s_n0_aload C dX9_readNumber_10 ?_
        refine g_get C fd_X9_22_9 dX9_readNumber_11 (TP_0 ..) rfl ?_
        refine s_n2_iload C dX9_readNumber_14 ?_
        refine g_iadd C dX9_readNumber_15 ?_
        refine g_invV C (k_isFigure (p := at_ + 2) hT (by omega)) (TP_0 ..) cv_X9_118_9 (rmk_ok (by decide) (by decide) (by decide) (by decide)) (Nat.le_of_ble_eq_true rfl) rfl dX9_readNumber_16 rfl (q_r ?_)
        rw [if_neg f2]
        refine g_if_eq 48 C dX9_readNumber_19 (by decide) (by unfold iR; omega) (fun c19 => ?_) (fun c19 => by exfalso; omega)
        refine s_n2_iload C dX9_readNumber_48 ?_
        refine g_if_eq 57 C dX9_readNumber_49 (by decide) (by unfold iR; omega) (fun c49 => by exfalso; omega) (fun c49 => ?_)
        refine s_n2_iload C dX9_readNumber_52 ?_
        refine g_iconst C dX9_readNumber_53 ?_
        refine g_icmp_le 65 C dX9_readNumber_54 (by decide) (by unfold iR; omega) (by unfold iR; omega) (fun c54 => ?_) (fun c54 => by exfalso; omega)
        refine s_n3_iload C dX9_readNumber_65 ?_
        refine s_n1_iload C dX9_readNumber_66 ?_
        refine g_icmp_le 78 C dX9_readNumber_67 (by decide) (by unfold iR; omega) (by unfold iR; omega) (fun c67 => ?_) (fun c67 => ?_)
        · refine s_n0_aload C dX9_readNumber_78 ?_
          refine g_dup C dX9_readNumber_79 rfl ?_
          refine g_get C fd_X9_22_9 dX9_readNumber_80 (TP_0 ..) rfl ?_
          refine s_n2_iload C dX9_readNumber_83 ?_
          refine g_iadd C dX9_readNumber_84 ?_
          refine g_put C fp_X9_22_9 dX9_readNumber_85 (TP_0 ..) (Nat.le_of_ble_eq_true rfl) (gfit_i _) ?_
          rw [TP_p3]
          refine s_n3_iload C dX9_readNumber_88 ?_
          refine g_iret C E dX9_readNumber_89 (by decide) ?_
          have e : tNum (b, wy, ln, at_, fn) most = ((b at_ - 48) * 10 + b (at_ + 1) - 48, tAt (b, wy, ln, at_, fn) (at_ + 2)) := by unfold tNum tNumV; rw [if_neg (not_not_intro f0), if_neg (not_not_intro f1), if_pos f2, if_pos (by dsimp only; omega)]
          rw [e]
          exact ⟨rfl, rfl, rfl⟩
        · refine s_n0_aload C dX9_readNumber_70 ?_
          refine g_iconst C dX9_readNumber_71 ?_
          refine g_invV C (k_refuse) (TP_0 ..) cv_X9_64_9 (rmk_ok (by decide) (by decide) (by decide) (by decide)) (Nat.le_of_ble_eq_true rfl) rfl dX9_readNumber_72 rfl (q_r ?_)
          refine g_pop C dX9_readNumber_75 rfl ?_
          refine g_iconst C dX9_readNumber_76 ?_
          refine g_iret C E dX9_readNumber_77 (by decide) ?_
          have e : tNum (b, wy, ln, at_, fn) most = (-1, tRef (b, wy, ln, at_, fn) 2) := by unfold tNum tNumV; rw [if_neg (not_not_intro f0), if_neg (not_not_intro f1), if_pos f2, if_neg (by dsimp only; omega)]
          rw [e]
          exact ⟨rfl, rfl, rfl⟩
    · refine g_iconst C dX9_readNumber_0 ?_
      refine s_n2_istore C dX9_readNumber_1 rfl ?_
      refine g_iconst C dX9_readNumber_2 ?_
      refine s_n3_istore C dX9_readNumber_3 rfl ?_
      refine s_n2_iload C dX9_readNumber_4 ?_
      refine g_iconst C dX9_readNumber_5 ?_
      refine g_icmp_ge 48 C dX9_readNumber_6 (by decide) (by unfold iR; omega) (by unfold iR; omega) (fun c6 => by exfalso; omega) (fun c6 => ?_)
      refine s_n0_aload C dX9_readNumber_9 ?_
      refine s_n0_aload C dX9_readNumber_10 ?_
      refine g_get C fd_X9_22_9 dX9_readNumber_11 (TP_0 ..) rfl ?_
      refine s_n2_iload C dX9_readNumber_14 ?_
      refine g_iadd C dX9_readNumber_15 ?_
      rw [Int.add_zero]
      refine g_invV C (k_isFigure (p := at_) hT (by omega)) (TP_0 ..) cv_X9_118_9 (rmk_ok (by decide) (by decide) (by decide) (by decide)) (Nat.le_of_ble_eq_true rfl) rfl dX9_readNumber_16 rfl (q_r ?_)
      rw [if_pos f0]
      refine g_if_eq 48 C dX9_readNumber_19 (by decide) (by unfold iR; omega) (fun c19 => by exfalso; omega) (fun c19 => ?_)
      refine s_n3_iload C dX9_readNumber_22 ?_
      refine g_bipush C dX9_readNumber_23 (by decide) ?_
      refine g_imul C dX9_readNumber_25 ?_
      refine s_n0_aload C dX9_readNumber_26 ?_
      refine g_get C fd_X9_9_9 dX9_readNumber_27 (TP_0 ..) rfl ?_
      refine s_n0_aload C dX9_readNumber_30 ?_
      refine g_get C fd_X9_22_9 dX9_readNumber_31 (TP_0 ..) rfl ?_
      refine s_n2_iload C dX9_readNumber_34 ?_
      refine g_iadd C dX9_readNumber_35 ?_
      rw [Int.add_zero]
      refine g_iald C dX9_readNumber_36 (TP_1 ..) (by omega) ?_
      refine g_iadd C dX9_readNumber_37 ?_
      refine g_bipush C dX9_readNumber_38 (by decide) ?_
      refine g_isub C dX9_readNumber_40 ?_
      refine s_n3_istore C dX9_readNumber_41 rfl ?_
      refine s_w2_iinc C dX9_readNumber_42 rfl ?_
      simp only [Int.add_zero, Int.zero_mul, Int.zero_add, Int.reduceAdd]
      refine g_goto 4 C dX9_readNumber_45 (by decide) ?_
      refine s_n2_iload C dX9_readNumber_4 ?_
      refine g_iconst C dX9_readNumber_5 ?_
      refine g_icmp_ge 48 C dX9_readNumber_6 (by decide) (by unfold iR; omega) (by unfold iR; omega) (fun c6 => by exfalso; omega) (fun c6 => ?_)
      refine s_n0_aload C dX9_readNumber_9 ?_
      refine s_n0_aload C dX9_readNumber_10 ?_
      refine g_get C fd_X9_22_9 dX9_readNumber_11 (TP_0 ..) rfl ?_
      refine s_n2_iload C dX9_readNumber_14 ?_
      refine g_iadd C dX9_readNumber_15 ?_
      refine g_invV C (k_isFigure (p := at_ + 1) hT (by omega)) (TP_0 ..) cv_X9_118_9 (rmk_ok (by decide) (by decide) (by decide) (by decide)) (Nat.le_of_ble_eq_true rfl) rfl dX9_readNumber_16 rfl (q_r ?_)
      rw [if_neg f1]
      refine g_if_eq 48 C dX9_readNumber_19 (by decide) (by unfold iR; omega) (fun c19 => ?_) (fun c19 => by exfalso; omega)
      refine s_n2_iload C dX9_readNumber_48 ?_
      refine g_if_eq 57 C dX9_readNumber_49 (by decide) (by unfold iR; omega) (fun c49 => by exfalso; omega) (fun c49 => ?_)
      refine s_n2_iload C dX9_readNumber_52 ?_
      refine g_iconst C dX9_readNumber_53 ?_
      refine g_icmp_le 65 C dX9_readNumber_54 (by decide) (by unfold iR; omega) (by unfold iR; omega) (fun c54 => ?_) (fun c54 => by exfalso; omega)
      refine s_n3_iload C dX9_readNumber_65 ?_
      refine s_n1_iload C dX9_readNumber_66 ?_
      refine g_icmp_le 78 C dX9_readNumber_67 (by decide) (by unfold iR; omega) (by unfold iR; omega) (fun c67 => ?_) (fun c67 => ?_)
      · refine s_n0_aload C dX9_readNumber_78 ?_
        refine g_dup C dX9_readNumber_79 rfl ?_
        refine g_get C fd_X9_22_9 dX9_readNumber_80 (TP_0 ..) rfl ?_
        refine s_n2_iload C dX9_readNumber_83 ?_
        refine g_iadd C dX9_readNumber_84 ?_
        refine g_put C fp_X9_22_9 dX9_readNumber_85 (TP_0 ..) (Nat.le_of_ble_eq_true rfl) (gfit_i _) ?_
        rw [TP_p3]
        refine s_n3_iload C dX9_readNumber_88 ?_
        refine g_iret C E dX9_readNumber_89 (by decide) ?_
        have e : tNum (b, wy, ln, at_, fn) most = (b at_ - 48, tAt (b, wy, ln, at_, fn) (at_ + 1)) := by unfold tNum tNumV; rw [if_neg (not_not_intro f0), if_pos f1, if_pos (by dsimp only; omega)]
        rw [e]
        exact ⟨rfl, rfl, rfl⟩
      · refine s_n0_aload C dX9_readNumber_70 ?_
        refine g_iconst C dX9_readNumber_71 ?_
        refine g_invV C (k_refuse) (TP_0 ..) cv_X9_64_9 (rmk_ok (by decide) (by decide) (by decide) (by decide)) (Nat.le_of_ble_eq_true rfl) rfl dX9_readNumber_72 rfl (q_r ?_)
        refine g_pop C dX9_readNumber_75 rfl ?_
        refine g_iconst C dX9_readNumber_76 ?_
        refine g_iret C E dX9_readNumber_77 (by decide) ?_
        have e : tNum (b, wy, ln, at_, fn) most = (-1, tRef (b, wy, ln, at_, fn) 2) := by unfold tNum tNumV; rw [if_neg (not_not_intro f0), if_pos f1, if_neg (by dsimp only; omega)]
        rw [e]
        exact ⟨rfl, rfl, rfl⟩
  · refine g_iconst C dX9_readNumber_0 ?_
    refine s_n2_istore C dX9_readNumber_1 rfl ?_
    refine g_iconst C dX9_readNumber_2 ?_
    refine s_n3_istore C dX9_readNumber_3 rfl ?_
    refine s_n2_iload C dX9_readNumber_4 ?_
    refine g_iconst C dX9_readNumber_5 ?_
    refine g_icmp_ge 48 C dX9_readNumber_6 (by decide) (by unfold iR; omega) (by unfold iR; omega) (fun c6 => by exfalso; omega) (fun c6 => ?_)
    refine s_n0_aload C dX9_readNumber_9 ?_
    refine s_n0_aload C dX9_readNumber_10 ?_
    refine g_get C fd_X9_22_9 dX9_readNumber_11 (TP_0 ..) rfl ?_
    refine s_n2_iload C dX9_readNumber_14 ?_
    refine g_iadd C dX9_readNumber_15 ?_
    rw [Int.add_zero]
    refine g_invV C (k_isFigure (p := at_) hT (by omega)) (TP_0 ..) cv_X9_118_9 (rmk_ok (by decide) (by decide) (by decide) (by decide)) (Nat.le_of_ble_eq_true rfl) rfl dX9_readNumber_16 rfl (q_r ?_)
    rw [if_neg f0]
    refine g_if_eq 48 C dX9_readNumber_19 (by decide) (by unfold iR; omega) (fun c19 => ?_) (fun c19 => by exfalso; omega)
    refine s_n2_iload C dX9_readNumber_48 ?_
    refine g_if_eq 57 C dX9_readNumber_49 (by decide) (by unfold iR; omega) (fun c49 => ?_) (fun c49 => by exfalso; omega)
    refine s_n0_aload C dX9_readNumber_57 ?_
    refine g_iconst C dX9_readNumber_58 ?_
    refine g_invV C (k_refuse) (TP_0 ..) cv_X9_64_9 (rmk_ok (by decide) (by decide) (by decide) (by decide)) (Nat.le_of_ble_eq_true rfl) rfl dX9_readNumber_59 rfl (q_r ?_)
    refine g_pop C dX9_readNumber_62 rfl ?_
    refine g_iconst C dX9_readNumber_63 ?_
    refine g_iret C E dX9_readNumber_64 (by decide) ?_
    have e : tNum (b, wy, ln, at_, fn) most = (-1, tRef (b, wy, ln, at_, fn) 1) := by unfold tNum; rw [if_pos f0]
    rw [e]
    exact ⟨rfl, rfl, rfl⟩
theorem k_readSign {o : Int} {T : TPT} {M : gM} {n c : Int} (hT : tpOK T) (hc : 0 ≤ c ∧ c ≤ 255) : CT yX9_readSign cX9_readSign 2 (some .boolean) (rmk 1 0 0) [vr o, vi c] (TP o T M) n (qr (some (vi (tSign T c).1)) (TP o (tSign T c).2 M) n) := by
  obtain ⟨b, wy, ln, at_, fn⟩ := T
  exact ct_X9_readSign hT hc
theorem k_readNumber {o : Int} {T : TPT} {M : gM} {n most : Int} (hT : tpOK T) (hm : 0 ≤ most ∧ most ≤ 99) : CT yX9_readNumber cX9_readNumber 4 (some .int) (rmk 1 0 0) [vr o, vi most] (TP o T M) n (qr (some (vi (tNum T most).1)) (TP o (tNum T most).2 M) n) := by
  obtain ⟨b, wy, ln, at_, fn⟩ := T
  exact ct_X9_readNumber hT hm
theorem tSign_ok {T : TPT} {c : Int} (h : tpOK T) (hc : 0 ≤ c) : tpOK (tSign T c).2 := by
  unfold tSign
  split
  · rename_i e
    refine ⟨h.1, h.2.1, h.2.2.1, by have := h.2.2.2.1; dsimp only [tAt]; omega, ?_⟩
    have e2 : T.2.2.2.1 < T.2.2.1 := by
      unfold tNext at e
      split at e
      · assumption
      · omega
    dsimp only [tAt]
    omega
  · exact h
theorem tSign_01 (T : TPT) (c : Int) : (tSign T c).1 = 0 ∨ (tSign T c).1 = 1 := by
  unfold tSign
  split
  · exact Or.inr rfl
  · exact Or.inl rfl
theorem tNumV_ok {T : TPT} {most v k : Int} (h : tpOK T) (hk : 0 ≤ k ∧ T.2.2.2.1 + k ≤ T.2.2.1) (hv : 0 ≤ v) : tpOK (tNumV T most v k).2 ∧ -1 ≤ (tNumV T most v k).1 ∧ ((tNumV T most v k).1 ≤ most ∨ (tNumV T most v k).1 = -1) := by
  unfold tNumV
  split
  · refine ⟨⟨h.1, h.2.1, h.2.2.1, by have := h.2.2.2.1; dsimp only [tAt]; omega, by dsimp only [tAt]; omega⟩, by dsimp only; omega, Or.inl (by assumption)⟩
  · exact ⟨h, by dsimp only; omega, Or.inr rfl⟩
theorem tNum_ok {T : TPT} {most : Int} (h : tpOK T) : tpOK (tNum T most).2 ∧ -1 ≤ (tNum T most).1 ∧ ((tNum T most).1 ≤ most ∨ (tNum T most).1 = -1) := by
  unfold tNum
  by_cases f0 : tFig T T.2.2.2.1
  · rw [if_neg (not_not_intro f0)]
    by_cases f1 : tFig T (T.2.2.2.1 + 1)
    · rw [if_neg (not_not_intro f1)]
      by_cases f2 : tFig T (T.2.2.2.1 + 2)
      · rw [if_neg (not_not_intro f2)]
        exact ⟨h, by dsimp only; omega, Or.inr rfl⟩
      · rw [if_pos f2]
        exact tNumV_ok h (by have := f1.1; omega) (by have := f0.2; have := f1.2; omega)
    · rw [if_pos f1]
      exact tNumV_ok h (by have := f0.1; omega) (by have := f0.2; omega)
  · rw [if_pos f0]
    exact ⟨h, by dsimp only; omega, Or.inr rfl⟩
def stepTo (cell c : Int) : Int := if c = 101 then (if cell % 5 < 4 then cell + 1 else -1) else if c = 119 then (if 0 < cell % 5 then cell - 1 else -1) else if c = 110 then (if 0 < cell / 5 then cell - 5 else -1) else if c = 98 then (if cell / 5 < 2 then cell + 5 else -1) else -1
set_option maxRecDepth 20000 in
theorem ct_X9_beside {cell c : Int} {M : gM} {n : Int} (hc : 0 ≤ cell ∧ cell < 15) (hs : -1 ≤ c ∧ c ≤ 255) : CT yX9_beside cX9_beside 4 (some .int) (rmk 0 0 0) [vi cell, vi c] M n (qr (some (vi (stepTo cell c))) M n) := by
  refine CT.of (by decide) (fun _ => Nat.le_of_ble_eq_true rfl) (fun κ C E => ?_)
  show G κ M n [some (vi cell), some (vi c), none, none] 0 [] 0 0
  refine s_n0_iload C dX9_beside_0 ?_
  refine g_iconst C dX9_beside_1 ?_
  refine g_irem C dX9_beside_2 (by omega) ?_
  refine s_n2_istore C dX9_beside_3 rfl ?_
  refine s_n0_iload C dX9_beside_4 ?_
  refine g_iconst C dX9_beside_5 ?_
  refine g_idiv C dX9_beside_6 (by omega) ?_
  refine s_n3_istore C dX9_beside_7 rfl ?_
  refine s_n1_iload C dX9_beside_8 ?_
  refine g_lsw4 89 52 77 65 102 C dX9_beside_9 (by decide) (by unfold iR; omega) (by decide) (by decide) (by decide) (by decide) (by decide) (fun c9_98 => ?_) (fun c9_101 => ?_) (fun c9_110 => ?_) (fun c9_119 => ?_) (fun n9_98 n9_101 n9_110 n9_119 => ?_)
  · refine s_n3_iload C dX9_beside_89 ?_
    refine g_iconst C dX9_beside_90 ?_
    refine g_icmp_ge 100 C dX9_beside_91 (by decide) (by unfold iR; omega) (by unfold iR; omega) (fun c91 => ?_) (fun c91 => ?_)
    · refine g_iconst C dX9_beside_100 ?_
      refine g_iret C E dX9_beside_101 (by decide) ?_
      refine ⟨?_, rfl, rfl⟩
      unfold stepTo
      rw [if_neg (by omega), if_neg (by omega), if_neg (by omega), if_pos (by omega), if_neg (by omega)]
    · refine s_n0_iload C dX9_beside_94 ?_
      refine g_iconst C dX9_beside_95 ?_
      refine g_iadd C dX9_beside_96 ?_
      refine g_goto 101 C dX9_beside_97 (by decide) ?_
      refine g_iret C E dX9_beside_101 (by decide) ?_
      refine ⟨?_, rfl, rfl⟩
      unfold stepTo
      rw [if_neg (by omega), if_neg (by omega), if_neg (by omega), if_pos (by omega), if_pos (by omega)]
  · refine s_n2_iload C dX9_beside_52 ?_
    refine g_iconst C dX9_beside_53 ?_
    refine g_icmp_ge 63 C dX9_beside_54 (by decide) (by unfold iR; omega) (by unfold iR; omega) (fun c54 => ?_) (fun c54 => ?_)
    · refine g_iconst C dX9_beside_63 ?_
      refine g_iret C E dX9_beside_64 (by decide) ?_
      refine ⟨?_, rfl, rfl⟩
      unfold stepTo
      rw [if_pos (by omega), if_neg (by omega)]
    · refine s_n0_iload C dX9_beside_57 ?_
      refine g_iconst C dX9_beside_58 ?_
      refine g_iadd C dX9_beside_59 ?_
      refine g_goto 64 C dX9_beside_60 (by decide) ?_
      refine g_iret C E dX9_beside_64 (by decide) ?_
      refine ⟨?_, rfl, rfl⟩
      unfold stepTo
      rw [if_pos (by omega), if_pos (by omega)]
  · refine s_n3_iload C dX9_beside_77 ?_
    refine g_if_le 87 C dX9_beside_78 (by decide) (by unfold iR; omega) (fun c78 => ?_) (fun c78 => ?_)
    · refine g_iconst C dX9_beside_87 ?_
      refine g_iret C E dX9_beside_88 (by decide) ?_
      refine ⟨?_, rfl, rfl⟩
      unfold stepTo
      rw [if_neg (by omega), if_neg (by omega), if_pos (by omega), if_neg (by omega)]
    · refine s_n0_iload C dX9_beside_81 ?_
      refine g_iconst C dX9_beside_82 ?_
      refine g_isub C dX9_beside_83 ?_
      refine g_goto 88 C dX9_beside_84 (by decide) ?_
      refine g_iret C E dX9_beside_88 (by decide) ?_
      refine ⟨?_, rfl, rfl⟩
      unfold stepTo
      rw [if_neg (by omega), if_neg (by omega), if_pos (by omega), if_pos (by omega)]
  · refine s_n2_iload C dX9_beside_65 ?_
    refine g_if_le 75 C dX9_beside_66 (by decide) (by unfold iR; omega) (fun c66 => ?_) (fun c66 => ?_)
    · refine g_iconst C dX9_beside_75 ?_
      refine g_iret C E dX9_beside_76 (by decide) ?_
      refine ⟨?_, rfl, rfl⟩
      unfold stepTo
      rw [if_neg (by omega), if_pos (by omega), if_neg (by omega)]
    · refine s_n0_iload C dX9_beside_69 ?_
      refine g_iconst C dX9_beside_70 ?_
      refine g_isub C dX9_beside_71 ?_
      refine g_goto 76 C dX9_beside_72 (by decide) ?_
      refine g_iret C E dX9_beside_76 (by decide) ?_
      refine ⟨?_, rfl, rfl⟩
      unfold stepTo
      rw [if_neg (by omega), if_pos (by omega), if_pos (by omega)]
  · refine g_iconst C dX9_beside_102 ?_
    refine g_iret C E dX9_beside_103 (by decide) ?_
    refine ⟨?_, rfl, rfl⟩
    unfold stepTo
    rw [if_neg (by omega), if_neg (by omega), if_neg (by omega), if_neg (by omega)]
def isSo (c : Int) : Prop := c = 103 ∨ c = 115 ∨ c = 100 ∨ c = 99 ∨ c = 114
set_option maxRecDepth 20000 in
theorem ct_X9_isSort {c : Int} {M : gM} {n : Int} (hc : iR c) : CT yX9_isSort cX9_isSort 1 (some .boolean) (rmk 0 0 0) [vi c] M n (fun r M2 n2 => M2 = M ∧ n2 = n ∧ ((r = some (vi 1) ∧ isSo c) ∨ (r = some (vi 0) ∧ ¬ isSo c))) := by
  refine CT.of (by decide) (fun _ => Nat.le_of_ble_eq_true rfl) (fun κ C E => ?_)
  show G κ M n [some (vi c)] 0 [] 0 0
  have hcc := hc
  unfold iR at hcc
  refine s_n0_iload C dX9_isSort_0 ?_
  refine g_bipush C dX9_isSort_1 (by decide) ?_
  refine g_icmp_eq 30 C dX9_isSort_3 (by decide) (by unfold iR; omega) (by unfold iR; omega) (fun c3 => ?_) (fun c3 => ?_)
  · refine g_iconst C dX9_isSort_30 ?_
    refine g_goto 35 C dX9_isSort_31 (by decide) ?_
    refine g_zret C E dX9_isSort_35 (by decide) (by omega) ?_
    exact ⟨rfl, rfl, Or.inl ⟨rfl, by unfold isSo; omega⟩⟩
  · refine s_n0_iload C dX9_isSort_6 ?_
    refine g_bipush C dX9_isSort_7 (by decide) ?_
    refine g_icmp_eq 30 C dX9_isSort_9 (by decide) (by unfold iR; omega) (by unfold iR; omega) (fun c9 => ?_) (fun c9 => ?_)
    · refine g_iconst C dX9_isSort_30 ?_
      refine g_goto 35 C dX9_isSort_31 (by decide) ?_
      refine g_zret C E dX9_isSort_35 (by decide) (by omega) ?_
      exact ⟨rfl, rfl, Or.inl ⟨rfl, by unfold isSo; omega⟩⟩
    · refine s_n0_iload C dX9_isSort_12 ?_
      refine g_bipush C dX9_isSort_13 (by decide) ?_
      refine g_icmp_eq 30 C dX9_isSort_15 (by decide) (by unfold iR; omega) (by unfold iR; omega) (fun c15 => ?_) (fun c15 => ?_)
      · refine g_iconst C dX9_isSort_30 ?_
        refine g_goto 35 C dX9_isSort_31 (by decide) ?_
        refine g_zret C E dX9_isSort_35 (by decide) (by omega) ?_
        exact ⟨rfl, rfl, Or.inl ⟨rfl, by unfold isSo; omega⟩⟩
      · refine s_n0_iload C dX9_isSort_18 ?_
        refine g_bipush C dX9_isSort_19 (by decide) ?_
        refine g_icmp_eq 30 C dX9_isSort_21 (by decide) (by unfold iR; omega) (by unfold iR; omega) (fun c21 => ?_) (fun c21 => ?_)
        · refine g_iconst C dX9_isSort_30 ?_
          refine g_goto 35 C dX9_isSort_31 (by decide) ?_
          refine g_zret C E dX9_isSort_35 (by decide) (by omega) ?_
          exact ⟨rfl, rfl, Or.inl ⟨rfl, by unfold isSo; omega⟩⟩
        · refine s_n0_iload C dX9_isSort_24 ?_
          refine g_bipush C dX9_isSort_25 (by decide) ?_
          refine g_icmp_ne 34 C dX9_isSort_27 (by decide) (by unfold iR; omega) (by unfold iR; omega) (fun c27 => ?_) (fun c27 => ?_)
          · refine g_iconst C dX9_isSort_34 ?_
            refine g_zret C E dX9_isSort_35 (by decide) (by omega) ?_
            exact ⟨rfl, rfl, Or.inr ⟨rfl, by unfold isSo; omega⟩⟩
          · refine g_iconst C dX9_isSort_30 ?_
            refine g_goto 35 C dX9_isSort_31 (by decide) ?_
            refine g_zret C E dX9_isSort_35 (by decide) (by omega) ?_
            exact ⟨rfl, rfl, Or.inl ⟨rfl, by unfold isSo; omega⟩⟩
def soCi (c : Int) : Nat := if c = 115 then 5 else if c = 100 then 2 else if c = 99 then 1 else if c = 114 then 6 else 4
set_option maxRecDepth 20000 in
theorem ct_X9_newPass {c num wy : Int} {M : gM} {n : Int} (hc : iR c) : CT yX9_newPass cX9_newPass 3 (some (.object "PadPolish$Pass")) (rmk 4 1 2) [vi c, vi num, vr wy] M n (qr (some (vr n)) (gu M n (gO (soCi c) [vi num, vr wy])) (n + 1)) := by
  refine CT.of (by decide) (fun _ => Nat.le_of_ble_eq_true rfl) (fun κ C E => ?_)
  show G κ M n [some (vi c), some (vi num), some (vr wy)] 0 [] 0 0
  refine s_n0_iload C dX9_newPass_0 ?_
  refine g_lsw4 64 54 74 44 84 C dX9_newPass_1 (by decide) (by exact hc) (by decide) (by decide) (by decide) (by decide) (by decide) (fun c1_99 => ?_) (fun c1_100 => ?_) (fun c1_114 => ?_) (fun c1_115 => ?_) (fun n1_99 n1_100 n1_114 n1_115 => ?_)
  · refine g_new C nw_X9_109 dX9_newPass_64 (by decide) ?_
    refine g_dup C dX9_newPass_67 rfl ?_
    refine s_n1_iload C dX9_newPass_68 ?_
    refine s_n2_aload C dX9_newPass_69 ?_
    refine g_invI C (ct_X0_init_1 (gu_same ..)) ci_X9_111 (rmk_ok (by decide) (by decide) (by decide) (by decide)) (Nat.le_of_ble_eq_true rfl) rfl dX9_newPass_70 rfl (q_v ?_)
    rw [gu_gu]
    refine g_aret C E (Or.inl ⟨_, rfl⟩) dX9_newPass_73 (by decide) ?_
    have e : soCi c = 1 := by unfold soCi; rw [if_neg (by omega), if_neg (by omega), if_pos c1_99]
    rw [e]
    exact ⟨rfl, rfl, rfl⟩
  · refine g_new C nw_X9_106 dX9_newPass_54 (by decide) ?_
    refine g_dup C dX9_newPass_57 rfl ?_
    refine s_n1_iload C dX9_newPass_58 ?_
    refine s_n2_aload C dX9_newPass_59 ?_
    refine g_invI C (ct_X1_init_2 (gu_same ..)) ci_X9_108 (rmk_ok (by decide) (by decide) (by decide) (by decide)) (Nat.le_of_ble_eq_true rfl) rfl dX9_newPass_60 rfl (q_v ?_)
    rw [gu_gu]
    refine g_aret C E (Or.inl ⟨_, rfl⟩) dX9_newPass_63 (by decide) ?_
    have e : soCi c = 2 := by unfold soCi; rw [if_neg (by omega), if_pos c1_100]
    rw [e]
    exact ⟨rfl, rfl, rfl⟩
  · refine g_new C nw_X9_112 dX9_newPass_74 (by decide) ?_
    refine g_dup C dX9_newPass_77 rfl ?_
    refine s_n1_iload C dX9_newPass_78 ?_
    refine s_n2_aload C dX9_newPass_79 ?_
    refine g_invI C (ct_X6_init_6 (gu_same ..)) ci_X9_114 (rmk_ok (by decide) (by decide) (by decide) (by decide)) (Nat.le_of_ble_eq_true rfl) rfl dX9_newPass_80 rfl (q_v ?_)
    rw [gu_gu]
    refine g_aret C E (Or.inl ⟨_, rfl⟩) dX9_newPass_83 (by decide) ?_
    have e : soCi c = 6 := by unfold soCi; rw [if_neg (by omega), if_neg (by omega), if_neg (by omega), if_pos c1_114]
    rw [e]
    exact ⟨rfl, rfl, rfl⟩
  · refine g_new C nw_X9_101 dX9_newPass_44 (by decide) ?_
    refine g_dup C dX9_newPass_47 rfl ?_
    refine s_n1_iload C dX9_newPass_48 ?_
    refine s_n2_aload C dX9_newPass_49 ?_
    refine g_invI C (ct_X5_init_5 (gu_same ..)) ci_X9_103 (rmk_ok (by decide) (by decide) (by decide) (by decide)) (Nat.le_of_ble_eq_true rfl) rfl dX9_newPass_50 rfl (q_v ?_)
    rw [gu_gu]
    refine g_aret C E (Or.inl ⟨_, rfl⟩) dX9_newPass_53 (by decide) ?_
    have e : soCi c = 5 := by unfold soCi; rw [if_pos c1_115]
    rw [e]
    exact ⟨rfl, rfl, rfl⟩
  · refine g_new C nw_X9_115 dX9_newPass_84 (by decide) ?_
    refine g_dup C dX9_newPass_87 rfl ?_
    refine s_n1_iload C dX9_newPass_88 ?_
    refine s_n2_aload C dX9_newPass_89 ?_
    refine g_invI C (ct_X4_init_4 (gu_same ..)) ci_X9_117 (rmk_ok (by decide) (by decide) (by decide) (by decide)) (Nat.le_of_ble_eq_true rfl) rfl dX9_newPass_90 rfl (q_v ?_)
    rw [gu_gu]
    refine g_aret C E (Or.inl ⟨_, rfl⟩) dX9_newPass_93 (by decide) ?_
    have e : soCi c = 4 := by unfold soCi; rw [if_neg n1_115, if_neg n1_100, if_neg n1_99, if_neg n1_114]
    rw [e]
    exact ⟨rfl, rfl, rfl⟩
