/-! asks of passes; their constructors; Trace; Row -/
theorem fdP_13 {ci : Nat} (hk : isKi ci) : gFd RX2 13 ci 1 := by
  rcases hk with rfl | rfl | rfl | rfl | rfl
  · exact fd_X2_13_1
  · exact fd_X2_13_2
  · exact fd_X2_13_4
  · exact fd_X2_13_5
  · exact fd_X2_13_6
theorem fdP_7 {ci : Nat} (hk : isKi ci) : gFd RX2 7 ci 0 := by
  rcases hk with rfl | rfl | rfl | rfl | rfl
  · exact fd_X2_7_1
  · exact fd_X2_7_2
  · exact fd_X2_7_4
  · exact fd_X2_7_5
  · exact fd_X2_7_6
set_option maxRecDepth 20000 in
theorem ct_X10_leave {o : Int} {t : Int → Int} {k : Int} {M : gM} {n : Int} {x : Int} (hT : tlOK (t, k)) : CT yX10_leave cX10_leave 2 none (rmk 0 0 0) [vr o, vi x] (TL o (t, k) M) n (qr none (TL o (tlLeave (t, k) x) M) n) := by
  refine CT.of (by decide) (fun _ => Nat.le_of_ble_eq_true rfl) (fun κ C E => ?_)
  show G κ (TL o (t, k) M) n [some (vr o), some (vi x)] 0 [] 0 0
  have b : 0 ≤ k ∧ k ≤ 16 := hT
  refine s_n0_aload C dX10_leave_0 ?_
  refine g_get C fd_X10_15_10 dX10_leave_1 (TL_0 ..) rfl ?_
  refine g_bipush C dX10_leave_4 (by decide) ?_
  refine g_icmp_ge 29 C dX10_leave_6 (by decide) (by unfold iR; omega) (by unfold iR; omega) (fun c6 => ?_) (fun c6 => ?_)
  · refine g_vret C E dX10_leave_29 (by decide) ?_
    refine ⟨rfl, ?_, rfl⟩
    unfold tlLeave
    rw [if_neg (by dsimp only; omega)]
  · refine s_n0_aload C dX10_leave_9 ?_
    refine g_get C fd_X10_9_10 dX10_leave_10 (TL_0 ..) rfl ?_
    refine s_n0_aload C dX10_leave_13 ?_
    refine g_get C fd_X10_15_10 dX10_leave_14 (TL_0 ..) rfl ?_
    refine s_n1_iload C dX10_leave_17 ?_
    refine g_iast C dX10_leave_18 (TL_1 ..) (by omega) ?_
    rw [TL_s1]
    refine s_n0_aload C dX10_leave_19 ?_
    refine g_dup C dX10_leave_20 rfl ?_
    refine g_get C fd_X10_15_10 dX10_leave_21 (TL_0 ..) rfl ?_
    refine g_iconst C dX10_leave_24 ?_
    refine g_iadd C dX10_leave_25 ?_
    refine g_put C fp_X10_15_10 dX10_leave_26 (TL_0 ..) (Nat.le_of_ble_eq_true rfl) (gfit_i _) ?_
    rw [TL_p1]
    refine g_vret C E dX10_leave_29 (by decide) ?_
    refine ⟨rfl, ?_, rfl⟩
    unfold tlLeave
    rw [if_pos (by dsimp only; omega)]
theorem k_leave {o : Int} {T : TLT} {M : gM} {n : Int} {x : Int} (hT : tlOK T) : CT yX10_leave cX10_leave 2 none (rmk 0 0 0) [vr o, vi x] (TL o T M) n (qr none (TL o (tlLeave T x) M) n) := by
  obtain ⟨t, k⟩ := T
  exact ct_X10_leave hT
set_option maxRecDepth 20000 in
theorem ct_X10_init {M : gM} {n : Int} : CT yX10_init cX10_init 1 none (rmk 1 1 16) [vr n] (gu M n (gO 10 [vn, vi 0])) (n + 1) (qr none (TL n (fun _ => 0, 0) M) (n + 2)) := by
  refine CT.of (by decide) (fun _ => Nat.le_of_ble_eq_true rfl) (fun κ C E => ?_)
  show G κ (gu M n (gO 10 [vn, vi 0])) (n + 1) [some (vr n)] 0 [] 0 0
  refine s_n0_aload C dX10_init_0 ?_
  refine g_objInit C wd_319 wd_70 wdObj (by decide) (Nat.le_of_ble_eq_true rfl) rfl dX10_init_1 ?_
  refine s_n0_aload C dX10_init_4 ?_
  refine g_bipush C dX10_init_5 (by decide) ?_
  refine g_newI C wd_1178 dX10_init_7 (by omega) (by decide) ?_
  refine g_putF C rfl fp_X10_9_10 dX10_init_9 ((gu_ne _ _ (by omega)).trans (gu_same ..)) (Nat.le_of_ble_eq_true rfl) (gfit_a _ _) ?_
  refine g_vret C E dX10_init_12 (by decide) ?_
  refine ⟨rfl, ?_, by omega⟩
  funext a
  unfold TL gu
  (repeat' split) <;> first | rfl | omega
def aS10 (len : Int) (T : TLT) : Int × TLT := (len, tlLeave T 10)
def aM20 (num : Int) (T : TLT) : Int × TLT := (num, tlLeave T 20)
def aS13 (len : Int) (T : TLT) : Int × TLT := ((aS10 len (tlLeave T 13)).1 - 100, (aS10 len (tlLeave T 13)).2)
def aS14 (len : Int) (T : TLT) : Int × TLT := ((aS13 len (tlLeave T 14)).1 * 2, (aS13 len (tlLeave T 14)).2)
def aM21 (num wet : Int) (T : TLT) : Int × TLT := ((aM20 num (tlLeave T 21)).1 + wet, (aM20 num (tlLeave T 21)).2)
def aM22 (num wet : Int) (T : TLT) : Int × TLT := ((aM21 num wet (tlLeave T 22)).1 - 1000, (aM21 num wet (tlLeave T 22)).2)
def aM24 (num wet : Int) (T : TLT) : Int × TLT := ((aM21 num wet (tlLeave T 24)).1 * 2, (aM21 num wet (tlLeave T 24)).2)
def aSc (ci : Nat) (len : Int) (T : TLT) : Int × TLT := if ci = 6 then aS14 len T else aS13 len T
def aM23 (ci : Nat) (num len : Int) (T : TLT) : Int × TLT := ((aM20 num (tlLeave T 23)).1 - (aSc ci len (aM20 num (tlLeave T 23)).2).1, (aSc ci len (aM20 num (tlLeave T 23)).2).2)
def aMs (ci : Nat) (num wet : Int) (T : TLT) : Int × TLT := if ci = 5 then aM24 num wet T else if ci = 2 then aM22 num wet T else aM21 num wet T
def aS11 (ci : Nat) (num wet len : Int) (T : TLT) : Int × TLT := ((aS10 len (tlLeave T 11)).1 + (aMs ci num wet (aS10 len (tlLeave T 11)).2).1, (aMs ci num wet (aS10 len (tlLeave T 11)).2).2)
def aS12 (num wet len : Int) (T : TLT) : Int × TLT := (-(aS11 5 num wet len (tlLeave T 12)).1, (aS11 5 num wet len (tlLeave T 12)).2)
def aSize (ci : Nat) (num wet len : Int) (T : TLT) : Int × TLT := if ci = 1 ∨ ci = 6 then aSc ci len T else if ci = 5 then aS12 num wet len T else aS11 ci num wet len T
def aMark (ci : Nat) (num wet len : Int) (T : TLT) : Int × TLT := if ci = 1 ∨ ci = 6 then aM23 ci num len T else aMs ci num wet T
theorem aS10_ok {len : Int} {T : TLT} (h : tlOK T) : tlOK (aS10 len T).2 := tlLeave_ok h 10
theorem aM20_ok {num : Int} {T : TLT} (h : tlOK T) : tlOK (aM20 num T).2 := tlLeave_ok h 20
theorem aS13_ok {len : Int} {T : TLT} (h : tlOK T) : tlOK (aS13 len T).2 := aS10_ok (tlLeave_ok h 13)
theorem aM21_ok {num wet : Int} {T : TLT} (h : tlOK T) : tlOK (aM21 num wet T).2 := aM20_ok (tlLeave_ok h 21)
set_option maxRecDepth 20000 in
theorem ct_X2_size {ci : Nat} (hk : isKi ci) {a o num wy len wet : Int} {cs : Int → Int} {T : TLT} {M : gM} {n : Int} (hT : tlOK T) (hw : 0 ≤ len) (ha : paI M a ci num wy len cs) (hd : (a < o ∨ o + 2 ≤ a) ∧ (wy < o ∨ o + 2 ≤ wy)) : CT yX2_size cX2_size 3 (some .int) (rmk 1 0 0) [vr a, vi wet, vr o] (TL o T M) n (qr (some (vi (aS10 len T).1)) (TL o (aS10 len T).2 M) n) := by
  refine CT.of (by decide) (fun _ => Nat.le_of_ble_eq_true rfl) (fun κ C E => ?_)
  show G κ (TL o T M) n [some (vr a), some (vi wet), some (vr o)] 0 [] 0 0
  refine s_n2_aload C dX2_size_0 ?_
  refine g_bipush C dX2_size_1 (by decide) ?_
  refine g_invV C (k_leave hT) (TL_there ..).1 cv_X2_21_10 (rmk_ok (by decide) (by decide) (by decide) (by decide)) (Nat.le_of_ble_eq_true rfl) rfl dX2_size_3 rfl (q_v ?_)
  refine s_n0_aload C dX2_size_6 ?_
  refine g_get C (fdP_13 hk) dX2_size_7 ((TL_out _ _ hd.1).trans ha.1) rfl ?_
  refine g_alen C (by decide) dX2_size_10 ((TL_out _ _ hd.2).trans ha.2) (by omega) ?_
  refine g_iret C E dX2_size_11 (by decide) ?_
  exact ⟨rfl, rfl, rfl⟩
set_option maxRecDepth 20000 in
theorem ct_X2_mark {ci : Nat} (hk : isKi ci) {a o num wy len wet : Int} {cs : Int → Int} {T : TLT} {M : gM} {n : Int} (hT : tlOK T) (hw : 0 ≤ len) (ha : paI M a ci num wy len cs) (hd : (a < o ∨ o + 2 ≤ a) ∧ (wy < o ∨ o + 2 ≤ wy)) : CT yX2_mark cX2_mark 3 (some .int) (rmk 1 0 0) [vr a, vi wet, vr o] (TL o T M) n (qr (some (vi (aM20 num T).1)) (TL o (aM20 num T).2 M) n) := by
  refine CT.of (by decide) (fun _ => Nat.le_of_ble_eq_true rfl) (fun κ C E => ?_)
  show G κ (TL o T M) n [some (vr a), some (vi wet), some (vr o)] 0 [] 0 0
  refine s_n2_aload C dX2_mark_0 ?_
  refine g_bipush C dX2_mark_1 (by decide) ?_
  refine g_invV C (k_leave hT) (TL_there ..).1 cv_X2_21_10 (rmk_ok (by decide) (by decide) (by decide) (by decide)) (Nat.le_of_ble_eq_true rfl) rfl dX2_mark_3 rfl (q_v ?_)
  refine s_n0_aload C dX2_mark_6 ?_
  refine g_get C (fdP_7 hk) dX2_mark_7 ((TL_out _ _ hd.1).trans ha.1) rfl ?_
  refine g_iret C E dX2_mark_10 (by decide) ?_
  exact ⟨rfl, rfl, rfl⟩
set_option maxRecDepth 20000 in
theorem ct_X0_size_1 {a o num wy len wet : Int} {cs : Int → Int} {T : TLT} {M : gM} {n : Int} (hT : tlOK T) (hw : 0 ≤ len) (ha : paI M a 1 num wy len cs) (hd : (a < o ∨ o + 2 ≤ a) ∧ (wy < o ∨ o + 2 ≤ wy)) : CT yX0_size cX0_size 3 (some .int) (rmk 2 0 0) [vr a, vi wet, vr o] (TL o T M) n (qr (some (vi (aS13 len T).1)) (TL o (aS13 len T).2 M) n) := by
  refine CT.of (by decide) (fun _ => Nat.le_of_ble_eq_true rfl) (fun κ C E => ?_)
  show G κ (TL o T M) n [some (vr a), some (vi wet), some (vr o)] 0 [] 0 0
  refine s_n2_aload C dX0_size_0 ?_
  refine g_bipush C dX0_size_1 (by decide) ?_
  refine g_invV C (k_leave hT) (TL_there ..).1 cv_X0_36_10 (rmk_ok (by decide) (by decide) (by decide) (by decide)) (Nat.le_of_ble_eq_true rfl) rfl dX0_size_3 rfl (q_v ?_)
  refine s_n0_aload C dX0_size_6 ?_
  refine s_n1_iload C dX0_size_7 ?_
  refine s_n2_aload C dX0_size_8 ?_
  refine g_invSU C (ct_X2_size (Or.inl rfl) (tlLeave_ok hT 13) hw ha hd) ((TL_out _ _ hd.1).trans ha.1) rfl cx_X0_42 (rmk_ok (by decide) (by decide) (by decide) (by decide)) (Nat.le_of_ble_eq_true rfl) rfl dX0_size_9 rfl (q_r ?_)
  refine g_bipush C dX0_size_12 (by decide) ?_
  refine g_isub C dX0_size_14 ?_
  refine g_iret C E dX0_size_15 (by decide) ?_
  exact ⟨rfl, rfl, rfl⟩
set_option maxRecDepth 20000 in
theorem ct_X0_size_6 {a o num wy len wet : Int} {cs : Int → Int} {T : TLT} {M : gM} {n : Int} (hT : tlOK T) (hw : 0 ≤ len) (ha : paI M a 6 num wy len cs) (hd : (a < o ∨ o + 2 ≤ a) ∧ (wy < o ∨ o + 2 ≤ wy)) : CT yX0_size cX0_size 3 (some .int) (rmk 2 0 0) [vr a, vi wet, vr o] (TL o T M) n (qr (some (vi (aS13 len T).1)) (TL o (aS13 len T).2 M) n) := by
  refine CT.of (by decide) (fun _ => Nat.le_of_ble_eq_true rfl) (fun κ C E => ?_)
  show G κ (TL o T M) n [some (vr a), some (vi wet), some (vr o)] 0 [] 0 0
  refine s_n2_aload C dX0_size_0 ?_
  refine g_bipush C dX0_size_1 (by decide) ?_
  refine g_invV C (k_leave hT) (TL_there ..).1 cv_X0_36_10 (rmk_ok (by decide) (by decide) (by decide) (by decide)) (Nat.le_of_ble_eq_true rfl) rfl dX0_size_3 rfl (q_v ?_)
  refine s_n0_aload C dX0_size_6 ?_
  refine s_n1_iload C dX0_size_7 ?_
  refine s_n2_aload C dX0_size_8 ?_
  refine g_invSU C (ct_X2_size (Or.inr (Or.inr (Or.inr (Or.inr rfl)))) (tlLeave_ok hT 13) hw ha hd) ((TL_out _ _ hd.1).trans ha.1) rfl cx_X0_42 (rmk_ok (by decide) (by decide) (by decide) (by decide)) (Nat.le_of_ble_eq_true rfl) rfl dX0_size_9 rfl (q_r ?_)
  refine g_bipush C dX0_size_12 (by decide) ?_
  refine g_isub C dX0_size_14 ?_
  refine g_iret C E dX0_size_15 (by decide) ?_
  exact ⟨rfl, rfl, rfl⟩
set_option maxRecDepth 20000 in
theorem ct_X6_size_6 {a o num wy len wet : Int} {cs : Int → Int} {T : TLT} {M : gM} {n : Int} (hT : tlOK T) (hw : 0 ≤ len) (ha : paI M a 6 num wy len cs) (hd : (a < o ∨ o + 2 ≤ a) ∧ (wy < o ∨ o + 2 ≤ wy)) : CT yX6_size cX6_size 3 (some .int) (rmk 3 0 0) [vr a, vi wet, vr o] (TL o T M) n (qr (some (vi (aS14 len T).1)) (TL o (aS14 len T).2 M) n) := by
  refine CT.of (by decide) (fun _ => Nat.le_of_ble_eq_true rfl) (fun κ C E => ?_)
  show G κ (TL o T M) n [some (vr a), some (vi wet), some (vr o)] 0 [] 0 0
  refine s_n2_aload C dX6_size_0 ?_
  refine g_bipush C dX6_size_1 (by decide) ?_
  refine g_invV C (k_leave hT) (TL_there ..).1 cv_X6_7_10 (rmk_ok (by decide) (by decide) (by decide) (by decide)) (Nat.le_of_ble_eq_true rfl) rfl dX6_size_3 rfl (q_v ?_)
  refine s_n0_aload C dX6_size_6 ?_
  refine s_n1_iload C dX6_size_7 ?_
  refine s_n2_aload C dX6_size_8 ?_
  refine g_invSU C (ct_X0_size_6 (tlLeave_ok hT 14) hw ha hd) ((TL_out _ _ hd.1).trans ha.1) rfl cx_X6_13 (rmk_ok (by decide) (by decide) (by decide) (by decide)) (Nat.le_of_ble_eq_true rfl) rfl dX6_size_9 rfl (q_r ?_)
  refine g_iconst C dX6_size_12 ?_
  refine g_imul C dX6_size_13 ?_
  refine g_iret C E dX6_size_14 (by decide) ?_
  exact ⟨rfl, rfl, rfl⟩
set_option maxRecDepth 20000 in
theorem ct_X4_mark_4 {a o num wy len wet : Int} {cs : Int → Int} {T : TLT} {M : gM} {n : Int} (hT : tlOK T) (hw : 0 ≤ len) (ha : paI M a 4 num wy len cs) (hd : (a < o ∨ o + 2 ≤ a) ∧ (wy < o ∨ o + 2 ≤ wy)) : CT yX4_mark cX4_mark 3 (some .int) (rmk 2 0 0) [vr a, vi wet, vr o] (TL o T M) n (qr (some (vi (aM21 num wet T).1)) (TL o (aM21 num wet T).2 M) n) := by
  refine CT.of (by decide) (fun _ => Nat.le_of_ble_eq_true rfl) (fun κ C E => ?_)
  show G κ (TL o T M) n [some (vr a), some (vi wet), some (vr o)] 0 [] 0 0
  refine s_n2_aload C dX4_mark_0 ?_
  refine g_bipush C dX4_mark_1 (by decide) ?_
  refine g_invV C (k_leave hT) (TL_there ..).1 cv_X4_35_10 (rmk_ok (by decide) (by decide) (by decide) (by decide)) (Nat.le_of_ble_eq_true rfl) rfl dX4_mark_3 rfl (q_v ?_)
  refine s_n0_aload C dX4_mark_6 ?_
  refine s_n1_iload C dX4_mark_7 ?_
  refine s_n2_aload C dX4_mark_8 ?_
  refine g_invSU C (ct_X2_mark (Or.inr (Or.inr (Or.inl rfl))) (tlLeave_ok hT 21) hw ha hd) ((TL_out _ _ hd.1).trans ha.1) rfl cx_X4_47 (rmk_ok (by decide) (by decide) (by decide) (by decide)) (Nat.le_of_ble_eq_true rfl) rfl dX4_mark_9 rfl (q_r ?_)
  refine s_n1_iload C dX4_mark_12 ?_
  refine g_iadd C dX4_mark_13 ?_
  refine g_iret C E dX4_mark_14 (by decide) ?_
  exact ⟨rfl, rfl, rfl⟩
set_option maxRecDepth 20000 in
theorem ct_X4_mark_2 {a o num wy len wet : Int} {cs : Int → Int} {T : TLT} {M : gM} {n : Int} (hT : tlOK T) (hw : 0 ≤ len) (ha : paI M a 2 num wy len cs) (hd : (a < o ∨ o + 2 ≤ a) ∧ (wy < o ∨ o + 2 ≤ wy)) : CT yX4_mark cX4_mark 3 (some .int) (rmk 2 0 0) [vr a, vi wet, vr o] (TL o T M) n (qr (some (vi (aM21 num wet T).1)) (TL o (aM21 num wet T).2 M) n) := by
  refine CT.of (by decide) (fun _ => Nat.le_of_ble_eq_true rfl) (fun κ C E => ?_)
  show G κ (TL o T M) n [some (vr a), some (vi wet), some (vr o)] 0 [] 0 0
  refine s_n2_aload C dX4_mark_0 ?_
  refine g_bipush C dX4_mark_1 (by decide) ?_
  refine g_invV C (k_leave hT) (TL_there ..).1 cv_X4_35_10 (rmk_ok (by decide) (by decide) (by decide) (by decide)) (Nat.le_of_ble_eq_true rfl) rfl dX4_mark_3 rfl (q_v ?_)
  refine s_n0_aload C dX4_mark_6 ?_
  refine s_n1_iload C dX4_mark_7 ?_
  refine s_n2_aload C dX4_mark_8 ?_
  refine g_invSU C (ct_X2_mark (Or.inr (Or.inl rfl)) (tlLeave_ok hT 21) hw ha hd) ((TL_out _ _ hd.1).trans ha.1) rfl cx_X4_47 (rmk_ok (by decide) (by decide) (by decide) (by decide)) (Nat.le_of_ble_eq_true rfl) rfl dX4_mark_9 rfl (q_r ?_)
  refine s_n1_iload C dX4_mark_12 ?_
  refine g_iadd C dX4_mark_13 ?_
  refine g_iret C E dX4_mark_14 (by decide) ?_
  exact ⟨rfl, rfl, rfl⟩
set_option maxRecDepth 20000 in
theorem ct_X4_mark_5 {a o num wy len wet : Int} {cs : Int → Int} {T : TLT} {M : gM} {n : Int} (hT : tlOK T) (hw : 0 ≤ len) (ha : paI M a 5 num wy len cs) (hd : (a < o ∨ o + 2 ≤ a) ∧ (wy < o ∨ o + 2 ≤ wy)) : CT yX4_mark cX4_mark 3 (some .int) (rmk 2 0 0) [vr a, vi wet, vr o] (TL o T M) n (qr (some (vi (aM21 num wet T).1)) (TL o (aM21 num wet T).2 M) n) := by
  refine CT.of (by decide) (fun _ => Nat.le_of_ble_eq_true rfl) (fun κ C E => ?_)
  show G κ (TL o T M) n [some (vr a), some (vi wet), some (vr o)] 0 [] 0 0
  refine s_n2_aload C dX4_mark_0 ?_
  refine g_bipush C dX4_mark_1 (by decide) ?_
  refine g_invV C (k_leave hT) (TL_there ..).1 cv_X4_35_10 (rmk_ok (by decide) (by decide) (by decide) (by decide)) (Nat.le_of_ble_eq_true rfl) rfl dX4_mark_3 rfl (q_v ?_)
  refine s_n0_aload C dX4_mark_6 ?_
  refine s_n1_iload C dX4_mark_7 ?_
  refine s_n2_aload C dX4_mark_8 ?_
  refine g_invSU C (ct_X2_mark (Or.inr (Or.inr (Or.inr (Or.inl rfl)))) (tlLeave_ok hT 21) hw ha hd) ((TL_out _ _ hd.1).trans ha.1) rfl cx_X4_47 (rmk_ok (by decide) (by decide) (by decide) (by decide)) (Nat.le_of_ble_eq_true rfl) rfl dX4_mark_9 rfl (q_r ?_)
  refine s_n1_iload C dX4_mark_12 ?_
  refine g_iadd C dX4_mark_13 ?_
  refine g_iret C E dX4_mark_14 (by decide) ?_
  exact ⟨rfl, rfl, rfl⟩
set_option maxRecDepth 20000 in
theorem ct_X1_mark_2 {a o num wy len wet : Int} {cs : Int → Int} {T : TLT} {M : gM} {n : Int} (hT : tlOK T) (hw : 0 ≤ len) (ha : paI M a 2 num wy len cs) (hd : (a < o ∨ o + 2 ≤ a) ∧ (wy < o ∨ o + 2 ≤ wy)) : CT yX1_mark cX1_mark 3 (some .int) (rmk 3 0 0) [vr a, vi wet, vr o] (TL o T M) n (qr (some (vi (aM22 num wet T).1)) (TL o (aM22 num wet T).2 M) n) := by
  refine CT.of (by decide) (fun _ => Nat.le_of_ble_eq_true rfl) (fun κ C E => ?_)
  show G κ (TL o T M) n [some (vr a), some (vi wet), some (vr o)] 0 [] 0 0
  refine s_n2_aload C dX1_mark_0 ?_
  refine g_bipush C dX1_mark_1 (by decide) ?_
  refine g_invV C (k_leave hT) (TL_there ..).1 cv_X1_17_10 (rmk_ok (by decide) (by decide) (by decide) (by decide)) (Nat.le_of_ble_eq_true rfl) rfl dX1_mark_3 rfl (q_v ?_)
  refine s_n0_aload C dX1_mark_6 ?_
  refine s_n1_iload C dX1_mark_7 ?_
  refine s_n2_aload C dX1_mark_8 ?_
  refine g_invSU C (ct_X4_mark_2 (tlLeave_ok hT 22) hw ha hd) ((TL_out _ _ hd.1).trans ha.1) rfl cx_X1_22 (rmk_ok (by decide) (by decide) (by decide) (by decide)) (Nat.le_of_ble_eq_true rfl) rfl dX1_mark_9 rfl (q_r ?_)
  refine g_sipush C dX1_mark_12 (by decide) ?_
  refine g_isub C dX1_mark_15 ?_
  refine g_iret C E dX1_mark_16 (by decide) ?_
  exact ⟨rfl, rfl, rfl⟩
set_option maxRecDepth 20000 in
theorem ct_X5_mark_5 {a o num wy len wet : Int} {cs : Int → Int} {T : TLT} {M : gM} {n : Int} (hT : tlOK T) (hw : 0 ≤ len) (ha : paI M a 5 num wy len cs) (hd : (a < o ∨ o + 2 ≤ a) ∧ (wy < o ∨ o + 2 ≤ wy)) : CT yX5_mark cX5_mark 3 (some .int) (rmk 3 0 0) [vr a, vi wet, vr o] (TL o T M) n (qr (some (vi (aM24 num wet T).1)) (TL o (aM24 num wet T).2 M) n) := by
  refine CT.of (by decide) (fun _ => Nat.le_of_ble_eq_true rfl) (fun κ C E => ?_)
  show G κ (TL o T M) n [some (vr a), some (vi wet), some (vr o)] 0 [] 0 0
  refine s_n2_aload C dX5_mark_0 ?_
  refine g_bipush C dX5_mark_1 (by decide) ?_
  refine g_invV C (k_leave hT) (TL_there ..).1 cv_X5_17_10 (rmk_ok (by decide) (by decide) (by decide) (by decide)) (Nat.le_of_ble_eq_true rfl) rfl dX5_mark_3 rfl (q_v ?_)
  refine s_n0_aload C dX5_mark_6 ?_
  refine s_n1_iload C dX5_mark_7 ?_
  refine s_n2_aload C dX5_mark_8 ?_
  refine g_invSU C (ct_X4_mark_5 (tlLeave_ok hT 24) hw ha hd) ((TL_out _ _ hd.1).trans ha.1) rfl cx_X5_27 (rmk_ok (by decide) (by decide) (by decide) (by decide)) (Nat.le_of_ble_eq_true rfl) rfl dX5_mark_9 rfl (q_r ?_)
  refine g_iconst C dX5_mark_12 ?_
  refine g_imul C dX5_mark_13 ?_
  refine g_iret C E dX5_mark_14 (by decide) ?_
  exact ⟨rfl, rfl, rfl⟩
set_option maxRecDepth 20000 in
theorem ct_X0_mark_1 {a o num wy len wet : Int} {cs : Int → Int} {T : TLT} {M : gM} {n : Int} (hT : tlOK T) (hw : 0 ≤ len) (ha : paI M a 1 num wy len cs) (hd : (a < o ∨ o + 2 ≤ a) ∧ (wy < o ∨ o + 2 ≤ wy)) : CT yX0_mark cX0_mark 4 (some .int) (rmk 4 0 0) [vr a, vi wet, vr o] (TL o T M) n (qr (some (vi (aM23 1 num len T).1)) (TL o (aM23 1 num len T).2 M) n) := by
  refine CT.of (by decide) (fun _ => Nat.le_of_ble_eq_true rfl) (fun κ C E => ?_)
  show G κ (TL o T M) n [some (vr a), some (vi wet), some (vr o), none] 0 [] 0 0
  refine s_n2_aload C dX0_mark_0 ?_
  refine g_bipush C dX0_mark_1 (by decide) ?_
  refine g_invV C (k_leave hT) (TL_there ..).1 cv_X0_36_10 (rmk_ok (by decide) (by decide) (by decide) (by decide)) (Nat.le_of_ble_eq_true rfl) rfl dX0_mark_3 rfl (q_v ?_)
  refine s_n0_aload C dX0_mark_6 ?_
  refine s_n1_iload C dX0_mark_7 ?_
  refine s_n2_aload C dX0_mark_8 ?_
  refine g_invSU C (ct_X2_mark (Or.inl rfl) (tlLeave_ok hT 23) hw ha hd) ((TL_out _ _ hd.1).trans ha.1) rfl cx_X0_46 (rmk_ok (by decide) (by decide) (by decide) (by decide)) (Nat.le_of_ble_eq_true rfl) rfl dX0_mark_9 rfl (q_r ?_)
  refine s_n3_istore C dX0_mark_12 rfl ?_
  refine s_n3_iload C dX0_mark_13 ?_
  refine s_n0_aload C dX0_mark_14 ?_
  refine s_n1_iload C dX0_mark_15 ?_
  refine s_n2_aload C dX0_mark_16 ?_
  refine g_invV C (ct_X0_size_1 (wet := wet) (aM20_ok (tlLeave_ok hT 23)) hw ha hd) ((TL_out _ _ hd.1).trans ha.1) cv_X0_49_1 (rmk_ok (by decide) (by decide) (by decide) (by decide)) (Nat.le_of_ble_eq_true rfl) rfl dX0_mark_17 rfl (q_r ?_)
  refine g_isub C dX0_mark_20 ?_
  refine g_iret C E dX0_mark_21 (by decide) ?_
  exact ⟨rfl, rfl, rfl⟩
set_option maxRecDepth 20000 in
theorem ct_X0_mark_6 {a o num wy len wet : Int} {cs : Int → Int} {T : TLT} {M : gM} {n : Int} (hT : tlOK T) (hw : 0 ≤ len) (ha : paI M a 6 num wy len cs) (hd : (a < o ∨ o + 2 ≤ a) ∧ (wy < o ∨ o + 2 ≤ wy)) : CT yX0_mark cX0_mark 4 (some .int) (rmk 4 0 0) [vr a, vi wet, vr o] (TL o T M) n (qr (some (vi (aM23 6 num len T).1)) (TL o (aM23 6 num len T).2 M) n) := by
  refine CT.of (by decide) (fun _ => Nat.le_of_ble_eq_true rfl) (fun κ C E => ?_)
  show G κ (TL o T M) n [some (vr a), some (vi wet), some (vr o), none] 0 [] 0 0
  refine s_n2_aload C dX0_mark_0 ?_
  refine g_bipush C dX0_mark_1 (by decide) ?_
  refine g_invV C (k_leave hT) (TL_there ..).1 cv_X0_36_10 (rmk_ok (by decide) (by decide) (by decide) (by decide)) (Nat.le_of_ble_eq_true rfl) rfl dX0_mark_3 rfl (q_v ?_)
  refine s_n0_aload C dX0_mark_6 ?_
  refine s_n1_iload C dX0_mark_7 ?_
  refine s_n2_aload C dX0_mark_8 ?_
  refine g_invSU C (ct_X2_mark (Or.inr (Or.inr (Or.inr (Or.inr rfl)))) (tlLeave_ok hT 23) hw ha hd) ((TL_out _ _ hd.1).trans ha.1) rfl cx_X0_46 (rmk_ok (by decide) (by decide) (by decide) (by decide)) (Nat.le_of_ble_eq_true rfl) rfl dX0_mark_9 rfl (q_r ?_)
  refine s_n3_istore C dX0_mark_12 rfl ?_
  refine s_n3_iload C dX0_mark_13 ?_
  refine s_n0_aload C dX0_mark_14 ?_
  refine s_n1_iload C dX0_mark_15 ?_
  refine s_n2_aload C dX0_mark_16 ?_
  refine g_invU C (ct_X6_size_6 (wet := wet) (aM20_ok (tlLeave_ok hT 23)) hw ha hd) ((TL_out _ _ hd.1).trans ha.1) cu_X0_49_6 (rmk_ok (by decide) (by decide) (by decide) (by decide)) (Nat.le_of_ble_eq_true rfl) rfl dX0_mark_17 rfl (q_r ?_)
  refine g_isub C dX0_mark_20 ?_
  refine g_iret C E dX0_mark_21 (by decide) ?_
  exact ⟨rfl, rfl, rfl⟩
set_option maxRecDepth 20000 in
theorem ct_X4_size_4 {a o num wy len wet : Int} {cs : Int → Int} {T : TLT} {M : gM} {n : Int} (hT : tlOK T) (hw : 0 ≤ len) (ha : paI M a 4 num wy len cs) (hd : (a < o ∨ o + 2 ≤ a) ∧ (wy < o ∨ o + 2 ≤ wy)) : CT yX4_size cX4_size 4 (some .int) (rmk 4 0 0) [vr a, vi wet, vr o] (TL o T M) n (qr (some (vi (aS11 4 num wet len T).1)) (TL o (aS11 4 num wet len T).2 M) n) := by
  refine CT.of (by decide) (fun _ => Nat.le_of_ble_eq_true rfl) (fun κ C E => ?_)
  show G κ (TL o T M) n [some (vr a), some (vi wet), some (vr o), none] 0 [] 0 0
  refine s_n2_aload C dX4_size_0 ?_
  refine g_bipush C dX4_size_1 (by decide) ?_
  refine g_invV C (k_leave hT) (TL_there ..).1 cv_X4_35_10 (rmk_ok (by decide) (by decide) (by decide) (by decide)) (Nat.le_of_ble_eq_true rfl) rfl dX4_size_3 rfl (q_v ?_)
  refine s_n0_aload C dX4_size_6 ?_
  refine s_n1_iload C dX4_size_7 ?_
  refine s_n2_aload C dX4_size_8 ?_
  refine g_invSU C (ct_X2_size (Or.inr (Or.inr (Or.inl rfl))) (tlLeave_ok hT 11) hw ha hd) ((TL_out _ _ hd.1).trans ha.1) rfl cx_X4_40 (rmk_ok (by decide) (by decide) (by decide) (by decide)) (Nat.le_of_ble_eq_true rfl) rfl dX4_size_9 rfl (q_r ?_)
  refine s_n3_istore C dX4_size_12 rfl ?_
  refine s_n3_iload C dX4_size_13 ?_
  refine s_n0_aload C dX4_size_14 ?_
  refine s_n1_iload C dX4_size_15 ?_
  refine s_n2_aload C dX4_size_16 ?_
  refine g_invV C (ct_X4_mark_4 (wet := wet) (aS10_ok (tlLeave_ok hT 11)) hw ha hd) ((TL_out _ _ hd.1).trans ha.1) cv_X4_44_4 (rmk_ok (by decide) (by decide) (by decide) (by decide)) (Nat.le_of_ble_eq_true rfl) rfl dX4_size_17 rfl (q_r ?_)
  refine g_iadd C dX4_size_20 ?_
  refine g_iret C E dX4_size_21 (by decide) ?_
  exact ⟨rfl, rfl, rfl⟩
set_option maxRecDepth 20000 in
theorem ct_X4_size_2 {a o num wy len wet : Int} {cs : Int → Int} {T : TLT} {M : gM} {n : Int} (hT : tlOK T) (hw : 0 ≤ len) (ha : paI M a 2 num wy len cs) (hd : (a < o ∨ o + 2 ≤ a) ∧ (wy < o ∨ o + 2 ≤ wy)) : CT yX4_size cX4_size 4 (some .int) (rmk 4 0 0) [vr a, vi wet, vr o] (TL o T M) n (qr (some (vi (aS11 2 num wet len T).1)) (TL o (aS11 2 num wet len T).2 M) n) := by
  refine CT.of (by decide) (fun _ => Nat.le_of_ble_eq_true rfl) (fun κ C E => ?_)
  show G κ (TL o T M) n [some (vr a), some (vi wet), some (vr o), none] 0 [] 0 0
  refine s_n2_aload C dX4_size_0 ?_
  refine g_bipush C dX4_size_1 (by decide) ?_
  refine g_invV C (k_leave hT) (TL_there ..).1 cv_X4_35_10 (rmk_ok (by decide) (by decide) (by decide) (by decide)) (Nat.le_of_ble_eq_true rfl) rfl dX4_size_3 rfl (q_v ?_)
  refine s_n0_aload C dX4_size_6 ?_
  refine s_n1_iload C dX4_size_7 ?_
  refine s_n2_aload C dX4_size_8 ?_
  refine g_invSU C (ct_X2_size (Or.inr (Or.inl rfl)) (tlLeave_ok hT 11) hw ha hd) ((TL_out _ _ hd.1).trans ha.1) rfl cx_X4_40 (rmk_ok (by decide) (by decide) (by decide) (by decide)) (Nat.le_of_ble_eq_true rfl) rfl dX4_size_9 rfl (q_r ?_)
  refine s_n3_istore C dX4_size_12 rfl ?_
  refine s_n3_iload C dX4_size_13 ?_
  refine s_n0_aload C dX4_size_14 ?_
  refine s_n1_iload C dX4_size_15 ?_
  refine s_n2_aload C dX4_size_16 ?_
  refine g_invU C (ct_X1_mark_2 (wet := wet) (aS10_ok (tlLeave_ok hT 11)) hw ha hd) ((TL_out _ _ hd.1).trans ha.1) cu_X4_44_2 (rmk_ok (by decide) (by decide) (by decide) (by decide)) (Nat.le_of_ble_eq_true rfl) rfl dX4_size_17 rfl (q_r ?_)
  refine g_iadd C dX4_size_20 ?_
  refine g_iret C E dX4_size_21 (by decide) ?_
  exact ⟨rfl, rfl, rfl⟩
set_option maxRecDepth 20000 in
theorem ct_X4_size_5 {a o num wy len wet : Int} {cs : Int → Int} {T : TLT} {M : gM} {n : Int} (hT : tlOK T) (hw : 0 ≤ len) (ha : paI M a 5 num wy len cs) (hd : (a < o ∨ o + 2 ≤ a) ∧ (wy < o ∨ o + 2 ≤ wy)) : CT yX4_size cX4_size 4 (some .int) (rmk 4 0 0) [vr a, vi wet, vr o] (TL o T M) n (qr (some (vi (aS11 5 num wet len T).1)) (TL o (aS11 5 num wet len T).2 M) n) := by
  refine CT.of (by decide) (fun _ => Nat.le_of_ble_eq_true rfl) (fun κ C E => ?_)
  show G κ (TL o T M) n [some (vr a), some (vi wet), some (vr o), none] 0 [] 0 0
  refine s_n2_aload C dX4_size_0 ?_
  refine g_bipush C dX4_size_1 (by decide) ?_
  refine g_invV C (k_leave hT) (TL_there ..).1 cv_X4_35_10 (rmk_ok (by decide) (by decide) (by decide) (by decide)) (Nat.le_of_ble_eq_true rfl) rfl dX4_size_3 rfl (q_v ?_)
  refine s_n0_aload C dX4_size_6 ?_
  refine s_n1_iload C dX4_size_7 ?_
  refine s_n2_aload C dX4_size_8 ?_
  refine g_invSU C (ct_X2_size (Or.inr (Or.inr (Or.inr (Or.inl rfl)))) (tlLeave_ok hT 11) hw ha hd) ((TL_out _ _ hd.1).trans ha.1) rfl cx_X4_40 (rmk_ok (by decide) (by decide) (by decide) (by decide)) (Nat.le_of_ble_eq_true rfl) rfl dX4_size_9 rfl (q_r ?_)
  refine s_n3_istore C dX4_size_12 rfl ?_
  refine s_n3_iload C dX4_size_13 ?_
  refine s_n0_aload C dX4_size_14 ?_
  refine s_n1_iload C dX4_size_15 ?_
  refine s_n2_aload C dX4_size_16 ?_
  refine g_invU C (ct_X5_mark_5 (wet := wet) (aS10_ok (tlLeave_ok hT 11)) hw ha hd) ((TL_out _ _ hd.1).trans ha.1) cu_X4_44_5 (rmk_ok (by decide) (by decide) (by decide) (by decide)) (Nat.le_of_ble_eq_true rfl) rfl dX4_size_17 rfl (q_r ?_)
  refine g_iadd C dX4_size_20 ?_
  refine g_iret C E dX4_size_21 (by decide) ?_
  exact ⟨rfl, rfl, rfl⟩
set_option maxRecDepth 20000 in
theorem ct_X5_size_5 {a o num wy len wet : Int} {cs : Int → Int} {T : TLT} {M : gM} {n : Int} (hT : tlOK T) (hw : 0 ≤ len) (ha : paI M a 5 num wy len cs) (hd : (a < o ∨ o + 2 ≤ a) ∧ (wy < o ∨ o + 2 ≤ wy)) : CT yX5_size cX5_size 3 (some .int) (rmk 5 0 0) [vr a, vi wet, vr o] (TL o T M) n (qr (some (vi (aS12 num wet len T).1)) (TL o (aS12 num wet len T).2 M) n) := by
  refine CT.of (by decide) (fun _ => Nat.le_of_ble_eq_true rfl) (fun κ C E => ?_)
  show G κ (TL o T M) n [some (vr a), some (vi wet), some (vr o)] 0 [] 0 0
  refine s_n2_aload C dX5_size_0 ?_
  refine g_bipush C dX5_size_1 (by decide) ?_
  refine g_invV C (k_leave hT) (TL_there ..).1 cv_X5_17_10 (rmk_ok (by decide) (by decide) (by decide) (by decide)) (Nat.le_of_ble_eq_true rfl) rfl dX5_size_3 rfl (q_v ?_)
  refine s_n0_aload C dX5_size_6 ?_
  refine s_n1_iload C dX5_size_7 ?_
  refine s_n2_aload C dX5_size_8 ?_
  refine g_invSU C (ct_X4_size_5 (tlLeave_ok hT 12) hw ha hd) ((TL_out _ _ hd.1).trans ha.1) rfl cx_X5_23 (rmk_ok (by decide) (by decide) (by decide) (by decide)) (Nat.le_of_ble_eq_true rfl) rfl dX5_size_9 rfl (q_r ?_)
  refine g_ineg C dX5_size_12 ?_
  refine g_iret C E dX5_size_13 (by decide) ?_
  exact ⟨rfl, rfl, rfl⟩
def pCells (len : Int) (cs : Int → Int) : Int := itI (fun i a => bOr a (bShl 1 (cs i))) 0 len
set_option maxRecDepth 20000 in
theorem ct_X2_cells {ci : Nat} {a num wy len : Int} {cs : Int → Int} {M : gM} {n : Int} (hk : isKi ci) (hw : waOK len cs) (ha : paI M a ci num wy len cs) : CT yX2_cells cX2_cells 6 (some .int) (rmk 0 0 0) [vr a] M n (qr (some (vi (pCells len cs))) M n) := by
  refine CT.of (by decide) (fun _ => Nat.le_of_ble_eq_true rfl) (fun κ C E => ?_)
  show G κ M n [some (vr a), none, none, none, none, none] 0 [] 0 0
  have wl := hw.1
  have wh := hw.2.1
  have lp : ∀ (k : Nat) (i b : Int) (z : Option gV), 0 ≤ i ∧ i ≤ len → b = itI (fun i a => bOr a (bShl 1 (cs i))) 0 i → (len - i).toNat = k → G κ M n [some (vr a), some (vi b), some (vr wy), some (vi len), some (vi i), z] 13 [] 0 0 := by
    intro k
    induction k using Nat.strongRecOn with
    | ind k ih =>
      intro i b z h1 h2 hk
      refine s_w4_iload C dX2_cells_13 ?_
      refine s_n3_iload C dX2_cells_15 ?_
      refine g_icmp_ge 38 C dX2_cells_16 (by decide) (by unfold iR; omega) (by unfold iR; omega) (fun c16 => ?_) (fun c16 => ?_)
      · refine s_n1_iload C dX2_cells_38 ?_
        refine g_iret C E dX2_cells_39 (by decide) ?_
        have e : i = len := by omega
        subst e
        refine ⟨?_, rfl, rfl⟩
        rw [h2]
        rfl
      · refine s_n2_aload C dX2_cells_19 ?_
        refine s_w4_iload C dX2_cells_20 ?_
        refine g_iald C dX2_cells_22 ha.2 (by omega) ?_
        refine s_w5_istore C dX2_cells_23 rfl ?_
        refine s_n1_iload C dX2_cells_25 ?_
        refine g_iconst C dX2_cells_26 ?_
        refine s_w5_iload C dX2_cells_27 ?_
        refine g_ishl C dX2_cells_29 ?_
        refine g_ior C dX2_cells_30 ?_
        refine s_n1_istore C dX2_cells_31 rfl ?_
        refine s_w4_iinc C dX2_cells_32 rfl ?_
        refine g_goto 13 C dX2_cells_35 (by decide) ?_
        exact ih _ (by omega) (i + 1) _ _ (by omega) (by rw [itI_s _ _ h1.1, ← h2]) rfl
  refine g_iconst C dX2_cells_0 ?_
  refine s_n1_istore C dX2_cells_1 rfl ?_
  refine s_n0_aload C dX2_cells_2 ?_
  refine g_get C (fdP_13 hk) dX2_cells_3 ha.1 rfl ?_
  refine s_n2_astore C dX2_cells_6 rfl ?_
  refine s_n2_aload C dX2_cells_7 ?_
  refine g_alen C (by decide) dX2_cells_8 ha.2 (by omega) ?_
  refine s_n3_istore C dX2_cells_9 rfl ?_
  refine g_iconst C dX2_cells_10 ?_
  refine s_w4_istore C dX2_cells_11 rfl ?_
  exact lp _ 0 0 none (by omega) rfl rfl
set_option maxRecDepth 20000 in
theorem ct_X2_init_1 {a num wy : Int} {M : gM} {n : Int} (ha : M a = some (gO 1 [vi 0, vn])) : CT yX2_init cX2_init 3 none (rmk 1 0 0) [vr a, vi num, vr wy] M n (qr none (gu M a (gO 1 [vi num, vr wy])) n) := by
  refine CT.of (by decide) (fun _ => Nat.le_of_ble_eq_true rfl) (fun κ C E => ?_)
  show G κ M n [some (vr a), some (vi num), some (vr wy)] 0 [] 0 0
  refine s_n0_aload C dX2_init_0 ?_
  refine g_objInit C wd_69 wd_70 wdObj (by decide) (Nat.le_of_ble_eq_true rfl) rfl dX2_init_1 ?_
  refine s_n0_aload C dX2_init_4 ?_
  refine s_n1_iload C dX2_init_5 ?_
  refine g_putF C rfl fp_X2_7_1 dX2_init_6 ha (Nat.le_of_ble_eq_true rfl) (gfit_i _) ?_
  refine s_n0_aload C dX2_init_9 ?_
  refine s_n2_aload C dX2_init_10 ?_
  refine g_putF C rfl fp_X2_13_1 dX2_init_11 (gu_same ..) (Nat.le_of_ble_eq_true rfl) (gfit_a _ _) ?_
  rw [gu_gu]
  refine g_vret C E dX2_init_14 (by decide) ?_
  exact ⟨rfl, rfl, rfl⟩
set_option maxRecDepth 20000 in
theorem ct_X2_init_2 {a num wy : Int} {M : gM} {n : Int} (ha : M a = some (gO 2 [vi 0, vn])) : CT yX2_init cX2_init 3 none (rmk 1 0 0) [vr a, vi num, vr wy] M n (qr none (gu M a (gO 2 [vi num, vr wy])) n) := by
  refine CT.of (by decide) (fun _ => Nat.le_of_ble_eq_true rfl) (fun κ C E => ?_)
  show G κ M n [some (vr a), some (vi num), some (vr wy)] 0 [] 0 0
  refine s_n0_aload C dX2_init_0 ?_
  refine g_objInit C wd_69 wd_70 wdObj (by decide) (Nat.le_of_ble_eq_true rfl) rfl dX2_init_1 ?_
  refine s_n0_aload C dX2_init_4 ?_
  refine s_n1_iload C dX2_init_5 ?_
  refine g_putF C rfl fp_X2_7_2 dX2_init_6 ha (Nat.le_of_ble_eq_true rfl) (gfit_i _) ?_
  refine s_n0_aload C dX2_init_9 ?_
  refine s_n2_aload C dX2_init_10 ?_
  refine g_putF C rfl fp_X2_13_2 dX2_init_11 (gu_same ..) (Nat.le_of_ble_eq_true rfl) (gfit_a _ _) ?_
  rw [gu_gu]
  refine g_vret C E dX2_init_14 (by decide) ?_
  exact ⟨rfl, rfl, rfl⟩
set_option maxRecDepth 20000 in
theorem ct_X2_init_4 {a num wy : Int} {M : gM} {n : Int} (ha : M a = some (gO 4 [vi 0, vn])) : CT yX2_init cX2_init 3 none (rmk 1 0 0) [vr a, vi num, vr wy] M n (qr none (gu M a (gO 4 [vi num, vr wy])) n) := by
  refine CT.of (by decide) (fun _ => Nat.le_of_ble_eq_true rfl) (fun κ C E => ?_)
  show G κ M n [some (vr a), some (vi num), some (vr wy)] 0 [] 0 0
  refine s_n0_aload C dX2_init_0 ?_
  refine g_objInit C wd_69 wd_70 wdObj (by decide) (Nat.le_of_ble_eq_true rfl) rfl dX2_init_1 ?_
  refine s_n0_aload C dX2_init_4 ?_
  refine s_n1_iload C dX2_init_5 ?_
  refine g_putF C rfl fp_X2_7_4 dX2_init_6 ha (Nat.le_of_ble_eq_true rfl) (gfit_i _) ?_
  refine s_n0_aload C dX2_init_9 ?_
  refine s_n2_aload C dX2_init_10 ?_
  refine g_putF C rfl fp_X2_13_4 dX2_init_11 (gu_same ..) (Nat.le_of_ble_eq_true rfl) (gfit_a _ _) ?_
  rw [gu_gu]
  refine g_vret C E dX2_init_14 (by decide) ?_
  exact ⟨rfl, rfl, rfl⟩
set_option maxRecDepth 20000 in
theorem ct_X2_init_5 {a num wy : Int} {M : gM} {n : Int} (ha : M a = some (gO 5 [vi 0, vn])) : CT yX2_init cX2_init 3 none (rmk 1 0 0) [vr a, vi num, vr wy] M n (qr none (gu M a (gO 5 [vi num, vr wy])) n) := by
  refine CT.of (by decide) (fun _ => Nat.le_of_ble_eq_true rfl) (fun κ C E => ?_)
  show G κ M n [some (vr a), some (vi num), some (vr wy)] 0 [] 0 0
  refine s_n0_aload C dX2_init_0 ?_
  refine g_objInit C wd_69 wd_70 wdObj (by decide) (Nat.le_of_ble_eq_true rfl) rfl dX2_init_1 ?_
  refine s_n0_aload C dX2_init_4 ?_
  refine s_n1_iload C dX2_init_5 ?_
  refine g_putF C rfl fp_X2_7_5 dX2_init_6 ha (Nat.le_of_ble_eq_true rfl) (gfit_i _) ?_
  refine s_n0_aload C dX2_init_9 ?_
  refine s_n2_aload C dX2_init_10 ?_
  refine g_putF C rfl fp_X2_13_5 dX2_init_11 (gu_same ..) (Nat.le_of_ble_eq_true rfl) (gfit_a _ _) ?_
  rw [gu_gu]
  refine g_vret C E dX2_init_14 (by decide) ?_
  exact ⟨rfl, rfl, rfl⟩
set_option maxRecDepth 20000 in
theorem ct_X2_init_6 {a num wy : Int} {M : gM} {n : Int} (ha : M a = some (gO 6 [vi 0, vn])) : CT yX2_init cX2_init 3 none (rmk 1 0 0) [vr a, vi num, vr wy] M n (qr none (gu M a (gO 6 [vi num, vr wy])) n) := by
  refine CT.of (by decide) (fun _ => Nat.le_of_ble_eq_true rfl) (fun κ C E => ?_)
  show G κ M n [some (vr a), some (vi num), some (vr wy)] 0 [] 0 0
  refine s_n0_aload C dX2_init_0 ?_
  refine g_objInit C wd_69 wd_70 wdObj (by decide) (Nat.le_of_ble_eq_true rfl) rfl dX2_init_1 ?_
  refine s_n0_aload C dX2_init_4 ?_
  refine s_n1_iload C dX2_init_5 ?_
  refine g_putF C rfl fp_X2_7_6 dX2_init_6 ha (Nat.le_of_ble_eq_true rfl) (gfit_i _) ?_
  refine s_n0_aload C dX2_init_9 ?_
  refine s_n2_aload C dX2_init_10 ?_
  refine g_putF C rfl fp_X2_13_6 dX2_init_11 (gu_same ..) (Nat.le_of_ble_eq_true rfl) (gfit_a _ _) ?_
  rw [gu_gu]
  refine g_vret C E dX2_init_14 (by decide) ?_
  exact ⟨rfl, rfl, rfl⟩
set_option maxRecDepth 20000 in
theorem ct_X0_init_1 {a num wy : Int} {M : gM} {n : Int} (ha : M a = some (gO 1 [vi 0, vn])) : CT yX0_init cX0_init 3 none (rmk 2 0 0) [vr a, vi num, vr wy] M n (qr none (gu M a (gO 1 [vi num, vr wy])) n) := by
  refine CT.of (by decide) (fun _ => Nat.le_of_ble_eq_true rfl) (fun κ C E => ?_)
  show G κ M n [some (vr a), some (vi num), some (vr wy)] 0 [] 0 0
  refine s_n0_aload C dX0_init_0 ?_
  refine s_n1_iload C dX0_init_1 ?_
  refine s_n2_aload C dX0_init_2 ?_
  refine g_invI C (ct_X2_init_1 ha) ci_X0_1 (rmk_ok (by decide) (by decide) (by decide) (by decide)) (Nat.le_of_ble_eq_true rfl) rfl dX0_init_3 rfl (q_v ?_)
  refine g_vret C E dX0_init_6 (by decide) ?_
  exact ⟨rfl, rfl, rfl⟩
set_option maxRecDepth 20000 in
theorem ct_X0_init_6 {a num wy : Int} {M : gM} {n : Int} (ha : M a = some (gO 6 [vi 0, vn])) : CT yX0_init cX0_init 3 none (rmk 2 0 0) [vr a, vi num, vr wy] M n (qr none (gu M a (gO 6 [vi num, vr wy])) n) := by
  refine CT.of (by decide) (fun _ => Nat.le_of_ble_eq_true rfl) (fun κ C E => ?_)
  show G κ M n [some (vr a), some (vi num), some (vr wy)] 0 [] 0 0
  refine s_n0_aload C dX0_init_0 ?_
  refine s_n1_iload C dX0_init_1 ?_
  refine s_n2_aload C dX0_init_2 ?_
  refine g_invI C (ct_X2_init_6 ha) ci_X0_1 (rmk_ok (by decide) (by decide) (by decide) (by decide)) (Nat.le_of_ble_eq_true rfl) rfl dX0_init_3 rfl (q_v ?_)
  refine g_vret C E dX0_init_6 (by decide) ?_
  exact ⟨rfl, rfl, rfl⟩
set_option maxRecDepth 20000 in
theorem ct_X4_init_4 {a num wy : Int} {M : gM} {n : Int} (ha : M a = some (gO 4 [vi 0, vn])) : CT yX4_init cX4_init 3 none (rmk 2 0 0) [vr a, vi num, vr wy] M n (qr none (gu M a (gO 4 [vi num, vr wy])) n) := by
  refine CT.of (by decide) (fun _ => Nat.le_of_ble_eq_true rfl) (fun κ C E => ?_)
  show G κ M n [some (vr a), some (vi num), some (vr wy)] 0 [] 0 0
  refine s_n0_aload C dX4_init_0 ?_
  refine s_n1_iload C dX4_init_1 ?_
  refine s_n2_aload C dX4_init_2 ?_
  refine g_invI C (ct_X2_init_4 ha) ci_X4_1 (rmk_ok (by decide) (by decide) (by decide) (by decide)) (Nat.le_of_ble_eq_true rfl) rfl dX4_init_3 rfl (q_v ?_)
  refine g_vret C E dX4_init_6 (by decide) ?_
  exact ⟨rfl, rfl, rfl⟩
set_option maxRecDepth 20000 in
theorem ct_X4_init_5 {a num wy : Int} {M : gM} {n : Int} (ha : M a = some (gO 5 [vi 0, vn])) : CT yX4_init cX4_init 3 none (rmk 2 0 0) [vr a, vi num, vr wy] M n (qr none (gu M a (gO 5 [vi num, vr wy])) n) := by
  refine CT.of (by decide) (fun _ => Nat.le_of_ble_eq_true rfl) (fun κ C E => ?_)
  show G κ M n [some (vr a), some (vi num), some (vr wy)] 0 [] 0 0
  refine s_n0_aload C dX4_init_0 ?_
  refine s_n1_iload C dX4_init_1 ?_
  refine s_n2_aload C dX4_init_2 ?_
  refine g_invI C (ct_X2_init_5 ha) ci_X4_1 (rmk_ok (by decide) (by decide) (by decide) (by decide)) (Nat.le_of_ble_eq_true rfl) rfl dX4_init_3 rfl (q_v ?_)
  refine g_vret C E dX4_init_6 (by decide) ?_
  exact ⟨rfl, rfl, rfl⟩
set_option maxRecDepth 20000 in
theorem ct_X4_init_2 {a num wy : Int} {M : gM} {n : Int} (ha : M a = some (gO 2 [vi 0, vn])) : CT yX4_init cX4_init 3 none (rmk 2 0 0) [vr a, vi num, vr wy] M n (qr none (gu M a (gO 2 [vi num, vr wy])) n) := by
  refine CT.of (by decide) (fun _ => Nat.le_of_ble_eq_true rfl) (fun κ C E => ?_)
  show G κ M n [some (vr a), some (vi num), some (vr wy)] 0 [] 0 0
  refine s_n0_aload C dX4_init_0 ?_
  refine s_n1_iload C dX4_init_1 ?_
  refine s_n2_aload C dX4_init_2 ?_
  refine g_invI C (ct_X2_init_2 ha) ci_X4_1 (rmk_ok (by decide) (by decide) (by decide) (by decide)) (Nat.le_of_ble_eq_true rfl) rfl dX4_init_3 rfl (q_v ?_)
  refine g_vret C E dX4_init_6 (by decide) ?_
  exact ⟨rfl, rfl, rfl⟩
set_option maxRecDepth 20000 in
theorem ct_X6_init_6 {a num wy : Int} {M : gM} {n : Int} (ha : M a = some (gO 6 [vi 0, vn])) : CT yX6_init cX6_init 3 none (rmk 3 0 0) [vr a, vi num, vr wy] M n (qr none (gu M a (gO 6 [vi num, vr wy])) n) := by
  refine CT.of (by decide) (fun _ => Nat.le_of_ble_eq_true rfl) (fun κ C E => ?_)
  show G κ M n [some (vr a), some (vi num), some (vr wy)] 0 [] 0 0
  refine s_n0_aload C dX6_init_0 ?_
  refine s_n1_iload C dX6_init_1 ?_
  refine s_n2_aload C dX6_init_2 ?_
  refine g_invI C (ct_X0_init_6 ha) ci_X6_1 (rmk_ok (by decide) (by decide) (by decide) (by decide)) (Nat.le_of_ble_eq_true rfl) rfl dX6_init_3 rfl (q_v ?_)
  refine g_vret C E dX6_init_6 (by decide) ?_
  exact ⟨rfl, rfl, rfl⟩
set_option maxRecDepth 20000 in
theorem ct_X5_init_5 {a num wy : Int} {M : gM} {n : Int} (ha : M a = some (gO 5 [vi 0, vn])) : CT yX5_init cX5_init 3 none (rmk 3 0 0) [vr a, vi num, vr wy] M n (qr none (gu M a (gO 5 [vi num, vr wy])) n) := by
  refine CT.of (by decide) (fun _ => Nat.le_of_ble_eq_true rfl) (fun κ C E => ?_)
  show G κ M n [some (vr a), some (vi num), some (vr wy)] 0 [] 0 0
  refine s_n0_aload C dX5_init_0 ?_
  refine s_n1_iload C dX5_init_1 ?_
  refine s_n2_aload C dX5_init_2 ?_
  refine g_invI C (ct_X4_init_5 ha) ci_X5_1 (rmk_ok (by decide) (by decide) (by decide) (by decide)) (Nat.le_of_ble_eq_true rfl) rfl dX5_init_3 rfl (q_v ?_)
  refine g_vret C E dX5_init_6 (by decide) ?_
  exact ⟨rfl, rfl, rfl⟩
set_option maxRecDepth 20000 in
theorem ct_X1_init_2 {a num wy : Int} {M : gM} {n : Int} (ha : M a = some (gO 2 [vi 0, vn])) : CT yX1_init cX1_init 3 none (rmk 3 0 0) [vr a, vi num, vr wy] M n (qr none (gu M a (gO 2 [vi num, vr wy])) n) := by
  refine CT.of (by decide) (fun _ => Nat.le_of_ble_eq_true rfl) (fun κ C E => ?_)
  show G κ M n [some (vr a), some (vi num), some (vr wy)] 0 [] 0 0
  refine s_n0_aload C dX1_init_0 ?_
  refine s_n1_iload C dX1_init_1 ?_
  refine s_n2_aload C dX1_init_2 ?_
  refine g_invI C (ct_X4_init_2 ha) ci_X1_1 (rmk_ok (by decide) (by decide) (by decide) (by decide)) (Nat.le_of_ble_eq_true rfl) rfl dX1_init_3 rfl (q_v ?_)
  refine g_vret C E dX1_init_6 (by decide) ?_
  exact ⟨rfl, rfl, rfl⟩
/-- a Row: items, lane, length -/
abbrev RWT : Type := (Int → Int) × (Int) × (Int)
def RW (o : Int) (S : RWT) (M : gM) : gM := fun a => if a = o then some (gO 3 [vr (o + 1), vi S.2.1, vi S.2.2]) else if a = o + 1 then some (gA 0 40 S.1) else M a
theorem RW_0 (o : Int) (t : Int → Int) (ln : Int) (k : Int) (M : gM) : RW o (t, ln, k) M (o) = some (gO 3 [vr (o + 1), vi ln, vi k]) := if_pos rfl
theorem RW_1 (o : Int) (t : Int → Int) (ln : Int) (k : Int) (M : gM) : RW o (t, ln, k) M (o + 1) = some (gA 0 40 t) := by unfold RW; rw [if_neg (by omega), if_pos rfl]
theorem RW_out {o a : Int} (S : RWT) (M : gM) (h : a < o ∨ o + 2 ≤ a) : RW o S M a = M a := by unfold RW; rw [if_neg (by omega), if_neg (by omega)]
theorem RW_p1 (o : Int) (t : Int → Int) (ln : Int) (k : Int) (M : gM) (x : Int) : gu (RW o (t, ln, k) M) (o) (gO 3 ([vr (o + 1), vi ln, vi k].set 1 (vi x))) = RW o (t, x, k) M := by
  funext a
  by_cases h : a = o
  · rw [h, gu_same]; exact (RW_0 ..).symm
  · rw [gu_ne _ _ h]; unfold RW; simp only [if_neg h]
theorem RW_p2 (o : Int) (t : Int → Int) (ln : Int) (k : Int) (M : gM) (x : Int) : gu (RW o (t, ln, k) M) (o) (gO 3 ([vr (o + 1), vi ln, vi k].set 2 (vi x))) = RW o (t, ln, x) M := by
  funext a
  by_cases h : a = o
  · rw [h, gu_same]; exact (RW_0 ..).symm
  · rw [gu_ne _ _ h]; unfold RW; simp only [if_neg h]
theorem RW_s1 (o : Int) (t : Int → Int) (ln : Int) (k : Int) (M : gM) (x : Int → Int) : gu (RW o (t, ln, k) M) (o + 1) (gA 0 40 x) = RW o (x, ln, k) M := by
  funext a
  by_cases h : a = o + 1
  · rw [h, gu_same]; exact (RW_1 ..).symm
  · rw [gu_ne _ _ h]; unfold RW; simp only [if_neg h]
def RWi (o : Int) (S : RWT) (M : gM) : Prop := M (o) = some (gO 3 [vr (o + 1), vi S.2.1, vi S.2.2]) ∧ M (o + 1) = some (gA 0 40 S.1)
theorem RW_self {o : Int} {S : RWT} {M : gM} (h : RWi o S M) : RW o S M = M := by
  funext a
  unfold RW
  by_cases h0 : a = o
  · rw [if_pos h0, h0]; exact (h.1).symm
  by_cases h1 : a = o + 1
  · rw [if_neg h0, if_pos h1, h1]; exact (h.2).symm
  rw [if_neg h0, if_neg h1]
theorem RW_there (o : Int) (S : RWT) (M : gM) : RWi o S (RW o S M) := ⟨RW_0 o S.1 S.2.1 S.2.2 M, RW_1 o S.1 S.2.1 S.2.2 M⟩
theorem RW_twice (o : Int) (S S2 : RWT) (M : gM) : RW o S (RW o S2 M) = RW o S M := by
  funext a
  unfold RW
  by_cases h0 : a = o
  · simp only [if_pos h0]
  by_cases h1 : a = o + 1
  · simp only [if_neg h0, if_pos h1]
  simp only [if_neg h0, if_neg h1]
def rowOK (R : RWT) : Prop := (∀ i, iR (R.1 i)) ∧ 0 ≤ R.2.1 ∧ R.2.1 ≤ 2 ∧ -1 ≤ R.2.2 ∧ R.2.2 ≤ 40
def rNar (ln v : Int) : Int := if ln = 0 then v.bmod 256 else if ln = 1 then v.bmod 65536 else v
def rReach (R : RWT) (i m : Int) : Prop := 0 ≤ i ∧ 0 ≤ m ∧ m ≤ R.2.2 - i
def allI (p : Int → Bool) (n : Int) : Int := itI (fun c b => if b = 0 then 0 else if p c then 1 else 0) 1 n
theorem allI_b (p : Int → Bool) {i : Int} (h : 0 ≤ i) : allI p i = 0 ∨ allI p i = 1 :=
  itI_inv (g := fun c b => if b = 0 then 0 else if p c then 1 else 0) (a := 1) (fun _ b => b = 0 ∨ b = 1) (Or.inr rfl) (fun i x _ hx => by
    split
    · exact Or.inl rfl
    · split
      · exact Or.inr rfl
      · exact Or.inl rfl) h
theorem allI_stay {p : Int → Bool} {i : Int} (hi : 0 ≤ i) (h0 : allI p i = 0) : ∀ d : Nat, allI p (i + d) = 0 := by
  intro d
  induction d with
  | zero => simpa using h0
  | succ d ih =>
    have e := itI_s (fun c b => if b = 0 then 0 else if p c then 1 else 0) (1 : Int) (i := i + d) (by omega)
    show itI _ _ (i + ((d + 1 : Nat) : Int)) = 0
    rw [show i + ((d + 1 : Nat) : Int) = i + d + 1 by omega, e]
    exact if_pos ih
theorem allI_miss {p : Int → Bool} {i n : Int} (hi : 0 ≤ i) (hn : i < n) (h : p i = false) : allI p n = 0 := by
  have h1 : allI p (i + 1) = 0 := by
    show itI _ _ (i + 1) = 0
    rw [itI_s _ _ hi]
    split
    · rfl
    · rw [h]; rfl
  have := allI_stay (i := i + 1) (by omega) h1 (n - (i + 1)).toNat
  rwa [show i + 1 + (((n - (i + 1)).toNat : Nat) : Int) = n by omega] at this
set_option maxRecDepth 20000 in
theorem ct_X3_isMissing {o : Int} {t : Int → Int} {ln k : Int} {M : gM} {n : Int} (hk : -1 ≤ k ∧ k ≤ 40) : CT yX3_isMissing cX3_isMissing 1 (some .boolean) (rmk 0 0 0) [vr o] (RW o (t, ln, k) M) n (qr (some (vi (if k = -1 then 1 else 0))) (RW o (t, ln, k) M) n) := by
  refine CT.of (by decide) (fun _ => Nat.le_of_ble_eq_true rfl) (fun κ C E => ?_)
  show G κ (RW o (t, ln, k) M) n [some (vr o)] 0 [] 0 0
  refine s_n0_aload C dX3_isMissing_0 ?_
  refine g_get C fd_X3_15_3 dX3_isMissing_1 (RW_0 ..) rfl ?_
  refine g_iconst C dX3_isMissing_4 ?_
  refine g_icmp_ne 12 C dX3_isMissing_5 (by decide) (by unfold iR; omega) (by unfold iR; omega) (fun c5 => ?_) (fun c5 => ?_)
  · refine g_iconst C dX3_isMissing_12 ?_
    refine g_zret C E dX3_isMissing_13 (by decide) (by omega) ?_
    rw [if_neg c5]
    exact ⟨rfl, rfl, rfl⟩
  · refine g_iconst C dX3_isMissing_8 ?_
    refine g_goto 13 C dX3_isMissing_9 (by decide) ?_
    refine g_zret C E dX3_isMissing_13 (by decide) (by omega) ?_
    rw [if_pos c5]
    exact ⟨rfl, rfl, rfl⟩
set_option maxRecDepth 20000 in
theorem ct_X3_begin {o : Int} {t : Int → Int} {ln k : Int} {M : gM} {n : Int} {a b : Int} : CT yX3_begin cX3_begin 3 none (rmk 1 0 0) [vr o, vi a, vi b] (RW o (t, ln, k) M) n (qr none (RW o (fun _ => 0, a, b) M) n) := by
  refine CT.of (by decide) (fun _ => Nat.le_of_ble_eq_true rfl) (fun κ C E => ?_)
  show G κ (RW o (t, ln, k) M) n [some (vr o), some (vi a), some (vi b)] 0 [] 0 0
  refine s_n0_aload C dX3_begin_0 ?_
  refine s_n1_iload C dX3_begin_1 ?_
  refine g_put C fp_X3_19_3 dX3_begin_2 (RW_0 ..) (Nat.le_of_ble_eq_true rfl) (gfit_i _) ?_
  rw [RW_p1]
  refine s_n0_aload C dX3_begin_5 ?_
  refine s_n2_iload C dX3_begin_6 ?_
  refine g_put C fp_X3_15_3 dX3_begin_7 (RW_0 ..) (Nat.le_of_ble_eq_true rfl) (gfit_i _) ?_
  rw [RW_p2]
  refine s_n0_aload C dX3_begin_10 ?_
  refine g_get C fd_X3_9_3 dX3_begin_11 (RW_0 ..) rfl ?_
  refine g_iconst C dX3_begin_14 ?_
  refine g_invS C (ct_J7_fill_53178 (RW_1 ..) (by omega)) cs_X3_22 (rmk_ok (by decide) (by decide) (by decide) (by decide)) (Nat.le_of_ble_eq_true rfl) rfl dX3_begin_15 rfl (q_v ?_)
  rw [RW_s1]
  refine g_vret C E dX3_begin_18 (by decide) ?_
  exact ⟨rfl, rfl, rfl⟩
set_option maxRecDepth 20000 in
theorem ct_X3_reaches {o : Int} {t : Int → Int} {ln k : Int} {M : gM} {n : Int} {i m : Int} (hk : -1 ≤ k ∧ k ≤ 40) (hi : iR i) (hm : iR m) : CT yX3_reaches cX3_reaches 3 (some .boolean) (rmk 0 0 0) [vr o, vi i, vi m] (RW o (t, ln, k) M) n (fun r M2 n2 => M2 = RW o (t, ln, k) M ∧ n2 = n ∧ ((r = some (vi 1) ∧ rReach (t, ln, k) i m) ∨ (r = some (vi 0) ∧ ¬ rReach (t, ln, k) i m))) := by
  refine CT.of (by decide) (fun _ => Nat.le_of_ble_eq_true rfl) (fun κ C E => ?_)
  show G κ (RW o (t, ln, k) M) n [some (vr o), some (vi i), some (vi m)] 0 [] 0 0
  have hi2 := hi
  have hm2 := hm
  unfold iR at hi2 hm2
  refine s_n1_iload C dX3_reaches_0 ?_
  refine g_if_lt 22 C dX3_reaches_1 (by decide) (by unfold iR; omega) (fun c1 => ?_) (fun c1 => ?_)
  · refine g_iconst C dX3_reaches_22 ?_
    refine g_zret C E dX3_reaches_23 (by decide) (by omega) ?_
    exact ⟨rfl, rfl, Or.inr ⟨rfl, fun q => by unfold rReach at q; dsimp only at q; omega⟩⟩
  · refine s_n2_iload C dX3_reaches_4 ?_
    refine g_if_lt 22 C dX3_reaches_5 (by decide) (by unfold iR; omega) (fun c5 => ?_) (fun c5 => ?_)
    · refine g_iconst C dX3_reaches_22 ?_
      refine g_zret C E dX3_reaches_23 (by decide) (by omega) ?_
      exact ⟨rfl, rfl, Or.inr ⟨rfl, fun q => by unfold rReach at q; dsimp only at q; omega⟩⟩
    · refine s_n2_iload C dX3_reaches_8 ?_
      refine s_n0_aload C dX3_reaches_9 ?_
      refine g_get C fd_X3_15_3 dX3_reaches_10 (RW_0 ..) rfl ?_
      refine s_n1_iload C dX3_reaches_13 ?_
      refine g_isub C dX3_reaches_14 ?_
      refine g_icmp_gt 22 C dX3_reaches_15 (by decide) (by unfold iR; omega) (by unfold iR; omega) (fun c15 => ?_) (fun c15 => ?_)
      · refine g_iconst C dX3_reaches_22 ?_
        refine g_zret C E dX3_reaches_23 (by decide) (by omega) ?_
        exact ⟨rfl, rfl, Or.inr ⟨rfl, fun q => by unfold rReach at q; dsimp only at q; omega⟩⟩
      · refine g_iconst C dX3_reaches_18 ?_
        refine g_goto 23 C dX3_reaches_19 (by decide) ?_
        refine g_zret C E dX3_reaches_23 (by decide) (by omega) ?_
        exact ⟨rfl, rfl, Or.inl ⟨rfl, by unfold rReach; dsimp only; omega⟩⟩
set_option maxRecDepth 20000 in
theorem ct_X3_put {o : Int} {t : Int → Int} {ln k : Int} {M : gM} {n : Int} {i v : Int} (hl : 0 ≤ ln ∧ ln ≤ 2) (hi : 0 ≤ i ∧ i < 40) : CT yX3_put cX3_put 3 (some .int) (rmk 0 0 0) [vr o, vi i, vi v] (RW o (t, ln, k) M) n (qr (some (vi (rNar ln v))) (RW o (up t i (rNar ln v), ln, k) M) n) := by
  refine CT.of (by decide) (fun _ => Nat.le_of_ble_eq_true rfl) (fun κ C E => ?_)
  show G κ (RW o (t, ln, k) M) n [some (vr o), some (vi i), some (vi v)] 0 [] 0 0
  refine s_n0_aload C dX3_put_0 ?_
  refine g_get C fd_X3_19_3 dX3_put_1 (RW_0 ..) rfl ?_
  refine g_if_ne 18 C dX3_put_4 (by decide) (by unfold iR; omega) (fun c4 => ?_) (fun c4 => ?_)
  · refine s_n0_aload C dX3_put_18 ?_
    refine g_get C fd_X3_19_3 dX3_put_19 (RW_0 ..) rfl ?_
    refine g_iconst C dX3_put_22 ?_
    refine g_icmp_ne 37 C dX3_put_23 (by decide) (by unfold iR; omega) (by unfold iR; omega) (fun c23 => ?_) (fun c23 => ?_)
    · refine s_n0_aload C dX3_put_37 ?_
      refine g_get C fd_X3_9_3 dX3_put_38 (RW_0 ..) rfl ?_
      refine s_n1_iload C dX3_put_41 ?_
      refine s_n2_iload C dX3_put_42 ?_
      refine g_iast C dX3_put_43 (RW_1 ..) (by omega) ?_
      rw [RW_s1]
      refine s_n0_aload C dX3_put_44 ?_
      refine g_get C fd_X3_9_3 dX3_put_45 (RW_0 ..) rfl ?_
      refine s_n1_iload C dX3_put_48 ?_
      refine g_iald C dX3_put_49 (RW_1 ..) (by omega) ?_
      rw [up_same]
      refine g_iret C E dX3_put_50 (by decide) ?_
      rw [show rNar ln v = v by unfold rNar; rw [if_neg c4, if_neg c23]]
      exact ⟨rfl, rfl, rfl⟩
    · refine s_n0_aload C dX3_put_26 ?_
      refine g_get C fd_X3_9_3 dX3_put_27 (RW_0 ..) rfl ?_
      refine s_n1_iload C dX3_put_30 ?_
      refine s_n2_iload C dX3_put_31 ?_
      refine g_i2s C dX3_put_32 ?_
      refine g_iast C dX3_put_33 (RW_1 ..) (by omega) ?_
      rw [RW_s1]
      refine g_goto 44 C dX3_put_34 (by decide) ?_
      refine s_n0_aload C dX3_put_44 ?_
      refine g_get C fd_X3_9_3 dX3_put_45 (RW_0 ..) rfl ?_
      refine s_n1_iload C dX3_put_48 ?_
      refine g_iald C dX3_put_49 (RW_1 ..) (by omega) ?_
      rw [up_same]
      refine g_iret C E dX3_put_50 (by decide) ?_
      rw [show rNar ln v = v.bmod 65536 by unfold rNar; rw [if_neg c4, if_pos c23]]
      exact ⟨rfl, rfl, rfl⟩
  · refine s_n0_aload C dX3_put_7 ?_
    refine g_get C fd_X3_9_3 dX3_put_8 (RW_0 ..) rfl ?_
    refine s_n1_iload C dX3_put_11 ?_
    refine s_n2_iload C dX3_put_12 ?_
    refine g_i2b C dX3_put_13 ?_
    refine g_iast C dX3_put_14 (RW_1 ..) (by omega) ?_
    rw [RW_s1]
    refine g_goto 44 C dX3_put_15 (by decide) ?_
    refine s_n0_aload C dX3_put_44 ?_
    refine g_get C fd_X3_9_3 dX3_put_45 (RW_0 ..) rfl ?_
    refine s_n1_iload C dX3_put_48 ?_
    refine g_iald C dX3_put_49 (RW_1 ..) (by omega) ?_
    rw [up_same]
    refine g_iret C E dX3_put_50 (by decide) ?_
    rw [show rNar ln v = v.bmod 256 by unfold rNar; rw [if_pos c4]]
    exact ⟨rfl, rfl, rfl⟩
set_option maxRecDepth 20000 in
theorem ct_X3_tellsFilm {o : Int} {t : Int → Int} {ln k : Int} {M : gM} {n : Int} {i q : Int} {S : SLT} (hR : rowOK (t, ln, k)) (hS : sfOK S) (hq : SLi q S M) (hd : q + 4 ≤ o ∨ o + 2 ≤ q) (hi : 0 ≤ i ∧ i + 15 ≤ 40) : CT yX3_tellsFilm cX3_tellsFilm 4 (some .boolean) (rmk 0 0 0) [vr o, vi i, vr q] (RW o (t, ln, k) M) n (qr (some (vi (allI (fun c => decide (t (i + c) = S.1 c)) 15))) (RW o (t, ln, k) M) n) := by
  refine CT.of (by decide) (fun _ => Nat.le_of_ble_eq_true rfl) (fun κ C E => ?_)
  show G κ (RW o (t, ln, k) M) n [some (vr o), some (vi i), some (vr q), none] 0 [] 0 0
  have lp : ∀ (m : Nat) (c : Int), 0 ≤ c ∧ c ≤ 15 → allI (fun c => decide (t (i + c) = S.1 c)) c = 1 → (15 - c).toNat = m → G κ (RW o (t, ln, k) M) n [some (vr o), some (vi i), some (vr q), some (vi c)] 2 [] 0 0 := by
    intro m
    induction m using Nat.strongRecOn with
    | ind m ih =>
      intro c h1 h2 hm
      refine s_n3_iload C dX3_tellsFilm_2 ?_
      refine g_bipush C dX3_tellsFilm_3 (by decide) ?_
      refine g_icmp_ge 33 C dX3_tellsFilm_5 (by decide) (by unfold iR; omega) (by unfold iR; omega) (fun c5 => ?_) (fun c5 => ?_)
      · refine g_iconst C dX3_tellsFilm_33 ?_
        refine g_zret C E dX3_tellsFilm_34 (by decide) (by omega) ?_
        have e : c = 15 := by omega
        subst e
        rw [h2]
        exact ⟨rfl, rfl, rfl⟩
      · have b1 := hR.1 (i + c)
        have b2 := hS.1 c h1.1 (by omega)
        unfold iR at b1
        dsimp only at b1
        refine s_n0_aload C dX3_tellsFilm_8 ?_
        refine g_get C fd_X3_9_3 dX3_tellsFilm_9 (RW_0 ..) rfl ?_
        refine s_n1_iload C dX3_tellsFilm_12 ?_
        refine s_n3_iload C dX3_tellsFilm_13 ?_
        refine g_iadd C dX3_tellsFilm_14 ?_
        refine g_iald C dX3_tellsFilm_15 (RW_1 ..) (by omega) ?_
        refine s_n2_aload C dX3_tellsFilm_16 ?_
        refine g_getN C fd_X3_28_7 dX3_tellsFilm_17 ((RW_out _ _ (by omega)).trans hq.1) rfl ?_
        refine s_n3_iload C dX3_tellsFilm_20 ?_
        refine g_iald C dX3_tellsFilm_21 ((RW_out _ _ (by omega)).trans hq.2.1) (by omega) ?_
        refine g_icmp_eq 27 C dX3_tellsFilm_22 (by decide) (by unfold iR; omega) (by unfold iR; omega) (fun c22 => ?_) (fun c22 => ?_)
        · refine s_w3_iinc C dX3_tellsFilm_27 rfl ?_
          refine g_goto 2 C dX3_tellsFilm_30 (by decide) ?_
          refine ih _ (by omega) (c + 1) (by omega) ?_ rfl
          show itI _ _ (c + 1) = 1
          rw [itI_s _ _ h1.1]
          rw [if_neg (by intro q; have h3 := h2.symm.trans q; omega), if_pos (decide_eq_true c22)]
        · refine g_iconst C dX3_tellsFilm_25 ?_
          refine g_zret C E dX3_tellsFilm_26 (by decide) (by omega) ?_
          rw [allI_miss (i := c) h1.1 (by omega) (decide_eq_false c22)]
          exact ⟨rfl, rfl, rfl⟩
  refine g_iconst C dX3_tellsFilm_0 ?_
  refine s_n3_istore C dX3_tellsFilm_1 rfl ?_
  exact lp _ 0 (by omega) rfl rfl
set_option maxRecDepth 20000 in
theorem ct_X3_init {M : gM} {n : Int} : CT yX3_init cX3_init 1 none (rmk 1 1 40) [vr n] (gu M n (gO 3 [vn, vi 0, vi 0])) (n + 1) (qr none (RW n (fun _ => 0, 0, -1) M) (n + 2)) := by
  refine CT.of (by decide) (fun _ => Nat.le_of_ble_eq_true rfl) (fun κ C E => ?_)
  show G κ (gu M n (gO 3 [vn, vi 0, vi 0])) (n + 1) [some (vr n)] 0 [] 0 0
  refine s_n0_aload C dX3_init_0 ?_
  refine g_objInit C wd_86 wd_70 wdObj (by decide) (Nat.le_of_ble_eq_true rfl) rfl dX3_init_1 ?_
  refine s_n0_aload C dX3_init_4 ?_
  refine g_bipush C dX3_init_5 (by decide) ?_
  refine g_newI C wd_1178 dX3_init_7 (by omega) (by decide) ?_
  refine g_putF C rfl fp_X3_9_3 dX3_init_9 ((gu_ne _ _ (by omega)).trans (gu_same ..)) (Nat.le_of_ble_eq_true rfl) (gfit_a _ _) ?_
  refine s_n0_aload C dX3_init_12 ?_
  refine g_iconst C dX3_init_13 ?_
  refine g_put C fp_X3_15_3 dX3_init_14 (gu_same ..) (Nat.le_of_ble_eq_true rfl) (gfit_i _) ?_
  refine g_vret C E dX3_init_17 (by decide) ?_
  refine ⟨rfl, ?_, by omega⟩
  funext a
  unfold RW gu
  (repeat' split) <;> first | rfl | omega
