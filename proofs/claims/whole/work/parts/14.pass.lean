/-! PadPolish$Trace, PadPolish$Pass and its kinds -/
/-- a Trace: its numbers, how many -/
abbrev TLT : Type := (Int → Int) × (Int)
def TL (o : Int) (S : TLT) (M : gM) : gM := fun a => if a = o then some (gO 10 [vr (o + 1), vi S.2]) else if a = o + 1 then some (gA 0 16 S.1) else M a
theorem TL_0 (o : Int) (t : Int → Int) (k : Int) (M : gM) : TL o (t, k) M (o) = some (gO 10 [vr (o + 1), vi k]) := if_pos rfl
theorem TL_1 (o : Int) (t : Int → Int) (k : Int) (M : gM) : TL o (t, k) M (o + 1) = some (gA 0 16 t) := by unfold TL; rw [if_neg (by omega), if_pos rfl]
theorem TL_out {o a : Int} (S : TLT) (M : gM) (h : a < o ∨ o + 2 ≤ a) : TL o S M a = M a := by unfold TL; rw [if_neg (by omega), if_neg (by omega)]
theorem TL_p1 (o : Int) (t : Int → Int) (k : Int) (M : gM) (x : Int) : gu (TL o (t, k) M) (o) (gO 10 ([vr (o + 1), vi k].set 1 (vi x))) = TL o (t, x) M := by
  funext a
  by_cases h : a = o
  · rw [h, gu_same]; exact (TL_0 ..).symm
  · rw [gu_ne _ _ h]; unfold TL; simp only [if_neg h]
theorem TL_s1 (o : Int) (t : Int → Int) (k : Int) (M : gM) (x : Int → Int) : gu (TL o (t, k) M) (o + 1) (gA 0 16 x) = TL o (x, k) M := by
  funext a
  by_cases h : a = o + 1
  · rw [h, gu_same]; exact (TL_1 ..).symm
  · rw [gu_ne _ _ h]; unfold TL; simp only [if_neg h]
def TLi (o : Int) (S : TLT) (M : gM) : Prop := M (o) = some (gO 10 [vr (o + 1), vi S.2]) ∧ M (o + 1) = some (gA 0 16 S.1)
theorem TL_self {o : Int} {S : TLT} {M : gM} (h : TLi o S M) : TL o S M = M := by
  funext a
  unfold TL
  by_cases h0 : a = o
  · rw [if_pos h0, h0]; exact (h.1).symm
  by_cases h1 : a = o + 1
  · rw [if_neg h0, if_pos h1, h1]; exact (h.2).symm
  rw [if_neg h0, if_neg h1]
theorem TL_there (o : Int) (S : TLT) (M : gM) : TLi o S (TL o S M) := ⟨TL_0 o S.1 S.2 M, TL_1 o S.1 S.2 M⟩
theorem TL_twice (o : Int) (S S2 : TLT) (M : gM) : TL o S (TL o S2 M) = TL o S M := by
  funext a
  unfold TL
  by_cases h0 : a = o
  · simp only [if_pos h0]
  by_cases h1 : a = o + 1
  · simp only [if_neg h0, if_pos h1]
  simp only [if_neg h0, if_neg h1]
def tlLeave (T : TLT) (x : Int) : TLT := if T.2 < 16 then (up T.1 T.2 x, T.2 + 1) else T
def tlOK (T : TLT) : Prop := 0 ≤ T.2 ∧ T.2 ≤ 16
theorem tlLeave_ok {T : TLT} (h : tlOK T) (x : Int) : tlOK (tlLeave T x) := by
  unfold tlLeave tlOK at *
  split
  · dsimp only; omega
  · exact h
theorem k_dry {o : Int} {S : SLT} {M : gM} {n : Int} (hS : sfOK S) : CT yX7_dryPad cX7_dryPad 1 none (rmk 1 0 0) [vr o] (SL o S M) n (qr none (SL o (sfDry S) M) n) := by
  obtain ⟨f, s, h, w, l, p⟩ := S
  exact ct_X7_dryPad hS
theorem k_lay {o : Int} {S : SLT} {M : gM} {n : Int} {c a : Int} (hS : sfOK S) (hc : 0 ≤ c ∧ c < 15) (ha : 0 ≤ a ∧ a ≤ 1000) : CT yX7_layFilm cX7_layFilm 4 none (rmk 1 0 0) [vr o, vi c, vi a] (SL o S M) n (qr none (SL o (sfLay S c a) M) n) := by
  obtain ⟨f, s, h, w, l, p⟩ := S
  exact ct_X7_layFilm hS hc ha
theorem k_haze {o : Int} {S : SLT} {M : gM} {n : Int} {c : Int} (hS : sfOK S) (hc : 0 ≤ c ∧ c < 15) : CT yX7_layHaze cX7_layHaze 2 none (rmk 1 0 0) [vr o, vi c] (SL o S M) n (qr none (SL o (sfHaze S c) M) n) := by
  obtain ⟨f, s, h, w, l, p⟩ := S
  exact ct_X7_layHaze hS hc
theorem k_takeHaze {o : Int} {S : SLT} {M : gM} {n : Int} {c k : Int} (hS : sfOK S) (hc : 0 ≤ c ∧ c < 15) (hk : 0 ≤ k ∧ k ≤ 1000) : CT yX7_takeHaze cX7_takeHaze 3 none (rmk 1 0 0) [vr o, vi c, vi k] (SL o S M) n (qr none (SL o (sfTakeHaze S c k) M) n) := by
  obtain ⟨f, s, h, w, l, p⟩ := S
  exact ct_X7_takeHaze hS hc hk
theorem k_takeSoft {o : Int} {S : SLT} {M : gM} {n : Int} {c k : Int} (hc : 0 ≤ c ∧ c < 15) : CT yX7_takeSoft cX7_takeSoft 3 none (rmk 0 0 0) [vr o, vi c, vi k] (SL o S M) n (qr none (SL o (sfTakeSoft S c k) M) n) := by
  obtain ⟨f, s, h, w, l, p⟩ := S
  exact ct_X7_takeSoft hc
theorem k_scratch {o : Int} {S : SLT} {M : gM} {n : Int} {c : Int} (hS : sfOK S) (hc : 0 ≤ c ∧ c < 15) : CT yX7_scratch cX7_scratch 2 none (rmk 1 0 0) [vr o, vi c] (SL o S M) n (qr none (SL o (sfScratch S c) M) n) := by
  obtain ⟨f, s, h, w, l, p⟩ := S
  exact ct_X7_scratch hS hc
theorem k_tear {o : Int} {S : SLT} {M : gM} {n : Int} {c : Int} (hS : sfOK S) (hc : 0 ≤ c ∧ c < 15) : CT yX7_tearAt cX7_tearAt 2 none (rmk 1 0 0) [vr o, vi c] (SL o S M) n (qr none (SL o (sfTear S c) M) n) := by
  obtain ⟨f, s, h, w, l, p⟩ := S
  exact ct_X7_tearAt hS hc
theorem k_soak {o : Int} {S : SLT} {M : gM} {n : Int} {mw mo : Int} (hS : sfOK S) (hm : 0 ≤ mw ∧ mw ≤ 99 ∧ 0 ≤ mo ∧ mo ≤ 99) : CT yX7_soakPad cX7_soakPad 4 none (rmk 1 0 0) [vr o, vi mw, vi mo] (SL o S M) n (qr none (SL o (sfSoak S mw mo) M) n) := by
  obtain ⟨f, s, h, w, l, p⟩ := S
  exact ct_X7_soakPad hS hm
theorem k_sink {o : Int} {S : SLT} {M : gM} {n : Int} {k : Int} (hS : sfOK S) (hk : 0 ≤ k ∧ k ≤ 99) : CT yX7_sinkBy cX7_sinkBy 3 none (rmk 2 0 0) [vr o, vi k] (SL o S M) n (qr none (SL o (sfSink S k) M) n) := by
  obtain ⟨f, s, h, w, l, p⟩ := S
  exact ct_X7_sinkBy hS hk
theorem k_all {o : Int} {S : SLT} {M : gM} {n : Int}  : CT yX7_allFilm cX7_allFilm 6 (some .int) (rmk 0 0 0) [vr o] (SL o S M) n (qr (some (vi (sfAll S))) (SL o S M) n) := by
  obtain ⟨f, s, h, w, l, p⟩ := S
  exact ct_X7_allFilm 
theorem k_uneven {o : Int} {S : SLT} {M : gM} {n : Int} (hS : sfOK S) : CT yX7_unevenness cX7_unevenness 6 (some .int) (rmk 2 0 0) [vr o] (SL o S M) n (qr (some (vi (sfUneven S))) (SL o S M) n) := by
  obtain ⟨f, s, h, w, l, p⟩ := S
  exact ct_X7_unevenness hS
theorem k_thinCells {o : Int} {S : SLT} {M : gM} {n : Int} (hS : sfOK S) : CT yX7_thinnestCells cX7_thinnestCells 4 (some .int) (rmk 2 0 0) [vr o] (SL o S M) n (qr (some (vi (sfThinCells S))) (SL o S M) n) := by
  obtain ⟨f, s, h, w, l, p⟩ := S
  exact ct_X7_thinnestCells hS
theorem k_lack {o : Int} {S : SLT} {M : gM} {n : Int} {t cs : Int} (hS : sfOK S) (ht : 0 ≤ t ∧ t ≤ 999) : CT yX7_lackTo cX7_lackTo 5 (some .int) (rmk 1 0 0) [vr o, vi t, vi cs] (SL o S M) n (qr (some (vi (sfLack S t cs))) (SL o S M) n) := by
  obtain ⟨f, s, h, w, l, p⟩ := S
  exact ct_X7_lackTo hS ht
theorem k_become {o : Int} {S : SLT} {M : gM} {n : Int} {q : Int} {T : SLT} (hq : SLi q T M) (hd : q + 4 ≤ o ∨ o + 4 ≤ q) : CT yX7_become cX7_become 2 none (rmk 1 0 0) [vr o, vr q] (SL o S M) n (qr none (SL o (T) M) n) := by
  obtain ⟨f, s, h, w, l, p⟩ := S
  exact ct_X7_become hq hd
theorem k_wipe {o : Int} {S : SLT} {M : gM} {n : Int}  : CT yX7_wipe cX7_wipe 1 none (rmk 1 0 0) [vr o] (SL o S M) n (qr none (SL o ((fun _ => 0, fun _ => 0, fun _ => 0, 0, 0, 0)) M) n) := by
  obtain ⟨f, s, h, w, l, p⟩ := S
  exact ct_X7_wipe 
theorem sfOK_mk {f s h : Int → Int} {w l p : Int} (h1 : ∀ c, 0 ≤ c → c < 15 → 0 ≤ f c ∧ f c ≤ 999 ∧ 0 ≤ s c ∧ s c ≤ f c ∧ 0 ≤ h c ∧ h c ≤ 99) (h2 : 0 ≤ w ∧ w ≤ 99 ∧ 0 ≤ l ∧ l ≤ 99) : sfOK (f, s, h, w, l, p) := ⟨h1, h2⟩
theorem sfDry_ok {S : SLT} (h : sfOK S) : sfOK (sfDry S) := ⟨h.1, by have := h.2; dsimp only [sfDry]; omega⟩
theorem sfLay_ok {S : SLT} {c a : Int} (h : sfOK S) (ha : 0 ≤ a) : sfOK (sfLay S c a) := by
  obtain ⟨f, s, q, w, l, p⟩ := S
  refine sfOK_mk (f := up f c (f c + min a (999 - f c))) (s := up s c (s c + min a (999 - f c))) (h := q) (fun j h1 h2 => ?_) h.2
  have b : 0 ≤ f j ∧ f j ≤ 999 ∧ 0 ≤ s j ∧ s j ≤ f j ∧ 0 ≤ q j ∧ q j ≤ 99 := h.1 j h1 h2
  rcases up3 f s q c (f c + min a (999 - f c)) (s c + min a (999 - f c)) 0 j with ⟨e, e1, e2, -⟩ | ⟨e, e1, e2, -⟩
  · rw [e1, e2]; subst e; omega
  · rw [e1, e2]; exact b
theorem sfHaze_ok {S : SLT} {c : Int} (h : sfOK S) : sfOK (sfHaze S c) := by
  refine sfOK_mk (fun j h1 h2 => ?_) h.2
  have b := h.1 j h1 h2
  have b2 := h.2
  rcases up3 S.1 S.2.1 S.2.2.1 c 0 0 (min (S.2.2.1 c + S.2.2.2.2.1 / 4) 99) j with ⟨e, -, -, e3⟩ | ⟨e, -, -, e3⟩
  · rw [e3]; subst e; omega
  · rw [e3]; exact b
theorem sfTakeHaze_ok {S : SLT} {c k : Int} (h : sfOK S) (hk : 0 ≤ k) : sfOK (sfTakeHaze S c k) := by
  refine sfOK_mk (fun j h1 h2 => ?_) h.2
  have b := h.1 j h1 h2
  rcases up3 S.1 S.2.1 S.2.2.1 c 0 0 (max (S.2.2.1 c - k) 0) j with ⟨e, -, -, e3⟩ | ⟨e, -, -, e3⟩
  · rw [e3]; subst e; omega
  · rw [e3]; exact b
theorem sfTakeSoft_ok {S : SLT} {c k : Int} (h : sfOK S) (hk : 0 ≤ k) (hs : k ≤ S.2.1 c) : sfOK (sfTakeSoft S c k) := by
  obtain ⟨f, s, q, w, l, p⟩ := S
  have hs : k ≤ s c := hs
  refine sfOK_mk (f := up f c (f c - k)) (s := up s c (s c - k)) (h := q) (fun j h1 h2 => ?_) h.2
  have b : 0 ≤ f j ∧ f j ≤ 999 ∧ 0 ≤ s j ∧ s j ≤ f j ∧ 0 ≤ q j ∧ q j ≤ 99 := h.1 j h1 h2
  rcases up3 f s q c (f c - k) (s c - k) 0 j with ⟨e, e1, e2, -⟩ | ⟨e, e1, e2, -⟩
  · rw [e1, e2]; subst e; omega
  · rw [e1, e2]; exact b
theorem sfScratch_ok {S : SLT} {c : Int} (h : sfOK S) : sfOK (sfScratch S c) := by
  obtain ⟨f, s, q, w, l, p⟩ := S
  refine sfOK_mk (f := up f c (max (f c - 2) 0)) (s := up s c (min (s c) (max (f c - 2) 0))) (h := q) (fun j h1 h2 => ?_) h.2
  have b : 0 ≤ f j ∧ f j ≤ 999 ∧ 0 ≤ s j ∧ s j ≤ f j ∧ 0 ≤ q j ∧ q j ≤ 99 := h.1 j h1 h2
  rcases up3 f s q c (max (f c - 2) 0) (min (s c) (max (f c - 2) 0)) 0 j with ⟨e, e1, e2, -⟩ | ⟨e, e1, e2, -⟩
  · rw [e1, e2]; subst e; omega
  · rw [e1, e2]; exact b
theorem sfTear_ok {S : SLT} {c : Int} (h : sfOK S) : sfOK (sfTear S c) := by
  obtain ⟨f, s, q, w, l, p⟩ := S
  refine sfOK_mk (f := up f c (max (f c - 10) 0)) (s := up s c (0)) (h := q) (fun j h1 h2 => ?_) h.2
  have b : 0 ≤ f j ∧ f j ≤ 999 ∧ 0 ≤ s j ∧ s j ≤ f j ∧ 0 ≤ q j ∧ q j ≤ 99 := h.1 j h1 h2
  rcases up3 f s q c (max (f c - 10) 0) (0) 0 j with ⟨e, e1, e2, -⟩ | ⟨e, e1, e2, -⟩
  · rw [e1, e2]; subst e; omega
  · rw [e1, e2]; exact b
theorem sfSoak_ok {S : SLT} {mw mo : Int} (h : sfOK S) (hm : 0 ≤ mw ∧ 0 ≤ mo) : sfOK (sfSoak S mw mo) := ⟨h.1, by have := h.2; dsimp only [sfSoak]; omega⟩
theorem sfSinkAt_ok2 {S : SLT} {c k : Int} (h : sfOK S) (hc : 0 ≤ c ∧ c < 15) (hk : 0 ≤ k ∧ k ≤ 99) : sfOK (sfSinkAt k c S) := by
  obtain ⟨f, s, hh, w, l, p⟩ := S
  exact sfSinkAt_ok h hc hk
theorem sfSink_ok {S : SLT} {k : Int} (h : sfOK S) (hk : 0 ≤ k ∧ k ≤ 99) : sfOK (sfSink S k) := by
  have := itI_inv (g := sfSinkAt k) (a := S) (fun i x => i ≤ 15 → sfOK x) (fun _ => h) (fun i x hi hx h15 => sfSinkAt_ok2 (hx (by omega)) ⟨hi, by omega⟩ hk) (i := 15) (by decide)
  exact this (by decide)
/-- what a pass does first, and what it lays, by its class's number -/
def pFirst (ci : Nat) (S : SLT) (c : Int) : SLT := if ci = 5 then sfTakeSoft S c (S.2.1 c / 2) else if ci = 2 then (if S.2.2.2.1 = 0 then sfScratch S c else S) else S
def pLaid (ci : Nat) (x : Int) : Int := if ci = 5 then x * 2 else if ci = 2 then x / 2 else x
def pTouch (ci : Nat) (c : Int) (S : SLT) : SLT :=
  if ci = 1 ∨ ci = 6 then sfDry (sfTakeSoft (sfTakeHaze S c (if ci = 6 then 8 else 4)) c (min (S.2.1 c) 1))
  else sfDry (sfHaze (sfLay (pFirst ci S c) c (pLaid ci ((pFirst ci S c).2.2.2.1 / 4))) c)
theorem pFirst_ok {ci : Nat} {S : SLT} {c : Int} (h : sfOK S) (hc : 0 ≤ c ∧ c < 15) : sfOK (pFirst ci S c) := by
  have b := h.1 c hc.1 hc.2
  unfold pFirst
  split
  · exact sfTakeSoft_ok h (by omega) (by omega)
  · split
    · split
      · exact sfScratch_ok h
      · exact h
    · exact h
theorem pLaid_b {ci : Nat} {x : Int} (h : 0 ≤ x ∧ x ≤ 24) : 0 ≤ pLaid ci x ∧ pLaid ci x ≤ 1000 := by
  unfold pLaid
  split
  · omega
  · split <;> omega
theorem pTouch_ok {ci : Nat} {S : SLT} {c : Int} (h : sfOK S) (hc : 0 ≤ c ∧ c < 15) : sfOK (pTouch ci c S) := by
  have b := h.1 c hc.1 hc.2
  unfold pTouch
  split
  · refine sfDry_ok (sfTakeSoft_ok (sfTakeHaze_ok h (by split <;> omega)) (by omega) ?_)
    show min (S.2.1 c) 1 ≤ S.2.1 c
    omega
  · have h1 := pFirst_ok (ci := ci) h hc
    have b1 := h1.2
    exact sfDry_ok (sfHaze_ok (sfLay_ok h1 (pLaid_b (by omega)).1))
set_option maxRecDepth 20000 in
theorem ct_X0_kindNumber {M : gM} {n : Int} {a : Int} : CT yX0_kindNumber cX0_kindNumber 1 (some .int) (rmk 0 0 0) [vr a] M n (qr (some (vi (4))) M n) := by
  refine CT.of (by decide) (fun _ => Nat.le_of_ble_eq_true rfl) (fun κ C E => ?_)
  show G κ M n [some (vr a)] 0 [] 0 0
  refine g_iconst C dX0_kindNumber_0 ?_
  refine g_iret C E dX0_kindNumber_1 (by decide) ?_
  exact ⟨rfl, rfl, rfl⟩
set_option maxRecDepth 20000 in
theorem ct_X1_kindNumber {M : gM} {n : Int} {a : Int} : CT yX1_kindNumber cX1_kindNumber 1 (some .int) (rmk 0 0 0) [vr a] M n (qr (some (vi (3))) M n) := by
  refine CT.of (by decide) (fun _ => Nat.le_of_ble_eq_true rfl) (fun κ C E => ?_)
  show G κ M n [some (vr a)] 0 [] 0 0
  refine g_iconst C dX1_kindNumber_0 ?_
  refine g_iret C E dX1_kindNumber_1 (by decide) ?_
  exact ⟨rfl, rfl, rfl⟩
set_option maxRecDepth 20000 in
theorem ct_X4_kindNumber {M : gM} {n : Int} {a : Int} : CT yX4_kindNumber cX4_kindNumber 1 (some .int) (rmk 0 0 0) [vr a] M n (qr (some (vi (1))) M n) := by
  refine CT.of (by decide) (fun _ => Nat.le_of_ble_eq_true rfl) (fun κ C E => ?_)
  show G κ M n [some (vr a)] 0 [] 0 0
  refine g_iconst C dX4_kindNumber_0 ?_
  refine g_iret C E dX4_kindNumber_1 (by decide) ?_
  exact ⟨rfl, rfl, rfl⟩
set_option maxRecDepth 20000 in
theorem ct_X5_kindNumber {M : gM} {n : Int} {a : Int} : CT yX5_kindNumber cX5_kindNumber 1 (some .int) (rmk 0 0 0) [vr a] M n (qr (some (vi (2))) M n) := by
  refine CT.of (by decide) (fun _ => Nat.le_of_ble_eq_true rfl) (fun κ C E => ?_)
  show G κ M n [some (vr a)] 0 [] 0 0
  refine g_iconst C dX5_kindNumber_0 ?_
  refine g_iret C E dX5_kindNumber_1 (by decide) ?_
  exact ⟨rfl, rfl, rfl⟩
set_option maxRecDepth 20000 in
theorem ct_X6_kindNumber {M : gM} {n : Int} {a : Int} : CT yX6_kindNumber cX6_kindNumber 1 (some .int) (rmk 0 0 0) [vr a] M n (qr (some (vi (5))) M n) := by
  refine CT.of (by decide) (fun _ => Nat.le_of_ble_eq_true rfl) (fun κ C E => ?_)
  show G κ M n [some (vr a)] 0 [] 0 0
  refine g_iconst C dX6_kindNumber_0 ?_
  refine g_iret C E dX6_kindNumber_1 (by decide) ?_
  exact ⟨rfl, rfl, rfl⟩
set_option maxRecDepth 20000 in
theorem ct_X0_clearedHaze {M : gM} {n : Int} {a : Int} : CT yX0_clearedHaze cX0_clearedHaze 1 (some .int) (rmk 0 0 0) [vr a] M n (qr (some (vi (4))) M n) := by
  refine CT.of (by decide) (fun _ => Nat.le_of_ble_eq_true rfl) (fun κ C E => ?_)
  show G κ M n [some (vr a)] 0 [] 0 0
  refine g_iconst C dX0_clearedHaze_0 ?_
  refine g_iret C E dX0_clearedHaze_1 (by decide) ?_
  exact ⟨rfl, rfl, rfl⟩
set_option maxRecDepth 20000 in
theorem ct_X6_clearedHaze {M : gM} {n : Int} {a : Int} : CT yX6_clearedHaze cX6_clearedHaze 1 (some .int) (rmk 0 0 0) [vr a] M n (qr (some (vi (8))) M n) := by
  refine CT.of (by decide) (fun _ => Nat.le_of_ble_eq_true rfl) (fun κ C E => ?_)
  show G κ M n [some (vr a)] 0 [] 0 0
  refine g_bipush C dX6_clearedHaze_0 (by decide) ?_
  refine g_iret C E dX6_clearedHaze_2 (by decide) ?_
  exact ⟨rfl, rfl, rfl⟩
set_option maxRecDepth 20000 in
theorem ct_X4_laid {M : gM} {n : Int} {a x : Int} : CT yX4_laid cX4_laid 2 (some .int) (rmk 0 0 0) [vr a, vi x] M n (qr (some (vi (x))) M n) := by
  refine CT.of (by decide) (fun _ => Nat.le_of_ble_eq_true rfl) (fun κ C E => ?_)
  show G κ M n [some (vr a), some (vi x)] 0 [] 0 0
  refine s_n1_iload C dX4_laid_0 ?_
  refine g_iret C E dX4_laid_1 (by decide) ?_
  exact ⟨rfl, rfl, rfl⟩
set_option maxRecDepth 20000 in
theorem ct_X5_laid {M : gM} {n : Int} {a x : Int} : CT yX5_laid cX5_laid 2 (some .int) (rmk 0 0 0) [vr a, vi x] M n (qr (some (vi (x * 2))) M n) := by
  refine CT.of (by decide) (fun _ => Nat.le_of_ble_eq_true rfl) (fun κ C E => ?_)
  show G κ M n [some (vr a), some (vi x)] 0 [] 0 0
  refine s_n1_iload C dX5_laid_0 ?_
  refine g_iconst C dX5_laid_1 ?_
  refine g_imul C dX5_laid_2 ?_
  refine g_iret C E dX5_laid_3 (by decide) ?_
  exact ⟨rfl, rfl, rfl⟩
set_option maxRecDepth 20000 in
theorem ct_X1_laid {M : gM} {n : Int} {a x : Int} (hx : 0 ≤ x ∧ x ≤ 1000) : CT yX1_laid cX1_laid 2 (some .int) (rmk 0 0 0) [vr a, vi x] M n (qr (some (vi (x / 2))) M n) := by
  refine CT.of (by decide) (fun _ => Nat.le_of_ble_eq_true rfl) (fun κ C E => ?_)
  show G κ M n [some (vr a), some (vi x)] 0 [] 0 0
  refine s_n1_iload C dX1_laid_0 ?_
  refine g_iconst C dX1_laid_1 ?_
  refine g_idiv C dX1_laid_2 (by omega) ?_
  refine g_iret C E dX1_laid_3 (by decide) ?_
  exact ⟨rfl, rfl, rfl⟩
set_option maxRecDepth 20000 in
theorem ct_X4_takeFirst {a o c : Int} {S : SLT} {M : gM} {n : Int} : CT yX4_takeFirst cX4_takeFirst 3 none (rmk 0 0 0) [vr a, vr o, vi c] (SL o S M) n (qr none (SL o (pFirst 4 S c) M) n) := by
  refine CT.of (by decide) (fun _ => Nat.le_of_ble_eq_true rfl) (fun κ C E => ?_)
  show G κ (SL o S M) n [some (vr a), some (vr o), some (vi c)] 0 [] 0 0
  refine g_vret C E dX4_takeFirst_0 (by decide) ?_
  exact ⟨rfl, rfl, rfl⟩
set_option maxRecDepth 20000 in
theorem ct_X5_takeFirst {a o c : Int} {S : SLT} {M : gM} {n : Int} (hS : sfOK S) (hc : 0 ≤ c ∧ c < 15) : CT yX5_takeFirst cX5_takeFirst 3 none (rmk 1 0 0) [vr a, vr o, vi c] (SL o S M) n (qr none (SL o (pFirst 5 S c) M) n) := by
  refine CT.of (by decide) (fun _ => Nat.le_of_ble_eq_true rfl) (fun κ C E => ?_)
  show G κ (SL o S M) n [some (vr a), some (vr o), some (vi c)] 0 [] 0 0
  have b := hS.1 c hc.1 hc.2
  refine s_n1_aload C dX5_takeFirst_0 ?_
  refine s_n2_iload C dX5_takeFirst_1 ?_
  refine s_n1_aload C dX5_takeFirst_2 ?_
  refine g_getN C fd_X5_7_7 dX5_takeFirst_3 (SL_there ..).1 rfl ?_
  refine s_n2_iload C dX5_takeFirst_6 ?_
  refine g_iald C dX5_takeFirst_7 (SL_there ..).2.2.1 (by omega) ?_
  refine g_iconst C dX5_takeFirst_8 ?_
  refine g_idiv C dX5_takeFirst_9 (by omega) ?_
  refine g_invV C (k_takeSoft hc) (SL_there ..).1 cv_X5_13_7 (rmk_ok (by decide) (by decide) (by decide) (by decide)) (Nat.le_of_ble_eq_true rfl) rfl dX5_takeFirst_10 rfl (q_v ?_)
  refine g_vret C E dX5_takeFirst_13 (by decide) ?_
  exact ⟨rfl, rfl, rfl⟩
set_option maxRecDepth 20000 in
theorem ct_X1_takeFirst {a o c : Int} {S : SLT} {M : gM} {n : Int} (hS : sfOK S) (hc : 0 ≤ c ∧ c < 15) : CT yX1_takeFirst cX1_takeFirst 3 none (rmk 2 0 0) [vr a, vr o, vi c] (SL o S M) n (qr none (SL o (pFirst 2 S c) M) n) := by
  refine CT.of (by decide) (fun _ => Nat.le_of_ble_eq_true rfl) (fun κ C E => ?_)
  show G κ (SL o S M) n [some (vr a), some (vr o), some (vi c)] 0 [] 0 0
  have b := hS.2
  refine s_n1_aload C dX1_takeFirst_0 ?_
  refine g_getN C fd_X1_7_7 dX1_takeFirst_1 (SL_there ..).1 rfl ?_
  refine g_if_ne 12 C dX1_takeFirst_4 (by decide) (by unfold iR; omega) (fun c4 => ?_) (fun c4 => ?_)
  · refine g_vret C E dX1_takeFirst_12 (by decide) ?_
    refine ⟨rfl, ?_, rfl⟩
    unfold pFirst
    rw [if_neg (by decide), if_pos rfl, if_neg c4]
  · refine s_n1_aload C dX1_takeFirst_7 ?_
    refine s_n2_iload C dX1_takeFirst_8 ?_
    refine g_invV C (k_scratch hS hc) (SL_there ..).1 cv_X1_13_7 (rmk_ok (by decide) (by decide) (by decide) (by decide)) (Nat.le_of_ble_eq_true rfl) rfl dX1_takeFirst_9 rfl (q_v ?_)
    refine g_vret C E dX1_takeFirst_12 (by decide) ?_
    refine ⟨rfl, ?_, rfl⟩
    unfold pFirst
    rw [if_neg (by decide), if_pos rfl, if_pos c4]
set_option maxRecDepth 20000 in
theorem ct_X4_touch_4 {a o c : Int} {S : SLT} {M : gM} {n : Int} {fs : List gV} (hS : sfOK S) (hc : 0 ≤ c ∧ c < 15) (ha : M a = some (gO 4 fs)) (hd : a < o ∨ o + 4 ≤ a) : CT yX4_touch cX4_touch 3 none (rmk 3 0 0) [vr a, vr o, vi c] (SL o S M) n (qr none (SL o (pTouch 4 c S) M) n) := by
  refine CT.of (by decide) (fun _ => Nat.le_of_ble_eq_true rfl) (fun κ C E => ?_)
  show G κ (SL o S M) n [some (vr a), some (vr o), some (vi c)] 0 [] 0 0
  have h1 := pFirst_ok (ci := 4) hS hc
  have b1 := h1.2
  have b2 := pLaid_b (ci := 4) (x := (pFirst 4 S c).2.2.2.1 / 4) (by omega)
  have h2 := sfLay_ok (c := c) h1 b2.1
  have h3 := sfHaze_ok (c := c) h2
  refine s_n0_aload C dX4_touch_0 ?_
  refine s_n1_aload C dX4_touch_1 ?_
  refine s_n2_iload C dX4_touch_2 ?_
  refine g_invV C (ct_X4_takeFirst) ((SL_out _ _ hd).trans ha) cv_X4_7_4 (rmk_ok (by decide) (by decide) (by decide) (by decide)) (Nat.le_of_ble_eq_true rfl) rfl dX4_touch_3 rfl (q_v ?_)
  refine s_n1_aload C dX4_touch_6 ?_
  refine s_n2_iload C dX4_touch_7 ?_
  refine s_n0_aload C dX4_touch_8 ?_
  refine s_n1_aload C dX4_touch_9 ?_
  refine g_getN C fd_X4_13_7 dX4_touch_10 (SL_there ..).1 rfl ?_
  refine g_iconst C dX4_touch_13 ?_
  refine g_idiv C dX4_touch_14 (by omega) ?_
  refine g_invV C (ct_X4_laid) ((SL_out _ _ hd).trans ha) cv_X4_19_4 (rmk_ok (by decide) (by decide) (by decide) (by decide)) (Nat.le_of_ble_eq_true rfl) rfl dX4_touch_15 rfl (q_r ?_)
  refine g_invV C (k_lay h1 hc b2) (SL_there ..).1 cv_X4_23_7 (rmk_ok (by decide) (by decide) (by decide) (by decide)) (Nat.le_of_ble_eq_true rfl) rfl dX4_touch_18 rfl (q_v ?_)
  refine s_n1_aload C dX4_touch_21 ?_
  refine s_n2_iload C dX4_touch_22 ?_
  refine g_invV C (k_haze h2 hc) (SL_there ..).1 cv_X4_27_7 (rmk_ok (by decide) (by decide) (by decide) (by decide)) (Nat.le_of_ble_eq_true rfl) rfl dX4_touch_23 rfl (q_v ?_)
  refine s_n1_aload C dX4_touch_26 ?_
  refine g_invV C (k_dry h3) (SL_there ..).1 cv_X4_31_7 (rmk_ok (by decide) (by decide) (by decide) (by decide)) (Nat.le_of_ble_eq_true rfl) rfl dX4_touch_27 rfl (q_v ?_)
  refine g_vret C E dX4_touch_30 (by decide) ?_
  exact ⟨rfl, rfl, rfl⟩
set_option maxRecDepth 20000 in
theorem ct_X4_touch_5 {a o c : Int} {S : SLT} {M : gM} {n : Int} {fs : List gV} (hS : sfOK S) (hc : 0 ≤ c ∧ c < 15) (ha : M a = some (gO 5 fs)) (hd : a < o ∨ o + 4 ≤ a) : CT yX4_touch cX4_touch 3 none (rmk 3 0 0) [vr a, vr o, vi c] (SL o S M) n (qr none (SL o (pTouch 5 c S) M) n) := by
  refine CT.of (by decide) (fun _ => Nat.le_of_ble_eq_true rfl) (fun κ C E => ?_)
  show G κ (SL o S M) n [some (vr a), some (vr o), some (vi c)] 0 [] 0 0
  have h1 := pFirst_ok (ci := 5) hS hc
  have b1 := h1.2
  have b2 := pLaid_b (ci := 5) (x := (pFirst 5 S c).2.2.2.1 / 4) (by omega)
  have h2 := sfLay_ok (c := c) h1 b2.1
  have h3 := sfHaze_ok (c := c) h2
  refine s_n0_aload C dX4_touch_0 ?_
  refine s_n1_aload C dX4_touch_1 ?_
  refine s_n2_iload C dX4_touch_2 ?_
  refine g_invU C (ct_X5_takeFirst hS hc) ((SL_out _ _ hd).trans ha) cu_X4_7_5 (rmk_ok (by decide) (by decide) (by decide) (by decide)) (Nat.le_of_ble_eq_true rfl) rfl dX4_touch_3 rfl (q_v ?_)
  refine s_n1_aload C dX4_touch_6 ?_
  refine s_n2_iload C dX4_touch_7 ?_
  refine s_n0_aload C dX4_touch_8 ?_
  refine s_n1_aload C dX4_touch_9 ?_
  refine g_getN C fd_X4_13_7 dX4_touch_10 (SL_there ..).1 rfl ?_
  refine g_iconst C dX4_touch_13 ?_
  refine g_idiv C dX4_touch_14 (by omega) ?_
  refine g_invU C (ct_X5_laid) ((SL_out _ _ hd).trans ha) cu_X4_19_5 (rmk_ok (by decide) (by decide) (by decide) (by decide)) (Nat.le_of_ble_eq_true rfl) rfl dX4_touch_15 rfl (q_r ?_)
  refine g_invV C (k_lay h1 hc b2) (SL_there ..).1 cv_X4_23_7 (rmk_ok (by decide) (by decide) (by decide) (by decide)) (Nat.le_of_ble_eq_true rfl) rfl dX4_touch_18 rfl (q_v ?_)
  refine s_n1_aload C dX4_touch_21 ?_
  refine s_n2_iload C dX4_touch_22 ?_
  refine g_invV C (k_haze h2 hc) (SL_there ..).1 cv_X4_27_7 (rmk_ok (by decide) (by decide) (by decide) (by decide)) (Nat.le_of_ble_eq_true rfl) rfl dX4_touch_23 rfl (q_v ?_)
  refine s_n1_aload C dX4_touch_26 ?_
  refine g_invV C (k_dry h3) (SL_there ..).1 cv_X4_31_7 (rmk_ok (by decide) (by decide) (by decide) (by decide)) (Nat.le_of_ble_eq_true rfl) rfl dX4_touch_27 rfl (q_v ?_)
  refine g_vret C E dX4_touch_30 (by decide) ?_
  exact ⟨rfl, rfl, rfl⟩
set_option maxRecDepth 20000 in
theorem ct_X4_touch_2 {a o c : Int} {S : SLT} {M : gM} {n : Int} {fs : List gV} (hS : sfOK S) (hc : 0 ≤ c ∧ c < 15) (ha : M a = some (gO 2 fs)) (hd : a < o ∨ o + 4 ≤ a) : CT yX4_touch cX4_touch 3 none (rmk 3 0 0) [vr a, vr o, vi c] (SL o S M) n (qr none (SL o (pTouch 2 c S) M) n) := by
  refine CT.of (by decide) (fun _ => Nat.le_of_ble_eq_true rfl) (fun κ C E => ?_)
  show G κ (SL o S M) n [some (vr a), some (vr o), some (vi c)] 0 [] 0 0
  have h1 := pFirst_ok (ci := 2) hS hc
  have b1 := h1.2
  have b2 := pLaid_b (ci := 2) (x := (pFirst 2 S c).2.2.2.1 / 4) (by omega)
  have h2 := sfLay_ok (c := c) h1 b2.1
  have h3 := sfHaze_ok (c := c) h2
  refine s_n0_aload C dX4_touch_0 ?_
  refine s_n1_aload C dX4_touch_1 ?_
  refine s_n2_iload C dX4_touch_2 ?_
  refine g_invU C (ct_X1_takeFirst hS hc) ((SL_out _ _ hd).trans ha) cu_X4_7_2 (rmk_ok (by decide) (by decide) (by decide) (by decide)) (Nat.le_of_ble_eq_true rfl) rfl dX4_touch_3 rfl (q_v ?_)
  refine s_n1_aload C dX4_touch_6 ?_
  refine s_n2_iload C dX4_touch_7 ?_
  refine s_n0_aload C dX4_touch_8 ?_
  refine s_n1_aload C dX4_touch_9 ?_
  refine g_getN C fd_X4_13_7 dX4_touch_10 (SL_there ..).1 rfl ?_
  refine g_iconst C dX4_touch_13 ?_
  refine g_idiv C dX4_touch_14 (by omega) ?_
  refine g_invU C (ct_X1_laid (by omega)) ((SL_out _ _ hd).trans ha) cu_X4_19_2 (rmk_ok (by decide) (by decide) (by decide) (by decide)) (Nat.le_of_ble_eq_true rfl) rfl dX4_touch_15 rfl (q_r ?_)
  refine g_invV C (k_lay h1 hc b2) (SL_there ..).1 cv_X4_23_7 (rmk_ok (by decide) (by decide) (by decide) (by decide)) (Nat.le_of_ble_eq_true rfl) rfl dX4_touch_18 rfl (q_v ?_)
  refine s_n1_aload C dX4_touch_21 ?_
  refine s_n2_iload C dX4_touch_22 ?_
  refine g_invV C (k_haze h2 hc) (SL_there ..).1 cv_X4_27_7 (rmk_ok (by decide) (by decide) (by decide) (by decide)) (Nat.le_of_ble_eq_true rfl) rfl dX4_touch_23 rfl (q_v ?_)
  refine s_n1_aload C dX4_touch_26 ?_
  refine g_invV C (k_dry h3) (SL_there ..).1 cv_X4_31_7 (rmk_ok (by decide) (by decide) (by decide) (by decide)) (Nat.le_of_ble_eq_true rfl) rfl dX4_touch_27 rfl (q_v ?_)
  refine g_vret C E dX4_touch_30 (by decide) ?_
  exact ⟨rfl, rfl, rfl⟩
set_option maxRecDepth 20000 in
theorem ct_X0_touch_1 {a o c : Int} {S : SLT} {M : gM} {n : Int} {fs : List gV} (hS : sfOK S) (hc : 0 ≤ c ∧ c < 15) (ha : M a = some (gO 1 fs)) (hd : a < o ∨ o + 4 ≤ a) : CT yX0_touch cX0_touch 3 none (rmk 2 0 0) [vr a, vr o, vi c] (SL o S M) n (qr none (SL o (pTouch 1 c S) M) n) := by
  refine CT.of (by decide) (fun _ => Nat.le_of_ble_eq_true rfl) (fun κ C E => ?_)
  show G κ (SL o S M) n [some (vr a), some (vr o), some (vi c)] 0 [] 0 0
  have b := hS.1 c hc.1 hc.2
  have h1 := sfTakeHaze_ok (c := c) (k := 4) hS (by decide)
  have h2 : sfOK (sfTakeSoft (sfTakeHaze S c 4) c (min (S.2.1 c) 1)) := sfTakeSoft_ok h1 (by omega) (by show _ ≤ S.2.1 c; omega)
  refine s_n1_aload C dX0_touch_0 ?_
  refine s_n2_iload C dX0_touch_1 ?_
  refine s_n0_aload C dX0_touch_2 ?_
  refine g_invV C (ct_X0_clearedHaze) ((SL_out _ _ hd).trans ha) cv_X0_7_1 (rmk_ok (by decide) (by decide) (by decide) (by decide)) (Nat.le_of_ble_eq_true rfl) rfl dX0_touch_3 rfl (q_r ?_)
  refine g_invV C (k_takeHaze hS hc (by decide)) (SL_there ..).1 cv_X0_13_7 (rmk_ok (by decide) (by decide) (by decide) (by decide)) (Nat.le_of_ble_eq_true rfl) rfl dX0_touch_6 rfl (q_v ?_)
  refine s_n1_aload C dX0_touch_9 ?_
  refine s_n2_iload C dX0_touch_10 ?_
  refine s_n1_aload C dX0_touch_11 ?_
  refine g_getN C fd_X0_19_7 dX0_touch_12 (SL_there ..).1 rfl ?_
  refine s_n2_iload C dX0_touch_15 ?_
  refine g_iald C dX0_touch_16 (SL_there ..).2.2.1 (by omega) ?_
  refine g_iconst C dX0_touch_17 ?_
  refine g_mn C wd_20 wd_21 wd_22 wd_23 (by decide) (Nat.le_of_ble_eq_true rfl) rfl dX0_touch_18 (by show iR (S.2.1 c); unfold iR; omega) (by unfold iR; omega) ?_
  refine g_invV C (k_takeSoft hc) (SL_there ..).1 cv_X0_29_7 (rmk_ok (by decide) (by decide) (by decide) (by decide)) (Nat.le_of_ble_eq_true rfl) rfl dX0_touch_21 rfl (q_v ?_)
  refine s_n1_aload C dX0_touch_24 ?_
  refine g_invV C (k_dry h2) (SL_there ..).1 cv_X0_32_7 (rmk_ok (by decide) (by decide) (by decide) (by decide)) (Nat.le_of_ble_eq_true rfl) rfl dX0_touch_25 rfl (q_v ?_)
  refine g_vret C E dX0_touch_28 (by decide) ?_
  exact ⟨rfl, rfl, rfl⟩
set_option maxRecDepth 20000 in
theorem ct_X0_touch_6 {a o c : Int} {S : SLT} {M : gM} {n : Int} {fs : List gV} (hS : sfOK S) (hc : 0 ≤ c ∧ c < 15) (ha : M a = some (gO 6 fs)) (hd : a < o ∨ o + 4 ≤ a) : CT yX0_touch cX0_touch 3 none (rmk 2 0 0) [vr a, vr o, vi c] (SL o S M) n (qr none (SL o (pTouch 6 c S) M) n) := by
  refine CT.of (by decide) (fun _ => Nat.le_of_ble_eq_true rfl) (fun κ C E => ?_)
  show G κ (SL o S M) n [some (vr a), some (vr o), some (vi c)] 0 [] 0 0
  have b := hS.1 c hc.1 hc.2
  have h1 := sfTakeHaze_ok (c := c) (k := 8) hS (by decide)
  have h2 : sfOK (sfTakeSoft (sfTakeHaze S c 8) c (min (S.2.1 c) 1)) := sfTakeSoft_ok h1 (by omega) (by show _ ≤ S.2.1 c; omega)
  refine s_n1_aload C dX0_touch_0 ?_
  refine s_n2_iload C dX0_touch_1 ?_
  refine s_n0_aload C dX0_touch_2 ?_
  refine g_invU C (ct_X6_clearedHaze) ((SL_out _ _ hd).trans ha) cu_X0_7_6 (rmk_ok (by decide) (by decide) (by decide) (by decide)) (Nat.le_of_ble_eq_true rfl) rfl dX0_touch_3 rfl (q_r ?_)
  refine g_invV C (k_takeHaze hS hc (by decide)) (SL_there ..).1 cv_X0_13_7 (rmk_ok (by decide) (by decide) (by decide) (by decide)) (Nat.le_of_ble_eq_true rfl) rfl dX0_touch_6 rfl (q_v ?_)
  refine s_n1_aload C dX0_touch_9 ?_
  refine s_n2_iload C dX0_touch_10 ?_
  refine s_n1_aload C dX0_touch_11 ?_
  refine g_getN C fd_X0_19_7 dX0_touch_12 (SL_there ..).1 rfl ?_
  refine s_n2_iload C dX0_touch_15 ?_
  refine g_iald C dX0_touch_16 (SL_there ..).2.2.1 (by omega) ?_
  refine g_iconst C dX0_touch_17 ?_
  refine g_mn C wd_20 wd_21 wd_22 wd_23 (by decide) (Nat.le_of_ble_eq_true rfl) rfl dX0_touch_18 (by show iR (S.2.1 c); unfold iR; omega) (by unfold iR; omega) ?_
  refine g_invV C (k_takeSoft hc) (SL_there ..).1 cv_X0_29_7 (rmk_ok (by decide) (by decide) (by decide) (by decide)) (Nat.le_of_ble_eq_true rfl) rfl dX0_touch_21 rfl (q_v ?_)
  refine s_n1_aload C dX0_touch_24 ?_
  refine g_invV C (k_dry h2) (SL_there ..).1 cv_X0_32_7 (rmk_ok (by decide) (by decide) (by decide) (by decide)) (Nat.le_of_ble_eq_true rfl) rfl dX0_touch_25 rfl (q_v ?_)
  refine g_vret C E dX0_touch_28 (by decide) ?_
  exact ⟨rfl, rfl, rfl⟩
def pGo (ci : Nat) (len : Int) (cs : Int → Int) (S : SLT) : SLT := itI (fun i S => pTouch ci (cs i) S) S len
def waOK (len : Int) (cs : Int → Int) : Prop := 1 ≤ len ∧ len ≤ 9 ∧ ∀ i, 0 ≤ i → i < len → 0 ≤ cs i ∧ cs i < 15
theorem pGo_okI {ci : Nat} {len : Int} {cs : Int → Int} {S : SLT} (hw : waOK len cs) (h : sfOK S) {i : Int} (hi : 0 ≤ i) : i ≤ len → sfOK (itI (fun i S => pTouch ci (cs i) S) S i) :=
  itI_inv (g := fun i S => pTouch ci (cs i) S) (a := S) (fun i x => i ≤ len → sfOK x) (fun _ => h) (fun i x h0 hx hl => pTouch_ok (hx (by omega)) (hw.2.2 i h0 (by omega))) hi
theorem pGo_ok {ci : Nat} {len : Int} {cs : Int → Int} {S : SLT} (hw : waOK len cs) (h : sfOK S) : sfOK (pGo ci len cs S) := pGo_okI hw h (by have := hw.1; omega) (Int.le_refl _)
/-- a pass's cells in the heap: number, way -/
def paI (M : gM) (a : Int) (ci : Nat) (num wy len : Int) (cs : Int → Int) : Prop := M a = some (gO ci [vi num, vr wy]) ∧ M wy = some (gA 0 len cs)
set_option maxRecDepth 20000 in
theorem ct_X2_goAlong_1 {a o num wy len : Int} {cs : Int → Int} {S : SLT} {M : gM} {n : Int} (hS : sfOK S) (hw : waOK len cs) (ha : paI M a 1 num wy len cs) (hd : (a < o ∨ o + 4 ≤ a) ∧ (wy < o ∨ o + 4 ≤ wy)) : CT yX2_goAlong cX2_goAlong 6 none (rmk 4 0 0) [vr a, vr o] (SL o S M) n (qr none (SL o (pGo 1 len cs S) M) n) := by
  refine CT.of (by decide) (fun _ => Nat.le_of_ble_eq_true rfl) (fun κ C E => ?_)
  show G κ (SL o S M) n [some (vr a), some (vr o), none, none, none, none] 0 [] 0 0
  have wl := hw.1
  have wh := hw.2.1
  have lp : ∀ (k : Nat) (i : Int) (z : Option gV), 0 ≤ i ∧ i ≤ len → (len - i).toNat = k → G κ (SL o (itI (fun i S => pTouch 1 (cs i) S) S i) M) n [some (vr a), some (vr o), some (vr wy), some (vi len), some (vi i), z] 11 [] 0 0 := by
    intro k
    induction k using Nat.strongRecOn with
    | ind k ih =>
      intro i z h1 hk
      refine s_w4_iload C dX2_goAlong_11 ?_
      refine s_n3_iload C dX2_goAlong_13 ?_
      refine g_icmp_ge 36 C dX2_goAlong_14 (by decide) (by unfold iR; omega) (by unfold iR; omega) (fun c14 => ?_) (fun c14 => ?_)
      · refine g_vret C E dX2_goAlong_36 (by decide) ?_
        have e : i = len := by omega
        subst e
        exact ⟨rfl, rfl, rfl⟩
      · have bc := hw.2.2 i h1.1 (by omega)
        refine s_n2_aload C dX2_goAlong_17 ?_
        refine s_w4_iload C dX2_goAlong_18 ?_
        refine g_iald C dX2_goAlong_20 ((SL_out _ _ hd.2).trans ha.2) (by omega) ?_
        refine s_w5_istore C dX2_goAlong_21 rfl ?_
        refine s_n0_aload C dX2_goAlong_23 ?_
        refine s_n1_aload C dX2_goAlong_24 ?_
        refine s_w5_iload C dX2_goAlong_25 ?_
        refine g_invU C (ct_X0_touch_1 (pGo_okI hw hS h1.1 h1.2) bc ha.1 hd.1) ((SL_out _ _ hd.1).trans ha.1) cu_X2_17_1 (rmk_ok (by decide) (by decide) (by decide) (by decide)) (Nat.le_of_ble_eq_true rfl) rfl dX2_goAlong_27 rfl (q_v ?_)
        refine s_w4_iinc C dX2_goAlong_30 rfl ?_
        refine g_goto 11 C dX2_goAlong_33 (by decide) ?_
        have e := itI_s (fun i S => pTouch 1 (cs i) S) S h1.1
        rw [← e]
        exact ih _ (by omega) (i + 1) _ (by omega) rfl
  refine s_n0_aload C dX2_goAlong_0 ?_
  refine g_get C fd_X2_13_1 dX2_goAlong_1 ((SL_out _ _ hd.1).trans ha.1) rfl ?_
  refine s_n2_astore C dX2_goAlong_4 rfl ?_
  refine s_n2_aload C dX2_goAlong_5 ?_
  refine g_alen C (by decide) dX2_goAlong_6 ((SL_out _ _ hd.2).trans ha.2) (by omega) ?_
  refine s_n3_istore C dX2_goAlong_7 rfl ?_
  refine g_iconst C dX2_goAlong_8 ?_
  refine s_w4_istore C dX2_goAlong_9 rfl ?_
  exact lp _ 0 none (by omega) rfl
set_option maxRecDepth 20000 in
theorem ct_X2_goAlong_2 {a o num wy len : Int} {cs : Int → Int} {S : SLT} {M : gM} {n : Int} (hS : sfOK S) (hw : waOK len cs) (ha : paI M a 2 num wy len cs) (hd : (a < o ∨ o + 4 ≤ a) ∧ (wy < o ∨ o + 4 ≤ wy)) : CT yX2_goAlong cX2_goAlong 6 none (rmk 4 0 0) [vr a, vr o] (SL o S M) n (qr none (SL o (pGo 2 len cs S) M) n) := by
  refine CT.of (by decide) (fun _ => Nat.le_of_ble_eq_true rfl) (fun κ C E => ?_)
  show G κ (SL o S M) n [some (vr a), some (vr o), none, none, none, none] 0 [] 0 0
  have wl := hw.1
  have wh := hw.2.1
  have lp : ∀ (k : Nat) (i : Int) (z : Option gV), 0 ≤ i ∧ i ≤ len → (len - i).toNat = k → G κ (SL o (itI (fun i S => pTouch 2 (cs i) S) S i) M) n [some (vr a), some (vr o), some (vr wy), some (vi len), some (vi i), z] 11 [] 0 0 := by
    intro k
    induction k using Nat.strongRecOn with
    | ind k ih =>
      intro i z h1 hk
      refine s_w4_iload C dX2_goAlong_11 ?_
      refine s_n3_iload C dX2_goAlong_13 ?_
      refine g_icmp_ge 36 C dX2_goAlong_14 (by decide) (by unfold iR; omega) (by unfold iR; omega) (fun c14 => ?_) (fun c14 => ?_)
      · refine g_vret C E dX2_goAlong_36 (by decide) ?_
        have e : i = len := by omega
        subst e
        exact ⟨rfl, rfl, rfl⟩
      · have bc := hw.2.2 i h1.1 (by omega)
        refine s_n2_aload C dX2_goAlong_17 ?_
        refine s_w4_iload C dX2_goAlong_18 ?_
        refine g_iald C dX2_goAlong_20 ((SL_out _ _ hd.2).trans ha.2) (by omega) ?_
        refine s_w5_istore C dX2_goAlong_21 rfl ?_
        refine s_n0_aload C dX2_goAlong_23 ?_
        refine s_n1_aload C dX2_goAlong_24 ?_
        refine s_w5_iload C dX2_goAlong_25 ?_
        refine g_invU C (ct_X4_touch_2 (pGo_okI hw hS h1.1 h1.2) bc ha.1 hd.1) ((SL_out _ _ hd.1).trans ha.1) cu_X2_17_2 (rmk_ok (by decide) (by decide) (by decide) (by decide)) (Nat.le_of_ble_eq_true rfl) rfl dX2_goAlong_27 rfl (q_v ?_)
        refine s_w4_iinc C dX2_goAlong_30 rfl ?_
        refine g_goto 11 C dX2_goAlong_33 (by decide) ?_
        have e := itI_s (fun i S => pTouch 2 (cs i) S) S h1.1
        rw [← e]
        exact ih _ (by omega) (i + 1) _ (by omega) rfl
  refine s_n0_aload C dX2_goAlong_0 ?_
  refine g_get C fd_X2_13_2 dX2_goAlong_1 ((SL_out _ _ hd.1).trans ha.1) rfl ?_
  refine s_n2_astore C dX2_goAlong_4 rfl ?_
  refine s_n2_aload C dX2_goAlong_5 ?_
  refine g_alen C (by decide) dX2_goAlong_6 ((SL_out _ _ hd.2).trans ha.2) (by omega) ?_
  refine s_n3_istore C dX2_goAlong_7 rfl ?_
  refine g_iconst C dX2_goAlong_8 ?_
  refine s_w4_istore C dX2_goAlong_9 rfl ?_
  exact lp _ 0 none (by omega) rfl
set_option maxRecDepth 20000 in
theorem ct_X2_goAlong_4 {a o num wy len : Int} {cs : Int → Int} {S : SLT} {M : gM} {n : Int} (hS : sfOK S) (hw : waOK len cs) (ha : paI M a 4 num wy len cs) (hd : (a < o ∨ o + 4 ≤ a) ∧ (wy < o ∨ o + 4 ≤ wy)) : CT yX2_goAlong cX2_goAlong 6 none (rmk 4 0 0) [vr a, vr o] (SL o S M) n (qr none (SL o (pGo 4 len cs S) M) n) := by
  refine CT.of (by decide) (fun _ => Nat.le_of_ble_eq_true rfl) (fun κ C E => ?_)
  show G κ (SL o S M) n [some (vr a), some (vr o), none, none, none, none] 0 [] 0 0
  have wl := hw.1
  have wh := hw.2.1
  have lp : ∀ (k : Nat) (i : Int) (z : Option gV), 0 ≤ i ∧ i ≤ len → (len - i).toNat = k → G κ (SL o (itI (fun i S => pTouch 4 (cs i) S) S i) M) n [some (vr a), some (vr o), some (vr wy), some (vi len), some (vi i), z] 11 [] 0 0 := by
    intro k
    induction k using Nat.strongRecOn with
    | ind k ih =>
      intro i z h1 hk
      refine s_w4_iload C dX2_goAlong_11 ?_
      refine s_n3_iload C dX2_goAlong_13 ?_
      refine g_icmp_ge 36 C dX2_goAlong_14 (by decide) (by unfold iR; omega) (by unfold iR; omega) (fun c14 => ?_) (fun c14 => ?_)
      · refine g_vret C E dX2_goAlong_36 (by decide) ?_
        have e : i = len := by omega
        subst e
        exact ⟨rfl, rfl, rfl⟩
      · have bc := hw.2.2 i h1.1 (by omega)
        refine s_n2_aload C dX2_goAlong_17 ?_
        refine s_w4_iload C dX2_goAlong_18 ?_
        refine g_iald C dX2_goAlong_20 ((SL_out _ _ hd.2).trans ha.2) (by omega) ?_
        refine s_w5_istore C dX2_goAlong_21 rfl ?_
        refine s_n0_aload C dX2_goAlong_23 ?_
        refine s_n1_aload C dX2_goAlong_24 ?_
        refine s_w5_iload C dX2_goAlong_25 ?_
        refine g_invU C (ct_X4_touch_4 (pGo_okI hw hS h1.1 h1.2) bc ha.1 hd.1) ((SL_out _ _ hd.1).trans ha.1) cu_X2_17_4 (rmk_ok (by decide) (by decide) (by decide) (by decide)) (Nat.le_of_ble_eq_true rfl) rfl dX2_goAlong_27 rfl (q_v ?_)
        refine s_w4_iinc C dX2_goAlong_30 rfl ?_
        refine g_goto 11 C dX2_goAlong_33 (by decide) ?_
        have e := itI_s (fun i S => pTouch 4 (cs i) S) S h1.1
        rw [← e]
        exact ih _ (by omega) (i + 1) _ (by omega) rfl
  refine s_n0_aload C dX2_goAlong_0 ?_
  refine g_get C fd_X2_13_4 dX2_goAlong_1 ((SL_out _ _ hd.1).trans ha.1) rfl ?_
  refine s_n2_astore C dX2_goAlong_4 rfl ?_
  refine s_n2_aload C dX2_goAlong_5 ?_
  refine g_alen C (by decide) dX2_goAlong_6 ((SL_out _ _ hd.2).trans ha.2) (by omega) ?_
  refine s_n3_istore C dX2_goAlong_7 rfl ?_
  refine g_iconst C dX2_goAlong_8 ?_
  refine s_w4_istore C dX2_goAlong_9 rfl ?_
  exact lp _ 0 none (by omega) rfl
set_option maxRecDepth 20000 in
theorem ct_X2_goAlong_5 {a o num wy len : Int} {cs : Int → Int} {S : SLT} {M : gM} {n : Int} (hS : sfOK S) (hw : waOK len cs) (ha : paI M a 5 num wy len cs) (hd : (a < o ∨ o + 4 ≤ a) ∧ (wy < o ∨ o + 4 ≤ wy)) : CT yX2_goAlong cX2_goAlong 6 none (rmk 4 0 0) [vr a, vr o] (SL o S M) n (qr none (SL o (pGo 5 len cs S) M) n) := by
  refine CT.of (by decide) (fun _ => Nat.le_of_ble_eq_true rfl) (fun κ C E => ?_)
  show G κ (SL o S M) n [some (vr a), some (vr o), none, none, none, none] 0 [] 0 0
  have wl := hw.1
  have wh := hw.2.1
  have lp : ∀ (k : Nat) (i : Int) (z : Option gV), 0 ≤ i ∧ i ≤ len → (len - i).toNat = k → G κ (SL o (itI (fun i S => pTouch 5 (cs i) S) S i) M) n [some (vr a), some (vr o), some (vr wy), some (vi len), some (vi i), z] 11 [] 0 0 := by
    intro k
    induction k using Nat.strongRecOn with
    | ind k ih =>
      intro i z h1 hk
      refine s_w4_iload C dX2_goAlong_11 ?_
      refine s_n3_iload C dX2_goAlong_13 ?_
      refine g_icmp_ge 36 C dX2_goAlong_14 (by decide) (by unfold iR; omega) (by unfold iR; omega) (fun c14 => ?_) (fun c14 => ?_)
      · refine g_vret C E dX2_goAlong_36 (by decide) ?_
        have e : i = len := by omega
        subst e
        exact ⟨rfl, rfl, rfl⟩
      · have bc := hw.2.2 i h1.1 (by omega)
        refine s_n2_aload C dX2_goAlong_17 ?_
        refine s_w4_iload C dX2_goAlong_18 ?_
        refine g_iald C dX2_goAlong_20 ((SL_out _ _ hd.2).trans ha.2) (by omega) ?_
        refine s_w5_istore C dX2_goAlong_21 rfl ?_
        refine s_n0_aload C dX2_goAlong_23 ?_
        refine s_n1_aload C dX2_goAlong_24 ?_
        refine s_w5_iload C dX2_goAlong_25 ?_
        refine g_invU C (ct_X4_touch_5 (pGo_okI hw hS h1.1 h1.2) bc ha.1 hd.1) ((SL_out _ _ hd.1).trans ha.1) cu_X2_17_5 (rmk_ok (by decide) (by decide) (by decide) (by decide)) (Nat.le_of_ble_eq_true rfl) rfl dX2_goAlong_27 rfl (q_v ?_)
        refine s_w4_iinc C dX2_goAlong_30 rfl ?_
        refine g_goto 11 C dX2_goAlong_33 (by decide) ?_
        have e := itI_s (fun i S => pTouch 5 (cs i) S) S h1.1
        rw [← e]
        exact ih _ (by omega) (i + 1) _ (by omega) rfl
  refine s_n0_aload C dX2_goAlong_0 ?_
  refine g_get C fd_X2_13_5 dX2_goAlong_1 ((SL_out _ _ hd.1).trans ha.1) rfl ?_
  refine s_n2_astore C dX2_goAlong_4 rfl ?_
  refine s_n2_aload C dX2_goAlong_5 ?_
  refine g_alen C (by decide) dX2_goAlong_6 ((SL_out _ _ hd.2).trans ha.2) (by omega) ?_
  refine s_n3_istore C dX2_goAlong_7 rfl ?_
  refine g_iconst C dX2_goAlong_8 ?_
  refine s_w4_istore C dX2_goAlong_9 rfl ?_
  exact lp _ 0 none (by omega) rfl
set_option maxRecDepth 20000 in
theorem ct_X2_goAlong_6 {a o num wy len : Int} {cs : Int → Int} {S : SLT} {M : gM} {n : Int} (hS : sfOK S) (hw : waOK len cs) (ha : paI M a 6 num wy len cs) (hd : (a < o ∨ o + 4 ≤ a) ∧ (wy < o ∨ o + 4 ≤ wy)) : CT yX2_goAlong cX2_goAlong 6 none (rmk 4 0 0) [vr a, vr o] (SL o S M) n (qr none (SL o (pGo 6 len cs S) M) n) := by
  refine CT.of (by decide) (fun _ => Nat.le_of_ble_eq_true rfl) (fun κ C E => ?_)
  show G κ (SL o S M) n [some (vr a), some (vr o), none, none, none, none] 0 [] 0 0
  have wl := hw.1
  have wh := hw.2.1
  have lp : ∀ (k : Nat) (i : Int) (z : Option gV), 0 ≤ i ∧ i ≤ len → (len - i).toNat = k → G κ (SL o (itI (fun i S => pTouch 6 (cs i) S) S i) M) n [some (vr a), some (vr o), some (vr wy), some (vi len), some (vi i), z] 11 [] 0 0 := by
    intro k
    induction k using Nat.strongRecOn with
    | ind k ih =>
      intro i z h1 hk
      refine s_w4_iload C dX2_goAlong_11 ?_
      refine s_n3_iload C dX2_goAlong_13 ?_
      refine g_icmp_ge 36 C dX2_goAlong_14 (by decide) (by unfold iR; omega) (by unfold iR; omega) (fun c14 => ?_) (fun c14 => ?_)
      · refine g_vret C E dX2_goAlong_36 (by decide) ?_
        have e : i = len := by omega
        subst e
        exact ⟨rfl, rfl, rfl⟩
      · have bc := hw.2.2 i h1.1 (by omega)
        refine s_n2_aload C dX2_goAlong_17 ?_
        refine s_w4_iload C dX2_goAlong_18 ?_
        refine g_iald C dX2_goAlong_20 ((SL_out _ _ hd.2).trans ha.2) (by omega) ?_
        refine s_w5_istore C dX2_goAlong_21 rfl ?_
        refine s_n0_aload C dX2_goAlong_23 ?_
        refine s_n1_aload C dX2_goAlong_24 ?_
        refine s_w5_iload C dX2_goAlong_25 ?_
        refine g_invU C (ct_X0_touch_6 (pGo_okI hw hS h1.1 h1.2) bc ha.1 hd.1) ((SL_out _ _ hd.1).trans ha.1) cu_X2_17_6 (rmk_ok (by decide) (by decide) (by decide) (by decide)) (Nat.le_of_ble_eq_true rfl) rfl dX2_goAlong_27 rfl (q_v ?_)
        refine s_w4_iinc C dX2_goAlong_30 rfl ?_
        refine g_goto 11 C dX2_goAlong_33 (by decide) ?_
        have e := itI_s (fun i S => pTouch 6 (cs i) S) S h1.1
        rw [← e]
        exact ih _ (by omega) (i + 1) _ (by omega) rfl
  refine s_n0_aload C dX2_goAlong_0 ?_
  refine g_get C fd_X2_13_6 dX2_goAlong_1 ((SL_out _ _ hd.1).trans ha.1) rfl ?_
  refine s_n2_astore C dX2_goAlong_4 rfl ?_
  refine s_n2_aload C dX2_goAlong_5 ?_
  refine g_alen C (by decide) dX2_goAlong_6 ((SL_out _ _ hd.2).trans ha.2) (by omega) ?_
  refine s_n3_istore C dX2_goAlong_7 rfl ?_
  refine g_iconst C dX2_goAlong_8 ?_
  refine s_w4_istore C dX2_goAlong_9 rfl ?_
  exact lp _ 0 none (by omega) rfl
def isKi (ci : Nat) : Prop := ci = 1 ∨ ci = 2 ∨ ci = 4 ∨ ci = 5 ∨ ci = 6
theorem ct_goAlong {ci : Nat} {a o num wy len : Int} {cs : Int → Int} {S : SLT} {M : gM} {n : Int} (hk : isKi ci) (hS : sfOK S) (hw : waOK len cs) (ha : paI M a ci num wy len cs) (hd : (a < o ∨ o + 4 ≤ a) ∧ (wy < o ∨ o + 4 ≤ wy)) : CT yX2_goAlong cX2_goAlong 6 none (rmk 4 0 0) [vr a, vr o] (SL o S M) n (qr none (SL o (pGo ci len cs S) M) n) := by
  rcases hk with rfl | rfl | rfl | rfl | rfl
  · exact ct_X2_goAlong_1 hS hw ha hd
  · exact ct_X2_goAlong_2 hS hw ha hd
  · exact ct_X2_goAlong_4 hS hw ha hd
  · exact ct_X2_goAlong_5 hS hw ha hd
  · exact ct_X2_goAlong_6 hS hw ha hd
