/-! PadPolish: order -/
def spN (t : Int → Int) (w m j : Int) : Int × Int × (Int → Int) := itI (fun j q => (q.1 / m, bOr q.2.1 (bShl 1 (q.1 % m)), up q.2.2 (m - 1 - j) (q.1 % m))) (w, 0, t) j
def spOk (w m : Int) : Bool := decide ((spN (fun _ => 0) w m m).2.1 = bShl 1 m - 1)
def dgL (w m : Int) : List Int := (List.range m.toNat).map (fun k : Nat => (spN (fun _ => 0) w m m).2.2 (k : Int))
theorem spN_1 (t : Int → Int) (w m : Int) {j : Int} (hj : 0 ≤ j) : (spN t w m j).1 = (spN (fun _ => 0) w m j).1 ∧ (spN t w m j).2.1 = (spN (fun _ => 0) w m j).2.1 := by
  have h : ∀ j : Nat, (spN t w m (j : Int)).1 = (spN (fun _ => 0) w m (j : Int)).1 ∧ (spN t w m (j : Int)).2.1 = (spN (fun _ => 0) w m (j : Int)).2.1 := by
    intro j
    induction j with
    | zero => exact ⟨rfl, rfl⟩
    | succ j ih =>
      have e1 : ∀ t, spN t w m ((j + 1 : Nat) : Int) = ((spN t w m (j : Int)).1 / m, bOr (spN t w m (j : Int)).2.1 (bShl 1 ((spN t w m (j : Int)).1 % m)), up (spN t w m (j : Int)).2.2 (m - 1 - j) ((spN t w m (j : Int)).1 % m)) := fun t => by show spN t w m ((j : Int) + 1) = _; exact itI_s _ _ (by omega)
      rw [e1, e1, ih.1, ih.2]
      exact ⟨rfl, rfl⟩
  have := h j.toNat
  rwa [show ((j.toNat : Nat) : Int) = j by omega] at this
theorem spN_d (t : Int → Int) (w : Int) {m k : Int} (hm : 0 ≤ m ∧ m ≤ 4) (hk : 0 ≤ k ∧ k < m) : (spN t w m m).2.2 k = (spN (fun _ => 0) w m m).2.2 k ∧ 0 ≤ (spN t w m m).2.2 k ∧ (spN t w m m).2.2 k < m := by
  rcases (show (m = 1 ∧ k = 0) ∨ (m = 2 ∧ (k = 0 ∨ k = 1)) ∨ (m = 3 ∧ (k = 0 ∨ k = 1 ∨ k = 2)) ∨ (m = 4 ∧ (k = 0 ∨ k = 1 ∨ k = 2 ∨ k = 3)) by omega) with ⟨rfl, rfl⟩ | ⟨rfl, rfl | rfl⟩ | ⟨rfl, rfl | rfl | rfl⟩ | ⟨rfl, rfl | rfl | rfl | rfl⟩ <;> simp [spN, itI, itr, up] <;> omega
def opI (X : XT) (d : Int → Int) (j : Int) : SLT := itI (fun k S => pGo ((xP X).2.1 (d k)) ((xP X).2.2.1 (d k)) ((xP X).2.2.2 (d k)) S) (xC X) j
def opL (X : XT) (l : List Int) : SLT := l.foldl (fun S p => pGo ((xP X).2.1 p) ((xP X).2.2.1 p) ((xP X).2.2.2 p) S) (xC X)
theorem opI_ok {X : XT} (hO : xOK X) {d : Int → Int} (hd : ∀ k, 0 ≤ k → k < (xP X).1 → 0 ≤ d k ∧ d k < (xP X).1) {j : Int} (hj : 0 ≤ j) : j ≤ (xP X).1 → sfOK (opI X d j) := itI_inv (g := fun k S => pGo ((xP X).2.1 (d k)) ((xP X).2.2.1 (d k)) ((xP X).2.2.2 (d k)) S) (a := xC X) (fun i x => i ≤ (xP X).1 → sfOK x) (fun _ => hO.cs) (fun i x h0 hx h1 => by
  have b := hd i h0 (by omega)
  exact pGo_ok (hO.ps.2.2 _ b.1 b.2).2 (hx (by omega))) hj
theorem opI_L (X : XT) (w : Int) (t : Int → Int) {m : Int} (hm : 0 ≤ m ∧ m ≤ 4) : opI X (spN t w m m).2.2 m = opL X (dgL w m) := by
  have e : ∀ k, 0 ≤ k → k < m → (spN t w m m).2.2 k = (spN (fun _ => 0) w m m).2.2 k := fun k k0 k1 => (spN_d t w hm ⟨k0, k1⟩).1
  generalize (spN t w m m).2.2 = d at e
  unfold opI opL dgL
  generalize (spN (fun _ => 0) w m m).2.2 = d2 at e
  rcases (show m = 0 ∨ m = 1 ∨ m = 2 ∨ m = 3 ∨ m = 4 by omega) with rfl | rfl | rfl | rfl | rfl
  · rfl
  · have e0 := e 0 (by decide) (by decide)
    simp [itI, itr, List.range_succ, e0]
  · have e0 := e 0 (by decide) (by decide)
    have e1 := e 1 (by decide) (by decide)
    simp [itI, itr, List.range_succ, e0, e1]
  · have e0 := e 0 (by decide) (by decide)
    have e1 := e 1 (by decide) (by decide)
    have e2 := e 2 (by decide) (by decide)
    simp [itI, itr, List.range_succ, e0, e1, e2]
  · have e0 := e 0 (by decide) (by decide)
    have e1 := e 1 (by decide) (by decide)
    have e2 := e 2 (by decide) (by decide)
    have e3 := e 3 (by decide) (by decide)
    simp [itI, itr, List.range_succ, e0, e1, e2, e3]
def orF (X : XT) (q : Int × List Int) (l : List Int) : Int × List Int := if sfUneven (opL X l) < q.1 then (sfUneven (opL X l), l) else q
def orPre (m : Int) (w : Nat) : List (List Int) := ((List.range w).filter (fun w : Nat => spOk (w : Int) m)).map (fun w : Nat => dgL (w : Int) m)
def orQ (X : XT) (w : Nat) : Int × List Int := (orPre (xP X).1 w).foldl (orF X) (1000, [])
theorem orQ_s (X : XT) (w : Nat) : orQ X (w + 1) = if spOk w (xP X).1 then orF X (orQ X w) (dgL w (xP X).1) else orQ X w := by
  unfold orQ orPre
  rw [List.range_succ, List.filter_append, List.map_append, List.foldl_append]
  by_cases h : spOk w (xP X).1
  · simp [List.filter, h]
  · simp [List.filter, h]
def xOrder (X : XT) (k : Int) : Int × XT := if X.1 0 = 0 then (-1000002, X) else if ¬ (-1 ≤ k ∧ k ≤ 3) then (-1000001, X) else (if k = -1 then (orQ X (gWd (xP X).1).toNat).1 else if (xP X).1 ≤ k then -1000000 else (orQ X (gWd (xP X).1).toNat).2.getD k.toNat 0, X)
def xTB (X : XT) (t b : Int → Int) (S : SLT) : XT := (X.1, fu (fu X.2.1 3 t) 4 b, X.2.2.1, fu X.2.2.2.1 24 S, X.2.2.2.2)
section XTBs
variable {X : XT} {ℓ : Int → Int} {F : gM} {n : Int} {M : gM} {t b : Int → Int} {S : SLT}
theorem XL.tb0 (h : XL X ℓ F n M) : XL (xTB X (X.2.1 3) (X.2.1 4) (X.2.2.2.1 24)) ℓ F n M := by
  have e : fu X.2.2.2.1 24 (X.2.2.2.1 24) = X.2.2.2.1 := by funext j; unfold fu; split <;> simp_all
  unfold xTB
  rw [fu2_self, e]
  exact h
theorem XL.tbt (h : XL (xTB X t b S) ℓ F n M) (f : Int → Int) : XL (xTB X f b S) ℓ F n (gu M 14 (gA 0 4 f)) := by
  have h2 := h.u14 f
  have e : fu (fu (fu X.2.1 3 t) 4 b) 3 f = fu (fu X.2.1 3 f) 4 b := by funext j; unfold fu; (repeat' split) <;> first | rfl | omega
  dsimp only [xTB] at h2
  rwa [e] at h2
theorem XL.tbb (h : XL (xTB X t b S) ℓ F n M) (f : Int → Int) : XL (xTB X t f S) ℓ F n (gu M 15 (gA 0 4 f)) := by
  have h2 := h.u15 f
  have e : fu (fu (fu X.2.1 3 t) 4 b) 4 f = fu (fu X.2.1 3 t) 4 f := by funext j; unfold fu; (repeat' split) <;> rfl
  dsimp only [xTB] at h2
  rwa [e] at h2
theorem XL.tbs (h : XL (xTB X t b S) ℓ F n M) (S2 : SLT) : XL (xTB X t b S2) ℓ F n (SL 8 S2 M) := XL.ugg (X := (X.1, fu (fu X.2.1 3 t) 4 b, X.2.2)) h S2
theorem XL.tbg (h : XL (xTB X t b S) ℓ F n M) : SLi 8 S M := XL.g24 (X := (X.1, fu (fu X.2.1 3 t) 4 b, X.2.2)) h
theorem XL.tbc (h : XL (xTB X t b S) ℓ F n M) (hc : 0 ≤ X.1 5 ∧ X.1 5 ≤ 1) : SLi (16 + 6 * X.1 5 + 1) (xC X) M := XL.cs24 (X := (X.1, fu (fu X.2.1 3 t) 4 b, X.2.2)) h hc
theorem XL.tb14 (h : XL (xTB X t b S) ℓ F n M) : M 14 = some (gA 0 4 t) := by
  have := h.t14
  rwa [show (xTB X t b S).2.1 3 = t from (fu_ne (k := 4) (j := 3) (fu X.2.1 3 t) b (by decide)).trans (fu_same _ _ _)] at this
theorem XL.tb15 (h : XL (xTB X t b S) ℓ F n M) : M 15 = some (gA 0 4 b) := by
  have := h.t15
  rwa [show (xTB X t b S).2.1 4 = b from fu_same (fu X.2.1 3 t) 4 b] at this
end XTBs
theorem xTB_ok {X : XT} {t b : Int → Int} {S : SLT} (h : xOK X) (hS : sfOK S) : xOK (xTB X t b S) := by
  refine ⟨h.1, h.2.1, h.2.2.1, h.2.2.2.1, h.2.2.2.2.1, ?_, h.2.2.2.2.2.2.1, fun j j1 j2 j3 => ?_, h.2.2.2.2.2.2.2.2⟩
  · show ∀ k, 0 ≤ k → k < 2 → fu (fu X.2.1 3 t) 4 b 2 k = 0 ∨ fu (fu X.2.1 3 t) 4 b 2 k = 1
    rw [show fu (fu X.2.1 3 t) 4 b 2 = X.2.1 2 from rfl]
    exact h.ik
  · show sfOK (fu X.2.2.2.1 24 S j)
    unfold fu
    split
    · exact hS
    · exact h.sf j j1 j2 j3
theorem spN_R (t : Int → Int) (w m : Int) {j : Int} (hj : 0 ≤ j) : iR (spN t w m j).2.1 := itI_inv (g := fun j q => (q.1 / m, bOr q.2.1 (bShl 1 (q.1 % m)), up q.2.2 (m - 1 - j) (q.1 % m))) (a := (w, (0 : Int), t)) (fun _ q => iR q.2.1) iR0 (fun _ _ _ _ => bOr_R _ _) hj
set_option maxRecDepth 20000 in
theorem ct_X11_spellOrder {X : XT} {ℓ : Int → Int} {F : gM} {n : Int} {M : gM} {t b : Int → Int} {S : SLT} (hX : XL (xTB X t b S) ℓ F n M) (hO : xOK X) (hS : sfOK S) {w : Int} (hw : 0 ≤ w ∧ w < 256) : CT yX11_spellOrder cX11_spellOrder 6 (some .boolean) (rmk 2 0 0) [vr 0, vi w, vi (xP X).1] M n (fun r M2 n2 => r = some (vi (if spOk w (xP X).1 then 1 else 0)) ∧ n2 = n ∧ M2 = gu M 14 (gA 0 4 (spN t w (xP X).1 (xP X).1).2.2)) := by
  refine CT.of (by decide) (fun _ => Nat.le_of_ble_eq_true rfl) (fun κ C E => ?_)
  show G κ M n [some (vr 0), some (vi w), some (vi (xP X).1), none, none, none] 0 [] 0 0
  have hc := hO.c
  have hp1 := hO.ps.1
  have hp2 := hO.ps.2.1
  have hAb := psA_b hO.ps
  obtain ⟨m, hm⟩ : ∃ m, m = (xP X).1 := ⟨_, rfl⟩
  have lp : ∀ (z : Nat) (j : Int), 0 ≤ j ∧ j ≤ (xP X).1 → (0 ≤ (spN t w (xP X).1 j).1 ∧ (spN t w (xP X).1 j).1 < 256) → ((xP X).1 - j).toNat = z → G κ (gu M 14 (gA 0 4 (spN t w (xP X).1 j).2.2)) n [some (vr 0), some (vi w), some (vi (xP X).1), some (vi (spN t w (xP X).1 j).1), some (vi (spN t w (xP X).1 j).2.1), some (vi ((xP X).1 - 1 - j))] 10 [] 0 0 := by
    intro z
    induction z using Nat.strongRecOn with
    | ind z ih =>
      intro j h1 hr hz
      have hX := hX.tbt (spN t w (xP X).1 j).2.2
      have es : spN t w (xP X).1 (j + 1) = ((spN t w (xP X).1 j).1 / (xP X).1, bOr (spN t w (xP X).1 j).2.1 (bShl 1 ((spN t w (xP X).1 j).1 % (xP X).1)), up (spN t w (xP X).1 j).2.2 ((xP X).1 - 1 - j) ((spN t w (xP X).1 j).1 % (xP X).1)) := itI_s _ _ h1.1
      refine s_w5_iload C dX11_spellOrder_10 ?_
      refine g_if_lt 49 C dX11_spellOrder_12 (by decide) (by first | assumption | (unfold iR; omega)) (fun c12 => ?_) (fun c12 => ?_)
      · have ej : j = (xP X).1 := by omega
        have hOO : xOK (X.1, fu (fu X.2.1 3 (spN t w (xP X).1 j).2.2) 4 b, X.2.2.1, fu X.2.2.2.1 24 S, X.2.2.2.2) := xTB_ok hO hS
        have hsn : iR (spN t w (xP X).1 j).2.1 := spN_R t w (xP X).1 h1.1
        refine s_w4_iload C dX11_spellOrder_49 ?_
        refine s_n0_aload C dX11_spellOrder_51 ?_
        refine g_invV C (ct_X11_allPasses hX hOO) hX.o cv_X11_229_11 (rmk_ok (by decide) (by decide) (by decide) (by decide)) (Nat.le_of_ble_eq_true rfl) rfl dX11_spellOrder_52 rfl (q_r0 ?_)
        rw [show (xP (xTB X (spN t w (xP X).1 j).2.2 b S)).1 = (xP X).1 from rfl]
        refine g_icmp_ne 62 C dX11_spellOrder_55 (by decide) (by exact hsn) (by unfold iR; omega) (fun c55 => ?_) (fun c55 => ?_)
        · refine g_iconst C dX11_spellOrder_62 ?_
          refine g_zret C E dX11_spellOrder_63 (by decide) (by omega) ?_
          rw [ej] at c55 ⊢
          rw [(spN_1 t w (xP X).1 (by omega)).2] at c55
          rw [if_neg (by unfold spOk; simpa using c55)]
          exact ⟨rfl, rfl, rfl⟩
        · refine g_iconst C dX11_spellOrder_58 ?_
          refine g_goto 63 C dX11_spellOrder_59 (by decide) ?_
          refine g_zret C E dX11_spellOrder_63 (by decide) (by omega) ?_
          rw [ej] at c55 ⊢
          rw [(spN_1 t w (xP X).1 (by omega)).2] at c55
          rw [if_pos (by unfold spOk; simpa using c55)]
          exact ⟨rfl, rfl, rfl⟩
      · refine s_n0_aload C dX11_spellOrder_15 ?_
        refine g_get C fd_X11_50_11 dX11_spellOrder_16 hX.o rfl ?_
        refine s_w5_iload C dX11_spellOrder_19 ?_
        refine s_n3_iload C dX11_spellOrder_21 ?_
        refine s_n2_iload C dX11_spellOrder_22 ?_
        refine g_irem C dX11_spellOrder_23 (by omega) ?_
        refine g_iast C dX11_spellOrder_24 hX.tb14 (by omega) ?_
        rw [gu_gu]
        have hX := hX.tbt (up (spN t w (xP X).1 j).2.2 ((xP X).1 - 1 - j) ((spN t w (xP X).1 j).1 % (xP X).1))
        rw [gu_gu] at hX
        refine s_n3_iload C dX11_spellOrder_25 ?_
        refine s_n2_iload C dX11_spellOrder_26 ?_
        refine g_idiv C dX11_spellOrder_27 (by omega) ?_
        refine s_n3_istore C dX11_spellOrder_28 rfl ?_
        refine s_w4_iload C dX11_spellOrder_29 ?_
        refine g_iconst C dX11_spellOrder_31 ?_
        refine s_n0_aload C dX11_spellOrder_32 ?_
        refine g_get C fd_X11_50_11 dX11_spellOrder_33 hX.o rfl ?_
        refine s_w5_iload C dX11_spellOrder_36 ?_
        refine g_iald C dX11_spellOrder_38 hX.tb14 (by omega) ?_
        rw [up_same]
        refine g_ishl C dX11_spellOrder_39 ?_
        refine g_ior C dX11_spellOrder_40 ?_
        refine s_w4_istore C dX11_spellOrder_41 rfl ?_
        refine s_w5_iinc C dX11_spellOrder_43 rfl ?_
        refine g_goto 10 C dX11_spellOrder_46 (by decide) ?_
        have hbd : 0 ≤ (spN t w (xP X).1 (j + 1)).1 ∧ (spN t w (xP X).1 (j + 1)).1 < 256 := by
          rw [es]
          show 0 ≤ (spN t w (xP X).1 j).1 / (xP X).1 ∧ (spN t w (xP X).1 j).1 / (xP X).1 < 256
          have d1 := Int.ediv_nonneg hr.1 hp1
          have d2 := Int.ediv_le_self (xP X).1 hr.1
          omega
        have := ih _ (by omega) (j + 1) (by omega) hbd rfl
        rw [es] at this
        rwa [show (xP X).1 - 1 - (j + 1) = (xP X).1 - 1 - j + -1 by omega] at this
  refine s_n1_iload C dX11_spellOrder_0 ?_
  refine s_n3_istore C dX11_spellOrder_1 rfl ?_
  refine g_iconst C dX11_spellOrder_2 ?_
  refine s_w4_istore C dX11_spellOrder_3 rfl ?_
  refine s_n2_iload C dX11_spellOrder_5 ?_
  refine g_iconst C dX11_spellOrder_6 ?_
  refine g_isub C dX11_spellOrder_7 ?_
  refine s_w5_istore C dX11_spellOrder_8 rfl ?_
  have := lp _ 0 (by omega) hw rfl
  have e0 : gu M 14 (gA 0 4 (spN t w (xP X).1 0).2.2) = M := gu_self hX.tb14
  rw [e0] at this
  rwa [show (xP X).1 - 1 - 0 = (xP X).1 - 1 by omega] at this
theorem dgL_get (w : Int) {m k : Int} (hk : 0 ≤ k ∧ k < m) : (dgL w m).getD k.toNat 0 = (spN (fun _ => 0) w m m).2.2 k := by
  unfold dgL
  rw [List.getD_eq_getElem?_getD, List.getElem?_map, List.getElem?_range (by omega)]
  show (spN (fun _ => 0) w m m).2.2 ((k.toNat : Nat) : Int) = _
  rw [show ((k.toNat : Nat) : Int) = k by omega]
theorem orPre_of {m : Int} {N : Nat} {l : List Int} (h : l ∈ orPre m N) : ∃ w : Nat, l = dgL (w : Int) m := by
  obtain ⟨w, -, e⟩ := List.mem_map.mp h
  exact ⟨w, e.symm⟩
theorem opL_ok {X : XT} (hO : xOK X) (w : Int) : sfOK (opL X (dgL w (xP X).1)) := by
  have hm : 0 ≤ (xP X).1 ∧ (xP X).1 ≤ 4 := ⟨hO.ps.1, hO.ps.2.1⟩
  rw [← opI_L X w (fun _ => 0) hm]
  exact opI_ok hO (fun k k0 k1 => (spN_d _ w hm ⟨k0, k1⟩).2) hm.1 (Int.le_refl _)
theorem un_b {S : SLT} (h : sfOK S) : -999 ≤ sfUneven S ∧ sfUneven S ≤ 999 := by
  have a := sfThin_b h
  have b := sfThick_b h
  unfold sfUneven
  omega
theorem orF_ne {X : XT} {q : Int × List Int} {l : List Int} (hl : l ≠ []) (hq : q.2 ≠ []) : (orF X q l).2 ≠ [] := by
  unfold orF
  split
  · exact hl
  · exact hq
theorem orFold_ne {X : XT} : ∀ (ls : List (List Int)) (q : Int × List Int), (∀ l ∈ ls, l ≠ []) → q.2 ≠ [] → (ls.foldl (orF X) q).2 ≠ []
  | [], q, _, hq => hq
  | l :: ls, q, h, hq => by
    rw [List.foldl_cons]
    exact orFold_ne ls _ (fun l' h' => h l' (List.mem_cons_of_mem _ h')) (orF_ne (h l List.mem_cons_self) hq)
theorem dgL_ne {w m : Int} (hm : 1 ≤ m) : dgL w m ≠ [] := by
  intro h
  have := congrArg List.length h
  simp [dgL] at this
  omega
theorem orPre_ne : orPre 1 1 ≠ [] ∧ orPre 2 4 ≠ [] ∧ orPre 3 27 ≠ [] ∧ orPre 4 256 ≠ [] := by decide +kernel
theorem orQ_ne {X : XT} (hO : xOK X) (hm : 1 ≤ (xP X).1) : (orQ X (gWd (xP X).1).toNat).2 ≠ [] := by
  have hp2 := hO.ps.2.1
  have hn : orPre (xP X).1 (gWd (xP X).1).toNat ≠ [] := by
    rcases (show (xP X).1 = 1 ∨ (xP X).1 = 2 ∨ (xP X).1 = 3 ∨ (xP X).1 = 4 by omega) with e | e | e | e <;> rw [e]
    · exact orPre_ne.1
    · exact orPre_ne.2.1
    · exact orPre_ne.2.2.1
    · exact orPre_ne.2.2.2
  unfold orQ
  have hall : ∀ l ∈ orPre (xP X).1 (gWd (xP X).1).toNat, ∃ w : Nat, l = dgL (w : Int) (xP X).1 := fun l h => orPre_of h
  generalize orPre (xP X).1 (gWd (xP X).1).toNat = P at hn hall
  cases P with
  | nil => exact absurd rfl hn
  | cons l ls =>
    rw [List.foldl_cons]
    obtain ⟨w, ew⟩ := hall l List.mem_cons_self
    refine orFold_ne ls _ (fun l' h' => ?_) ?_
    · obtain ⟨w', e'⟩ := hall l' (List.mem_cons_of_mem _ h')
      rw [e']
      exact dgL_ne hm
    · unfold orF
      have hu := un_b (opL_ok hO (w : Int))
      rw [← ew] at hu
      rw [if_pos (by show _ < (1000 : Int); omega), ew]
      exact dgL_ne hm
theorem orQ_b {X : XT} (hO : xOK X) (N : Nat) : -999 ≤ (orQ X N).1 ∧ (orQ X N).1 ≤ 1000 := by
  induction N with
  | zero => exact ⟨by show (-999 : Int) ≤ 1000; decide, by show (1000 : Int) ≤ 1000; decide⟩
  | succ N ih =>
    rw [orQ_s]
    split
    · have hu := un_b (opL_ok hO (N : Int))
      unfold orF
      split
      · exact ⟨hu.1, by show sfUneven _ ≤ 1000; omega⟩
      · exact ih
    · exact ih
theorem gWd_b {m : Int} (h : 0 ≤ m ∧ m ≤ 4) : 1 ≤ gWd m ∧ gWd m ≤ 256 := by
  rcases (show m = 0 ∨ m = 1 ∨ m = 2 ∨ m = 3 ∨ m = 4 by omega) with rfl | rfl | rfl | rfl | rfl <;> decide
set_option maxRecDepth 20000 in
theorem ct_X11_findBestOrder {X : XT} {ℓ : Int → Int} {F : gM} {n : Int} {M : gM} (hX : XL X ℓ F n M) (hO : xOK X)  : CT yX11_findBestOrder cX11_findBestOrder 5 (some .int) (rmk 5 0 0) [vr 0] M n (fun r M2 n2 => r = some (vi (orQ X (gWd (xP X).1).toNat).1) ∧ n2 = n ∧ ∃ (t b : Int → Int) (S : SLT), sfOK S ∧ XL (xTB X t b S) ℓ F n M2 ∧ ∀ k, 0 ≤ k → k < (xP X).1 → b k = (orQ X (gWd (xP X).1).toNat).2.getD k.toNat 0) := by
  refine CT.of (by decide) (fun _ => Nat.le_of_ble_eq_true rfl) (fun κ C E => ?_)
  show G κ M n [some (vr 0), none, none, none, none] 0 [] 0 0
  have hc := hO.c
  have hp1 := hO.ps.1
  have hp2 := hO.ps.2.1
  have hmm : 0 ≤ (xP X).1 ∧ (xP X).1 ≤ 4 := ⟨hp1, hp2⟩
  have hW := gWd_b hmm
  have lq : ∀ (z : Nat) (k : Int) (Mc : gM) (t b : Int → Int) (S : SLT) (ls w : Int), XL (xTB X t b S) ℓ F n Mc → S = opI X t k → (∀ k, 0 ≤ k → k < (xP X).1 → 0 ≤ t k ∧ t k < (xP X).1) → 0 ≤ k ∧ k ≤ (xP X).1 → ((xP X).1 - k).toNat = z → (∀ M2, XL (xTB X t b (opI X t (xP X).1)) ℓ F n M2 → G κ M2 n [some (vr 0), some (vi (xP X).1), some (vi ls), some (vi w), some (vi (xP X).1)] 94 [] 0 0) → G κ Mc n [some (vr 0), some (vi (xP X).1), some (vi ls), some (vi w), some (vi k)] 55 [] 0 0 := by
    intro z
    induction z using Nat.strongRecOn with
    | ind z ih =>
      intro k Mc t b S ls w hX eS ht h1 hz hfin
      have hS : sfOK S := by rw [eS]; exact opI_ok hO ht h1.1 h1.2
      obtain ⟨mc, e, er, pa, wy, l1, l2, l3, l4⟩ := hX.ls (X.1 5) hc.1 (by show X.1 5 < 4; omega)
      refine s_w4_iload C dX11_findBestOrder_55 ?_
      refine s_n1_iload C dX11_findBestOrder_57 ?_
      refine g_icmp_ge 94 C dX11_findBestOrder_58 (by decide) (by first | assumption | (unfold iR; omega)) (by first | assumption | (unfold iR; omega)) (fun c58 => ?_) (fun c58 => ?_)
      · have ek : k = (xP X).1 := by omega
        rw [ek] at eS ⊢
        rw [eS] at hX
        exact hfin _ hX
      · have htk := ht k h1.1 (by omega)
        obtain ⟨g1, g2, g3, g4⟩ := l4 (t k) htk.1 htk.2
        obtain ⟨hki, hwa⟩ := hO.ps.2.2 (t k) htk.1 htk.2
        have he : Mc e = some (gR 5 10 er) := (l3.resolve_left (fun q => by have q1 : (xP X).1 = 0 := q.1; omega)).2
        refine s_n0_aload C dX11_findBestOrder_61 ?_
        refine g_get C fd_X11_58_11 dX11_findBestOrder_62 hX.o rfl ?_
        refine g_getN C fd_X11_140_8 dX11_findBestOrder_65 (hX.cur hc) rfl ?_
        refine s_n0_aload C dX11_findBestOrder_68 ?_
        refine g_get C fd_X11_50_11 dX11_findBestOrder_69 hX.o rfl ?_
        refine s_w4_iload C dX11_findBestOrder_72 ?_
        refine g_iald C dX11_findBestOrder_74 hX.tb14 (by omega) ?_
        refine g_invV C (ct_Jx4a65c_get_915e3 l2 he ⟨htk.1, htk.2⟩ (by show (xP X).1 ≤ 10; omega)) l2 cv_X11_278_0 (rmk_ok (by decide) (by decide) (by decide) (by decide)) (Nat.le_of_ble_eq_true rfl) rfl dX11_findBestOrder_75 rfl (q_r0 ?_)
        rw [g1]
        refine g_castK C (ca_pass hki) wd_520 g4.1 dX11_findBestOrder_78 ?_
        refine s_n0_aload C dX11_findBestOrder_81 ?_
        refine g_get C fd_X11_39_11 dX11_findBestOrder_82 hX.o rfl ?_
        refine g_invU C ((ct_goAlong (o := 8) (S := S) hki hS hwa g4 ⟨by omega, by omega⟩).conv (SL_self hX.tbg) rfl) g4.1 (cuP_goAlong hki) (rmk_ok (by decide) (by decide) (by decide) (by decide)) (Nat.le_of_ble_eq_true rfl) rfl dX11_findBestOrder_85 rfl (q_v0 ?_)
        have hX := hX.tbs (pGo ((xP X).2.1 (t k)) ((xP X).2.2.1 (t k)) ((xP X).2.2.2 (t k)) S)
        refine s_w4_iinc C dX11_findBestOrder_88 rfl ?_
        refine g_goto 55 C dX11_findBestOrder_91 (by decide) ?_
        refine ih _ (by omega) (k + 1) _ t b _ ls w hX ?_ ht (by omega) rfl hfin
        rw [eS]
        exact (itI_s _ _ h1.1).symm
  have lr : ∀ (w : Int) (Mc : gM) (t b : Int → Int), XL (xTB X (spN t w (xP X).1 (xP X).1).2.2 b (opL X (dgL w (xP X).1))) ℓ F n Mc → (1 ≤ (xP X).1 → (orQ X w.toNat).2 = [] ∨ ∀ k, 0 ≤ k → k < (xP X).1 → b k = (orQ X w.toNat).2.getD k.toNat 0) → 0 ≤ w ∧ w ≤ gWd (xP X).1 → True → orQ X (w + 1).toNat = orF X (orQ X w.toNat) (dgL w (xP X).1) → (∀ (q1 : True) (M3 : gM) (b3 : Int → Int) (q4 : Option gV), XL (xTB X (spN t w (xP X).1 (xP X).1).2.2 b3 (opL X (dgL w (xP X).1))) ℓ F n M3 → (1 ≤ (xP X).1 → (orQ X (w + 1).toNat).2 = [] ∨ ∀ k, 0 ≤ k → k < (xP X).1 → b3 k = (orQ X (w + 1).toNat).2.getD k.toNat 0) → G κ M3 n [some (vr 0), some (vi (xP X).1), some (vi (orQ X (w + 1).toNat).1), some (vi (w + 1)), q4] 17 [] 0 0) → G κ Mc n [some (vr 0), some (vi (xP X).1), some (vi (orQ X w.toNat).1), some (vi w), some (vi (xP X).1)] 94 [] 0 0 := by
    intro w Mc t b hX hb h1 _ es hk
    have hS := opL_ok hO w
    have hun := un_b hS
    have hqb := orQ_b hO w.toNat
    unfold orF at es
    refine s_n0_aload C dX11_findBestOrder_94 ?_
    refine g_get C fd_X11_39_11 dX11_findBestOrder_95 hX.o rfl ?_
    refine g_invV C (k_unevenR hX.tbg hS) hX.tbg.1 cv_X11_223_7 (rmk_ok (by decide) (by decide) (by decide) (by decide)) (Nat.le_of_ble_eq_true rfl) rfl dX11_findBestOrder_98 rfl (q_r0 ?_)
    refine s_w4_istore C dX11_findBestOrder_101 rfl ?_
    refine s_w4_iload C dX11_findBestOrder_103 ?_
    refine s_n2_iload C dX11_findBestOrder_105 ?_
    refine g_icmp_ge 126 C dX11_findBestOrder_106 (by decide) (by first | assumption | (unfold iR; omega)) (by first | assumption | (unfold iR; omega)) (fun c106 => ?_) (fun c106 => ?_)
    · refine s_w3_iinc C dX11_findBestOrder_126 rfl ?_
      refine g_goto 17 C dX11_findBestOrder_129 (by decide) ?_
      rw [if_neg (by omega)] at es
      have := hk trivial _ b (some (vi (sfUneven (opL X (dgL w (xP X).1))))) hX (by rw [es]; exact hb)
      rw [es] at this
      exact this
    · refine s_w4_iload C dX11_findBestOrder_109 ?_
      refine s_n2_istore C dX11_findBestOrder_111 rfl ?_
      refine s_n0_aload C dX11_findBestOrder_112 ?_
      refine g_get C fd_X11_50_11 dX11_findBestOrder_113 hX.o rfl ?_
      refine g_iconst C dX11_findBestOrder_116 ?_
      refine s_n0_aload C dX11_findBestOrder_117 ?_
      refine g_get C fd_X11_54_11 dX11_findBestOrder_118 hX.o rfl ?_
      refine g_iconst C dX11_findBestOrder_121 ?_
      refine s_n1_iload C dX11_findBestOrder_122 ?_
      refine g_acopy C wd_391 wd_163 wd_164 wd_165 rfl dX11_findBestOrder_123 hX.tb14 hX.tb15 (by show 0 ≤ (0 : Int) ∧ 0 ≤ (0 : Int) ∧ 0 ≤ (xP X).1 ∧ 0 + (xP X).1 ≤ 4 ∧ 0 + (xP X).1 ≤ 4 ∧ (4 : Int) < 2147483648 ∧ (4 : Int) < 2147483648; omega) (by decide) (Nat.le_of_ble_eq_true rfl) ?_
      have hX := hX.tbb (cpy (spN t w (xP X).1 (xP X).1).2.2 b 0 0 (xP X).1)
      refine s_w3_iinc C dX11_findBestOrder_126 rfl ?_
      refine g_goto 17 C dX11_findBestOrder_129 (by decide) ?_
      rw [if_pos (by omega)] at es
      have := hk trivial _ _ (some (vi (sfUneven (opL X (dgL w (xP X).1))))) hX (fun _ => Or.inr (fun k k0 k1 => by rw [es, dgL_get w ⟨k0, k1⟩, ← (spN_d t w hmm ⟨k0, k1⟩).1]; exact cpy_all k0 k1))
      rw [es] at this
      exact this
  have lp : ∀ (z : Nat) (w : Int) (Mc : gM) (t b : Int → Int) (S : SLT) (q4 : Option gV), XL (xTB X t b S) ℓ F n Mc → sfOK S → (1 ≤ (xP X).1 → (orQ X w.toNat).2 = [] ∨ ∀ k, 0 ≤ k → k < (xP X).1 → b k = (orQ X w.toNat).2.getD k.toNat 0) → 0 ≤ w ∧ w ≤ gWd (xP X).1 → (gWd (xP X).1 - w).toNat = z → G κ Mc n [some (vr 0), some (vi (xP X).1), some (vi (orQ X w.toNat).1), some (vi w), q4] 17 [] 0 0 := by
    intro z
    induction z using Nat.strongRecOn with
    | ind z ih =>
      intro w Mc t b S q4 hX hS hb h1 hz
      have es := orQ_s X w.toNat
      rw [show w.toNat + 1 = (w + 1).toNat by omega, show ((w.toNat : Nat) : Int) = w by omega] at es
      have hqb := orQ_b hO w.toNat
      refine s_n3_iload C dX11_findBestOrder_17 ?_
      refine g_getsW C wd_1181 dX11_findBestOrder_18 ?_
      refine s_n1_iload C dX11_findBestOrder_21 ?_
      refine g_ialdW C dX11_findBestOrder_22 (by omega) ?_
      refine g_icmp_ge 132 C dX11_findBestOrder_23 (by decide) (by unfold iR; omega) (by unfold iR; omega) (fun c23 => ?_) (fun c23 => ?_)
      · refine s_n2_iload C dX11_findBestOrder_132 ?_
        refine g_iret C E dX11_findBestOrder_133 (by decide) ?_
        have ew : w = gWd (xP X).1 := by omega
        subst ew
        refine ⟨rfl, rfl, t, b, S, hS, hX, fun k k0 k1 => ?_⟩
        exact (hb (by omega)).resolve_left (fun q => orQ_ne hO (by omega) q) k k0 k1
      · refine s_n0_aload C dX11_findBestOrder_26 ?_
        refine s_n3_iload C dX11_findBestOrder_27 ?_
        refine s_n1_iload C dX11_findBestOrder_28 ?_
        refine g_invV C (ct_X11_spellOrder hX hO hS (w := w) (by omega)) hX.o cv_X11_324_11 (rmk_ok (by decide) (by decide) (by decide) (by decide)) (Nat.le_of_ble_eq_true rfl) rfl dX11_findBestOrder_29 rfl (fun r M9 n9 hq => ?_)
        obtain ⟨hr9, hn9, hm9⟩ := hq
        subst hr9
        rw [hn9, hm9]
        show G κ _ _ _ _ _ 0 0
        have hX := hX.tbt (spN t w (xP X).1 (xP X).1).2.2
        refine g_bifne 38 C dX11_findBestOrder_32 (by decide)  (fun c32 => ?_) (fun c32 => ?_)
        · refine s_n0_aload C dX11_findBestOrder_38 ?_
          refine g_get C fd_X11_39_11 dX11_findBestOrder_39 hX.o rfl ?_
          refine s_n0_aload C dX11_findBestOrder_42 ?_
          refine g_get C fd_X11_58_11 dX11_findBestOrder_43 hX.o rfl ?_
          refine g_getN C fd_X11_157_8 dX11_findBestOrder_46 (hX.cur hc) rfl ?_
          refine g_invV C ((k_become (S := S) (T := xC X) (hX.tbc hc) (by show _ + 4 ≤ 8 ∨ 8 + 4 ≤ 16 + 6 * X.1 5 + 1; omega)).conv (SL_self hX.tbg) rfl) hX.tbg.1 cv_X11_160_7 (rmk_ok (by decide) (by decide) (by decide) (by decide)) (Nat.le_of_ble_eq_true rfl) rfl dX11_findBestOrder_49 rfl (q_v0 ?_)
          have hX := hX.tbs (xC X)
          refine g_iconst C dX11_findBestOrder_52 ?_
          refine s_w4_istore C dX11_findBestOrder_53 rfl ?_
          refine lq _ 0 _ _ b _ _ w hX rfl (fun k k0 k1 => (spN_d t w hmm ⟨k0, k1⟩).2) (by omega) rfl ?_
          intro M2 hX
          rw [if_pos c32] at es
          rw [opI_L X w t hmm] at hX
          exact lr w M2 t b hX hb h1 trivial es (fun q1 M3 b3 q4 hX3 hb3 => ih _ (by omega) (w + 1) M3 _ b3 _ q4 hX3 (opL_ok hO w) hb3 (by omega) rfl)
        · refine g_goto 126 C dX11_findBestOrder_35 (by decide) ?_
          refine s_w3_iinc C dX11_findBestOrder_126 rfl ?_
          refine g_goto 17 C dX11_findBestOrder_129 (by decide) ?_
          have eo : spOk w (xP X).1 = false := by simpa using c32
          rw [eo] at es
          have es : orQ X (w + 1).toNat = orQ X w.toNat := es
          rw [← es] at hb ⊢
          exact ih _ (by omega) (w + 1) _ _ b S _ hX hS hb (by omega) rfl
  obtain ⟨mc, e, er, pa, wy, l1, l2, l3, l4⟩ := hX.ls (X.1 5) hc.1 (by omega)
  refine s_n0_aload C dX11_findBestOrder_0 ?_
  refine g_get C fd_X11_58_11 dX11_findBestOrder_1 hX.o rfl ?_
  refine g_getN C fd_X11_140_8 dX11_findBestOrder_4 (hX.cur hO.c) rfl ?_
  refine g_invV C (ct_Jx4a65c_size_8abf5 l2) l2 cv_X11_144_0 (rmk_ok (by decide) (by decide) (by decide) (by decide)) (Nat.le_of_ble_eq_true rfl) rfl dX11_findBestOrder_7 rfl (q_r0 ?_)
  refine s_n1_istore C dX11_findBestOrder_10 rfl ?_
  refine g_sipush C dX11_findBestOrder_11 (by decide) ?_
  refine s_n2_istore C dX11_findBestOrder_14 rfl ?_
  refine g_iconst C dX11_findBestOrder_15 ?_
  refine s_n3_istore C dX11_findBestOrder_16 rfl ?_
  exact lp _ 0 _ _ _ _ _ hX.tb0 hO.gs (fun _ => Or.inl rfl) (by omega) rfl
set_option maxRecDepth 20000 in
theorem ct_X11_order {X : XT} {ℓ : Int → Int} {F : gM} {n : Int} {M : gM} (hX : XL X ℓ F n M) (hO : xOK X) {k : Int} (hk : iR k) : CT yX11_order cX11_order 3 (some .int) (rmk 6 0 0) [vr 0, vi k] M n (xQ (xOrder X k) F n) := by
  refine CT.of (by decide) (fun _ => Nat.le_of_ble_eq_true rfl) (fun κ C E => ?_)
  show G κ M n [some (vr 0), some (vi k), none] 0 [] 0 0
  have hc := hO.c
  have htd := hO.td
  have hp2 := hO.ps.2.1
  have hp1 := hO.ps.1
  refine s_n0_aload C dX11_order_0 ?_
  refine g_get C fd_X11_133_11 dX11_order_1 hX.o rfl ?_
  refine g_if_ne 10 C dX11_order_4 (by decide) (by first | assumption | (unfold iR; omega)) (fun c4 => ?_) (fun c4 => ?_)
  · refine s_n1_iload C dX11_order_10 ?_
    refine g_iconst C dX11_order_11 ?_
    refine g_iconst C dX11_order_12 ?_
    refine g_invS C (ct_X11_isWithin (by first | assumption | (unfold iR; omega)) (by first | assumption | (unfold iR; omega)) (by first | assumption | (unfold iR; omega))) cs_X11_70 (rmk_ok (by decide) (by decide) (by decide) (by decide)) (Nat.le_of_ble_eq_true rfl) rfl dX11_order_13 rfl (q_r0 ?_)
    refine g_bifne 22 C dX11_order_16 (by decide)  (fun c16 => ?_) (fun c16 => ?_)
    · refine s_n0_aload C dX11_order_22 ?_
      refine g_invV C (ct_X11_findBestOrder hX hO) hX.o cv_X11_226_11 (rmk_ok (by decide) (by decide) (by decide) (by decide)) (Nat.le_of_ble_eq_true rfl) rfl dX11_order_23 rfl (fun r M9 n9 hq => ?_)
      obtain ⟨hr9, hn9, t, b, S, hS, hX, hb⟩ := hq
      subst hr9
      rw [hn9]
      show G κ _ _ _ _ _ 0 0
      obtain ⟨mc, e, er, pa, wy, l1, l2, l3, l4⟩ := hX.ls (X.1 5) hc.1 (by show X.1 5 < 4; omega)
      refine s_n2_istore C dX11_order_26 rfl ?_
      refine s_n1_iload C dX11_order_27 ?_
      refine g_iconst C dX11_order_28 ?_
      refine g_icmp_ne 34 C dX11_order_29 (by decide) (by first | assumption | (unfold iR; omega)) (by first | assumption | (unfold iR; omega)) (fun c29 => ?_) (fun c29 => ?_)
      · refine s_n1_iload C dX11_order_34 ?_
        refine s_n0_aload C dX11_order_35 ?_
        refine g_get C fd_X11_58_11 dX11_order_36 hX.o rfl ?_
        refine g_getN C fd_X11_140_8 dX11_order_39 (hX.cur hc) rfl ?_
        refine g_invV C (ct_Jx4a65c_size_8abf5 l2) l2 cv_X11_144_0 (rmk_ok (by decide) (by decide) (by decide) (by decide)) (Nat.le_of_ble_eq_true rfl) rfl dX11_order_42 rfl (q_r0 ?_)
        show G κ _ _ _ _ (vi (xP X).1 :: _) _ _
        refine g_icmp_ge 57 C dX11_order_45 (by decide) (by first | assumption | (unfold iR; omega)) (by first | assumption | (unfold iR; omega)) (fun c45 => ?_) (fun c45 => ?_)
        · refine g_ldc (-1000000) C wd_457 dX11_order_57 ?_
          refine g_iret C E dX11_order_59 (by decide) ?_
          unfold xOrder
          rw [if_neg c4, if_neg (not_not_intro c16), if_neg c29, if_pos c45]
          exact ⟨rfl, rfl, ℓ, S, t, b, hS, hX⟩
        · refine s_n0_aload C dX11_order_48 ?_
          refine g_get C fd_X11_54_11 dX11_order_49 hX.o rfl ?_
          refine s_n1_iload C dX11_order_52 ?_
          refine g_iald C dX11_order_53 hX.tb15 (by omega) ?_
          refine g_goto 59 C dX11_order_54 (by decide) ?_
          refine g_iret C E dX11_order_59 (by decide) ?_
          unfold xOrder
          rw [if_neg c4, if_neg (not_not_intro c16), if_neg c29, if_neg (by omega), ← hb k (by omega) (by omega)]
          exact ⟨rfl, rfl, ℓ, S, t, b, hS, hX⟩
      · refine s_n2_iload C dX11_order_32 ?_
        refine g_iret C E dX11_order_33 (by decide) ?_
        unfold xOrder
        rw [if_neg c4, if_neg (not_not_intro c16), if_pos c29]
        exact ⟨rfl, rfl, ℓ, S, t, b, hS, hX⟩
    · refine g_ldc (-1000001) C wd_364 dX11_order_19 ?_
      refine g_iret C E dX11_order_21 (by decide) ?_
      unfold xOrder
      rw [if_neg c4, if_pos c16]
      exact ⟨rfl, rfl, xQ_of (res := (_, X)) hO.gs hX.ug0⟩
  · refine g_ldc (-1000002) C wd_415 dX11_order_7 ?_
    refine g_iret C E dX11_order_9 (by decide) ?_
    unfold xOrder
    rw [if_pos c4]
    exact ⟨rfl, rfl, xQ_of (res := (_, X)) hO.gs hX.ug0⟩
