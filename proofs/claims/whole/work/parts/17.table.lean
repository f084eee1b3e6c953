/-! PadPolish$Table: passes in a list -/
theorem cuT_goAlong {ci : Nat} (hk : isKi ci) : gwU RX8 44 ci yX2_goAlong cX2_goAlong 6 none 1 := by
  rcases hk with rfl | rfl | rfl | rfl | rfl
  · exact cu_X8_44_1
  · exact cu_X8_44_2
  · exact cu_X8_44_4
  · exact cu_X8_44_5
  · exact cu_X8_44_6
theorem cuT_cells {ci : Nat} (hk : isKi ci) : gwU RX8 47 ci yX2_cells cX2_cells 6 (some .int) 0 := by
  rcases hk with rfl | rfl | rfl | rfl | rfl
  · exact cu_X8_47_1
  · exact cu_X8_47_2
  · exact cu_X8_47_4
  · exact cu_X8_47_5
  · exact cu_X8_47_6
abbrev PST : Type := Int × (Int → Nat) × (Int → Int) × (Int → Int → Int)
def LR (a : Int) : Prop := 164 ≤ a ∨ a = 21 ∨ a = 27 ∨ a = 49 ∨ a = 55
def psOK (ps : PST) : Prop := 0 ≤ ps.1 ∧ ps.1 ≤ 4 ∧ ∀ p, 0 ≤ p → p < ps.1 → isKi (ps.2.1 p) ∧ waOK (ps.2.2.1 p) (ps.2.2.2 p)
/-- a list of passes in the heap -/
def lsI (M : gM) (ℓ : Int) (ps : PST) : Prop := ∃ (mc e : Int) (er : Int → Option Int) (pa wy : Int → Int), LR ℓ ∧ M ℓ = some (gO 0 [vi mc, vr e, vi ps.1]) ∧ ((ps.1 = 0 ∧ e = -1) ∨ (164 ≤ e ∧ M e = some (gR 5 10 er))) ∧ ∀ p, 0 ≤ p → p < ps.1 → er p = some (pa p) ∧ 164 ≤ pa p ∧ 164 ≤ wy p ∧ paI M (pa p) (ps.2.1 p) p (wy p) (ps.2.2.1 p) (ps.2.2.2 p)
theorem lsI.keep {M M' : gM} {ℓ : Int} {ps : PST} (h : lsI M ℓ ps) (hk : ∀ a, LR a → M a ≠ none → M' a = M a) : lsI M' ℓ ps := by
  obtain ⟨mc, e, er, pa, wy, h1, h2, h3, h4⟩ := h
  refine ⟨mc, e, er, pa, wy, h1, by rw [hk ℓ h1 (by rw [h2]; simp)]; exact h2, ?_, fun p p1 p2 => ?_⟩
  · rcases h3 with h3 | ⟨h3, h5⟩
    · exact Or.inl h3
    · exact Or.inr ⟨h3, by rw [hk e (Or.inl h3) (by rw [h5]; simp)]; exact h5⟩
  · obtain ⟨g1, g2, g3, g4, g5⟩ := h4 p p1 p2
    exact ⟨g1, g2, g3, by rw [hk _ (Or.inl g2) (by rw [g4]; simp)]; exact g4, by rw [hk _ (Or.inl g3) (by rw [g5]; simp)]; exact g5⟩
/-- an overlay of a surface below the dynamic cells keeps lists -/
theorem lsI.SL {M : gM} {ℓ o : Int} {ps : PST} {S : SLT} (h : lsI M ℓ ps) (ho : ∀ a, LR a → a < o ∨ o + 4 ≤ a) : lsI (SL o S M) ℓ ps := h.keep (fun a ha _ => SL_out _ _ (ho a ha))
def psAll (ps : PST) (S : SLT) : SLT := itI (fun p S => pGo (ps.2.1 p) (ps.2.2.1 p) (ps.2.2.2 p) S) S ps.1
def psSome (ps : PST) (set : Int) (S : SLT) : SLT := itI (fun p S => if bAnd (bShr set p) 1 = 1 then pGo (ps.2.1 p) (ps.2.2.1 p) (ps.2.2.2 p) S else S) S ps.1
def psCell (ps : PST) (p : Int) : Int := pCells (ps.2.2.1 p) (ps.2.2.2 p)
def psCells (ps : PST) (set : Int) : Int := itI (fun p a => if bAnd (bShr set p) 1 = 1 then bOr a (psCell ps p) else a) 0 ps.1
def psAcross (ps : PST) (c : Int) : Int := itI (fun p a => bOr a (bShl (bAnd (bShr (psCell ps p) c) 1) p)) 0 ps.1
theorem psAll_okI {ps : PST} {S : SLT} (hp : psOK ps) (h : sfOK S) {i : Int} (hi : 0 ≤ i) : i ≤ ps.1 → sfOK (itI (fun p S => pGo (ps.2.1 p) (ps.2.2.1 p) (ps.2.2.2 p) S) S i) :=
  itI_inv (g := fun p S => pGo (ps.2.1 p) (ps.2.2.1 p) (ps.2.2.2 p) S) (a := S) (fun i x => i ≤ ps.1 → sfOK x) (fun _ => h) (fun i x h0 hx hl => pGo_ok (hp.2.2 i h0 (by omega)).2 (hx (by omega))) hi
theorem psAll_ok {ps : PST} {S : SLT} (hp : psOK ps) (h : sfOK S) : sfOK (psAll ps S) := psAll_okI hp h hp.1 (Int.le_refl _)
theorem psSome_okI {ps : PST} {set : Int} {S : SLT} (hp : psOK ps) (h : sfOK S) {i : Int} (hi : 0 ≤ i) : i ≤ ps.1 → sfOK (itI (fun p S => if bAnd (bShr set p) 1 = 1 then pGo (ps.2.1 p) (ps.2.2.1 p) (ps.2.2.2 p) S else S) S i) :=
  itI_inv (g := fun p S => if bAnd (bShr set p) 1 = 1 then pGo (ps.2.1 p) (ps.2.2.1 p) (ps.2.2.2 p) S else S) (a := S) (fun i x => i ≤ ps.1 → sfOK x) (fun _ => h) (fun i x h0 hx hl => by
    split
    · exact pGo_ok (hp.2.2 i h0 (by omega)).2 (hx (by omega))
    · exact hx (by omega)) hi
theorem psSome_ok {ps : PST} {set : Int} {S : SLT} (hp : psOK ps) (h : sfOK S) : sfOK (psSome ps set S) := psSome_okI hp h hp.1 (Int.le_refl _)
set_option maxRecDepth 20000 in
theorem ct_X8_makeAll {t o sk ℓ : Int} {S : SLT} {ps : PST} {z1 : gV} {M : gM} {n : Int} (hp : psOK ps) (hS : sfOK S) (ht : M t = some (gO 8 [z1, vr ℓ, vi sk])) (hl : lsI M ℓ ps) (ho : ∀ a, LR a → a < o ∨ o + 4 ≤ a) (hto : t < o ∨ o + 4 ≤ t) : CT yX8_makeAll cX8_makeAll 3 none (rmk 5 0 0) [vr t, vr o] (SL o S M) n (qr none (SL o (psAll ps S) M) n) := by
  refine CT.of (by decide) (fun _ => Nat.le_of_ble_eq_true rfl) (fun κ C E => ?_)
  show G κ (SL o S M) n [some (vr t), some (vr o), none] 0 [] 0 0
  obtain ⟨mc, e, er, pa, wy, h1, h2, h3, h4⟩ := hl
  have pm := hp.1
  have pm4 := hp.2.1
  have hol := ho ℓ h1
  have lp : ∀ (k : Nat) (i : Int), 0 ≤ i ∧ i ≤ ps.1 → (ps.1 - i).toNat = k → G κ (SL o (itI (fun p S => pGo (ps.2.1 p) (ps.2.2.1 p) (ps.2.2.2 p) S) S i) M) n [some (vr t), some (vr o), some (vi i)] 2 [] 0 0 := by
    intro k
    induction k using Nat.strongRecOn with
    | ind k ih =>
      intro i g1 hk
      refine s_n2_iload C dX8_makeAll_2 ?_
      refine s_n0_aload C dX8_makeAll_3 ?_
      refine g_get C fd_X8_19_8 dX8_makeAll_4 ((SL_out _ _ hto).trans ht) rfl ?_
      refine g_invV C (ct_Jx4a65c_size_8abf5 ((SL_out _ _ hol).trans h2)) ((SL_out _ _ hol).trans h2) cv_X8_34_0 (rmk_ok (by decide) (by decide) (by decide) (by decide)) (Nat.le_of_ble_eq_true rfl) rfl dX8_makeAll_7 rfl (q_r ?_)
      refine g_icmp_ge 34 C dX8_makeAll_10 (by decide) (by unfold iR; omega) (by unfold iR; omega) (fun c10 => ?_) (fun c10 => ?_)
      · refine g_vret C E dX8_makeAll_34 (by decide) ?_
        have e0 : i = ps.1 := by omega
        subst e0
        exact ⟨rfl, rfl, rfl⟩
      · obtain ⟨her, g2, g3, hpa⟩ := h4 i g1.1 (by omega)
        obtain ⟨hki, hwa⟩ := hp.2.2 i g1.1 (by omega)
        have he : 164 ≤ e ∧ M e = some (gR 5 10 er) := h3.resolve_left (fun q => by omega)
        refine s_n0_aload C dX8_makeAll_13 ?_
        refine g_get C fd_X8_19_8 dX8_makeAll_14 ((SL_out _ _ hto).trans ht) rfl ?_
        refine s_n2_iload C dX8_makeAll_17 ?_
        refine g_invV C (ct_Jx4a65c_get_915e3 ((SL_out _ _ hol).trans h2) ((SL_out _ _ (ho _ (Or.inl he.1))).trans he.2) ⟨g1.1, by omega⟩ (by omega)) ((SL_out _ _ hol).trans h2) cv_X8_38_0 (rmk_ok (by decide) (by decide) (by decide) (by decide)) (Nat.le_of_ble_eq_true rfl) rfl dX8_makeAll_18 rfl (q_r ?_)
        rw [her]
        refine g_castK C (ca_pass hki) wd_210 ((SL_out _ _ (ho _ (Or.inl g2))).trans hpa.1) dX8_makeAll_21 ?_
        refine s_n1_aload C dX8_makeAll_24 ?_
        refine g_invU C (ct_goAlong hki (psAll_okI hp hS g1.1 g1.2) hwa hpa ⟨ho _ (Or.inl g2), ho _ (Or.inl g3)⟩) ((SL_out _ _ (ho _ (Or.inl g2))).trans hpa.1) (cuT_goAlong hki) (rmk_ok (by decide) (by decide) (by decide) (by decide)) (Nat.le_of_ble_eq_true rfl) rfl dX8_makeAll_25 rfl (q_v ?_)
        refine s_w2_iinc C dX8_makeAll_28 rfl ?_
        refine g_goto 2 C dX8_makeAll_31 (by decide) ?_
        have e1 := itI_s (fun p S => pGo (ps.2.1 p) (ps.2.2.1 p) (ps.2.2.2 p) S) S g1.1
        rw [← e1]
        exact ih _ (by omega) (i + 1) (by omega) rfl
  refine g_iconst C dX8_makeAll_0 ?_
  refine s_n2_istore C dX8_makeAll_1 rfl ?_
  exact lp _ 0 (by omega) rfl
set_option maxRecDepth 20000 in
theorem ct_X8_makeSome {t o sk ℓ : Int} {S : SLT} {ps : PST} {z1 : gV} {M : gM} {n : Int} {set : Int} (hp : psOK ps) (hS : sfOK S) (ht : M t = some (gO 8 [z1, vr ℓ, vi sk])) (hl : lsI M ℓ ps) (ho : ∀ a, LR a → a < o ∨ o + 4 ≤ a) (hto : t < o ∨ o + 4 ≤ t) : CT yX8_makeSome cX8_makeSome 4 none (rmk 5 0 0) [vr t, vi set, vr o] (SL o S M) n (qr none (SL o (psSome ps set S) M) n) := by
  refine CT.of (by decide) (fun _ => Nat.le_of_ble_eq_true rfl) (fun κ C E => ?_)
  show G κ (SL o S M) n [some (vr t), some (vi set), some (vr o), none] 0 [] 0 0
  obtain ⟨mc, e, er, pa, wy, h1, h2, h3, h4⟩ := hl
  have pm := hp.1
  have pm4 := hp.2.1
  have hol := ho ℓ h1
  have lp : ∀ (k : Nat) (i : Int), 0 ≤ i ∧ i ≤ ps.1 → (ps.1 - i).toNat = k → G κ (SL o (itI (fun p S => if bAnd (bShr set p) 1 = 1 then pGo (ps.2.1 p) (ps.2.2.1 p) (ps.2.2.2 p) S else S) S i) M) n [some (vr t), some (vi set), some (vr o), some (vi i)] 2 [] 0 0 := by
    intro k
    induction k using Nat.strongRecOn with
    | ind k ih =>
      intro i g1 hk
      refine s_n3_iload C dX8_makeSome_2 ?_
      refine s_n0_aload C dX8_makeSome_3 ?_
      refine g_get C fd_X8_19_8 dX8_makeSome_4 ((SL_out _ _ hto).trans ht) rfl ?_
      refine g_invV C (ct_Jx4a65c_size_8abf5 ((SL_out _ _ hol).trans h2)) ((SL_out _ _ hol).trans h2) cv_X8_34_0 (rmk_ok (by decide) (by decide) (by decide) (by decide)) (Nat.le_of_ble_eq_true rfl) rfl dX8_makeSome_7 rfl (q_r ?_)
      refine g_icmp_ge 43 C dX8_makeSome_10 (by decide) (by unfold iR; omega) (by unfold iR; omega) (fun c10 => ?_) (fun c10 => ?_)
      · refine g_vret C E dX8_makeSome_43 (by decide) ?_
        have e0 : i = ps.1 := by omega
        subst e0
        exact ⟨rfl, rfl, rfl⟩
      · refine s_n1_iload C dX8_makeSome_13 ?_
        refine s_n3_iload C dX8_makeSome_14 ?_
        refine g_ishr C dX8_makeSome_15 ?_
        refine g_iconst C dX8_makeSome_16 ?_
        refine g_iand C dX8_makeSome_17 ?_
        refine g_iconst C dX8_makeSome_18 ?_
        refine g_icmp_ne 37 C dX8_makeSome_19 (by decide) (by exact bAnd_R _ _) (by unfold iR; omega) (fun c19 => ?_) (fun c19 => ?_)
        · refine s_w3_iinc C dX8_makeSome_37 rfl ?_
          refine g_goto 2 C dX8_makeSome_40 (by decide) ?_
          have e1 := itI_s (fun p S => if bAnd (bShr set p) 1 = 1 then pGo (ps.2.1 p) (ps.2.2.1 p) (ps.2.2.2 p) S else S) S g1.1
          rw [if_neg c19] at e1
          rw [← e1]
          exact ih _ (by omega) (i + 1) (by omega) rfl
        · obtain ⟨her, g2, g3, hpa⟩ := h4 i g1.1 (by omega)
          obtain ⟨hki, hwa⟩ := hp.2.2 i g1.1 (by omega)
          have he : 164 ≤ e ∧ M e = some (gR 5 10 er) := h3.resolve_left (fun q => by omega)
          refine s_n0_aload C dX8_makeSome_22 ?_
          refine g_get C fd_X8_19_8 dX8_makeSome_23 ((SL_out _ _ hto).trans ht) rfl ?_
          refine s_n3_iload C dX8_makeSome_26 ?_
          refine g_invV C (ct_Jx4a65c_get_915e3 ((SL_out _ _ hol).trans h2) ((SL_out _ _ (ho _ (Or.inl he.1))).trans he.2) ⟨g1.1, by omega⟩ (by omega)) ((SL_out _ _ hol).trans h2) cv_X8_38_0 (rmk_ok (by decide) (by decide) (by decide) (by decide)) (Nat.le_of_ble_eq_true rfl) rfl dX8_makeSome_27 rfl (q_r ?_)
          rw [her]
          refine g_castK C (ca_pass hki) wd_210 ((SL_out _ _ (ho _ (Or.inl g2))).trans hpa.1) dX8_makeSome_30 ?_
          refine s_n2_aload C dX8_makeSome_33 ?_
          refine g_invU C (ct_goAlong hki (psSome_okI hp hS g1.1 g1.2) hwa hpa ⟨ho _ (Or.inl g2), ho _ (Or.inl g3)⟩) ((SL_out _ _ (ho _ (Or.inl g2))).trans hpa.1) (cuT_goAlong hki) (rmk_ok (by decide) (by decide) (by decide) (by decide)) (Nat.le_of_ble_eq_true rfl) rfl dX8_makeSome_34 rfl (q_v ?_)
          refine s_w3_iinc C dX8_makeSome_37 rfl ?_
          refine g_goto 2 C dX8_makeSome_40 (by decide) ?_
          have e1 := itI_s (fun p S => if bAnd (bShr set p) 1 = 1 then pGo (ps.2.1 p) (ps.2.2.1 p) (ps.2.2.2 p) S else S) S g1.1
          rw [if_pos c19] at e1
          rw [← e1]
          exact ih _ (by omega) (i + 1) (by omega) rfl
  refine g_iconst C dX8_makeSome_0 ?_
  refine s_n3_istore C dX8_makeSome_1 rfl ?_
  exact lp _ 0 (by omega) rfl
set_option maxRecDepth 20000 in
theorem ct_X8_cellsOf {t sk ℓ set : Int} {ps : PST} {z1 : gV} {M : gM} {n : Int} (hp : psOK ps) (ht : M t = some (gO 8 [z1, vr ℓ, vi sk])) (hl : lsI M ℓ ps) : CT yX8_cellsOf cX8_cellsOf 4 (some .int) (rmk 3 0 0) [vr t, vi set] M n (qr (some (vi (psCells ps set))) M n) := by
  refine CT.of (by decide) (fun _ => Nat.le_of_ble_eq_true rfl) (fun κ C E => ?_)
  show G κ M n [some (vr t), some (vi set), none, none] 0 [] 0 0
  obtain ⟨mc, e, er, pa, wy, h1, h2, h3, h4⟩ := hl
  have pm := hp.1
  have pm4 := hp.2.1
  have lp : ∀ (k : Nat) (i b : Int), 0 ≤ i ∧ i ≤ ps.1 → b = itI (fun p a => if bAnd (bShr set p) 1 = 1 then bOr a (psCell ps p) else a) 0 i → (ps.1 - i).toNat = k → G κ M n [some (vr t), some (vi set), some (vi b), some (vi i)] 4 [] 0 0 := by
    intro k
    induction k using Nat.strongRecOn with
    | ind k ih =>
      intro i b g1 g0 hk
      refine s_n3_iload C dX8_cellsOf_4 ?_
      refine s_n0_aload C dX8_cellsOf_5 ?_
      refine g_get C fd_X8_19_8 dX8_cellsOf_6 ht rfl ?_
      refine g_invV C (ct_Jx4a65c_size_8abf5 h2) h2 cv_X8_34_0 (rmk_ok (by decide) (by decide) (by decide) (by decide)) (Nat.le_of_ble_eq_true rfl) rfl dX8_cellsOf_9 rfl (q_r ?_)
      refine g_icmp_ge 47 C dX8_cellsOf_12 (by decide) (by unfold iR; omega) (by unfold iR; omega) (fun c12 => ?_) (fun c12 => ?_)
      · refine s_n2_iload C dX8_cellsOf_47 ?_
        refine g_iret C E dX8_cellsOf_48 (by decide) ?_
        have e0 : i = ps.1 := by omega
        subst e0
        refine ⟨?_, rfl, rfl⟩
        rw [g0]
        rfl
      · refine s_n1_iload C dX8_cellsOf_15 ?_
        refine s_n3_iload C dX8_cellsOf_16 ?_
        refine g_ishr C dX8_cellsOf_17 ?_
        refine g_iconst C dX8_cellsOf_18 ?_
        refine g_iand C dX8_cellsOf_19 ?_
        refine g_iconst C dX8_cellsOf_20 ?_
        refine g_icmp_ne 41 C dX8_cellsOf_21 (by decide) (by exact bAnd_R _ _) (by unfold iR; omega) (fun c21 => ?_) (fun c21 => ?_)
        · refine s_w3_iinc C dX8_cellsOf_41 rfl ?_
          refine g_goto 4 C dX8_cellsOf_44 (by decide) ?_
          exact ih _ (by omega) (i + 1) _ (by omega) (by rw [itI_s _ _ g1.1, ← g0, if_neg c21]) rfl
        · refine s_n2_iload C dX8_cellsOf_24 ?_
          obtain ⟨her, g2, g3, hpa⟩ := h4 i g1.1 (by omega)
          obtain ⟨hki, hwa⟩ := hp.2.2 i g1.1 (by omega)
          have he : 164 ≤ e ∧ M e = some (gR 5 10 er) := h3.resolve_left (fun q => by omega)
          refine s_n0_aload C dX8_cellsOf_25 ?_
          refine g_get C fd_X8_19_8 dX8_cellsOf_26 ht rfl ?_
          refine s_n3_iload C dX8_cellsOf_29 ?_
          refine g_invV C (ct_Jx4a65c_get_915e3 h2 he.2 ⟨g1.1, by omega⟩ (by omega)) h2 cv_X8_38_0 (rmk_ok (by decide) (by decide) (by decide) (by decide)) (Nat.le_of_ble_eq_true rfl) rfl dX8_cellsOf_30 rfl (q_r ?_)
          rw [her]
          refine g_castK C (ca_pass hki) wd_210 hpa.1 dX8_cellsOf_33 ?_
          refine g_invU C (ct_X2_cells hki hwa hpa) hpa.1 (cuT_cells hki) (rmk_ok (by decide) (by decide) (by decide) (by decide)) (Nat.le_of_ble_eq_true rfl) rfl dX8_cellsOf_36 rfl (q_r ?_)
          refine g_ior C dX8_cellsOf_39 ?_
          refine s_n2_istore C dX8_cellsOf_40 rfl ?_
          refine s_w3_iinc C dX8_cellsOf_41 rfl ?_
          refine g_goto 4 C dX8_cellsOf_44 (by decide) ?_
          exact ih _ (by omega) (i + 1) _ (by omega) (by rw [itI_s _ _ g1.1, ← g0, if_pos c21]; rfl) rfl
  refine g_iconst C dX8_cellsOf_0 ?_
  refine s_n2_istore C dX8_cellsOf_1 rfl ?_
  refine g_iconst C dX8_cellsOf_2 ?_
  refine s_n3_istore C dX8_cellsOf_3 rfl ?_
  exact lp _ 0 0 (by omega) rfl rfl
set_option maxRecDepth 20000 in
theorem ct_X8_passesAcross {t sk ℓ c : Int} {ps : PST} {z1 : gV} {M : gM} {n : Int} (hp : psOK ps) (ht : M t = some (gO 8 [z1, vr ℓ, vi sk])) (hl : lsI M ℓ ps) : CT yX8_passesAcross cX8_passesAcross 4 (some .int) (rmk 3 0 0) [vr t, vi c] M n (qr (some (vi (psAcross ps c))) M n) := by
  refine CT.of (by decide) (fun _ => Nat.le_of_ble_eq_true rfl) (fun κ C E => ?_)
  show G κ M n [some (vr t), some (vi c), none, none] 0 [] 0 0
  obtain ⟨mc, e, er, pa, wy, h1, h2, h3, h4⟩ := hl
  have pm := hp.1
  have pm4 := hp.2.1
  have lp : ∀ (k : Nat) (i b : Int), 0 ≤ i ∧ i ≤ ps.1 → b = itI (fun p a => bOr a (bShl (bAnd (bShr (psCell ps p) c) 1) p)) 0 i → (ps.1 - i).toNat = k → G κ M n [some (vr t), some (vi c), some (vi b), some (vi i)] 4 [] 0 0 := by
    intro k
    induction k using Nat.strongRecOn with
    | ind k ih =>
      intro i b g1 g0 hk
      refine s_n3_iload C dX8_passesAcross_4 ?_
      refine s_n0_aload C dX8_passesAcross_5 ?_
      refine g_get C fd_X8_19_8 dX8_passesAcross_6 ht rfl ?_
      refine g_invV C (ct_Jx4a65c_size_8abf5 h2) h2 cv_X8_34_0 (rmk_ok (by decide) (by decide) (by decide) (by decide)) (Nat.le_of_ble_eq_true rfl) rfl dX8_passesAcross_9 rfl (q_r ?_)
      refine g_icmp_ge 44 C dX8_passesAcross_12 (by decide) (by unfold iR; omega) (by unfold iR; omega) (fun c12 => ?_) (fun c12 => ?_)
      · refine s_n2_iload C dX8_passesAcross_44 ?_
        refine g_iret C E dX8_passesAcross_45 (by decide) ?_
        have e0 : i = ps.1 := by omega
        subst e0
        refine ⟨?_, rfl, rfl⟩
        rw [g0]
        rfl
      · refine s_n2_iload C dX8_passesAcross_15 ?_
        obtain ⟨her, g2, g3, hpa⟩ := h4 i g1.1 (by omega)
        obtain ⟨hki, hwa⟩ := hp.2.2 i g1.1 (by omega)
        have he : 164 ≤ e ∧ M e = some (gR 5 10 er) := h3.resolve_left (fun q => by omega)
        refine s_n0_aload C dX8_passesAcross_16 ?_
        refine g_get C fd_X8_19_8 dX8_passesAcross_17 ht rfl ?_
        refine s_n3_iload C dX8_passesAcross_20 ?_
        refine g_invV C (ct_Jx4a65c_get_915e3 h2 he.2 ⟨g1.1, by omega⟩ (by omega)) h2 cv_X8_38_0 (rmk_ok (by decide) (by decide) (by decide) (by decide)) (Nat.le_of_ble_eq_true rfl) rfl dX8_passesAcross_21 rfl (q_r ?_)
        rw [her]
        refine g_castK C (ca_pass hki) wd_210 hpa.1 dX8_passesAcross_24 ?_
        refine g_invU C (ct_X2_cells hki hwa hpa) hpa.1 (cuT_cells hki) (rmk_ok (by decide) (by decide) (by decide) (by decide)) (Nat.le_of_ble_eq_true rfl) rfl dX8_passesAcross_27 rfl (q_r ?_)
        refine s_n1_iload C dX8_passesAcross_30 ?_
        refine g_ishr C dX8_passesAcross_31 ?_
        refine g_iconst C dX8_passesAcross_32 ?_
        refine g_iand C dX8_passesAcross_33 ?_
        refine s_n3_iload C dX8_passesAcross_34 ?_
        refine g_ishl C dX8_passesAcross_35 ?_
        refine g_ior C dX8_passesAcross_36 ?_
        refine s_n2_istore C dX8_passesAcross_37 rfl ?_
        refine s_w3_iinc C dX8_passesAcross_38 rfl ?_
        refine g_goto 4 C dX8_passesAcross_41 (by decide) ?_
        exact ih _ (by omega) (i + 1) _ (by omega) (by rw [itI_s _ _ g1.1, ← g0]; rfl) rfl
  refine g_iconst C dX8_passesAcross_0 ?_
  refine s_n2_istore C dX8_passesAcross_1 rfl ?_
  refine g_iconst C dX8_passesAcross_2 ?_
  refine s_n3_istore C dX8_passesAcross_3 rfl ?_
  exact lp _ 0 0 (by omega) rfl rfl
set_option maxRecDepth 20000 in
theorem ct_X8_begin {t ℓ sk : Int} {S : SLT} {M : gM} {n : Int} (ht : M t = some (gO 8 [vr (t + 1), vr ℓ, vi sk])) (hn : t + 4 < n) : CT yX8_begin cX8_begin 1 none (rmk 4 1 3) [vr t] (SL (t + 1) S M) n (qr none (gu (gu (SL (t + 1) (fun _ => 0, fun _ => 0, fun _ => 0, 0, 0, 0) M) n (gO 0 [vi 0, vr (-1), vi 0])) t (gO 8 [vr (t + 1), vr n, vi 0])) (n + 1)) := by
  refine CT.of (by decide) (fun _ => Nat.le_of_ble_eq_true rfl) (fun κ C E => ?_)
  show G κ (SL (t + 1) S M) n [some (vr t)] 0 [] 0 0
  refine s_n0_aload C dX8_begin_0 ?_
  refine g_get C fd_X8_10_8 dX8_begin_1 ((SL_out _ _ (by omega)).trans ht) rfl ?_
  refine g_invV C (k_wipe) (SL_there ..).1 cv_X8_23_7 (rmk_ok (by decide) (by decide) (by decide) (by decide)) (Nat.le_of_ble_eq_true rfl) rfl dX8_begin_4 rfl (q_v ?_)
  refine s_n0_aload C dX8_begin_7 ?_
  refine g_new C nw_X8_16 dX8_begin_8 (by decide) ?_
  refine g_dup C dX8_begin_11 rfl ?_
  refine g_invI C (ct_Jx4a65c_init_da8c8) ci_X8_18 (rmk_ok (by decide) (by decide) (by decide) (by decide)) (Nat.le_of_ble_eq_true rfl) rfl dX8_begin_12 rfl (q_v ?_)
  refine g_put C fp_X8_19_8 dX8_begin_15 ((gu_ne _ _ (by omega)).trans ((SL_out _ _ (by omega)).trans ht)) (Nat.le_of_ble_eq_true rfl) (gfit_o _ _) ?_
  refine s_n0_aload C dX8_begin_18 ?_
  refine g_iconst C dX8_begin_19 ?_
  refine g_put C fp_X8_26_8 dX8_begin_20 (gu_same ..) (Nat.le_of_ble_eq_true rfl) (gfit_i _) ?_
  rw [gu_gu]
  refine g_vret C E dX8_begin_23 (by decide) ?_
  exact ⟨rfl, rfl, rfl⟩
set_option maxRecDepth 20000 in
theorem ct_X8_become {t u ℓ sk ℓ2 sk2 : Int} {S T : SLT} {M : gM} {n : Int} (ht : M t = some (gO 8 [vr (t + 1), vr ℓ, vi sk])) (hu : M u = some (gO 8 [vr (u + 1), vr ℓ2, vi sk2])) (hT : SLi (u + 1) T M) (hd : t + 5 ≤ u ∨ u + 5 ≤ t) : CT yX8_become cX8_become 2 none (rmk 2 0 0) [vr t, vr u] (SL (t + 1) S M) n (qr none (gu (SL (t + 1) T M) t (gO 8 [vr (t + 1), vr ℓ2, vi sk2])) n) := by
  refine CT.of (by decide) (fun _ => Nat.le_of_ble_eq_true rfl) (fun κ C E => ?_)
  show G κ (SL (t + 1) S M) n [some (vr t), some (vr u)] 0 [] 0 0
  refine s_n0_aload C dX8_become_0 ?_
  refine g_get C fd_X8_10_8 dX8_become_1 ((SL_out _ _ (by omega)).trans ht) rfl ?_
  refine s_n1_aload C dX8_become_4 ?_
  refine g_get C fd_X8_10_8 dX8_become_5 ((SL_out _ _ (by omega)).trans hu) rfl ?_
  refine g_invV C (k_become hT (by omega)) (SL_there ..).1 cv_X8_30_7 (rmk_ok (by decide) (by decide) (by decide) (by decide)) (Nat.le_of_ble_eq_true rfl) rfl dX8_become_8 rfl (q_v ?_)
  refine s_n0_aload C dX8_become_11 ?_
  refine s_n1_aload C dX8_become_12 ?_
  refine g_get C fd_X8_19_8 dX8_become_13 ((SL_out _ _ (by omega)).trans hu) rfl ?_
  refine g_put C fp_X8_19_8 dX8_become_16 ((SL_out _ _ (by omega)).trans ht) (Nat.le_of_ble_eq_true rfl) (gfit_o _ _) ?_
  refine s_n0_aload C dX8_become_19 ?_
  refine s_n1_aload C dX8_become_20 ?_
  refine g_get C fd_X8_26_8 dX8_become_21 ((gu_ne _ _ (by omega)).trans ((SL_out _ _ (by omega)).trans hu)) rfl ?_
  refine g_put C fp_X8_26_8 dX8_become_24 (gu_same ..) (Nat.le_of_ble_eq_true rfl) (gfit_i _) ?_
  rw [gu_gu]
  refine g_vret C E dX8_become_27 (by decide) ?_
  exact ⟨rfl, rfl, rfl⟩
set_option maxRecDepth 20000 in
theorem ct_X8_init {M : gM} {n : Int} : CT yX8_init cX8_init 1 none (rmk 4 5 54) [vr n] (gu M n (gO 8 [vn, vn, vi 0])) (n + 1) (qr none (gu (gu (SL (n + 1) (fun _ => 0, fun _ => 0, fun _ => 0, 0, 0, 0) M) (n + 5) (gO 0 [vi 0, vr (-1), vi 0])) n (gO 8 [vr (n + 1), vr (n + 5), vi 0])) (n + 6)) := by
  refine CT.of (by decide) (fun _ => Nat.le_of_ble_eq_true rfl) (fun κ C E => ?_)
  show G κ (gu M n (gO 8 [vn, vn, vi 0])) (n + 1) [some (vr n)] 0 [] 0 0
  refine s_n0_aload C dX8_init_0 ?_
  refine g_objInit C wd_179 wd_70 wdObj (by decide) (Nat.le_of_ble_eq_true rfl) rfl dX8_init_1 ?_
  refine s_n0_aload C dX8_init_4 ?_
  refine g_new C nw_X8_7 dX8_init_5 (by decide) ?_
  refine g_dup C dX8_init_8 rfl ?_
  refine g_invIN C (ct_X7_init) ci_X8_9 (rmk_ok (by decide) (by decide) (by decide) (by decide)) (Nat.le_of_ble_eq_true rfl) rfl dX8_init_9 rfl (q_v ?_)
  rw [show n + 1 + 4 = n + 5 by omega]
  refine g_putF C rfl fp_X8_10_8 dX8_init_12 ((SL_out _ _ (by omega)).trans (gu_same ..)) (Nat.le_of_ble_eq_true rfl) (gfit_o _ _) ?_
  refine s_n0_aload C dX8_init_15 ?_
  refine g_new C nw_X8_16 dX8_init_16 (by decide) ?_
  refine g_dup C dX8_init_19 rfl ?_
  refine g_invI C (ct_Jx4a65c_init_da8c8) ci_X8_18 (rmk_ok (by decide) (by decide) (by decide) (by decide)) (Nat.le_of_ble_eq_true rfl) rfl dX8_init_20 rfl (q_v ?_)
  rw [show n + 5 + 1 = n + 6 by omega]
  refine g_put C fp_X8_19_8 dX8_init_23 ((gu_ne _ _ (by omega)).trans (gu_same ..)) (Nat.le_of_ble_eq_true rfl) (gfit_o _ _) ?_
  refine g_vret C E dX8_init_26 (by decide) ?_
  refine ⟨rfl, ?_, rfl⟩
  funext a
  simp only [SL, gu]
  (repeat' split) <;> first | rfl | omega
