/-! PadPolish: a new object -/
theorem gP_refs {X : gX} {M : gM} {n : Int} {H : Heap} {a : Int} {t : Nat} {len : Int} {f f' : Int → Option Int} (hP : gP X M n H) (hM : M a = some (gR t len f)) (h : ∀ k, 0 ≤ k → k < len → f k = f' k) : gP X (gu M a (gR t len f')) n H := by
  obtain ⟨b1, b2, b3⟩ := hP.2.2 a _ hM
  refine ⟨hP.1, hP.2.1, fun b e he => ?_⟩
  by_cases hb : b = a
  · subst hb
    rw [gu_same] at he
    cases he
    refine ⟨b1, b2, ?_⟩
    have b3' : H[gr X b]? = some (vp_cell (X.2.1 t) (len.toNat, .inr (.inr (.inr (.inr (fun k : Nat => (f k).map (gr X))))))) := b3
    show H[gr X b]? = some (vp_cell (X.2.1 t) (len.toNat, .inr (.inr (.inr (.inr (fun k : Nat => (f' k).map (gr X)))))))
    rw [b3', vp_cell_q, vp_cell_q]
    exact congrArg some (arrV_congr fun j hj => by rw [h j (by omega) (by omega)])
  · rw [gu_ne _ _ hb] at he
    exact hP.2.2 b e he
theorem G.refs {κ : gC} {M : gM} {n : Int} {L : List (Option gV)} {pc : Nat} {st : List gV} {cells slots : Nat} {a : Int} {t : Nat} {len : Int} {f f' : Int → Option Int} (hM : M a = some (gR t len f)) (h : ∀ k, 0 ≤ k → k < len → f k = f' k) (g : G κ (gu M a (gR t len f')) n L pc st cells slots) : G κ M n L pc st cells slots := fun H locs ls hP hS hL => g H locs ls (gP_refs hP hM h) hS hL
def zT : PST × Int := (psNil, 0)
def x0 : XT := (fun _ => 0, fun _ _ => 0, fun _ => (fun _ => 0, 0, -1), fun _ => zS, (fun _ => 0, 0), fun _ => zT)
def l0 (k : Int) : Int := tA k + 5
def XL0 (X : XT) (ℓ : Int → Int) (M : gM) : Prop :=
  M 0 = some (gO 11 (xObj X.1)) ∧ M 1 = some (gR 2 8 (fun i => some (28 + 2 * i))) ∧ M 5 = some (gR 4 2 (fun i => some (44 + 6 * i))) ∧ M 7 = some (gR 3 24 (fun i => some (56 + 4 * i))) ∧ TPi 2 (xTape X) M ∧ M 6 = some (gA 1 2 (X.2.1 2)) ∧ M 14 = some (gA 0 4 (X.2.1 3)) ∧ M 15 = some (gA 0 4 (X.2.1 4)) ∧ (∀ k, 0 ≤ k → k < 8 → RWi (28 + 2 * k) (X.2.2.1 k) M) ∧ (∀ k, 0 ≤ k → k < 29 → SLi (sA k) (X.2.2.2.1 k) M) ∧ TLi 12 X.2.2.2.2.1 M ∧ (∀ k, 0 ≤ k → k < 4 → M (tA k) = some (gO 8 [vr (tA k + 1), vr (ℓ k), vi (X.2.2.2.2.2 k).2])) ∧ ∀ k, 0 ≤ k → k < 4 → lsI M (ℓ k) (X.2.2.2.2.2 k).1
def B0 (M : gM) : Prop := M 0 = some (gO 11 (xObj (fun _ => 0))) ∧ M 1 = some (gR 2 8 (fun _ => none)) ∧ TPi 2 (fun _ => 0, fun _ => 0, 0, 0, 0) M ∧ M 5 = some (gR 4 2 (fun _ => none)) ∧ M 6 = some (gA 1 2 (fun _ => 0)) ∧ M 7 = some (gR 3 24 (fun _ => none)) ∧ SLi 8 zS M ∧ TLi 12 (fun _ => 0, 0) M ∧ M 14 = some (gA 0 4 (fun _ => 0)) ∧ M 15 = some (gA 0 4 (fun _ => 0)) ∧ (M 16 = some (gO 8 [vr 17, vr 21, vi 0]) ∧ SLi 17 zS M ∧ M 21 = some (gO 0 [vi 0, vr (-1), vi 0])) ∧ (M 22 = some (gO 8 [vr 23, vr 27, vi 0]) ∧ SLi 23 zS M ∧ M 27 = some (gO 0 [vi 0, vr (-1), vi 0])) ∧ ∀ a, 28 ≤ a → M a = none
set_option maxRecDepth 20000 in
theorem ct_X11_init {Z : gM} (hZ : ∀ a, 1 ≤ a → Z a = none) : CT yX11_init cX11_init 2 none (rmk 6 151 2043) [vr 0] (gu Z 0 (gO 11 [vn, vn, vn, vn, vn, vn, vn, vn, vn, vn, vn, vi 0, vi 0, vi 0, vi 0, vi 0])) 1 (fun r M2 n2 => r = none ∧ n2 = 152 ∧ XL0 x0 l0 M2 ∧ ∀ a, 152 ≤ a → M2 a = none) := by
  refine CT.of (by decide) (fun _ => Nat.le_of_ble_eq_true rfl) (fun κ C E => ?_)
  show G κ (gu Z 0 (gO 11 [vn, vn, vn, vn, vn, vn, vn, vn, vn, vn, vn, vi 0, vi 0, vi 0, vi 0, vi 0])) 1 [some (vr 0), none] 0 [] 0 0
  have lr : ∀ (z : Nat) (i : Int) (k0 : Nat) (Mc B : gM), (k0 : Int) = i → (∀ a, a < 28 → ¬ a = 1 → Mc a = B a) → Mc 1 = some (gR 2 8 (fun j => if 0 ≤ j ∧ j < i then some (28 + 2 * j) else none)) → (∀ k, 0 ≤ k → k < i → RWi (28 + 2 * k) (fun _ => 0, 0, -1) Mc) → (∀ a, 28 + 2 * i ≤ a → Mc a = none) → B 0 = some (gO 11 (xObj (fun _ => 0))) → 0 ≤ i ∧ i ≤ 8 → (8 - i).toNat = z → (∀ Mx, (∀ a, a < 28 → ¬ a = 1 → Mx a = B a) ∧ Mx 1 = some (gR 2 8 (fun j => if 0 ≤ j ∧ j < 8 then some (28 + 2 * j) else none)) ∧ (∀ k, 0 ≤ k → k < 8 → RWi (28 + 2 * k) (fun _ => 0, 0, -1) Mx) ∧ (∀ a, 28 + 2 * 8 ≤ a → Mx a = none) → G κ Mx 44 [some (vr 0), some (vi 8)] 133 [] 43 705) → G κ Mc (28 + 2 * i) [some (vr 0), some (vi i)] 108 [] (27 + 2 * k0) (361 + 43 * k0) := by
    intro z
    induction z using Nat.strongRecOn with
    | ind z ih =>
      intro i k0 Mc B hk0 i1 i2 i3 i4 hB h1 hz hfin
      have hM0 : Mc 0 = some (gO 11 (xObj (fun _ => 0))) := (i1 0 (by decide) (by decide)).trans hB
      have hag : ∀ a, a < 28 + 2 * i → (RW (28 + 2 * i) (fun _ => 0, 0, -1) Mc) a = Mc a := fun a ha => RW_out _ _ (by omega)
      refine s_n1_iload C dX11_init_108 ?_
      refine g_bipush C dX11_init_109 (by decide) ?_
      refine g_icmp_ge 133 C dX11_init_111 (by decide) (by first | assumption | (unfold iR; omega)) (by first | assumption | (unfold iR; omega)) (fun c111 => ?_) (fun c111 => ?_)
      · have ei : i = 8 := by omega
        subst ei
        have hk8 : k0 = 8 := by omega
        subst hk8
        exact hfin _ ⟨i1, i2, i3, i4⟩
      · refine s_n0_aload C dX11_init_114 ?_
        refine g_get C fd_X11_11_11 dX11_init_115 hM0 rfl ?_
        refine s_n1_iload C dX11_init_118 ?_
        refine g_new C nw_X11_9 dX11_init_119 (by show 27 + 2 * k0 + 1 ≤ 151 ∧ 361 + 43 * k0 + 3 ≤ 2043; omega) ?_
        refine g_dup C dX11_init_122 rfl ?_
        refine g_invIN C (ct_X3_init) ci_X11_65 (rmk_ok (by decide) (by decide) (by omega) (by omega)) (Nat.le_of_ble_eq_true rfl) rfl dX11_init_123 rfl (q_v ?_)
        have ag : ∀ a, a < 28 + 2 * i → (RW (28 + 2 * i) (fun _ => 0, 0, -1) Mc) a = Mc a := hag
        have hArr : (RW (28 + 2 * i) (fun _ => 0, 0, -1) Mc) 1 = _ := (ag _ (by omega)).trans i2
        refine g_aast C (by decide) rfl (Or.inl rfl) dX11_init_126 hArr (RW_there ..).1 (by omega) ?_
        refine s_w1_iinc C dX11_init_127 rfl ?_
        refine g_goto 108 C dX11_init_130 (by decide) ?_
        have gg : ∀ a, a < 28 + 2 * i → ¬ a = 1 → gu (RW (28 + 2 * i) (fun _ => 0, 0, -1) Mc) 1 (gR 2 8 (upq (fun j => if 0 ≤ j ∧ j < i then some (28 + 2 * j) else none) i (some (28 + 2 * i)))) a = Mc a := fun a ha hb => (gu_ne _ _ hb).trans (hag a ha)
        have := ih _ (by omega) (i + 1) (k0 + 1) (gu (RW (28 + 2 * i) (fun _ => 0, 0, -1) Mc) 1 (gR 2 8 (upq (fun j => if 0 ≤ j ∧ j < i then some (28 + 2 * j) else none) i (some (28 + 2 * i))))) B (by omega) (fun a a1 a2 => (gg a (by omega) a2).trans (i1 a a1 a2)) ?_ ?_ ?_ hB (by omega) rfl hfin
        · rw [show 28 + 2 * (i + 1) = 28 + 2 * i + 2 by omega, show 27 + 2 * (k0 + 1) = 27 + 2 * k0 + 2 by omega, show 361 + 43 * (k0 + 1) = 361 + 43 * k0 + 43 by omega] at this
          exact this
        · rw [gu_same]
          congr 3
          funext j
          unfold upq
          dsimp only
          by_cases hj : j = i
          · rw [if_pos hj, if_pos (by omega), hj]
          · rw [if_neg hj]
            by_cases hq : 0 ≤ j ∧ j < i
            · rw [if_pos hq, if_pos (by omega)]
            · rw [if_neg hq, if_neg (by omega)]
        · intro k k1 k2
          by_cases hk : k = i
          · subst hk
            exact (RW_there (28 + 2 * k) (fun _ => 0, 0, -1) Mc).ag (fun a a1 a2 => gu_ne _ _ (by omega))
          · exact (i3 k k1 (by omega)).ag (fun a a1 a2 => gg a (by omega) (by omega))
        · intro a ha
          rw [gu_ne _ _ (by omega), RW_out _ _ (by omega)]
          exact i4 a (by omega)
  have li : ∀ (z : Nat) (i : Int) (k0 : Nat) (Mc B : gM), (k0 : Int) = i → (∀ a, a < 44 → ¬ a = 5 → Mc a = B a) → Mc 5 = some (gR 4 2 (fun j => if 0 ≤ j ∧ j < i then some (44 + 6 * j) else none)) → (∀ k, 0 ≤ k → k < i → Mc (44 + 6 * k) = some (gO 8 [vr (44 + 6 * k + 1), vr (44 + 6 * k + 5), vi 0]) ∧ SLi (44 + 6 * k + 1) zS Mc ∧ Mc (44 + 6 * k + 5) = some (gO 0 [vi 0, vr (-1), vi 0])) → (∀ a, 44 + 6 * i ≤ a → Mc a = none) → B 0 = some (gO 11 (xObj (fun _ => 0))) → 0 ≤ i ∧ i ≤ 2 → (2 - i).toNat = z → (∀ Mx, (∀ a, a < 44 → ¬ a = 5 → Mx a = B a) ∧ Mx 5 = some (gR 4 2 (fun j => if 0 ≤ j ∧ j < 2 then some (44 + 6 * j) else none)) ∧ (∀ k, 0 ≤ k → k < 2 → Mx (44 + 6 * k) = some (gO 8 [vr (44 + 6 * k + 1), vr (44 + 6 * k + 5), vi 0]) ∧ SLi (44 + 6 * k + 1) zS Mx ∧ Mx (44 + 6 * k + 5) = some (gO 0 [vi 0, vr (-1), vi 0])) ∧ (∀ a, 44 + 6 * 2 ≤ a → Mx a = none) → G κ Mx 56 [some (vr 0), some (vi 2)] 159 [] 55 819) → G κ Mc (44 + 6 * i) [some (vr 0), some (vi i)] 135 [] (43 + 6 * k0) (705 + 57 * k0) := by
    intro z
    induction z using Nat.strongRecOn with
    | ind z ih =>
      intro i k0 Mc B hk0 i1 i2 i3 i4 hB h1 hz hfin
      have hM0 : Mc 0 = some (gO 11 (xObj (fun _ => 0))) := (i1 0 (by decide) (by decide)).trans hB
      have hag : ∀ a, a < 44 + 6 * i → (gu (gu (SL (44 + 6 * i + 1) (fun _ => 0, fun _ => 0, fun _ => 0, 0, 0, 0) Mc) (44 + 6 * i + 5) (gO 0 [vi 0, vr (-1), vi 0])) (44 + 6 * i) (gO 8 [vr (44 + 6 * i + 1), vr (44 + 6 * i + 5), vi 0])) a = Mc a := fun a ha => by rw [gu_ne _ _ (by omega), gu_ne _ _ (by omega), SL_out _ _ (by omega)]
      refine s_n1_iload C dX11_init_135 ?_
      refine g_iconst C dX11_init_136 ?_
      refine g_icmp_ge 159 C dX11_init_137 (by decide) (by first | assumption | (unfold iR; omega)) (by first | assumption | (unfold iR; omega)) (fun c137 => ?_) (fun c137 => ?_)
      · have ei : i = 2 := by omega
        subst ei
        have hk8 : k0 = 2 := by omega
        subst hk8
        exact hfin _ ⟨i1, i2, i3, i4⟩
      · refine s_n0_aload C dX11_init_140 ?_
        refine g_get C fd_X11_24_11 dX11_init_141 hM0 rfl ?_
        refine s_n1_iload C dX11_init_144 ?_
        refine g_new C nw_X11_22 dX11_init_145 (by show 43 + 6 * k0 + 1 ≤ 151 ∧ 705 + 57 * k0 + 3 ≤ 2043; omega) ?_
        refine g_dup C dX11_init_148 rfl ?_
        refine g_invIN C (ct_X8_init) ci_X11_57 (rmk_ok (by decide) (by decide) (by omega) (by omega)) (Nat.le_of_ble_eq_true rfl) rfl dX11_init_149 rfl (q_v ?_)
        have ag : ∀ a, a < 44 + 6 * i → (gu (gu (SL (44 + 6 * i + 1) (fun _ => 0, fun _ => 0, fun _ => 0, 0, 0, 0) Mc) (44 + 6 * i + 5) (gO 0 [vi 0, vr (-1), vi 0])) (44 + 6 * i) (gO 8 [vr (44 + 6 * i + 1), vr (44 + 6 * i + 5), vi 0])) a = Mc a := hag
        have hArr : (gu (gu (SL (44 + 6 * i + 1) (fun _ => 0, fun _ => 0, fun _ => 0, 0, 0, 0) Mc) (44 + 6 * i + 5) (gO 0 [vi 0, vr (-1), vi 0])) (44 + 6 * i) (gO 8 [vr (44 + 6 * i + 1), vr (44 + 6 * i + 5), vi 0])) 5 = _ := (ag _ (by omega)).trans i2
        refine g_aast C (by decide) rfl (Or.inl rfl) dX11_init_152 hArr (gu_same ..) (by omega) ?_
        refine s_w1_iinc C dX11_init_153 rfl ?_
        refine g_goto 135 C dX11_init_156 (by decide) ?_
        have gg : ∀ a, a < 44 + 6 * i → ¬ a = 5 → gu (gu (gu (SL (44 + 6 * i + 1) (fun _ => 0, fun _ => 0, fun _ => 0, 0, 0, 0) Mc) (44 + 6 * i + 5) (gO 0 [vi 0, vr (-1), vi 0])) (44 + 6 * i) (gO 8 [vr (44 + 6 * i + 1), vr (44 + 6 * i + 5), vi 0])) 5 (gR 4 2 (upq (fun j => if 0 ≤ j ∧ j < i then some (44 + 6 * j) else none) i (some (44 + 6 * i)))) a = Mc a := fun a ha hb => (gu_ne _ _ hb).trans (hag a ha)
        have := ih _ (by omega) (i + 1) (k0 + 1) (gu (gu (gu (SL (44 + 6 * i + 1) (fun _ => 0, fun _ => 0, fun _ => 0, 0, 0, 0) Mc) (44 + 6 * i + 5) (gO 0 [vi 0, vr (-1), vi 0])) (44 + 6 * i) (gO 8 [vr (44 + 6 * i + 1), vr (44 + 6 * i + 5), vi 0])) 5 (gR 4 2 (upq (fun j => if 0 ≤ j ∧ j < i then some (44 + 6 * j) else none) i (some (44 + 6 * i))))) B (by omega) (fun a a1 a2 => (gg a (by omega) a2).trans (i1 a a1 a2)) ?_ ?_ ?_ hB (by omega) rfl hfin
        · rw [show 44 + 6 * (i + 1) = 44 + 6 * i + 6 by omega, show 43 + 6 * (k0 + 1) = 43 + 6 * k0 + 6 by omega, show 705 + 57 * (k0 + 1) = 705 + 57 * k0 + 57 by omega] at this
          exact this
        · rw [gu_same]
          congr 3
          funext j
          unfold upq
          dsimp only
          by_cases hj : j = i
          · rw [if_pos hj, if_pos (by omega), hj]
          · rw [if_neg hj]
            by_cases hq : 0 ≤ j ∧ j < i
            · rw [if_pos hq, if_pos (by omega)]
            · rw [if_neg hq, if_neg (by omega)]
        · intro k k1 k2
          by_cases hk : k = i
          · subst hk
            exact ⟨(gu_ne _ _ (by omega)).trans (gu_same ..), (SL_there (44 + 6 * k + 1) zS Mc).ag (fun a a1 a2 => by rw [gu_ne _ _ (by omega), gu_ne _ _ (by omega), gu_ne _ _ (by omega)]; rfl), by rw [gu_ne _ _ (by omega), gu_ne _ _ (by omega), gu_same]⟩
          · exact by obtain ⟨u1, u2, u3⟩ := i3 k k1 (by omega); exact ⟨(gg _ (by omega) (by omega)).trans u1, u2.ag (fun a a1 a2 => gg a (by omega) (by omega)), (gg _ (by omega) (by omega)).trans u3⟩
        · intro a ha
          rw [gu_ne _ _ (by omega), gu_ne _ _ (by omega), gu_ne _ _ (by omega), SL_out _ _ (by omega)]
          exact i4 a (by omega)
  have la : ∀ (z : Nat) (i : Int) (k0 : Nat) (Mc B : gM), (k0 : Int) = i → (∀ a, a < 56 → ¬ a = 7 → Mc a = B a) → Mc 7 = some (gR 3 24 (fun j => if 0 ≤ j ∧ j < i then some (56 + 4 * j) else none)) → (∀ k, 0 ≤ k → k < i → SLi (56 + 4 * k) zS Mc) → (∀ a, 56 + 4 * i ≤ a → Mc a = none) → B 0 = some (gO 11 (xObj (fun _ => 0))) → 0 ≤ i ∧ i ≤ 24 → (24 - i).toNat = z → (∀ Mx, (∀ a, a < 56 → ¬ a = 7 → Mx a = B a) ∧ Mx 7 = some (gR 3 24 (fun j => if 0 ≤ j ∧ j < 24 then some (56 + 4 * j) else none)) ∧ (∀ k, 0 ≤ k → k < 24 → SLi (56 + 4 * k) zS Mx) ∧ (∀ a, 56 + 4 * 24 ≤ a → Mx a = none) → G κ Mx 152 [some (vr 0), some (vi 24)] 186 [] 151 2043) → G κ Mc (56 + 4 * i) [some (vr 0), some (vi i)] 161 [] (55 + 4 * k0) (819 + 51 * k0) := by
    intro z
    induction z using Nat.strongRecOn with
    | ind z ih =>
      intro i k0 Mc B hk0 i1 i2 i3 i4 hB h1 hz hfin
      have hM0 : Mc 0 = some (gO 11 (xObj (fun _ => 0))) := (i1 0 (by decide) (by decide)).trans hB
      have hag : ∀ a, a < 56 + 4 * i → (SL (56 + 4 * i) (fun _ => 0, fun _ => 0, fun _ => 0, 0, 0, 0) Mc) a = Mc a := fun a ha => SL_out _ _ (by omega)
      refine s_n1_iload C dX11_init_161 ?_
      refine g_bipush C dX11_init_162 (by decide) ?_
      refine g_icmp_ge 186 C dX11_init_164 (by decide) (by first | assumption | (unfold iR; omega)) (by first | assumption | (unfold iR; omega)) (fun c164 => ?_) (fun c164 => ?_)
      · have ei : i = 24 := by omega
        subst ei
        have hk8 : k0 = 24 := by omega
        subst hk8
        exact hfin _ ⟨i1, i2, i3, i4⟩
      · refine s_n0_aload C dX11_init_167 ?_
        refine g_get C fd_X11_34_11 dX11_init_168 hM0 rfl ?_
        refine s_n1_iload C dX11_init_171 ?_
        refine g_new C nw_X11_32 dX11_init_172 (by show 55 + 4 * k0 + 1 ≤ 151 ∧ 819 + 51 * k0 + 6 ≤ 2043; omega) ?_
        refine g_dup C dX11_init_175 rfl ?_
        refine g_invIN C (ct_X7_init) ci_X11_38 (rmk_ok (by decide) (by decide) (by omega) (by omega)) (Nat.le_of_ble_eq_true rfl) rfl dX11_init_176 rfl (q_v ?_)
        have ag : ∀ a, a < 56 + 4 * i → (SL (56 + 4 * i) (fun _ => 0, fun _ => 0, fun _ => 0, 0, 0, 0) Mc) a = Mc a := hag
        have hArr : (SL (56 + 4 * i) (fun _ => 0, fun _ => 0, fun _ => 0, 0, 0, 0) Mc) 7 = _ := (ag _ (by omega)).trans i2
        refine g_aast C (by decide) rfl (Or.inl rfl) dX11_init_179 hArr (SL_there ..).1 (by omega) ?_
        refine s_w1_iinc C dX11_init_180 rfl ?_
        refine g_goto 161 C dX11_init_183 (by decide) ?_
        have gg : ∀ a, a < 56 + 4 * i → ¬ a = 7 → gu (SL (56 + 4 * i) (fun _ => 0, fun _ => 0, fun _ => 0, 0, 0, 0) Mc) 7 (gR 3 24 (upq (fun j => if 0 ≤ j ∧ j < i then some (56 + 4 * j) else none) i (some (56 + 4 * i)))) a = Mc a := fun a ha hb => (gu_ne _ _ hb).trans (hag a ha)
        have := ih _ (by omega) (i + 1) (k0 + 1) (gu (SL (56 + 4 * i) (fun _ => 0, fun _ => 0, fun _ => 0, 0, 0, 0) Mc) 7 (gR 3 24 (upq (fun j => if 0 ≤ j ∧ j < i then some (56 + 4 * j) else none) i (some (56 + 4 * i))))) B (by omega) (fun a a1 a2 => (gg a (by omega) a2).trans (i1 a a1 a2)) ?_ ?_ ?_ hB (by omega) rfl hfin
        · rw [show 56 + 4 * (i + 1) = 56 + 4 * i + 4 by omega, show 55 + 4 * (k0 + 1) = 55 + 4 * k0 + 4 by omega, show 819 + 51 * (k0 + 1) = 819 + 51 * k0 + 51 by omega] at this
          exact this
        · rw [gu_same]
          congr 3
          funext j
          unfold upq
          dsimp only
          by_cases hj : j = i
          · rw [if_pos hj, if_pos (by omega), hj]
          · rw [if_neg hj]
            by_cases hq : 0 ≤ j ∧ j < i
            · rw [if_pos hq, if_pos (by omega)]
            · rw [if_neg hq, if_neg (by omega)]
        · intro k k1 k2
          by_cases hk : k = i
          · subst hk
            exact (SL_there (56 + 4 * k) zS Mc).ag (fun a a1 a2 => by rw [gu_ne _ _ (by omega)]; rfl)
          · exact (i3 k k1 (by omega)).ag (fun a a1 a2 => gg a (by omega) (by omega))
        · intro a ha
          rw [gu_ne _ _ (by omega), SL_out _ _ (by omega)]
          exact i4 a (by omega)
  have bb : ∀ B, B0 B → G κ B 28 [some (vr 0), some (vi 0)] 108 [] 27 361 := by
    intro B hB
    obtain ⟨b0, b1, bt, b5, b6, b7, b8, b12, b14, b15, ⟨c1, c2, c3⟩, ⟨d1, d2, d3⟩, bz⟩ := hB
    refine lr _ 0 0 B B rfl (fun _ _ _ => rfl) (by rw [b1]; congr 3; funext j; rw [if_neg (by omega)]) (fun k k1 k2 => by omega) (fun a ha => bz a (by omega)) b0 (by omega) rfl ?_
    intro M1 hM1
    obtain ⟨e1, e2, e3, e4⟩ := hM1
    refine g_iconst C dX11_init_133 ?_
    refine s_n1_istore C dX11_init_134 rfl ?_
    refine li _ 0 0 M1 M1 rfl (fun _ _ _ => rfl) (by rw [e1 5 (by decide) (by decide), b5]; congr 3; funext j; rw [if_neg (by omega)]) (fun k k1 k2 => by omega) (fun a ha => e4 a (by omega)) ((e1 0 (by decide) (by decide)).trans b0) (by omega) rfl ?_
    intro M2 hM2
    obtain ⟨f1, f2, f3, f4⟩ := hM2
    refine g_iconst C dX11_init_159 ?_
    refine s_n1_istore C dX11_init_160 rfl ?_
    refine la _ 0 0 M2 M2 rfl (fun _ _ _ => rfl) (by rw [f1 7 (by decide) (by decide), e1 7 (by decide) (by decide), b7]; congr 3; funext j; rw [if_neg (by omega)]) (fun k k1 k2 => by omega) (fun a ha => f4 a (by omega)) ((f1 0 (by decide) (by decide)).trans ((e1 0 (by decide) (by decide)).trans b0)) (by omega) rfl ?_
    intro M3 hM3
    obtain ⟨g1, g2, g3, g4⟩ := hM3
    have h1 : ∀ a, a < 28 → ¬ a = 1 → ¬ a = 5 → ¬ a = 7 → M3 a = B a := fun a a1 a2 a3 a4 => (g1 a (by omega) a4).trans ((f1 a (by omega) a3).trans (e1 a a1 a2))
    refine G.refs (a := 1) (f' := fun i => some (28 + 2 * i)) ((g1 1 (by decide) (by decide)).trans ((f1 1 (by decide) (by decide)).trans e2)) (fun k k1 k2 => if_pos ⟨k1, k2⟩) ?_
    refine G.refs (a := 5) (f' := fun i => some (44 + 6 * i)) ((gu_ne _ _ (by decide)).trans ((g1 5 (by decide) (by decide)).trans f2)) (fun k k1 k2 => if_pos ⟨k1, k2⟩) ?_
    refine G.refs (a := 7) (f' := fun i => some (56 + 4 * i)) ((gu_ne _ _ (by decide)).trans ((gu_ne _ _ (by decide)).trans g2)) (fun k k1 k2 => if_pos ⟨k1, k2⟩) ?_
    obtain ⟨M4, hM4⟩ : ∃ M4, M4 = gu (gu (gu M3 1 (gR 2 8 (fun i => some (28 + 2 * i)))) 5 (gR 4 2 (fun i => some (44 + 6 * i)))) 7 (gR 3 24 (fun i => some (56 + 4 * i))) := ⟨_, rfl⟩
    rw [← hM4]
    have k3 : ∀ a, ¬ a = 1 → ¬ a = 5 → ¬ a = 7 → M4 a = M3 a := fun a a1 a2 a3 => by rw [hM4, gu_ne _ _ a3, gu_ne _ _ a2, gu_ne _ _ a1]
    have k2 : ∀ a, a < 56 → ¬ a = 1 → ¬ a = 5 → ¬ a = 7 → M4 a = M2 a := fun a a0 a1 a2 a3 => (k3 a a1 a2 a3).trans (g1 a a0 a3)
    have k1 : ∀ a, a < 44 → ¬ a = 1 → ¬ a = 5 → ¬ a = 7 → M4 a = M1 a := fun a a0 a1 a2 a3 => (k2 a (by omega) a1 a2 a3).trans (f1 a a0 a2)
    have kB : ∀ a, a < 28 → ¬ a = 1 → ¬ a = 5 → ¬ a = 7 → M4 a = B a := fun a a0 a1 a2 a3 => (k1 a (by omega) a1 a2 a3).trans (e1 a a0 a1)
    have nl : ∀ q, LR q → M4 q = some (gO 0 [vi 0, vr (-1), vi 0]) → lsI M4 q psNil := fun q q1 q2 => ⟨0, -1, fun _ => none, fun _ => 0, fun _ => 0, q1, q2, Or.inl ⟨rfl, rfl⟩, fun p p1 p2 => absurd p2 (by show ¬ p < 0; omega)⟩
    refine g_vret C E dX11_init_186 (by decide) ⟨rfl, rfl, ?_, fun a ha => (k3 a (by omega) (by omega) (by omega)).trans (g4 a (by omega))⟩
    have e5 := f3 0 (by decide) (by decide)
    have e6 := f3 1 (by decide) (by decide)
    refine ⟨(kB 0 (by decide) (by decide) (by decide) (by decide)).trans b0, ?_, ?_, ?_, bt.ag (fun a a1 a2 => kB a (by omega) (by omega) (by omega) (by omega)), (kB 6 (by decide) (by decide) (by decide) (by decide)).trans b6, (kB 14 (by decide) (by decide) (by decide) (by decide)).trans b14, (kB 15 (by decide) (by decide) (by decide) (by decide)).trans b15, ?_, ?_, b12.ag (fun a a1 a2 => kB a (by omega) (by omega) (by omega) (by omega)), ?_, ?_⟩
    · rw [hM4, gu_ne _ _ (by decide), gu_ne _ _ (by decide), gu_same]
    · rw [hM4, gu_ne _ _ (by decide), gu_same]
    · rw [hM4, gu_same]
    · exact fun k q1 q2 => (e3 k q1 q2).ag (fun a a1 a2 => k1 a (by omega) (by omega) (by omega) (by omega))
    · intro k q1 q2
      show SLi (sA k) zS M4
      rcases (show k < 24 ∨ k = 24 ∨ k = 25 ∨ k = 26 ∨ k = 27 ∨ k = 28 by omega) with q | q | q | q | q | q
      · rw [show sA k = 56 + 4 * k from if_pos q]
        exact (g3 k q1 q).ag (fun a a1 a2 => k3 a (by omega) (by omega) (by omega))
      · rw [q]
        exact b8.ag (fun a a1 a2 => kB a (by show a < 28; change a < 8 + 4 at a2; omega) (by change 8 ≤ a at a1; omega) (by change 8 ≤ a at a1; omega) (by change 8 ≤ a at a1; omega))
      · rw [q]
        exact c2.ag (fun a a1 a2 => kB a (by change a < 17 + 4 at a2; omega) (by change 17 ≤ a at a1; omega) (by change 17 ≤ a at a1; omega) (by change 17 ≤ a at a1; omega))
      · rw [q]
        exact d2.ag (fun a a1 a2 => kB a (by change a < 23 + 4 at a2; omega) (by change 23 ≤ a at a1; omega) (by change 23 ≤ a at a1; omega) (by change 23 ≤ a at a1; omega))
      · rw [q]
        exact e5.2.1.ag (fun a a1 a2 => k2 a (by change a < 45 + 4 at a2; omega) (by change 45 ≤ a at a1; omega) (by change 45 ≤ a at a1; omega) (by change 45 ≤ a at a1; omega))
      · rw [q]
        exact e6.2.1.ag (fun a a1 a2 => k2 a (by change a < 51 + 4 at a2; omega) (by change 51 ≤ a at a1; omega) (by change 51 ≤ a at a1; omega) (by change 51 ≤ a at a1; omega))
    · intro k q1 q2
      rcases (show k = 0 ∨ k = 1 ∨ k = 2 ∨ k = 3 by omega) with rfl | rfl | rfl | rfl
      · exact (kB 16 (by decide) (by decide) (by decide) (by decide)).trans c1
      · exact (kB 22 (by decide) (by decide) (by decide) (by decide)).trans d1
      · exact (k2 44 (by decide) (by decide) (by decide) (by decide)).trans e5.1
      · exact (k2 50 (by decide) (by decide) (by decide) (by decide)).trans e6.1
    · intro k q1 q2
      rcases (show k = 0 ∨ k = 1 ∨ k = 2 ∨ k = 3 by omega) with rfl | rfl | rfl | rfl
      · exact nl 21 (by unfold LR; omega) ((kB 21 (by decide) (by decide) (by decide) (by decide)).trans c3)
      · exact nl 27 (by unfold LR; omega) ((kB 27 (by decide) (by decide) (by decide) (by decide)).trans d3)
      · exact nl 49 (by unfold LR; omega) ((k2 49 (by decide) (by decide) (by decide) (by decide)).trans e5.2.2)
      · exact nl 55 (by unfold LR; omega) ((k2 55 (by decide) (by decide) (by decide) (by decide)).trans e6.2.2)
  refine s_n0_aload C dX11_init_0 ?_
  refine g_objInit C wd_322 wd_70 wdObj (by decide) (Nat.le_of_ble_eq_true rfl) rfl dX11_init_1 ?_
  refine s_n0_aload C dX11_init_4 ?_
  refine g_bipush C dX11_init_5 (by decide) ?_
  refine g_newR C (t := 2) (by decide) wd_323 dX11_init_7 (by omega) (by decide) ?_
  refine g_putF C rfl fp_X11_11_11 dX11_init_10 rfl (Nat.le_of_ble_eq_true rfl) (gfit_a _ _) ?_
  refine s_n0_aload C dX11_init_13 ?_
  refine g_new C nw_X11_15 dX11_init_14 (by decide) ?_
  refine g_dup C dX11_init_17 rfl ?_
  refine g_invIN C (ct_X9_init) ci_X11_17 (rmk_ok (by decide) (by decide) (by decide) (by decide)) (Nat.le_of_ble_eq_true rfl) rfl dX11_init_18 rfl (q_v ?_)
  refine g_putF C rfl fp_X11_18_11 dX11_init_21 rfl (Nat.le_of_ble_eq_true rfl) (gfit_o _ _) ?_
  refine s_n0_aload C dX11_init_24 ?_
  refine g_iconst C dX11_init_25 ?_
  refine g_newR C (t := 4) (by decide) wd_331 dX11_init_26 (by omega) (by decide) ?_
  refine g_putF C rfl fp_X11_24_11 dX11_init_29 rfl (Nat.le_of_ble_eq_true rfl) (gfit_a _ _) ?_
  refine s_n0_aload C dX11_init_32 ?_
  refine g_iconst C dX11_init_33 ?_
  refine g_newZ C wd_1179 dX11_init_34 (by omega) (by decide) ?_
  refine g_putF C rfl fp_X11_28_11 dX11_init_36 rfl (Nat.le_of_ble_eq_true rfl) (gfit_a _ _) ?_
  refine s_n0_aload C dX11_init_39 ?_
  refine g_bipush C dX11_init_40 (by decide) ?_
  refine g_newR C (t := 3) (by decide) wd_334 dX11_init_42 (by omega) (by decide) ?_
  refine g_putF C rfl fp_X11_34_11 dX11_init_45 rfl (Nat.le_of_ble_eq_true rfl) (gfit_a _ _) ?_
  refine s_n0_aload C dX11_init_48 ?_
  refine g_new C nw_X11_32 dX11_init_49 (by decide) ?_
  refine g_dup C dX11_init_52 rfl ?_
  refine g_invIN C (ct_X7_init) ci_X11_38 (rmk_ok (by decide) (by decide) (by decide) (by decide)) (Nat.le_of_ble_eq_true rfl) rfl dX11_init_53 rfl (q_v ?_)
  refine g_putF C rfl fp_X11_39_11 dX11_init_56 rfl (Nat.le_of_ble_eq_true rfl) (gfit_o _ _) ?_
  refine s_n0_aload C dX11_init_59 ?_
  refine g_new C nw_X11_43 dX11_init_60 (by decide) ?_
  refine g_dup C dX11_init_63 rfl ?_
  refine g_invIN C (ct_X10_init) ci_X11_45 (rmk_ok (by decide) (by decide) (by decide) (by decide)) (Nat.le_of_ble_eq_true rfl) rfl dX11_init_64 rfl (q_v ?_)
  refine g_putF C rfl fp_X11_46_11 dX11_init_67 rfl (Nat.le_of_ble_eq_true rfl) (gfit_o _ _) ?_
  refine s_n0_aload C dX11_init_70 ?_
  refine g_iconst C dX11_init_71 ?_
  refine g_newI C wd_1178 dX11_init_72 (by omega) (by decide) ?_
  refine g_putF C rfl fp_X11_50_11 dX11_init_74 rfl (Nat.le_of_ble_eq_true rfl) (gfit_a _ _) ?_
  refine s_n0_aload C dX11_init_77 ?_
  refine g_iconst C dX11_init_78 ?_
  refine g_newI C wd_1178 dX11_init_79 (by omega) (by decide) ?_
  refine g_putF C rfl fp_X11_54_11 dX11_init_81 rfl (Nat.le_of_ble_eq_true rfl) (gfit_a _ _) ?_
  refine s_n0_aload C dX11_init_84 ?_
  refine g_new C nw_X11_22 dX11_init_85 (by decide) ?_
  refine g_dup C dX11_init_88 rfl ?_
  refine g_invIN C (ct_X8_init) ci_X11_57 (rmk_ok (by decide) (by decide) (by decide) (by decide)) (Nat.le_of_ble_eq_true rfl) rfl dX11_init_89 rfl (q_v ?_)
  refine g_put C fp_X11_58_11 dX11_init_92 rfl (Nat.le_of_ble_eq_true rfl) (gfit_o _ _) ?_
  refine s_n0_aload C dX11_init_95 ?_
  refine g_new C nw_X11_22 dX11_init_96 (by decide) ?_
  refine g_dup C dX11_init_99 rfl ?_
  refine g_invIN C (ct_X8_init) ci_X11_57 (rmk_ok (by decide) (by decide) (by decide) (by decide)) (Nat.le_of_ble_eq_true rfl) rfl dX11_init_100 rfl (q_v ?_)
  refine g_put C fp_X11_62_11 dX11_init_103 rfl (Nat.le_of_ble_eq_true rfl) (gfit_o _ _) ?_
  refine g_iconst C dX11_init_106 ?_
  refine s_n1_istore C dX11_init_107 rfl ?_
  refine bb _ ⟨rfl, rfl, ⟨rfl, rfl, rfl⟩, rfl, rfl, rfl, ⟨rfl, rfl, rfl, rfl⟩, ⟨rfl, rfl⟩, rfl, rfl, ⟨rfl, ⟨rfl, rfl, rfl, rfl⟩, rfl⟩, ⟨rfl, ⟨rfl, rfl, rfl, rfl⟩, rfl⟩, ?_⟩
  intro a ha
  simp only [gu, SL, TP, TL]
  repeat rw [if_neg (by omega)]
  exact hZ a (by omega)
