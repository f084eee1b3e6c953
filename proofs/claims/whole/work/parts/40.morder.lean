/-! PadPolishModel: order -/
def plc (row m k : Int) : Int := bAnd (bShr row (2 * (m - 1 - k))) 3
def mdS (row m k : Int) : Int := itI (fun k x => bOr x (bShl 1 (plc row m k))) 0 k
def mdOk (row m : Int) : Bool := decide (mdS row m m = bShl 1 m - 1)
def mdL (row m : Int) : List Int := (List.range m.toNat).map (fun k : Nat => plc row m (k : Int))
def mdPre (m : Int) (w : Nat) : List (List Int) := ((List.range w).filter (fun w : Nat => mdOk (w : Int) m)).map (fun w : Nat => mdL (w : Int) m)
theorem md_or : mdPre 0 1 = orPre 0 1 ∧ mdPre 1 4 = orPre 1 1 ∧ mdPre 2 16 = orPre 2 4 ∧ mdPre 3 64 = orPre 3 27 ∧ mdPre 4 256 = orPre 4 256 := by decide +kernel
def mdQ (X : XT) (w : Nat) : Int × List Int := (mdPre (xP X).1 w).foldl (orF X) (1000, [])
theorem mdQ_s (X : XT) (w : Nat) : mdQ X (w + 1) = if mdOk w (xP X).1 then orF X (mdQ X w) (mdL w (xP X).1) else mdQ X w := by
  unfold mdQ mdPre
  rw [List.range_succ, List.filter_append, List.map_append, List.foldl_append]
  by_cases h : mdOk w (xP X).1
  · simp [List.filter, h]
  · simp [List.filter, h]
theorem md_4 {m : Int} (h : 0 ≤ m ∧ m ≤ 4) : (m = 0 ∧ bShl 1 (2 * m) = 1) ∨ (m = 1 ∧ bShl 1 (2 * m) = 4) ∨ (m = 2 ∧ bShl 1 (2 * m) = 16) ∨ (m = 3 ∧ bShl 1 (2 * m) = 64) ∨ (m = 4 ∧ bShl 1 (2 * m) = 256) := by
  rcases (show m = 0 ∨ m = 1 ∨ m = 2 ∨ m = 3 ∨ m = 4 by omega) with rfl | rfl | rfl | rfl | rfl <;> decide
theorem mdQ_e {X : XT} (hO : xOK X) : mdQ X (bShl 1 (2 * (xP X).1)).toNat = orQ X (gWd (xP X).1).toNat := by
  unfold mdQ orQ
  have hm := md_4 ⟨hO.ps.1, hO.ps.2.1⟩
  rcases hm with ⟨e, e2⟩ | ⟨e, e2⟩ | ⟨e, e2⟩ | ⟨e, e2⟩ | ⟨e, e2⟩ <;> rw [e2, e]
  · rw [show (1 : Int).toNat = 1 from rfl, md_or.1]; rfl
  · rw [show (4 : Int).toNat = 4 from rfl, md_or.2.1]; rfl
  · rw [show (16 : Int).toNat = 16 from rfl, md_or.2.2.1]; rfl
  · rw [show (64 : Int).toNat = 64 from rfl, md_or.2.2.2.1]; rfl
  · rw [show (256 : Int).toNat = 256 from rfl, md_or.2.2.2.2]; rfl
theorem mdPlc_f : ∀ m : Fin 5, ∀ w : Fin 256, ∀ k : Fin 4, mdOk (w.val : Int) (m.val : Int) = true → k.val < m.val → 0 ≤ plc (w.val : Int) (m.val : Int) (k.val : Int) ∧ plc (w.val : Int) (m.val : Int) (k.val : Int) < (m.val : Int) := by decide +kernel
theorem mdPlc {m w k : Int} (hm : 0 ≤ m ∧ m ≤ 4) (hw : 0 ≤ w ∧ w < 256) (ho : mdOk w m = true) (hk : 0 ≤ k ∧ k < m) : 0 ≤ plc w m k ∧ plc w m k < m := by
  have := mdPlc_f ⟨m.toNat, by omega⟩ ⟨w.toNat, by omega⟩ ⟨k.toNat, by omega⟩
  simp only [show ((m.toNat : Nat) : Int) = m by omega, show ((w.toNat : Nat) : Int) = w by omega, show ((k.toNat : Nat) : Int) = k by omega] at this
  exact this ho (by omega)
theorem mdOp (X : XT) (w : Int) {m : Int} (hm : 0 ≤ m ∧ m ≤ 4) : opI X (plc w m) m = opL X (mdL w m) := by
  unfold opI opL mdL
  rcases (show m = 0 ∨ m = 1 ∨ m = 2 ∨ m = 3 ∨ m = 4 by omega) with rfl | rfl | rfl | rfl | rfl <;> simp [itI, itr, List.range_succ]
theorem mdL_get (w : Int) {m k : Int} (hk : 0 ≤ k ∧ k < m) : (mdL w m).getD k.toNat 0 = plc w m k := by
  unfold mdL
  rw [List.getD_eq_getElem?_getD, List.getElem?_map, List.getElem?_range (by omega)]
  show plc w m ((k.toNat : Nat) : Int) = _
  rw [show ((k.toNat : Nat) : Int) = k by omega]
theorem orQ_lt {X : XT} (hO : xOK X) : (orQ X (gWd (xP X).1).toNat).1 ≤ 999 := by
  have hm := md_4 ⟨hO.ps.1, hO.ps.2.1⟩
  have hn : orPre (xP X).1 (gWd (xP X).1).toNat ≠ [] := by
    rcases hm with ⟨e, -⟩ | ⟨e, -⟩ | ⟨e, -⟩ | ⟨e, -⟩ | ⟨e, -⟩ <;> rw [e]
    · decide +kernel
    · exact orPre_ne.1
    · exact orPre_ne.2.1
    · exact orPre_ne.2.2.1
    · exact orPre_ne.2.2.2
  unfold orQ
  have hall : ∀ l ∈ orPre (xP X).1 (gWd (xP X).1).toNat, ∃ w : Nat, l = dgL (w : Int) (xP X).1 := fun l h => orPre_of h
  generalize orPre (xP X).1 (gWd (xP X).1).toNat = P at hn hall
  have hf : ∀ (ls : List (List Int)) (q : Int × List Int), q.1 ≤ 999 → (ls.foldl (orF X) q).1 ≤ 999 := by
    intro ls
    induction ls with
    | nil => intro q hq; exact hq
    | cons l ls ih =>
      intro q hq
      rw [List.foldl_cons]
      refine ih _ ?_
      unfold orF
      split
      · exact Int.le_trans (Int.le_of_lt (by assumption)) hq
      · exact hq
  cases P with
  | nil => exact absurd rfl hn
  | cons l ls =>
    rw [List.foldl_cons]
    obtain ⟨w, ew⟩ := hall l List.mem_cons_self
    refine hf ls _ ?_
    have hu := un_b (opL_ok hO (w : Int))
    rw [← ew] at hu
    unfold orF
    rw [if_pos (by show _ < (1000 : Int); omega)]
    exact hu.2
set_option maxRecDepth 20000 in
theorem ct_X12_placed {X : XT} {s : YT} {b : Int → Int} {M : gM} {n : Int} (hR : yR X s b) (hO : xOK X) {row k : Int} : CT yX12_placed cX12_placed 3 (some .int) (rmk 0 0 0) [vr 152, vi row, vi k] (YO s M) n (qr (some (vi (plc row (xP X).1 k))) (YO s M) n) := by
  refine CT.of (by decide) (fun _ => Nat.le_of_ble_eq_true rfl) (fun κ C E => ?_)
  show G κ (YO s M) n [some (vr 152), some (vi row), some (vi k)] 0 [] 0 0
  have e5 : s.2 3 5 = (xP X).1 := by rw [hR.tab, pq_b (Or.inr (Or.inl rfl))]; exact hR.bk.2.2.1
  refine s_n1_iload C dX12_placed_0 ?_
  refine g_iconst C dX12_placed_1 ?_
  refine s_n0_aload C dX12_placed_2 ?_
  refine g_get C fd_X12_19_12 dX12_placed_3 (YO_o ..) rfl ?_
  refine g_iconst C dX12_placed_6 ?_
  refine g_iald C dX12_placed_7 (YO_a3 ..) (by omega) ?_
  rw [e5]
  refine g_iconst C dX12_placed_8 ?_
  refine g_isub C dX12_placed_9 ?_
  refine s_n2_iload C dX12_placed_10 ?_
  refine g_isub C dX12_placed_11 ?_
  refine g_imul C dX12_placed_12 ?_
  refine g_ishr C dX12_placed_13 ?_
  refine g_iconst C dX12_placed_14 ?_
  refine g_iand C dX12_placed_15 ?_
  refine g_iret C E dX12_placed_16 (by decide) ?_
  exact ⟨rfl, rfl, rfl⟩
set_option maxRecDepth 20000 in
theorem ct_X12_isOrder {X : XT} {s : YT} {b : Int → Int} {M : gM} {n : Int} (hR : yR X s b) (hO : xOK X) {row : Int} : CT yX12_isOrder cX12_isOrder 4 (some .boolean) (rmk 1 0 0) [vr 152, vi row] (YO s M) n (qr (some (vi (if mdOk row (xP X).1 then 1 else 0))) (YO s M) n) := by
  refine CT.of (by decide) (fun _ => Nat.le_of_ble_eq_true rfl) (fun κ C E => ?_)
  show G κ (YO s M) n [some (vr 152), some (vi row), none, none] 0 [] 0 0
  have e5 : s.2 3 5 = (xP X).1 := by rw [hR.tab, pq_b (Or.inr (Or.inl rfl))]; exact hR.bk.2.2.1
  have hp1 := hO.ps.1
  have hp2 := hO.ps.2.1
  have hA := psA_b hO.ps
  have lp : ∀ (z : Nat) (k : Int), 0 ≤ k ∧ k ≤ (xP X).1 → ((xP X).1 - k).toNat = z → G κ (YO s M) n [some (vr 152), some (vi row), some (vi (mdS row (xP X).1 k)), some (vi k)] 4 [] 0 0 := by
    intro z
    induction z using Nat.strongRecOn with
    | ind z ih =>
      intro k h1 hz
      refine s_n3_iload C dX12_isOrder_4 ?_
      refine s_n0_aload C dX12_isOrder_5 ?_
      refine g_get C fd_X12_19_12 dX12_isOrder_6 (YO_o ..) rfl ?_
      refine g_iconst C dX12_isOrder_9 ?_
      refine g_iald C dX12_isOrder_10 (YO_a3 ..) (by omega) ?_
      rw [e5]
      refine g_icmp_ge 31 C dX12_isOrder_11 (by decide) (by first | assumption | (unfold iR; omega)) (by first | assumption | (unfold iR; omega)) (fun c11 => ?_) (fun c11 => ?_)
      · have e : k = (xP X).1 := by omega
        subst e
        have hsr : iR (mdS row (xP X).1 (xP X).1) := itI_inv (g := fun k x => bOr x (bShl 1 (plc row (xP X).1 k))) (a := (0 : Int)) (fun _ x => iR x) iR0 (fun _ _ _ _ => bOr_R _ _) hp1
        refine s_n2_iload C dX12_isOrder_31 ?_
        refine g_iconst C dX12_isOrder_32 ?_
        refine s_n0_aload C dX12_isOrder_33 ?_
        refine g_get C fd_X12_19_12 dX12_isOrder_34 (YO_o ..) rfl ?_
        refine g_iconst C dX12_isOrder_37 ?_
        refine g_iald C dX12_isOrder_38 (YO_a3 ..) (by omega) ?_
        rw [e5]
        refine g_ishl C dX12_isOrder_39 ?_
        refine g_iconst C dX12_isOrder_40 ?_
        refine g_isub C dX12_isOrder_41 ?_
        refine g_icmp_ne 49 C dX12_isOrder_42 (by decide) (by exact hsr) (by unfold iR; omega) (fun c42 => ?_) (fun c42 => ?_)
        · refine g_iconst C dX12_isOrder_49 ?_
          refine g_zret C E dX12_isOrder_50 (by decide) (by omega) ?_
          rw [if_neg (by unfold mdOk; simpa using c42)]
          exact ⟨rfl, rfl, rfl⟩
        · refine g_iconst C dX12_isOrder_45 ?_
          refine g_goto 50 C dX12_isOrder_46 (by decide) ?_
          refine g_zret C E dX12_isOrder_50 (by decide) (by omega) ?_
          rw [if_pos (by unfold mdOk; simpa using c42)]
          exact ⟨rfl, rfl, rfl⟩
      · refine s_n2_iload C dX12_isOrder_14 ?_
        refine g_iconst C dX12_isOrder_15 ?_
        refine s_n0_aload C dX12_isOrder_16 ?_
        refine s_n1_iload C dX12_isOrder_17 ?_
        refine s_n3_iload C dX12_isOrder_18 ?_
        refine g_invV C (ct_X12_placed hR hO (row := row) (k := k)) (YO_o ..) cv_X12_225_12 (rmk_ok (by decide) (by decide) (by decide) (by decide)) (Nat.le_of_ble_eq_true rfl) rfl dX12_isOrder_19 rfl (q_r0 ?_)
        refine g_ishl C dX12_isOrder_22 ?_
        refine g_ior C dX12_isOrder_23 ?_
        refine s_n2_istore C dX12_isOrder_24 rfl ?_
        refine s_w3_iinc C dX12_isOrder_25 rfl ?_
        refine g_goto 4 C dX12_isOrder_28 (by decide) ?_
        have e : mdS row (xP X).1 (k + 1) = bOr (mdS row (xP X).1 k) (bShl 1 (plc row (xP X).1 k)) := itI_s _ _ h1.1
        rw [← e]
        exact ih _ (by omega) (k + 1) (by omega) rfl
  refine g_iconst C dX12_isOrder_0 ?_
  refine s_n2_istore C dX12_isOrder_1 rfl ?_
  refine g_iconst C dX12_isOrder_2 ?_
  refine s_n3_istore C dX12_isOrder_3 rfl ?_
  exact lp _ 0 (by omega) rfl
set_option maxRecDepth 20000 in
theorem ct_X12_order {X : XT} {s0 : YT} {M : gM} {n : Int} (h0 : yRel X s0) (hO : xOK X) {k : Int} (hk : iR k) : CT yX12_order cX12_order 7 (some .int) (rmk 3 0 0) [vr 152, vi k] (YO s0 M) n (yP (xOrder X k) M n) := by
  refine CT.of (by decide) (fun _ => Nat.le_of_ble_eq_true rfl) (fun κ C E => ?_)
  show G κ (YO s0 M) n [some (vr 152), some (vi k), none, none, none, none, none] 0 [] 0 0
  have hp1 := hO.ps.1
  have hp2 := hO.ps.2.1
  have hmm : 0 ≤ (xP X).1 ∧ (xP X).1 ≤ 4 := ⟨hp1, hp2⟩
  have h4 := md_4 hmm
  have li : ∀ (z : Nat) (i best least w : Int) (q6 : Option gV) (s : YT) (b : Int → Int), yR X s b → mdOk w (xP X).1 = true → (0 ≤ w ∧ w < 256) → 0 ≤ i ∧ i ≤ (xP X).1 → ((xP X).1 - i).toNat = z → (∀ q5, G κ (YO (yS 5 s (opL X (mdL w (xP X).1)) b) M) n [some (vr 152), some (vi k), some (vi best), some (vi least), some (vi w), q5, q6] 104 [] 0 0) → G κ (YO (yS 5 s (opI X (plc w (xP X).1) i) b) M) n [some (vr 152), some (vi k), some (vi best), some (vi least), some (vi w), some (vi i), q6] 71 [] 0 0 := by
    intro z
    induction z using Nat.strongRecOn with
    | ind z ih =>
      intro i best least w q6 s b hR ho hw h1 hz hk
      have e5 : s.2 3 5 = (xP X).1 := by rw [hR.tab, pq_b (Or.inr (Or.inl rfl))]; exact hR.bk.2.2.1
      have hSi : sfOK (opI X (plc w (xP X).1) i) := opI_ok hO (fun k k0 k1 => mdPlc hmm hw ho ⟨k0, k1⟩) h1.1 h1.2
      refine s_w5_iload C dX12_order_71 ?_
      refine s_n0_aload C dX12_order_73 ?_
      refine g_get C fd_X12_19_12 dX12_order_74 (YO_o ..) rfl ?_
      refine g_iconst C dX12_order_77 ?_
      refine g_iald C dX12_order_78 (YO_a3 ..) (by omega) ?_
      rw [show (yS 5 s (opI X (plc w (xP X).1) i) b).2 3 5 = (xP X).1 from e5]
      refine g_icmp_ge 104 C dX12_order_79 (by decide) (by first | assumption | (unfold iR; omega)) (by first | assumption | (unfold iR; omega)) (fun c79 => ?_) (fun c79 => ?_)
      · have ei : i = (xP X).1 := by omega
        subst ei
        rw [mdOp X w hmm]
        exact hk _
      · refine s_n0_aload C dX12_order_82 ?_
        refine s_n0_aload C dX12_order_83 ?_
        refine g_get C fd_X12_25_12 dX12_order_84 (YO_o ..) rfl ?_
        refine s_n0_aload C dX12_order_87 ?_
        refine s_w4_iload C dX12_order_88 ?_
        refine s_w5_iload C dX12_order_90 ?_
        refine g_invV C (ct_X12_placed (s := yS 5 s (opI X (plc w (xP X).1) i) b) (hR.t5 _ _) hO (row := w) (k := i)) (YO_o ..) cv_X12_225_12 (rmk_ok (by decide) (by decide) (by decide) (by decide)) (Nat.le_of_ble_eq_true rfl) rfl dX12_order_92 rfl (q_r0 ?_)
        refine g_invV C (ct_X12_pass_5 (ps := xP X) (p := plc w (xP X).1 i) hR.tab hR.bk hO.ps (mdPlc hmm hw ho ⟨h1.1, by omega⟩) hSi) (YO_o ..) cv_X12_173_12 (rmk_ok (by decide) (by decide) (by decide) (by decide)) (Nat.le_of_ble_eq_true rfl) rfl dX12_order_95 rfl (q_v0 ?_)
        refine s_w5_iinc C dX12_order_98 rfl ?_
        refine g_goto 71 C dX12_order_101 (by decide) ?_
        have e : opI X (plc w (xP X).1) (i + 1) = pGo ((xP X).2.1 (plc w (xP X).1 i)) ((xP X).2.2.1 (plc w (xP X).1 i)) ((xP X).2.2.2 (plc w (xP X).1 i)) (opI X (plc w (xP X).1) i) := itI_s _ _ h1.1
        rw [← e]
        exact ih _ (by omega) (i + 1) best least w q6 s b hR ho hw (by omega) rfl hk
  have lp : ∀ (z : Nat) (w best least : Int) (s : YT) (b : Int → Int) (q5 q6 : Option gV), yR X s b → ¬ X.1 0 = 0 → (-1 ≤ k ∧ k ≤ 3) → ((best = -1000000 ∧ mdQ X w.toNat = (1000, [])) ∨ (0 ≤ best ∧ best < w ∧ least = (mdQ X w.toNat).1 ∧ mdL best (xP X).1 = (mdQ X w.toNat).2)) → 0 ≤ w ∧ w ≤ bShl 1 (2 * (xP X).1) → (-999 ≤ least ∧ least ≤ 999) → (bShl 1 (2 * (xP X).1) - w).toNat = z → G κ (YO s M) n [some (vr 152), some (vi k), some (vi best), some (vi least), some (vi w), q5, q6] 40 [] 0 0 := by
    intro z
    induction z using Nat.strongRecOn with
    | ind z ih =>
      intro w best least s b q5 q6 hR q1 q2 hq h1 hl hz
      have e5 : s.2 3 5 = (xP X).1 := by rw [hR.tab, pq_b (Or.inr (Or.inl rfl))]; exact hR.bk.2.2.1
      have es := mdQ_s X w.toNat
      rw [show w.toNat + 1 = (w + 1).toNat by omega, show ((w.toNat : Nat) : Int) = w by omega] at es
      refine s_w4_iload C dX12_order_40 ?_
      refine g_iconst C dX12_order_42 ?_
      refine g_iconst C dX12_order_43 ?_
      refine s_n0_aload C dX12_order_44 ?_
      refine g_get C fd_X12_19_12 dX12_order_45 (YO_o ..) rfl ?_
      refine g_iconst C dX12_order_48 ?_
      refine g_iald C dX12_order_49 (YO_a3 ..) (by omega) ?_
      rw [e5]
      refine g_imul C dX12_order_50 ?_
      refine g_ishl C dX12_order_51 ?_
      refine g_icmp_ge 162 C dX12_order_52 (by decide) (by unfold iR; omega) (by exact bShl_R _ _) (fun c52 => ?_) (fun c52 => ?_)
      · have ew : w = bShl 1 (2 * (xP X).1) := by omega
        rw [ew, mdQ_e hO] at hq
        have hlt := orQ_lt hO
        obtain ⟨h8, h9, h10, h11⟩ := hq.resolve_left (fun q => by rw [q.2] at hlt; exact absurd hlt (by decide))
        refine s_n1_iload C dX12_order_162 ?_
        refine g_if_ge 170 C dX12_order_163 (by decide) (by first | assumption | (unfold iR; omega)) (fun c163 => ?_) (fun c163 => ?_)
        · refine s_n1_iload C dX12_order_170 ?_
          refine s_n0_aload C dX12_order_171 ?_
          refine g_get C fd_X12_19_12 dX12_order_172 (YO_o ..) rfl ?_
          refine g_iconst C dX12_order_175 ?_
          refine g_iald C dX12_order_176 (YO_a3 ..) (by omega) ?_
          rw [e5]
          refine g_icmp_ge 189 C dX12_order_177 (by decide) (by first | assumption | (unfold iR; omega)) (by first | assumption | (unfold iR; omega)) (fun c177 => ?_) (fun c177 => ?_)
          · refine g_ldc (-1000000) C wd_621 dX12_order_189 ?_
            refine g_iret C E dX12_order_191 (by decide) ?_
            unfold xOrder
            rw [if_neg q1, if_neg (not_not_intro q2), if_neg (by omega), if_pos c177]
            exact ⟨rfl, rfl, _, rfl, b, hR⟩
          · refine s_n0_aload C dX12_order_180 ?_
            refine s_n2_iload C dX12_order_181 ?_
            refine s_n1_iload C dX12_order_182 ?_
            refine g_invV C (ct_X12_placed hR hO (row := best) (k := k)) (YO_o ..) cv_X12_225_12 (rmk_ok (by decide) (by decide) (by decide) (by decide)) (Nat.le_of_ble_eq_true rfl) rfl dX12_order_183 rfl (q_r0 ?_)
            refine g_goto 191 C dX12_order_186 (by decide) ?_
            refine g_iret C E dX12_order_191 (by decide) ?_
            unfold xOrder
            rw [if_neg q1, if_neg (not_not_intro q2), if_neg (by omega), if_neg (by omega), ← h11, mdL_get best (by omega)]
            exact ⟨rfl, rfl, _, rfl, b, hR⟩
        · refine s_n3_iload C dX12_order_166 ?_
          refine g_goto 191 C dX12_order_167 (by decide) ?_
          refine g_iret C E dX12_order_191 (by decide) ?_
          unfold xOrder
          rw [if_neg q1, if_neg (not_not_intro q2), if_pos (by omega), ← h10]
          exact ⟨rfl, rfl, _, rfl, b, hR⟩
      · refine s_n0_aload C dX12_order_55 ?_
        refine s_w4_iload C dX12_order_56 ?_
        refine g_invV C (ct_X12_isOrder hR hO (row := w)) (YO_o ..) cv_X12_230_12 (rmk_ok (by decide) (by decide) (by decide) (by decide)) (Nat.le_of_ble_eq_true rfl) rfl dX12_order_58 rfl (q_r0 ?_)
        refine g_bifeq 156 C dX12_order_61 (by decide)  (fun c61 => ?_) (fun c61 => ?_)
        · refine s_w4_iinc C dX12_order_156 rfl ?_
          refine g_goto 40 C dX12_order_159 (by decide) ?_
          rw [if_neg c61] at es
          exact ih _ (by omega) (w + 1) best least s b _ _ hR q1 q2 (by rw [es]; rcases hq with q | q; exact Or.inl q; exact Or.inr ⟨q.1, by omega, q.2.2⟩) (by omega) hl rfl
        · refine s_n0_aload C dX12_order_64 ?_
          refine g_invV C (ct_X12_layThen hR.tab) (YO_o ..) cv_X12_211_12 (rmk_ok (by decide) (by decide) (by decide) (by decide)) (Nat.le_of_ble_eq_true rfl) rfl dX12_order_65 rfl (q_v0 ?_)
          refine g_iconst C dX12_order_68 ?_
          refine s_w5_istore C dX12_order_69 rfl ?_
          refine li _ 0 best least w _ s b hR c61 (by omega) (by omega) rfl (fun q5 => ?_)
          have hSo : sfOK (opL X (mdL w (xP X).1)) := by rw [← mdOp X w hmm]; exact opI_ok hO (fun k k0 k1 => mdPlc hmm (by omega) c61 ⟨k0, k1⟩) hp1 (Int.le_refl _)
          have hun := un_b hSo
          rw [if_pos c61] at es
          unfold orF at es
          refine s_n0_aload C dX12_order_104 ?_
          refine g_get C fd_X12_25_12 dX12_order_105 (YO_o ..) rfl ?_
          refine g_invS C (ct_X12_unevenOf (S := opL X (mdL w (xP X).1)) (b := b) hSo rfl) cs_X12_222 (rmk_ok (by decide) (by decide) (by decide) (by decide)) (Nat.le_of_ble_eq_true rfl) rfl dX12_order_108 rfl (q_r0 ?_)
          refine s_w5_istore C dX12_order_111 rfl ?_
          refine s_n2_iload C dX12_order_113 ?_
          refine g_ldc (-1000000) C wd_621 dX12_order_114 ?_
          refine g_icmp_eq 125 C dX12_order_116 (by decide) (by unfold iR; omega) (by unfold iR; omega) (fun c116 => ?_) (fun c116 => ?_)
          · refine g_iconst C dX12_order_125 ?_
            refine g_goto 130 C dX12_order_126 (by decide) ?_
            refine s_w6_istore C dX12_order_130 rfl ?_
            refine s_w6_iload C dX12_order_132 ?_
            refine g_if_eq 142 C dX12_order_134 (by decide) (by first | assumption | (unfold iR; omega)) (fun c134 => by exfalso; omega) (fun c134 => ?_)
            refine s_w4_iload C dX12_order_137 ?_
            refine g_goto 143 C dX12_order_139 (by decide) ?_
            refine s_n2_istore C dX12_order_143 rfl ?_
            refine s_w6_iload C dX12_order_144 ?_
            refine g_if_eq 154 C dX12_order_146 (by decide) (by first | assumption | (unfold iR; omega)) (fun c146 => by exfalso; omega) (fun c146 => ?_)
            refine s_w5_iload C dX12_order_149 ?_
            refine g_goto 155 C dX12_order_151 (by decide) ?_
            refine s_n3_istore C dX12_order_155 rfl ?_
            refine s_w4_iinc C dX12_order_156 rfl ?_
            refine g_goto 40 C dX12_order_159 (by decide) ?_
            have e0 := (hq.resolve_right (fun q => by omega)).2
            rw [e0, if_pos (by show _ < (1000 : Int); omega)] at es
            exact ih _ (by omega) (w + 1) w (sfUneven (opL X (mdL w (xP X).1))) _ b _ _ (hR.t5 _ _) q1 q2 (by rw [es]; exact Or.inr ⟨by omega, by omega, rfl, rfl⟩) (by omega) (by omega) rfl
          · refine s_w5_iload C dX12_order_119 ?_
            refine s_n3_iload C dX12_order_121 ?_
            refine g_icmp_ge 129 C dX12_order_122 (by decide) (by unfold iR; omega) (by unfold iR; omega) (fun c122 => ?_) (fun c122 => ?_)
            · refine g_iconst C dX12_order_129 ?_
              refine s_w6_istore C dX12_order_130 rfl ?_
              refine s_w6_iload C dX12_order_132 ?_
              refine g_if_eq 142 C dX12_order_134 (by decide) (by first | assumption | (unfold iR; omega)) (fun c134 => ?_) (fun c134 => by exfalso; omega)
              refine s_n2_iload C dX12_order_142 ?_
              refine s_n2_istore C dX12_order_143 rfl ?_
              refine s_w6_iload C dX12_order_144 ?_
              refine g_if_eq 154 C dX12_order_146 (by decide) (by first | assumption | (unfold iR; omega)) (fun c146 => ?_) (fun c146 => by exfalso; omega)
              refine s_n3_iload C dX12_order_154 ?_
              refine s_n3_istore C dX12_order_155 rfl ?_
              refine s_w4_iinc C dX12_order_156 rfl ?_
              refine g_goto 40 C dX12_order_159 (by decide) ?_
              have e0 := hq.resolve_left (fun q => c116 q.1)
              rw [if_neg (by rw [← e0.2.2.1]; omega)] at es
              exact ih _ (by omega) (w + 1) best least _ b _ _ (hR.t5 _ _) q1 q2 (by rw [es]; exact Or.inr ⟨e0.1, by omega, e0.2.2⟩) (by omega) hl rfl
            · refine g_iconst C dX12_order_125 ?_
              refine g_goto 130 C dX12_order_126 (by decide) ?_
              refine s_w6_istore C dX12_order_130 rfl ?_
              refine s_w6_iload C dX12_order_132 ?_
              refine g_if_eq 142 C dX12_order_134 (by decide) (by first | assumption | (unfold iR; omega)) (fun c134 => by exfalso; omega) (fun c134 => ?_)
              refine s_w4_iload C dX12_order_137 ?_
              refine g_goto 143 C dX12_order_139 (by decide) ?_
              refine s_n2_istore C dX12_order_143 rfl ?_
              refine s_w6_iload C dX12_order_144 ?_
              refine g_if_eq 154 C dX12_order_146 (by decide) (by first | assumption | (unfold iR; omega)) (fun c146 => by exfalso; omega) (fun c146 => ?_)
              refine s_w5_iload C dX12_order_149 ?_
              refine g_goto 155 C dX12_order_151 (by decide) ?_
              refine s_n3_istore C dX12_order_155 rfl ?_
              refine s_w4_iinc C dX12_order_156 rfl ?_
              refine g_goto 40 C dX12_order_159 (by decide) ?_
              have e0 := hq.resolve_left (fun q => c116 q.1)
              rw [if_pos (by rw [← e0.2.2.1]; omega)] at es
              exact ih _ (by omega) (w + 1) w (sfUneven (opL X (mdL w (xP X).1))) _ b _ _ (hR.t5 _ _) q1 q2 (by rw [es]; exact Or.inr ⟨by omega, by omega, rfl, rfl⟩) (by omega) (by omega) rfl
  refine s_n0_aload C dX12_order_0 ?_
  refine g_iconst C dX12_order_1 ?_
  refine g_put C fp_X12_44_12 dX12_order_2 (YO_o ..) (Nat.le_of_ble_eq_true rfl) (gfit_i _) ?_
  rw [YO_p0]
  obtain ⟨b, hR⟩ := h0
  have hR := hR.th 0
  generalize ((fu s0.1 0 0, s0.2) : YT) = s at hR ⊢
  refine s_n0_aload C dX12_order_5 ?_
  refine g_invV C (ct_X12_isThere hR.tab hR.bk hO.td) (YO_o ..) cv_X12_177_12 (rmk_ok (by decide) (by decide) (by decide) (by decide)) (Nat.le_of_ble_eq_true rfl) rfl dX12_order_6 rfl (q_r0 ?_)
  refine g_tifne 15 C dX12_order_9 (by decide)  (fun c9 => ?_) (fun c9 => ?_)
  · refine s_n1_iload C dX12_order_15 ?_
    refine g_i2l C dX12_order_16 (by first | assumption | (unfold iR; omega)) ?_
    refine g_ldc2 (-1) C wd_756 dX12_order_17 ?_
    refine g_ldc2 (3) C wd_731 dX12_order_20 ?_
    refine g_invS C (ct_X12_in (v := k) (lo := -1) (hi := 3) (by unfold iR at *; unfold lR; omega) (by unfold iR at *; unfold lR; omega) (by unfold iR at *; unfold lR; omega)) cs_X12_54 (rmk_ok (by decide) (by decide) (by decide) (by decide)) (Nat.le_of_ble_eq_true rfl) rfl dX12_order_23 rfl (q_r0 ?_)
    refine g_bifne 32 C dX12_order_26 (by decide)  (fun c26 => ?_) (fun c26 => ?_)
    · refine g_ldc (-1000000) C wd_621 dX12_order_32 ?_
      refine s_n2_istore C dX12_order_34 rfl ?_
      refine g_iconst C dX12_order_35 ?_
      refine s_n3_istore C dX12_order_36 rfl ?_
      refine g_iconst C dX12_order_37 ?_
      refine s_w4_istore C dX12_order_38 rfl ?_
      exact lp _ 0 (-1000000) 0 s b _ _ hR c9 c26 (Or.inl ⟨rfl, rfl⟩) (by omega) (by omega) rfl
    · refine g_ldc (-1000001) C wd_609 dX12_order_29 ?_
      refine g_iret C E dX12_order_31 (by decide) ?_
      unfold xOrder
      rw [if_neg c9, if_pos c26]
      exact ⟨rfl, rfl, _, rfl, b, hR⟩
  · refine g_ldc (-1000002) C wd_706 dX12_order_12 ?_
    refine g_iret C E dX12_order_14 (by decide) ?_
    unfold xOrder
    rw [if_pos c9]
    exact ⟨rfl, rfl, _, rfl, b, hR⟩
