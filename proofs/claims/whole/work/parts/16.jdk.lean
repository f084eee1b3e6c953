/-! the JDK: clone, copyOf, ArrayList -/
theorem wd_1182 : Cond.methodLink RJ7 316 ⟨"[I", "clone", "()Ljava/lang/Object;"⟩ ∈ TB := TB_of (tm2 (List.mem_of_getElem? (i := 118) rfl)) rfl
theorem wd_1183 : Cond.sameMethod "[I" "java/lang/Object" "clone" "()Ljava/lang/Object;" ∈ TB := TB_of (tm2 (List.mem_of_getElem? (i := 119) rfl)) rfl
theorem wd_1184 : Cond.native ⟨"java/lang/Object", "clone", "()Ljava/lang/Object;"⟩ ∈ TB := TB_of (tm2 (List.mem_of_getElem? (i := 120) rfl)) rfl
theorem wd_1185 : Cond.instanceMethod ⟨"java/lang/Object", "clone", "()Ljava/lang/Object;"⟩ ∈ TB := TB_of (tm2 (List.mem_of_getElem? (i := 121) rfl)) rfl
theorem wd_1186 : Cond.selects "[I" ⟨"[I", "clone", "()Ljava/lang/Object;"⟩ ⟨"java/lang/Object", "clone", "()Ljava/lang/Object;"⟩ ∈ TB := TB_of (tm2 (List.mem_of_getElem? (i := 122) rfl)) rfl
theorem nb_1187 : Cond.castable "[I" RJx8e188 ∈ NB := NB_of (tm2 (List.mem_of_getElem? (i := 123) rfl)) rfl
section GJ
variable {κ : gC} {y : MethodName} {cc : ByteArray} {nL : Nat} {rm : Room} {M : gM} {n : Int} {L : List (Option gV)} {pc : Nat} {st : List gV} {cells slots : Nat} {a : Int}
theorem g_clone {ix : Nat} {len : Int} {f : Int → Int} (C : gF κ y cc nL rm) (w1 : Cond.methodLink y.cls ix ⟨"[I", "clone", "()Ljava/lang/Object;"⟩ ∈ TB) (w2 : Cond.sameMethod "[I" "java/lang/Object" "clone" "()Ljava/lang/Object;" ∈ TB) (w3 : Cond.native ⟨"java/lang/Object", "clone", "()Ljava/lang/Object;"⟩ ∈ TB) (w4 : Cond.instanceMethod ⟨"java/lang/Object", "clone", "()Ljava/lang/Object;"⟩ ∈ TB) (w5 : Cond.selects "[I" ⟨"[I", "clone", "()Ljava/lang/Object;"⟩ ⟨"java/lang/Object", "clone", "()Ljava/lang/Object;"⟩ ∈ TB) (w6 : Cond.castable "[I" "java/lang/Cloneable" ∈ NB)
    (hM : M a = some (gA 0 len f)) (hLn : L.length = nL) (hc : gsum st ≤ 8) (hR : 1 ≤ rm.frames ∧ 22 ≤ rm.locals ∧ cells + 1 ≤ rm.cells ∧ slots + len.toNat ≤ rm.slots) (hd : decode cc pc = .ok (.invokevirtual ix, 3)) (g : G κ (gu M n (gA 0 len f)) (n + 1) L (pc + 3) (vr n :: st) (cells + 1) (slots + len.toNat)) : G κ M n L pc (vr a :: st) cells slots := by
  intro H locs ls hP hS hL
  have hK := C.S.1
  have hk := gsum_ok (kX κ) st
  have hnm : (ks κ).vm.findClass "[I" = some ((kX κ).2.1 0) := (hK.2 0 _ rfl).2
  intro T hT X
  generalize hx : vp_cell ((kX κ).2.1 0) (len.toNat, .inl (fun k : Nat => Int32.ofInt (f k))) = cell
  have hcellH : H[gr (kX κ) a]? = some cell := by rw [← hx]; exact (hP.2.2 a _ hM).2.2
  have hsz : cell.slots.size = len.toNat := by rw [← hx]; exact arrV_size _ _ _
  have hvm0 : cell.vm = .none := by rw [← hx]; rfl
  have hcl0 : cell.cls = (kX κ).2.1 0 := by rw [← hx]; rfl
  have hcellE : ({ cls := cell.cls, slots := cell.slots } : Cell) = cell := by rw [← hx]; rfl
  have hfit : ∀ (i : Nat) (v : Value), cell.slots[i]? = some v → fits .int v = true := by
    intro i v hv
    rw [← hx] at hv
    have hv' : (arrV ((kX κ).2.1 0) len.toNat (fun j => .int (Int32.ofInt (f j)))).slots[i]? = some v := hv
    have hi : i < len.toNat := by
      have := (Array.getElem?_eq_some_iff.mp hv').1
      rwa [arrV_size] at this
    rw [arrV_read _ _ hi] at hv'
    cases hv'
    rfl
  obtain ⟨c0, t0', f1, f2, f3⟩ := Cond.castable_spec (C.nb w6)
  have e0 : c0 = (kX κ).2.1 0 := Option.some.inj (f1.symm.trans hnm)
  subst e0
  obtain ⟨-, kA, hkA, comp, hkind⟩ := State.isArrayOf_alike X.warmed.alike ((hK.2 0 _ rfl).1 0 (fun _ => .null))
  obtain ⟨-, kS, hkS, compS, hkindS⟩ := (hK.2 0 _ rfl).1 0 (fun _ => .null)
  obtain ⟨vm', X', stp⟩ := X.cloneArray C.x C.own (C.ts _ w1) (C.ts _ w2) (C.ts _ w3) (C.ts _ w4) (C.ts _ w5) (a := gr (kX κ) a) (cell := cell) (by rw [hT]; exact hcellH) (fun k h => by rw [hvm0] at h; cases h) (by rw [hvm0]; exact fun h => by cases h) (by rw [hcl0]; exact hnm) f2 (by rw [hcl0]; exact f3)
    (fun i v hv => by
      rw [hcl0]
      have hk' : T.vm.classes[(kX κ).2.1 0]? = some kA := hkA
      simpa [State.fitsSlot, State.slotType?, hk', hkind] using hfit i v hv)
    (g := F0 (km κ) pc ls ((vr a :: st).map (gv (kX κ)))) rfl (by rw [C.ml, ← hLn]; exact hL.1) rfl (by rw [C.b]; exact hd) (by rw [C.R]; exact hR.1) (by rw [C.R]; show 2 * 0 + _ + 14 ≤ _; rw [hk]; omega) (by rw [C.R]; exact hR.2.2.1) (by rw [C.R, hsz]; exact hR.2.2.2) (hloader := by rw [hcl0]; exact Vm.clonesLoader_of_array hkS hkindS)
  rw [hcellE, hsz] at X'
  generalize hH1 : H.push cell = H1
  have z1 : H1.size = H.size + 1 := by rw [← hH1, Array.size_push]
  have e1 : H1[H.size]? = some cell := by rw [← hH1, Array.getElem?_push_size]
  have o1 : ∀ q : Nat, q < H.size → H1[q]? = H[q]? := fun q hq => by rw [← hH1, Array.getElem?_push, if_neg (Nat.ne_of_lt hq)]
  obtain ⟨t, b1, b2⟩ := g H1 locs ls (gP_new hP z1 o1 (show H1[H.size]? = some (vp_cell _ _) by rw [e1, ← hx])) ⟨Nat.le_trans hS.1 (by omega), fun x h1 h2 => (o1 x (Nat.lt_of_lt_of_le h1 hS.1)).trans (hS.2.1 x h1 h2), hS.2.2⟩ hL ((T.setVm vm').pushCell cell) (by rw [← hH1, ← hT]; rfl) X'
  refine ⟨t, stp t ?_, b2⟩
  rw [hcellE, hT]
  have b1 := b1
  rw [List.map_cons, show gv (kX κ) (vr n) = .ref H.size from congrArg Value.ref (gP_hn hP)] at b1
  exact b1
theorem g_castI {ix : Nat} {len : Int} {f : Int → Int} (C : gF κ y cc nL rm) (w1 : Cond.classLink y.cls ix "[I" ∈ TB) (hM : M a = some (gA 0 len f)) (hd : decode cc pc = .ok (.checkcast ix, 3)) (g : G κ M n L (pc + 3) (vr a :: st) cells slots) : G κ M n L pc (vr a :: st) cells slots := by
  intro H locs ls hP hS hL
  exact va_castA C.x C.b C.own (C.ts _ w1) (gP_at hP hM) 0 rfl (C.S.1.2 0 _ rfl).2 hd (g H locs ls hP hS hL)
theorem g_aastK {t ci : Nat} {len x b : Int} {f : Int → Option Int} {fs : List gV} (C : gF κ y cc nL rm) (ht : 2 ≤ t ∧ t ≤ 5) (hc : ∃ (Cn : String) (T : u_T) (N : Nat), vwCl[ci]? = some (Cn, T, N) ∧ Cond.castable Cn (gobj t) ∈ NB) (hd : decode cc pc = .ok (.aastore, 1)) (hM : M a = some (gR t len f)) (hb : M b = some (gO ci fs)) (h : 0 ≤ x ∧ x < len ∧ len ≤ 2147483648) (g : G κ (gu M a (gR t len (upq f x (some b)))) n L (pc + 1) st cells slots) : G κ M n L pc (vr b :: vi x :: vr a :: st) cells slots := by
  obtain ⟨Cn, T, N, h1, h2⟩ := hc
  exact g_aast C ht h1 (Or.inr h2) hd hM hb h g
theorem g_castK {ix ci : Nat} {fs : List gV} {nm : String} (C : gF κ y cc nL rm) (hc : ∃ (Cn : String) (T : u_T) (N : Nat), vwCl[ci]? = some (Cn, T, N) ∧ Cond.castable Cn nm ∈ NB) (w1 : Cond.classLink y.cls ix nm ∈ TB) (hM : M a = some (gO ci fs)) (hd : decode cc pc = .ok (.checkcast ix, 3)) (g : G κ M n L (pc + 3) (vr a :: st) cells slots) : G κ M n L pc (vr a :: st) cells slots := by
  obtain ⟨Cn, T, N, h1, h2⟩ := hc
  exact g_cast C h1 w1 h2 hM hd g
end GJ
theorem ca_pass {ci : Nat} (hk : isKi ci) : ∃ (Cn : String) (T : u_T) (N : Nat), vwCl[ci]? = some (Cn, T, N) ∧ Cond.castable Cn "PadPolish$Pass" ∈ NB := by
  rcases hk with rfl | rfl | rfl | rfl | rfl
  · exact ⟨_, _, _, rfl, nb_1157⟩
  · exact ⟨_, _, _, rfl, nb_1158⟩
  · exact ⟨_, _, _, rfl, nb_1159⟩
  · exact ⟨_, _, _, rfl, nb_1160⟩
  · exact ⟨_, _, _, rfl, nb_1161⟩
theorem ca_obj {ci : Nat} (hk : isKi ci) : ∃ (Cn : String) (T : u_T) (N : Nat), vwCl[ci]? = some (Cn, T, N) ∧ Cond.castable Cn (gobj 5) ∈ NB := by
  rcases hk with rfl | rfl | rfl | rfl | rfl
  · exact ⟨_, _, _, rfl, nb_1175⟩
  · exact ⟨_, _, _, rfl, nb_1174⟩
  · exact ⟨_, _, _, rfl, nb_1177⟩
  · exact ⟨_, _, _, rfl, nb_1173⟩
  · exact ⟨_, _, _, rfl, nb_1176⟩
set_option maxRecDepth 20000 in
theorem ct_J7_copyOf_59c91 {a k : Int} {f : Int → Int} {M : gM} {n : Int} (hM : M a = some (gA 0 9 f)) (hk : 1 ≤ k ∧ k ≤ 9) (hn : ¬ a = n) : CT yJ7_copyOf_59c91 cJ7_copyOf_59c91 3 (some (.array .int)) (rmk 1 1 9) [vr a, vi k] M n (qr (some (vr n)) (gu M n (gA 0 k f)) (n + 1)) := by
  refine CT.of (by decide) (fun _ => Nat.le_of_ble_eq_true rfl) (fun κ C E => ?_)
  show G κ M n [some (vr a), some (vi k), none] 0 [] 0 0
  refine s_n1_iload C dJ7_copyOf_59c91_0 ?_
  refine s_n0_aload C dJ7_copyOf_59c91_1 ?_
  refine g_alen C (by decide) dJ7_copyOf_59c91_2 hM (by omega) ?_
  refine g_icmp_ne 14 C dJ7_copyOf_59c91_3 (by decide) (by unfold iR; omega) (by unfold iR; omega) (fun c3 => ?_) (fun c3 => ?_)
  · refine s_n1_iload C dJ7_copyOf_59c91_14 ?_
    refine g_newI C wd_1178 dJ7_copyOf_59c91_15 (by omega) (by exact ⟨by decide, by show 0 + k.toNat ≤ 9; omega⟩) ?_
    refine s_n2_astore C dJ7_copyOf_59c91_17 rfl ?_
    refine s_n0_aload C dJ7_copyOf_59c91_18 ?_
    refine g_iconst C dJ7_copyOf_59c91_19 ?_
    refine s_n2_aload C dJ7_copyOf_59c91_20 ?_
    refine g_iconst C dJ7_copyOf_59c91_21 ?_
    refine s_n0_aload C dJ7_copyOf_59c91_22 ?_
    refine g_alen C (by decide) dJ7_copyOf_59c91_23 ((gu_ne _ _ hn).trans hM) (by omega) ?_
    refine s_n1_iload C dJ7_copyOf_59c91_24 ?_
    refine g_mn C wd_855 wd_21 wd_22 wd_23 (by exact ⟨by decide, by decide, by decide, by show 0 + k.toNat ≤ 9; omega⟩) (Nat.le_of_ble_eq_true rfl) rfl dJ7_copyOf_59c91_25 (by unfold iR; omega) (by unfold iR; omega) ?_
    refine g_acopy C wd_856 wd_163 wd_164 wd_165 rfl dJ7_copyOf_59c91_28 ((gu_ne _ _ hn).trans hM) (gu_same ..) (by omega) (by decide) (Nat.le_of_ble_eq_true rfl) ?_
    rw [gu_gu]
    refine G.arr (f' := f) (fun j h1 h2 => ?_) ?_
    · rw [show min (9 : Int) k = k by omega]; exact cpy_all h1 h2
    refine s_n2_aload C dJ7_copyOf_59c91_31 ?_
    refine g_aret C E (Or.inr ⟨_, rfl⟩) dJ7_copyOf_59c91_32 (by exact ⟨by decide, by show 0 + k.toNat ≤ 9; omega⟩) ?_
    exact ⟨rfl, rfl, rfl⟩
  · have e : k = 9 := c3
    subst e
    refine s_n0_aload C dJ7_copyOf_59c91_6 ?_
    refine g_clone C wd_1182 wd_1183 wd_1184 wd_1185 wd_1186 nb_1187 hM rfl (Nat.le_of_ble_eq_true rfl) (by decide) dJ7_copyOf_59c91_7 ?_
    refine g_castI C wd_857 (gu_same ..) dJ7_copyOf_59c91_10 ?_
    refine g_aret C E (Or.inr ⟨_, rfl⟩) dJ7_copyOf_59c91_13 (by decide) ?_
    exact ⟨rfl, rfl, rfl⟩
set_option maxRecDepth 20000 in
theorem ct_J3_checkIndex_8e157 {i m : Int} {M : gM} {n : Int} (hi : 0 ≤ i ∧ i < m ∧ m ≤ 1000) : CT yJ3_checkIndex_8e157 cJ3_checkIndex_8e157 3 (some .int) (rmk 0 0 0) [vi i, vi m, vn] M n (qr (some (vi i)) M n) := by
  refine CT.of (by decide) (fun _ => Nat.le_of_ble_eq_true rfl) (fun κ C E => ?_)
  show G κ M n [some (vi i), some (vi m), some (vn)] 0 [] 0 0
  refine s_n0_iload C dJ3_checkIndex_8e157_0 ?_
  refine g_if_lt 9 C dJ3_checkIndex_8e157_1 (by decide) (by unfold iR; omega) (fun c1 => by exfalso; omega) (fun c1 => ?_)
  refine s_n0_iload C dJ3_checkIndex_8e157_4 ?_
  refine s_n1_iload C dJ3_checkIndex_8e157_5 ?_
  refine g_icmp_lt 16 C dJ3_checkIndex_8e157_6 (by decide) (by unfold iR; omega) (by unfold iR; omega) (fun c6 => ?_) (fun c6 => by exfalso; omega)
  refine s_n0_iload C dJ3_checkIndex_8e157_16 ?_
  refine g_iret C E dJ3_checkIndex_8e157_17 (by decide) ?_
  exact ⟨rfl, rfl, rfl⟩
set_option maxRecDepth 20000 in
theorem ct_J15_checkIndex_7cf53 {i m : Int} {M : gM} {n : Int} (hi : 0 ≤ i ∧ i < m ∧ m ≤ 1000) : CT yJ15_checkIndex_7cf53 cJ15_checkIndex_7cf53 2 (some .int) (rmk 1 0 0) [vi i, vi m] M n (qr (some (vi i)) M n) := by
  refine CT.of (by decide) (fun _ => Nat.le_of_ble_eq_true rfl) (fun κ C E => ?_)
  show G κ M n [some (vi i), some (vi m)] 0 [] 0 0
  refine s_n0_iload C dJ15_checkIndex_7cf53_0 ?_
  refine s_n1_iload C dJ15_checkIndex_7cf53_1 ?_
  refine g_null C dJ15_checkIndex_7cf53_2 ?_
  refine g_invS C (ct_J3_checkIndex_8e157 hi) cs_J15_105 (rmk_ok (by decide) (by decide) (by decide) (by decide)) (Nat.le_of_ble_eq_true rfl) rfl dJ15_checkIndex_7cf53_3 rfl (q_r ?_)
  refine g_iret C E dJ15_checkIndex_7cf53_6 (by decide) ?_
  exact ⟨rfl, rfl, rfl⟩
set_option maxRecDepth 20000 in
theorem ct_Jx4a65c_size_8abf5 {ℓ mc e m : Int} {M : gM} {n : Int} (hl : M ℓ = some (gO 0 [vi mc, vr e, vi m]))  : CT yJx4a65c_size_8abf5 cJx4a65c_size_8abf5 1 (some .int) (rmk 0 0 0) [vr ℓ] M n (qr (some (vi m)) M n) := by
  refine CT.of (by decide) (fun _ => Nat.le_of_ble_eq_true rfl) (fun κ C E => ?_)
  show G κ M n [some (vr ℓ)] 0 [] 0 0
  refine s_n0_aload C dJx4a65c_size_8abf5_0 ?_
  refine g_get C fd_Jx4a65c_48_0 dJx4a65c_size_8abf5_1 hl rfl ?_
  refine g_iret C E dJx4a65c_size_8abf5_4 (by decide) ?_
  exact ⟨rfl, rfl, rfl⟩
set_option maxRecDepth 20000 in
theorem ct_Jx4a65c_elementData_915e3 {ℓ mc e m : Int} {M : gM} {n : Int} (hl : M ℓ = some (gO 0 [vi mc, vr e, vi m])) {i : Int} {er : Int → Option Int} (he : M e = some (gR 5 10 er)) (hi : 0 ≤ i ∧ i < 10) : CT yJx4a65c_elementData_915e3 cJx4a65c_elementData_915e3 2 (some (.object "java/lang/Object")) (rmk 0 0 0) [vr ℓ, vi i] M n (qr (some (.inr (.inr (er i)))) M n) := by
  refine CT.of (by decide) (fun _ => Nat.le_of_ble_eq_true rfl) (fun κ C E => ?_)
  show G κ M n [some (vr ℓ), some (vi i)] 0 [] 0 0
  refine s_n0_aload C dJx4a65c_elementData_915e3_0 ?_
  refine g_get C fd_Jx4a65c_9_0 dJx4a65c_elementData_915e3_1 hl rfl ?_
  refine s_n1_iload C dJx4a65c_elementData_915e3_4 ?_
  refine g_aald C (by decide) dJx4a65c_elementData_915e3_5 he (by omega) ?_
  refine g_aret C E (Or.inl ⟨_, rfl⟩) dJx4a65c_elementData_915e3_6 (by decide) ?_
  exact ⟨rfl, rfl, rfl⟩
set_option maxRecDepth 20000 in
theorem ct_Jx4a65c_get_915e3 {ℓ mc e m : Int} {M : gM} {n : Int} (hl : M ℓ = some (gO 0 [vi mc, vr e, vi m])) {i : Int} {er : Int → Option Int} (he : M e = some (gR 5 10 er)) (hi : 0 ≤ i ∧ i < m) (hm : m ≤ 10) : CT yJx4a65c_get_915e3 cJx4a65c_get_915e3 2 (some (.object "java/lang/Object")) (rmk 2 0 0) [vr ℓ, vi i] M n (qr (some (.inr (.inr (er i)))) M n) := by
  refine CT.of (by decide) (fun _ => Nat.le_of_ble_eq_true rfl) (fun κ C E => ?_)
  show G κ M n [some (vr ℓ), some (vi i)] 0 [] 0 0
  refine s_n1_iload C dJx4a65c_get_915e3_0 ?_
  refine s_n0_aload C dJx4a65c_get_915e3_1 ?_
  refine g_get C fd_Jx4a65c_48_0 dJx4a65c_get_915e3_2 hl rfl ?_
  refine g_invS C (ct_J15_checkIndex_7cf53 (by omega)) cs_Jx4a65c_118 (rmk_ok (by decide) (by decide) (by decide) (by decide)) (Nat.le_of_ble_eq_true rfl) rfl dJx4a65c_get_915e3_5 rfl (q_r ?_)
  refine g_pop C dJx4a65c_get_915e3_8 rfl ?_
  refine s_n0_aload C dJx4a65c_get_915e3_9 ?_
  refine s_n1_iload C dJx4a65c_get_915e3_10 ?_
  refine g_invV C (ct_Jx4a65c_elementData_915e3 hl he (by omega)) hl cv_Jx4a65c_123_0 (rmk_ok (by decide) (by decide) (by decide) (by decide)) (Nat.le_of_ble_eq_true rfl) rfl dJx4a65c_get_915e3_11 rfl (q_r ?_)
  refine g_aret C E (Or.inl ⟨_, rfl⟩) dJx4a65c_get_915e3_14 (by decide) ?_
  exact ⟨rfl, rfl, rfl⟩
set_option maxRecDepth 20000 in
theorem ct_Jx4a65c_grow_92f84 {ℓ mc m : Int} {M : gM} {n : Int} (hl : M ℓ = some (gO 0 [vi mc, vr (-1), vi m])) (hn : ¬ ℓ = n) : CT yJx4a65c_grow_92f84 cJx4a65c_grow_92f84 4 (some (.array (.object "java/lang/Object"))) (rmk 1 1 10) [vr ℓ, vi 1] M n (qr (some (vr n)) (gu (gu M n (gR 5 10 (fun _ => none))) ℓ (gO 0 [vi mc, vr n, vi m])) (n + 1)) := by
  refine CT.of (by decide) (fun _ => Nat.le_of_ble_eq_true rfl) (fun κ C E => ?_)
  show G κ M n [some (vr ℓ), some (vi 1), none, none] 0 [] 0 0
  refine s_n0_aload C dJx4a65c_grow_92f84_0 ?_
  refine g_get C fd_Jx4a65c_9_0 dJx4a65c_grow_92f84_1 hl rfl ?_
  refine g_alenD C dJx4a65c_grow_92f84_4 ?_
  refine s_n2_istore C dJx4a65c_grow_92f84_5 rfl ?_
  refine s_n2_iload C dJx4a65c_grow_92f84_6 ?_
  refine g_if_gt 20 C dJx4a65c_grow_92f84_7 (by decide) (by unfold iR; omega) (fun c7 => by exfalso; omega) (fun c7 => ?_)
  refine s_n0_aload C dJx4a65c_grow_92f84_10 ?_
  refine g_get C fd_Jx4a65c_9_0 dJx4a65c_grow_92f84_11 hl rfl ?_
  refine g_getsD C wd_1180 dJx4a65c_grow_92f84_14 ?_
  refine g_acmp_eqD 45 C dJx4a65c_grow_92f84_17 (by decide) ?_
  refine s_n0_aload C dJx4a65c_grow_92f84_45 ?_
  refine g_bipush C dJx4a65c_grow_92f84_46 (by decide) ?_
  refine s_n1_iload C dJx4a65c_grow_92f84_48 ?_
  refine g_mx C wd_825 wd_172 wd_22 wd_173 (by decide) (Nat.le_of_ble_eq_true rfl) rfl dJx4a65c_grow_92f84_49 (by unfold iR; omega) (by unfold iR; omega) ?_
  rw [show max (10 : Int) 1 = 10 by decide]
  refine g_newR C (t := 5) (by decide) wd_826 dJx4a65c_grow_92f84_52 (by omega) (by decide) ?_
  refine g_dup_x1 C dJx4a65c_grow_92f84_55 ?_
  refine g_put C fp_Jx4a65c_9_0 dJx4a65c_grow_92f84_56 ((gu_ne _ _ hn).trans hl) (Nat.le_of_ble_eq_true rfl) (gfit_a _ _) ?_
  refine g_aret C E (Or.inr ⟨_, rfl⟩) dJx4a65c_grow_92f84_59 (by decide) ?_
  exact ⟨rfl, rfl, rfl⟩
set_option maxRecDepth 20000 in
theorem ct_Jx4a65c_grow_d5877 {ℓ mc : Int} {M : gM} {n : Int} (hl : M ℓ = some (gO 0 [vi mc, vr (-1), vi 0])) (hn : ¬ ℓ = n) : CT yJx4a65c_grow_d5877 cJx4a65c_grow_d5877 1 (some (.array (.object "java/lang/Object"))) (rmk 2 1 10) [vr ℓ] M n (qr (some (vr n)) (gu (gu M n (gR 5 10 (fun _ => none))) ℓ (gO 0 [vi mc, vr n, vi 0])) (n + 1)) := by
  refine CT.of (by decide) (fun _ => Nat.le_of_ble_eq_true rfl) (fun κ C E => ?_)
  show G κ M n [some (vr ℓ)] 0 [] 0 0
  refine s_n0_aload C dJx4a65c_grow_d5877_0 ?_
  refine s_n0_aload C dJx4a65c_grow_d5877_1 ?_
  refine g_get C fd_Jx4a65c_48_0 dJx4a65c_grow_d5877_2 hl rfl ?_
  refine g_iconst C dJx4a65c_grow_d5877_5 ?_
  refine g_iadd C dJx4a65c_grow_d5877_6 ?_
  refine g_invV C (ct_Jx4a65c_grow_92f84 hl hn) hl cv_Jx4a65c_69_0 (rmk_ok (by decide) (by decide) (by decide) (by decide)) (Nat.le_of_ble_eq_true rfl) rfl dJx4a65c_grow_d5877_7 rfl (q_r ?_)
  refine g_aret C E (Or.inr ⟨_, rfl⟩) dJx4a65c_grow_d5877_10 (by decide) ?_
  exact ⟨rfl, rfl, rfl⟩
set_option maxRecDepth 20000 in
theorem ct_add3_A {ℓ mc : Int} {M : gM} {n : Int} (hl : M ℓ = some (gO 0 [vi mc, vr (-1), vi 0])) {x : Int} {ci : Nat} {fs : List gV} (hk : isKi ci) (hx : M x = some (gO ci fs)) (hn : ¬ ℓ = n ∧ ¬ x = n ∧ ¬ x = ℓ) : CT yJx4a65c_add_72be8 cJx4a65c_add_72be8 4 none (rmk 3 1 10) [vr ℓ, vr x, vr (-1), vi 0] M n (qr none (gu (gu M n (gR 5 10 (upq (fun _ => none) 0 (some x)))) ℓ (gO 0 [vi mc, vr n, vi 1])) (n + 1)) := by
  refine CT.of (by decide) (fun _ => Nat.le_of_ble_eq_true rfl) (fun κ C E => ?_)
  show G κ M n [some (vr ℓ), some (vr x), some (vr (-1)), some (vi 0)] 0 [] 0 0
  refine s_n3_iload C dJx4a65c_add_72be8_0 ?_
  refine s_n2_aload C dJx4a65c_add_72be8_1 ?_
  refine g_alenD C dJx4a65c_add_72be8_2 ?_
  refine g_icmp_ne 11 C dJx4a65c_add_72be8_3 (by decide) (by unfold iR; omega) (by unfold iR; omega) (fun c3 => by exfalso; omega) (fun c3 => ?_)
  refine s_n0_aload C dJx4a65c_add_72be8_6 ?_
  refine g_invV C (ct_Jx4a65c_grow_d5877 hl hn.1) hl cv_Jx4a65c_129_0 (rmk_ok (by decide) (by decide) (by decide) (by decide)) (Nat.le_of_ble_eq_true rfl) rfl dJx4a65c_add_72be8_7 rfl (q_r ?_)
  refine s_n2_astore C dJx4a65c_add_72be8_10 rfl ?_
  refine s_n2_aload C dJx4a65c_add_72be8_11 ?_
  refine s_n3_iload C dJx4a65c_add_72be8_12 ?_
  refine s_n1_aload C dJx4a65c_add_72be8_13 ?_
  refine g_aastK C (by decide) (ca_obj hk) dJx4a65c_add_72be8_14 ((gu_ne _ _ (fun q => hn.1 q.symm)).trans (gu_same ..)) ((gu_ne _ _ hn.2.2).trans ((gu_ne _ _ hn.2.1).trans hx)) (by omega) ?_
  refine s_n0_aload C dJx4a65c_add_72be8_15 ?_
  refine s_n3_iload C dJx4a65c_add_72be8_16 ?_
  refine g_iconst C dJx4a65c_add_72be8_17 ?_
  refine g_iadd C dJx4a65c_add_72be8_18 ?_
  refine g_put C fp_Jx4a65c_48_0 dJx4a65c_add_72be8_19 ((gu_ne _ _ hn.1).trans (gu_same ..)) (Nat.le_of_ble_eq_true rfl) (gfit_i _) ?_
  rw [gu_comm _ _ _ (fun q => hn.1 q.symm), gu_gu, gu_comm _ _ _ hn.1, gu_gu, gu_comm _ _ _ (fun q => hn.1 q.symm)] 
  refine g_vret C E dJx4a65c_add_72be8_22 (by decide) ?_
  refine ⟨rfl, ?_, rfl⟩
  rw [gu_comm _ _ _ hn.1]
  rfl
set_option maxRecDepth 20000 in
theorem ct_add3_B {ℓ mc e m : Int} {M : gM} {n : Int} (hl : M ℓ = some (gO 0 [vi mc, vr e, vi m])) {x : Int} {ci : Nat} {fs : List gV} (hk : isKi ci) (hx : M x = some (gO ci fs)) {er : Int → Option Int} (he : M e = some (gR 5 10 er)) (hm : 0 ≤ m ∧ m < 10) (hn : ¬ ℓ = e ∧ ¬ x = e ∧ ¬ x = ℓ) : CT yJx4a65c_add_72be8 cJx4a65c_add_72be8 4 none (rmk 3 1 10) [vr ℓ, vr x, vr e, vi m] M n (qr none (gu (gu M e (gR 5 10 (upq er m (some x)))) ℓ (gO 0 [vi mc, vr e, vi (m + 1)])) n) := by
  refine CT.of (by decide) (fun _ => Nat.le_of_ble_eq_true rfl) (fun κ C E => ?_)
  show G κ M n [some (vr ℓ), some (vr x), some (vr e), some (vi m)] 0 [] 0 0
  refine s_n3_iload C dJx4a65c_add_72be8_0 ?_
  refine s_n2_aload C dJx4a65c_add_72be8_1 ?_
  refine g_alenR C (by decide) dJx4a65c_add_72be8_2 he (by omega) ?_
  refine g_icmp_ne 11 C dJx4a65c_add_72be8_3 (by decide) (by unfold iR; omega) (by unfold iR; omega) (fun c3 => ?_) (fun c3 => by exfalso; omega)
  refine s_n2_aload C dJx4a65c_add_72be8_11 ?_
  refine s_n3_iload C dJx4a65c_add_72be8_12 ?_
  refine s_n1_aload C dJx4a65c_add_72be8_13 ?_
  refine g_aastK C (by decide) (ca_obj hk) dJx4a65c_add_72be8_14 he hx (by omega) ?_
  refine s_n0_aload C dJx4a65c_add_72be8_15 ?_
  refine s_n3_iload C dJx4a65c_add_72be8_16 ?_
  refine g_iconst C dJx4a65c_add_72be8_17 ?_
  refine g_iadd C dJx4a65c_add_72be8_18 ?_
  refine g_put C fp_Jx4a65c_48_0 dJx4a65c_add_72be8_19 ((gu_ne _ _ hn.1).trans hl) (Nat.le_of_ble_eq_true rfl) (gfit_i _) ?_
  refine g_vret C E dJx4a65c_add_72be8_22 (by decide) ?_
  exact ⟨rfl, rfl, rfl⟩
set_option maxRecDepth 20000 in
theorem ct_add_A {ℓ mc : Int} {M : gM} {n : Int} (hl : M ℓ = some (gO 0 [vi mc, vr (-1), vi 0])) {x : Int} {ci : Nat} {fs : List gV} (hk : isKi ci) (hx : M x = some (gO ci fs)) (hn : ¬ ℓ = n ∧ ¬ x = n ∧ ¬ x = ℓ) : CT yJx4a65c_add_9ea2d cJx4a65c_add_9ea2d 2 (some .boolean) (rmk 4 1 10) [vr ℓ, vr x] M n (qr (some (vi 1)) (gu (gu M n (gR 5 10 (upq (fun _ => none) 0 (some x)))) ℓ (gO 0 [vi (mc + 1), vr n, vi 1])) (n + 1)) := by
  refine CT.of (by decide) (fun _ => Nat.le_of_ble_eq_true rfl) (fun κ C E => ?_)
  show G κ M n [some (vr ℓ), some (vr x)] 0 [] 0 0
  refine s_n0_aload C dJx4a65c_add_9ea2d_0 ?_
  refine g_dup C dJx4a65c_add_9ea2d_1 rfl ?_
  refine g_get C fd_Jx4a65c_63_0 dJx4a65c_add_9ea2d_2 hl rfl ?_
  refine g_iconst C dJx4a65c_add_9ea2d_5 ?_
  refine g_iadd C dJx4a65c_add_9ea2d_6 ?_
  refine g_put C fp_Jx4a65c_63_0 dJx4a65c_add_9ea2d_7 hl (Nat.le_of_ble_eq_true rfl) (gfit_i _) ?_
  rw [show [vi mc, vr (-1), vi 0].set 0 (vi (mc + 1)) = [vi (mc + 1), vr (-1), vi 0] from rfl]
  refine s_n0_aload C dJx4a65c_add_9ea2d_10 ?_
  refine s_n1_aload C dJx4a65c_add_9ea2d_11 ?_
  refine s_n0_aload C dJx4a65c_add_9ea2d_12 ?_
  refine g_get C fd_Jx4a65c_9_0 dJx4a65c_add_9ea2d_13 (gu_same ..) rfl ?_
  refine s_n0_aload C dJx4a65c_add_9ea2d_16 ?_
  refine g_get C fd_Jx4a65c_48_0 dJx4a65c_add_9ea2d_17 (gu_same ..) rfl ?_
  refine g_invV C (ct_add3_A (gu_same ..) hk ((gu_ne _ _ hn.2.2).trans hx) hn) (gu_same ..) cv_Jx4a65c_131_0 (rmk_ok (by decide) (by decide) (by decide) (by decide)) (Nat.le_of_ble_eq_true rfl) rfl dJx4a65c_add_9ea2d_20 rfl (q_v ?_)
  refine g_iconst C dJx4a65c_add_9ea2d_23 ?_
  refine g_zret C E dJx4a65c_add_9ea2d_24 (by decide) (by omega) ?_
  refine ⟨rfl, ?_, rfl⟩
  rw [gu_comm _ _ _ hn.1, gu_gu]
set_option maxRecDepth 20000 in
theorem ct_add_B {ℓ mc e m : Int} {M : gM} {n : Int} (hl : M ℓ = some (gO 0 [vi mc, vr e, vi m])) {x : Int} {ci : Nat} {fs : List gV} (hk : isKi ci) (hx : M x = some (gO ci fs)) {er : Int → Option Int} (he : M e = some (gR 5 10 er)) (hm : 0 ≤ m ∧ m < 10) (hn : ¬ ℓ = e ∧ ¬ x = e ∧ ¬ x = ℓ) : CT yJx4a65c_add_9ea2d cJx4a65c_add_9ea2d 2 (some .boolean) (rmk 4 1 10) [vr ℓ, vr x] M n (qr (some (vi 1)) (gu (gu M e (gR 5 10 (upq er m (some x)))) ℓ (gO 0 [vi (mc + 1), vr e, vi (m + 1)])) n) := by
  refine CT.of (by decide) (fun _ => Nat.le_of_ble_eq_true rfl) (fun κ C E => ?_)
  show G κ M n [some (vr ℓ), some (vr x)] 0 [] 0 0
  refine s_n0_aload C dJx4a65c_add_9ea2d_0 ?_
  refine g_dup C dJx4a65c_add_9ea2d_1 rfl ?_
  refine g_get C fd_Jx4a65c_63_0 dJx4a65c_add_9ea2d_2 hl rfl ?_
  refine g_iconst C dJx4a65c_add_9ea2d_5 ?_
  refine g_iadd C dJx4a65c_add_9ea2d_6 ?_
  refine g_put C fp_Jx4a65c_63_0 dJx4a65c_add_9ea2d_7 hl (Nat.le_of_ble_eq_true rfl) (gfit_i _) ?_
  rw [show [vi mc, vr e, vi m].set 0 (vi (mc + 1)) = [vi (mc + 1), vr e, vi m] from rfl]
  refine s_n0_aload C dJx4a65c_add_9ea2d_10 ?_
  refine s_n1_aload C dJx4a65c_add_9ea2d_11 ?_
  refine s_n0_aload C dJx4a65c_add_9ea2d_12 ?_
  refine g_get C fd_Jx4a65c_9_0 dJx4a65c_add_9ea2d_13 (gu_same ..) rfl ?_
  refine s_n0_aload C dJx4a65c_add_9ea2d_16 ?_
  refine g_get C fd_Jx4a65c_48_0 dJx4a65c_add_9ea2d_17 (gu_same ..) rfl ?_
  refine g_invV C (ct_add3_B (gu_same ..) hk ((gu_ne _ _ hn.2.2).trans hx) ((gu_ne _ _ (fun q => hn.1 q.symm)).trans he) hm hn) (gu_same ..) cv_Jx4a65c_131_0 (rmk_ok (by decide) (by decide) (by decide) (by decide)) (Nat.le_of_ble_eq_true rfl) rfl dJx4a65c_add_9ea2d_20 rfl (q_v ?_)
  refine g_iconst C dJx4a65c_add_9ea2d_23 ?_
  refine g_zret C E dJx4a65c_add_9ea2d_24 (by decide) (by omega) ?_
  refine ⟨rfl, ?_, rfl⟩
  rw [gu_comm _ _ _ hn.1, gu_gu]
set_option maxRecDepth 20000 in
theorem ct_Jxa1e45_init_da8c8 {a : Int} {M : gM} {n : Int} : CT yJxa1e45_init_da8c8 cJxa1e45_init_da8c8 1 none (rmk 1 0 0) [vr a] M n (qr none M n) := by
  refine CT.of (by decide) (fun _ => Nat.le_of_ble_eq_true rfl) (fun κ C E => ?_)
  show G κ M n [some (vr a)] 0 [] 0 0
  refine s_n0_aload C dJxa1e45_init_da8c8_0 ?_
  refine g_objInit C wd_807 wd_70 wdObj (by decide) (Nat.le_of_ble_eq_true rfl) rfl dJxa1e45_init_da8c8_1 ?_
  refine g_vret C E dJxa1e45_init_da8c8_4 (by decide) ?_
  exact ⟨rfl, rfl, rfl⟩
set_option maxRecDepth 20000 in
theorem ct_Jxc12de_init_da8c8 {a e m : Int} {z : gV} {mc : Int} {M : gM} {n : Int} (hl : M a = some (gO 0 [vi mc, z, vi m])) : CT yJxc12de_init_da8c8 cJxc12de_init_da8c8 1 none (rmk 2 0 0) [vr a] M n (qr none (gu M a (gO 0 [vi 0, z, vi m])) n) := by
  refine CT.of (by decide) (fun _ => Nat.le_of_ble_eq_true rfl) (fun κ C E => ?_)
  show G κ M n [some (vr a)] 0 [] 0 0
  refine s_n0_aload C dJxc12de_init_da8c8_0 ?_
  refine g_invI C (ct_Jxa1e45_init_da8c8) ci_Jxc12de_1 (rmk_ok (by decide) (by decide) (by decide) (by decide)) (Nat.le_of_ble_eq_true rfl) rfl dJxc12de_init_da8c8_1 rfl (q_v ?_)
  refine s_n0_aload C dJxc12de_init_da8c8_4 ?_
  refine g_iconst C dJxc12de_init_da8c8_5 ?_
  refine g_put C fp_Jxc12de_7_0 dJxc12de_init_da8c8_6 hl (Nat.le_of_ble_eq_true rfl) (gfit_i _) ?_
  refine g_vret C E dJxc12de_init_da8c8_9 (by decide) ?_
  exact ⟨rfl, rfl, rfl⟩
set_option maxRecDepth 20000 in
theorem ct_Jx4a65c_init_da8c8 {M : gM} {a n : Int} : CT yJx4a65c_init_da8c8 cJx4a65c_init_da8c8 1 none (rmk 3 0 0) [vr a] (gu M a (gO 0 [vi 0, vn, vi 0])) n (qr none (gu M a (gO 0 [vi 0, vr (-1), vi 0])) n) := by
  refine CT.of (by decide) (fun _ => Nat.le_of_ble_eq_true rfl) (fun κ C E => ?_)
  show G κ (gu M a (gO 0 [vi 0, vn, vi 0])) n [some (vr a)] 0 [] 0 0
  refine s_n0_aload C dJx4a65c_init_da8c8_0 ?_
  refine g_invI C (ct_Jxc12de_init_da8c8 (e := 0) (gu_same ..)) ci_Jx4a65c_1 (rmk_ok (by decide) (by decide) (by decide) (by decide)) (Nat.le_of_ble_eq_true rfl) rfl dJx4a65c_init_da8c8_1 rfl (q_v ?_)
  rw [gu_gu]
  refine s_n0_aload C dJx4a65c_init_da8c8_4 ?_
  refine g_getsD C wd_1180 dJx4a65c_init_da8c8_5 ?_
  refine g_put C fp_Jx4a65c_9_0 dJx4a65c_init_da8c8_8 (gu_same ..) (Nat.le_of_ble_eq_true rfl) (gfit_a _ _) ?_
  rw [gu_gu]
  refine g_vret C E dJx4a65c_init_da8c8_11 (by decide) ?_
  exact ⟨rfl, rfl, rfl⟩
