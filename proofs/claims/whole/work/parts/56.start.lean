/-! THE START: what the Statement gives -/
theorem u_arrI {args : Array Value} {s : State} {ty : FieldType} (hn : ∀ C, ty ≠ .object C) (h : (Cond.arrayClass ty).before args s = true) : ∃ c : ClassId, ArrOfT s c ty ∧ va_RA s c ty := by
  obtain ⟨c, k, comp, h1, h2, h3⟩ := Cond.arrayClass_spec h
  refine ⟨c, fun n z => ⟨(fun k h => by cases h), k, h2, comp, h3⟩, ?_⟩
  cases ty with
  | object C => exact absurd rfl (hn C)
  | _ => exact h1
theorem u_arrO {args : Array Value} {s : State} {C : String} (h : (Cond.arrayOver (.object C)).before args s = true) : ∃ c : ClassId, ArrOfT s c (.object C) ∧ va_RA s c (.object C) := by
  obtain ⟨comp, c, k, h1, h2, h3, h4, h5⟩ := Cond.arrayOver_spec h
  exact ⟨c, fun n z => ⟨(fun k h => by cases h), k, h3, comp, h4⟩, k, comp, h3, h4, h1, h5⟩
theorem u_cls {args : Array Value} {s : State} (hts : ∀ w ∈ lw_tbl, w.before args s = true) : ∃ (dC : Nat → ClassId) (dI : Nat → Nat → Nat), ∀ (k : Nat) (q : vw_C), vwCl[k]? = some q → u_Kn s q.1 q.2.1 q.2.2 (dC k) (dI k) := by
  have hT : ∀ w ∈ TB, w.before args s = true := fun w hw => hts w (List.mem_filter.mp hw).1
  have k0 := u_known (C := RJx4a65c) (T := TJx4a65c) (N := 3) (n := 3) hT inTJx4a65c (hts (.instantiable RJx4a65c 3) (tm1 (List.mem_of_getElem? (i := 125) rfl)))
  have k1 := u_known (C := RX0) (T := TX0) (N := 2) (n := 2) hT inTX0 (hts (.instantiable RX0 2) (tm2 (List.mem_of_getElem? (i := 162) rfl)))
  have k2 := u_known (C := RX1) (T := TX1) (N := 2) (n := 2) hT inTX1 (hts (.instantiable RX1 2) (tm2 (List.mem_of_getElem? (i := 153) rfl)))
  have k3 := u_known (C := RX3) (T := TX3) (N := 3) (n := 3) hT inTX3 (hts (.instantiable RX3 3) (tm1 (List.mem_of_getElem? (i := 166) rfl)))
  have k4 := u_known (C := RX4) (T := TX4) (N := 2) (n := 2) hT inTX4 (hts (.instantiable RX4 2) (tm2 (List.mem_of_getElem? (i := 180) rfl)))
  have k5 := u_known (C := RX5) (T := TX5) (N := 2) (n := 2) hT inTX5 (hts (.instantiable RX5 2) (tm2 (List.mem_of_getElem? (i := 133) rfl)))
  have k6 := u_known (C := RX6) (T := TX6) (N := 2) (n := 2) hT inTX6 (hts (.instantiable RX6 2) (tm2 (List.mem_of_getElem? (i := 171) rfl)))
  have k7 := u_known (C := RX7) (T := TX7) (N := 6) (n := 6) hT inTX7 (hts (.instantiable RX7 6) (tm1 (List.mem_of_getElem? (i := 64) rfl)))
  have k8 := u_known (C := RX8) (T := TX8) (N := 3) (n := 3) hT inTX8 (hts (.instantiable RX8 3) (tm1 (List.mem_of_getElem? (i := 117) rfl)))
  have k9 := u_known (C := RX9) (T := TX9) (N := 5) (n := 5) hT inTX9 (hts (.instantiable RX9 5) (tm1 (List.mem_of_getElem? (i := 35) rfl)))
  have k10 := u_known (C := RX10) (T := TX10) (N := 2) (n := 2) hT inTX10 (hts (.instantiable RX10 2) (tm1 (List.mem_of_getElem? (i := 103) rfl)))
  have k11 := u_known (C := RX11) (T := TX11) (N := 16) (n := 16) hT inTX11 (hts (.instantiable RX11 16) (tm1 (List.mem_of_getElem? (i := 25) rfl)))
  have k12 := u_known (C := RX12) (T := TX12) (N := 24) (n := 24) hT inTX12 (hts (.instantiable RX12 24) (tm4 (List.mem_of_getElem? (i := 195) rfl)))
  have H : ∀ k : Nat, ∃ (cC : ClassId) (iS : Nat → Nat), ∀ q : vw_C, vwCl[k]? = some q → u_Kn s q.1 q.2.1 q.2.2 cC iS := by
    intro k
    by_cases hk : k < 13
    · rcases (show k = 0 ∨ k = 1 ∨ k = 2 ∨ k = 3 ∨ k = 4 ∨ k = 5 ∨ k = 6 ∨ k = 7 ∨ k = 8 ∨ k = 9 ∨ k = 10 ∨ k = 11 ∨ k = 12 by omega) with rfl | rfl | rfl | rfl | rfl | rfl | rfl | rfl | rfl | rfl | rfl | rfl | rfl
      · obtain ⟨c, d, h⟩ := k0; exact ⟨c, d, fun q hq => by cases hq; exact h⟩
      · obtain ⟨c, d, h⟩ := k1; exact ⟨c, d, fun q hq => by cases hq; exact h⟩
      · obtain ⟨c, d, h⟩ := k2; exact ⟨c, d, fun q hq => by cases hq; exact h⟩
      · obtain ⟨c, d, h⟩ := k3; exact ⟨c, d, fun q hq => by cases hq; exact h⟩
      · obtain ⟨c, d, h⟩ := k4; exact ⟨c, d, fun q hq => by cases hq; exact h⟩
      · obtain ⟨c, d, h⟩ := k5; exact ⟨c, d, fun q hq => by cases hq; exact h⟩
      · obtain ⟨c, d, h⟩ := k6; exact ⟨c, d, fun q hq => by cases hq; exact h⟩
      · obtain ⟨c, d, h⟩ := k7; exact ⟨c, d, fun q hq => by cases hq; exact h⟩
      · obtain ⟨c, d, h⟩ := k8; exact ⟨c, d, fun q hq => by cases hq; exact h⟩
      · obtain ⟨c, d, h⟩ := k9; exact ⟨c, d, fun q hq => by cases hq; exact h⟩
      · obtain ⟨c, d, h⟩ := k10; exact ⟨c, d, fun q hq => by cases hq; exact h⟩
      · obtain ⟨c, d, h⟩ := k11; exact ⟨c, d, fun q hq => by cases hq; exact h⟩
      · obtain ⟨c, d, h⟩ := k12; exact ⟨c, d, fun q hq => by cases hq; exact h⟩
    · obtain ⟨c, d, -⟩ := k0
      refine ⟨c, d, fun q hq => ?_⟩
      have := (List.getElem?_eq_some_iff.mp hq).1
      exact absurd this (by show ¬ k < 13; omega)
  obtain ⟨dC, h1⟩ := Classical.skolem.mp H
  obtain ⟨dI, h2⟩ := Classical.skolem.mp h1
  exact ⟨dC, dI, h2⟩
def tyI (a0 a1 a2 a3 a4 a5 : ClassId) (k : Nat) : ClassId := match k with
  | 0 => a0
  | 1 => a1
  | 2 => a2
  | 3 => a3
  | 4 => a4
  | _ => a5
theorem u_start {args : Array Value} {s : State} {b : Nat} (hts : ∀ w ∈ lw_tbl, w.before args s = true) (hgv : (Jvm.Cond.and given_1 narrow_1).before args s = true) : ∃ X : gX, X.2.2.1 = s.heap.size ∧ X.2.2.2.2.2 = b ∧ gS X s s.heap := by
  have hs := flat_of_before _ hgv
  obtain ⟨dC, dI, hK⟩ := u_cls hts
  obtain ⟨t0, e0⟩ := u_arrI (ty := .int) (by intro C h; cases h) (hts (.arrayClass .int) (tm1 (List.mem_of_getElem? (i := 59) rfl)))
  obtain ⟨t1, e1⟩ := u_arrI (ty := .boolean) (by intro C h; cases h) (hts (.arrayClass .boolean) (tm1 (List.mem_of_getElem? (i := 101) rfl)))
  obtain ⟨t2, e2⟩ := u_arrO (C := "PadPolish$Row") (hts (.arrayOver (.object "PadPolish$Row")) (tm1 (List.mem_of_getElem? (i := 33) rfl)))
  obtain ⟨t3, e3⟩ := u_arrO (C := "PadPolish$Surface") (hts (.arrayOver (.object "PadPolish$Surface")) (tm1 (List.mem_of_getElem? (i := 63) rfl)))
  obtain ⟨t4, e4⟩ := u_arrO (C := "PadPolish$Table") (hts (.arrayOver (.object "PadPolish$Table")) (tm1 (List.mem_of_getElem? (i := 61) rfl)))
  obtain ⟨t5, e5⟩ := u_arrO (C := "java/lang/Object") (hts (.arrayOver (.object "java/lang/Object")) (tm2 (List.mem_of_getElem? (i := 235) rfl)))
  have hA : ∀ a : Nat, a < s.heap.size → ¬ (fun q : Nat => s.heap.size ≤ q) a := fun a h q => absurd h (Nat.not_lt.mpr q)
  obtain ⟨aD, vD, hTD⟩ := va_Tof (tm := (.static "java/util/ArrayList" "DEFAULTCAPACITY_EMPTY_ELEMENTDATA" "[Ljava/lang/Object;")) (ty := .object "java/lang/Object") (N := 0) (f := fun _ => .null) (A := fun q : Nat => s.heap.size ≤ q) (by decide) (hs (.arrayOf (.static "java/util/ArrayList" "DEFAULTCAPACITY_EMPTY_ELEMENTDATA" "[Ljava/lang/Object;") (.object "java/lang/Object")) (by decide +kernel)) (va_eqt (hs (.eq (.length (.static "java/util/ArrayList" "DEFAULTCAPACITY_EMPTY_ELEMENTDATA" "[Ljava/lang/Object;")) (.int 0)) (by decide +kernel))) (fun j hj => absurd hj (Nat.not_lt_zero j)) hA
  have hZD := va_Zref (hts (.laysStatic "java/util/ArrayList" "DEFAULTCAPACITY_EMPTY_ELEMENTDATA" "[Ljava/lang/Object;") (tm1 (List.mem_of_getElem? (i := 137) rfl))) (hts (.initialized "java/util/ArrayList") (tm1 (List.mem_of_getElem? (i := 8) rfl))) vD hA
  obtain ⟨aW, vW, hTW⟩ := va_Tof (tm := (.static "PadPolish" "WORDS" "[I")) (ty := .int) (N := 5) (f := fun j => .int (Int32.ofInt (gWd j))) (A := fun q : Nat => s.heap.size ≤ q) (by decide) (hs (.arrayOf (.static "PadPolish" "WORDS" "[I") .int) (by decide +kernel)) (va_eqt (hs (.eq (.length (.static "PadPolish" "WORDS" "[I")) (.int 5)) (by decide +kernel))) (fun j hj => by
    rcases (show j = 0 ∨ j = 1 ∨ j = 2 ∨ j = 3 ∨ j = 4 by omega) with rfl | rfl | rfl | rfl | rfl
    · exact va_eqt (hs (.eq (.elem (.static "PadPolish" "WORDS" "[I") (.int 0)) (.int 1)) (by decide +kernel))
    · exact va_eqt (hs (.eq (.elem (.static "PadPolish" "WORDS" "[I") (.int 1)) (.int 1)) (by decide +kernel))
    · exact va_eqt (hs (.eq (.elem (.static "PadPolish" "WORDS" "[I") (.int 2)) (.int 4)) (by decide +kernel))
    · exact va_eqt (hs (.eq (.elem (.static "PadPolish" "WORDS" "[I") (.int 3)) (.int 27)) (by decide +kernel))
    · exact va_eqt (hs (.eq (.elem (.static "PadPolish" "WORDS" "[I") (.int 4)) (.int 256)) (by decide +kernel))) hA
  have hZW := va_Zref (hts (.laysStatic "PadPolish" "WORDS" "[I") (tm3 (List.mem_of_getElem? (i := 225) rfl))) (hts (.initialized "PadPolish") (tm1 (List.mem_of_getElem? (i := 1) rfl))) vW hA
  refine ⟨((dC, dI), tyI t0 t1 t2 t3 t4 t5, s.heap.size, aD, aW, b), rfl, rfl, ⟨hK, ?_⟩, hZD, hTD, hZW, hTW, ?_, ?_, fun w hw => va_Nw.of (NB_tab hw) (hts w (List.mem_filter.mp hw).1), hTD.out⟩
  · intro k q hq
    have hk : k < 6 := (List.getElem?_eq_some_iff.mp hq).1
    rcases (show k = 0 ∨ k = 1 ∨ k = 2 ∨ k = 3 ∨ k = 4 ∨ k = 5 by omega) with rfl | rfl | rfl | rfl | rfl | rfl
    · cases hq; exact e0
    · cases hq; exact e1
    · cases hq; exact e2
    · cases hq; exact e3
    · cases hq; exact e4
    · cases hq; exact e5
  · intro q hq
    have hm : ∀ q ∈ gnc, Cond.not (.castable q.1 q.2) ∈ flatC (Jvm.Cond.and given_1 narrow_1) := by decide +kernel
    exact va_Nc.of (hs _ (hm q hq))
  · intro C hC
    have hC : C = "PadPolish$Row" ∨ C = "PadPolish$Surface" ∨ C = "PadPolish$Table" ∨ C = "java/lang/Object" := by simpa [gao] using hC
    rcases hC with rfl | rfl | rfl | rfl
    · exact va_AO.of (hts (.arrayOver (.object "PadPolish$Row")) (tm1 (List.mem_of_getElem? (i := 33) rfl)))
    · exact va_AO.of (hts (.arrayOver (.object "PadPolish$Surface")) (tm1 (List.mem_of_getElem? (i := 63) rfl)))
    · exact va_AO.of (hts (.arrayOver (.object "PadPolish$Table")) (tm1 (List.mem_of_getElem? (i := 61) rfl)))
    · exact va_AO.of (hts (.arrayOver (.object "java/lang/Object")) (tm2 (List.mem_of_getElem? (i := 235) rfl)))
