/-! THE JUDGEMENT: G, its context, contracts CT -/
def TB : List Cond := lw_tbl.filter goodWord
theorem TB_good : GoodIn TB TB := fun w h => ⟨h, good_of_word (List.mem_filter.mp h).2⟩
theorem TB_of {w : Cond} (h : w ∈ lw_tbl) (g : goodWord w = true) : w ∈ TB := List.mem_filter.mpr ⟨h, g⟩
theorem TB_cons {w : Cond} (h : w ∈ TB) : GoodIn TB (w :: TB) := fun x hx => (List.mem_cons.mp hx).elim (fun e => by rw [e]; exact TB_good w h) (TB_good x)
/-- words that are carried from state to state -/
def gisN : Cond → Bool
  | .castable _ _ => true
  | .declares _ => true
  | .methodLinkNest _ _ _ _ => true
  | .fieldLinkNest _ _ _ _ _ _ => true
  | _ => false
def NB : List Cond := lw_tbl.filter gisN
theorem NB_of {w : Cond} (h : w ∈ lw_tbl) (g : gisN w = true) : w ∈ NB := List.mem_filter.mpr ⟨h, g⟩
theorem NB_tab {w : Cond} (h : w ∈ NB) : w.onTables = true := by
  have := (List.mem_filter.mp h).2
  cases w <;> first | rfl | (simp [gisN] at this; done)
theorem NB_warm {w : Cond} (h : w ∈ NB) {s U : State} (hW : s.WarmedH U.vm) (hZ : va_Nw w s) : va_Nw w U := by
  have hg := (List.mem_filter.mp h).2
  cases w <;> first | exact va_Nw.warmC hW hZ | exact va_Nw.warmD hW hZ | exact va_Nw.warmM hW hZ | exact va_Nw.warmF hW hZ | (simp [gisN] at hg; done)
def gtys (X : gX) : List (ClassId × FieldType) := [(X.2.1 0, .int), (X.2.1 1, .boolean), (X.2.1 2, .object "PadPolish$Row"), (X.2.1 3, .object "PadPolish$Surface"), (X.2.1 4, .object "PadPolish$Table"), (X.2.1 5, .object "java/lang/Object")]
def gWd (j : Int) : Int := if j = 0 then 1 else if j = 1 then 1 else if j = 2 then 4 else if j = 3 then 27 else 256
def gkinds : List String := ["PadPolish$Sliding", "PadPolish$Soaked", "PadPolish$Dry", "PadPolish$Clearing", "PadPolish$Straight"]
/-- which of the kinds aren't which -/
def gnc : List (String × String) := [("PadPolish$Sliding", "PadPolish$Soaked"), ("PadPolish$Sliding", "PadPolish$Dry"), ("PadPolish$Sliding", "PadPolish$Clearing"), ("PadPolish$Sliding", "PadPolish$Straight"), ("PadPolish$Soaked", "PadPolish$Dry"), ("PadPolish$Soaked", "PadPolish$Clearing"), ("PadPolish$Soaked", "PadPolish$Straight"), ("PadPolish$Dry", "PadPolish$Soaked"), ("PadPolish$Dry", "PadPolish$Clearing"), ("PadPolish$Dry", "PadPolish$Straight"), ("PadPolish$Clearing", "PadPolish$Sliding"), ("PadPolish$Clearing", "PadPolish$Soaked"), ("PadPolish$Clearing", "PadPolish$Dry"), ("PadPolish$Clearing", "PadPolish$Straight"), ("PadPolish$Straight", "PadPolish$Sliding"), ("PadPolish$Straight", "PadPolish$Soaked"), ("PadPolish$Straight", "PadPolish$Dry")]
def gao : List String := ["PadPolish$Row", "PadPolish$Surface", "PadPolish$Table", "java/lang/Object"]
/-- what a method takes as given of the tables beside TB: classes, array classes, the two static arrays, casts -/
def gS (X : gX) (U : State) (H : Heap) : Prop :=
  va_K X.1 vwCl (gtys X) U ∧ va_Z "java/util/ArrayList" "DEFAULTCAPACITY_EMPTY_ELEMENTDATA" "[Ljava/lang/Object;" (.ref X.2.2.2.1) (gB X) U H ∧ va_T (.object "java/lang/Object") X.2.2.2.1 0 (fun _ => .null) (gB X) U H ∧ va_Z "PadPolish" "WORDS" "[I" (.ref X.2.2.2.2.1) (gB X) U H ∧ va_T .int X.2.2.2.2.1 5 (fun j => .int (Int32.ofInt (gWd j))) (gB X) U H ∧ (∀ q ∈ gnc, va_Nc q.1 q.2 U) ∧ (∀ C ∈ gao, va_AO C U) ∧ (∀ w ∈ NB, va_Nw w U) ∧ ¬ gB X X.2.2.2.1
theorem gS.warm {X : gX} {u U : State} {H : Heap} (hW : u.WarmedH U.vm) (h : gS X u H) : gS X U H := by
  obtain ⟨h1, h2, h3, h4, h5, h6, h7, h8, h9⟩ := h
  have hvm := hW.alike
  exact ⟨h1.moved hvm, h2.moved hvm, h3.moved hvm, h4.moved hvm, h5.moved hvm, fun q hq => (h6 q hq).moved hvm, fun C hC => (h7 C hC).moved hvm, fun w hw => NB_warm hw hW (h8 w hw), h9⟩
theorem gS.same {X : gX} {u U : State} {H : Heap} (hv : u.vm = U.vm) (h : gS X u H) : gS X U H := by
  obtain ⟨h1, h2, h3, h4, h5, h6, h7, h8, h9⟩ := h
  have hvm : u.vm.Alike U.vm := by rw [hv]; exact Vm.Alike.refl U.vm
  exact ⟨h1.moved hvm, h2.moved hvm, h3.moved hvm, h4.moved hvm, h5.moved hvm, fun q hq => (h6 q hq).moved hvm, fun C hC => (h7 C hC).moved hvm, fun w hw => va_Nw.same (NB_tab hw) hv (h8 w hw), h9⟩
theorem gS.kept {X : gX} {U : State} {H H1 : Heap} (h : gS X U H) (hq : ∀ a : Nat, a < H.size → ¬ gB X a → H1[a]? = H[a]?) : gS X U H1 := by
  obtain ⟨h1, h2, h3, h4, h5, h6, h7, h8, h9⟩ := h
  exact ⟨h1, h2.kept hq, h3.kept hq, h4.kept hq, h5.kept hq, h6, h7, h8, h9⟩
abbrev gC : Type := Program × Launch × Env × Room × State × MethodId × Array Value × List Frame × Method × Code × (State → Prop) × gX
abbrev kp (κ : gC) : Program := κ.1
abbrev kl (κ : gC) : Launch := κ.2.1
abbrev ke (κ : gC) : Env := κ.2.2.1
abbrev kR (κ : gC) : Room := κ.2.2.2.1
abbrev ks (κ : gC) : State := κ.2.2.2.2.1
abbrev km (κ : gC) : MethodId := κ.2.2.2.2.2.1
abbrev ka (κ : gC) : Array Value := κ.2.2.2.2.2.2.1
abbrev kb (κ : gC) : List Frame := κ.2.2.2.2.2.2.2.1
abbrev kt (κ : gC) : Method := κ.2.2.2.2.2.2.2.2.1
abbrev kc (κ : gC) : Code := κ.2.2.2.2.2.2.2.2.2.1
abbrev kQ (κ : gC) : State → Prop := κ.2.2.2.2.2.2.2.2.2.2.1
abbrev kX (κ : gC) : gX := κ.2.2.2.2.2.2.2.2.2.2.2
def G (κ : gC) (M : gM) (n : Int) (L : List (Option gV)) (pc : Nat) (st : List gV) (cells slots : Nat) : Prop :=
  ∀ (H : Heap) (locs : List Loc) (ls : Array Slot), gP (kX κ) M n H → va_S (gB (kX κ)) (ks κ).heap H locs → gL (kX κ) ls L →
    W (kp κ) (kl κ) (ke κ) (kR κ) (ks κ) (km κ) (ka κ) (kb κ) (kt κ) (kc κ) H locs cells slots (kQ κ) (F0 (km κ) pc ls (st.map (gv (kX κ))))
/-- a method's context -/
def gF (κ : gC) (y : MethodName) (cc : ByteArray) (nL : Nat) (rm : Room) : Prop :=
  (kp κ).tables.exec = Jvm.exec ∧ (kc κ).code = cc ∧ (kc κ).maxLocals = nL ∧ (ks κ).vm.findClass y.cls = some (km κ).cls ∧ (∀ w ∈ TB, w.before (ka κ) (ks κ) = true) ∧ (kt κ).locks = false ∧ (kt κ).name = y.name ∧ kR κ = rm ∧ gS (kX κ) (ks κ) (ks κ).heap
section GF
variable {κ : gC} {y : MethodName} {cc : ByteArray} {nL : Nat} {rm : Room}
theorem gF.x (C : gF κ y cc nL rm) : (kp κ).tables.exec = Jvm.exec := C.1
theorem gF.b (C : gF κ y cc nL rm) : (kc κ).code = cc := C.2.1
theorem gF.ml (C : gF κ y cc nL rm) : (kc κ).maxLocals = nL := C.2.2.1
theorem gF.own (C : gF κ y cc nL rm) : (ks κ).vm.findClass y.cls = some (km κ).cls := C.2.2.2.1
theorem gF.ts (C : gF κ y cc nL rm) : ∀ w ∈ TB, w.before (ka κ) (ks κ) = true := C.2.2.2.2.1
theorem gF.lk (C : gF κ y cc nL rm) : (kt κ).locks = false := C.2.2.2.2.2.1
theorem gF.nm (C : gF κ y cc nL rm) : (kt κ).name = y.name := C.2.2.2.2.2.2.1
theorem gF.R (C : gF κ y cc nL rm) : kR κ = rm := C.2.2.2.2.2.2.2.1
theorem gF.S (C : gF κ y cc nL rm) : gS (kX κ) (ks κ) (ks κ).heap := C.2.2.2.2.2.2.2.2
theorem gF.fix (C : gF κ y cc nL rm) : CallFix (kp κ) (km κ) (kc κ) cc nL (ks κ) (ka κ) TB y.cls := ⟨C.x, C.b, C.ml, C.own, C.ts⟩
end GF
/-- a contract's end: the answer, the heap, how many cells there are -/
abbrev gPost : Type := Option gV → gM → Int → Prop
def gQc (X : gX) (Q : gPost) : Array Value → State → Outcome → State → Prop := fun _ st oc t => (∃ (r : Option gV) (M : gM) (n : Int), oc = .returned (r.map (gv X)) ∧ Q r M n ∧ gP X M n t.heap) ∧ va_F (gB X) st t
/-- one answer, one heap -/
def qr (r0 : Option gV) (M0 : gM) (n0 : Int) : gPost := fun r M n => r = r0 ∧ M = M0 ∧ n = n0
def gEnd (κ : gC) (ret : Option FieldType) (mc ms : Nat) (Q : gPost) : Prop := (kt κ).sig.returnType = ret ∧ kQ κ = MQ (kb κ) (gQc (kX κ) Q) (ka κ) (ks κ) mc ms (gB (kX κ))
def CT (y : MethodName) (cc : ByteArray) (nL : Nat) (ret : Option FieldType) (rm : Room) (av : List gV) (M : gM) (n : Int) (Q : gPost) : Prop :=
  ∀ (l : Launch) (X : gX), Met l y (Cond.code y cc nL ret :: TB) rm (va_Pc (av.map (gv X)) (fun U => gP X M n U.heap ∧ gS X U U.heap)) (gQc X Q) rm.cells rm.slots (gB X)
theorem CT.of {y : MethodName} {cc : ByteArray} {nL : Nat} {ret : Option FieldType} {rm : Room} {av : List gV} {M : gM} {n : Int} {Q : gPost} (hy : plainName y.cls = true) (hn : ∀ X, (lg_sl (av.map (gv X))).length ≤ nL)
    (body : ∀ κ : gC, gF κ y cc nL rm → gEnd κ ret rm.cells rm.slots Q → G κ M n (gl0 av nL) 0 [] 0 0) : CT y cc nL ret rm av M n Q := by
  intro l X
  refine Met.ofW (cc := cc) (maxL := nL) (ret := ret) hy rfl ?_
  intro p e s m args below meth c s₁ B hml hv
  obtain ⟨rfl, hP, hS⟩ := hv
  have hts := atoms_spec (ws := Cond.code y cc nL ret :: TB) B.pre
  have hnm := (name_of_methodNamed B.named B.method).1
  have K := body (p, l, e, (headSpec (Cond.code y cc nL ret :: TB) rm).room, s, m, (av.map (gv X)).toArray, below, meth, c, MQ below (gQc X Q) (av.map (gv X)).toArray s rm.cells rm.slots (gB X), X)
    ⟨B.exec, B.bytes, hml, findClass_of_methodNamed B.named, fun w hw => hts w (List.mem_cons_of_mem _ hw), B.notSynchronized, hnm, rfl, hS⟩ ⟨B.returns, rfl⟩
  have hl := lv_entry (av.map (gv X)) (n := nL) (hn X)
  rw [lg_entry_eq]
  exact K s.heap [] _ hP va_S.rf (gL_sub hl (gl0_len av nL) (fun k v hk => by have := gl0_args X av nL 0 k v hk; rwa [Nat.zero_add] at this))
section GR
variable {κ : gC} {y : MethodName} {cc : ByteArray} {nL : Nat} {rm : Room} {M : gM} {n : Int} {L : List (Option gV)} {pc : Nat} {st : List gV} {cells slots : Nat} {ret : Option FieldType} {mc ms : Nat} {Q : gPost}
theorem G.widen {k k2 : Nat} (h1 : cells ≤ k) (h2 : slots ≤ k2) (g : G κ M n L pc st k k2) : G κ M n L pc st cells slots := fun H locs ls hP hS hL => W.widen h1 h2 (g H locs ls hP hS hL)
theorem g_post {X : gX} {r : Option gV} (hq : Q r M n) {H : Heap} {locs : List Loc} (hP : gP X M n H) {s : State} (hS : va_S (gB X) s.heap H locs) (a : Array Value) (t : State) (ht : t.heap = H) : gQc X Q a s (.returned (r.map (gv X))) t := ⟨⟨r, M, n, rfl, hq, by rw [ht]; exact hP⟩, hS.F ht⟩
theorem g_vret (C : gF κ y cc nL rm) (E : gEnd κ none mc ms Q) (hd : decode cc pc = .ok (.return_, 1)) (hc : cells ≤ mc ∧ slots ≤ ms) (hq : Q none M n) : G κ M n L pc [] cells slots := by
  intro H locs ls hP hS hL
  rw [E.2]
  exact W.widen hc.1 hc.2 (W.vret C.x C.b E.1 (fun t ht _ => g_post (r := none) hq hP hS _ t ht) hS.2.2 hd C.lk)
theorem g_iret {x : Int} (C : gF κ y cc nL rm) (E : gEnd κ (some .int) mc ms Q) (hd : decode cc pc = .ok (.ireturn, 1)) (hc : cells ≤ mc ∧ slots ≤ ms) (hq : Q (some (vi x)) M n) : G κ M n L pc [vi x] cells slots := by
  intro H locs ls hP hS hL
  rw [E.2]
  exact W.widen hc.1 hc.2 (W.iret C.x C.b E.1 (fun t ht _ => g_post (r := some (vi x)) hq hP hS _ t ht) hS.2.2 hd C.lk)
theorem g_zret {x : Int} (C : gF κ y cc nL rm) (E : gEnd κ (some .boolean) mc ms Q) (hd : decode cc pc = .ok (.ireturn, 1)) (hc : cells ≤ mc ∧ slots ≤ ms) (h01 : x = 0 ∨ x = 1) (hq : Q (some (vi x)) M n) : G κ M n L pc [vi x] cells slots := by
  intro H locs ls hP hS hL
  rw [E.2]
  exact W.widen hc.1 hc.2 (W.zret C.x C.b E.1 (by rcases h01 with rfl | rfl <;> decide) (fun t ht _ => g_post (r := some (vi x)) hq hP hS _ t ht) hS.2.2 hd C.lk)
theorem g_lret {x : Int} (C : gF κ y cc nL rm) (E : gEnd κ (some .long) mc ms Q) (hd : decode cc pc = .ok (.lreturn, 1)) (hc : cells ≤ mc ∧ slots ≤ ms) (hq : Q (some (vl x)) M n) : G κ M n L pc [vl x] cells slots := by
  intro H locs ls hP hS hL
  rw [E.2]
  exact W.widen hc.1 hc.2 (W.lret C.x C.b E.1 (fun t ht _ => g_post (r := some (vl x)) hq hP hS _ t ht) hS.2.2 hd C.lk)
theorem g_aret {x : Option Int} {rt : FieldType} (C : gF κ y cc nL rm) (E : gEnd κ (some rt) mc ms Q) (hrt : (∃ n, rt = .object n) ∨ ∃ t, rt = .array t) (hd : decode cc pc = .ok (.areturn, 1)) (hc : cells ≤ mc ∧ slots ≤ ms) (hq : Q (some (.inr (.inr x))) M n) : G κ M n L pc [.inr (.inr x)] cells slots := by
  intro H locs ls hP hS hL
  rw [E.2]
  refine W.widen hc.1 hc.2 (W.aret (v := gv (kX κ) (.inr (.inr x))) C.x C.b E.1 hrt ?_ (fun t ht _ => g_post (r := some (.inr (.inr x))) hq hP hS _ t ht) hS.2.2 hd (hlocks := C.lk))
  cases x with
  | none => exact Or.inl rfl
  | some a => exact Or.inr ⟨_, rfl⟩
-- numbers and locals
theorem g_iconst {k : Int} (C : gF κ y cc nL rm) (hd : decode cc pc = .ok (.iconst k, 1)) (g : G κ M n L (pc + 1) (vi k :: st) cells slots) : G κ M n L pc st cells slots := fun H locs ls hP hS hL => lv_iconst C.x C.b hd rfl (g H locs ls hP hS hL)
theorem g_bipush {k : Int} (C : gF κ y cc nL rm) (hd : decode cc pc = .ok (.bipush k, 2)) (hk : (Int8.ofInt k).toInt32 = Int32.ofInt k) (g : G κ M n L (pc + 2) (vi k :: st) cells slots) : G κ M n L pc st cells slots := fun H locs ls hP hS hL => lv_bipush C.x C.b hd hk (g H locs ls hP hS hL)
theorem g_sipush {k : Int} (C : gF κ y cc nL rm) (hd : decode cc pc = .ok (.sipush k, 3)) (hk : (Int16.ofInt k).toInt32 = Int32.ofInt k) (g : G κ M n L (pc + 3) (vi k :: st) cells slots) : G κ M n L pc st cells slots := fun H locs ls hP hS hL => lv_sipush C.x C.b hd hk (g H locs ls hP hS hL)
theorem g_ldc {ix : Nat} (k : Int) (C : gF κ y cc nL rm) (hw : Cond.constant y.cls ix (Int32.ofInt k) ∈ TB) (hd : decode cc pc = .ok (.ldc ix, 2)) (g : G κ M n L (pc + 2) (vi k :: st) cells slots) : G κ M n L pc st cells slots := fun H locs ls hP hS hL => lv_ldc C.x C.b C.own (C.ts _ hw) hd (g H locs ls hP hS hL)
theorem g_ldc2 {ix : Nat} (k : Int) (C : gF κ y cc nL rm) (hw : Cond.constantLong y.cls ix (Int64.ofInt k) ∈ TB) (hd : decode cc pc = .ok (.ldc2_w ix, 3)) (g : G κ M n L (pc + 3) (vl k :: st) cells slots) : G κ M n L pc st cells slots := fun H locs ls hP hS hL => lv_ldc2 C.x C.b C.own (C.ts _ hw) hd (g H locs ls hP hS hL)
theorem g_lconst0 (C : gF κ y cc nL rm) (hd : decode cc pc = .ok (.lconst 0, 1)) (g : G κ M n L (pc + 1) (vl 0 :: st) cells slots) : G κ M n L pc st cells slots := fun H locs ls hP hS hL => lv_lconst C.x C.b hd rfl (g H locs ls hP hS hL)
theorem g_lconst1 (C : gF κ y cc nL rm) (hd : decode cc pc = .ok (.lconst 1, 1)) (g : G κ M n L (pc + 1) (vl 1 :: st) cells slots) : G κ M n L pc st cells slots := fun H locs ls hP hS hL => lv_lconst C.x C.b hd rfl (g H locs ls hP hS hL)
theorem g_null (C : gF κ y cc nL rm) (hd : decode cc pc = .ok (.aconst_null, 1)) (g : G κ M n L (pc + 1) (vn :: st) cells slots) : G κ M n L pc st cells slots := fun H locs ls hP hS hL => lv_null C.x C.b hd (g H locs ls hP hS hL)
theorem g_iload {i : Nat} {x : Int} (C : gF κ y cc nL rm) (hd : decode cc pc = .ok (.iload i, 2)) (hx : L[i]? = some (some (vi x))) (g : G κ M n L (pc + 2) (vi x :: st) cells slots) : G κ M n L pc st cells slots := fun H locs ls hP hS hL => lv_iload C.x C.b hd (gL_get hL hx) (g H locs ls hP hS hL)
theorem g_iload_n {i : Fin 4} {x : Int} (C : gF κ y cc nL rm) (hd : decode cc pc = .ok (.iload_n i, 1)) (hx : L[(i : Nat)]? = some (some (vi x))) (g : G κ M n L (pc + 1) (vi x :: st) cells slots) : G κ M n L pc st cells slots := fun H locs ls hP hS hL => lv_iload_n C.x C.b hd rfl (gL_get hL hx) (g H locs ls hP hS hL)
theorem g_lload {i : Nat} {x : Int} (C : gF κ y cc nL rm) (hd : decode cc pc = .ok (.lload i, 2)) (hx : L[i]? = some (some (vl x))) (g : G κ M n L (pc + 2) (vl x :: st) cells slots) : G κ M n L pc st cells slots := fun H locs ls hP hS hL => lv_lload C.x C.b hd (gL_get hL hx) (g H locs ls hP hS hL)
theorem g_lload_n {i : Fin 4} {x : Int} (C : gF κ y cc nL rm) (hd : decode cc pc = .ok (.lload_n i, 1)) (hx : L[(i : Nat)]? = some (some (vl x))) (g : G κ M n L (pc + 1) (vl x :: st) cells slots) : G κ M n L pc st cells slots := fun H locs ls hP hS hL => lv_lload_n C.x C.b hd rfl (gL_get hL hx) (g H locs ls hP hS hL)
theorem g_aload {i : Nat} {x : Option Int} (C : gF κ y cc nL rm) (hd : decode cc pc = .ok (.aload i, 2)) (hx : L[i]? = some (some (.inr (.inr x)))) (g : G κ M n L (pc + 2) (.inr (.inr x) :: st) cells slots) : G κ M n L pc st cells slots := fun H locs ls hP hS hL => by
  cases x with
  | none => exact lv_aloadN C.x C.b hd (gL_get hL hx) (g H locs ls hP hS hL)
  | some a => exact lv_aload C.x C.b hd (gL_get hL hx) (g H locs ls hP hS hL)
theorem g_aload_n {i : Fin 4} {x : Option Int} (C : gF κ y cc nL rm) (hd : decode cc pc = .ok (.aload_n i, 1)) (hx : L[(i : Nat)]? = some (some (.inr (.inr x)))) (g : G κ M n L (pc + 1) (.inr (.inr x) :: st) cells slots) : G κ M n L pc st cells slots := fun H locs ls hP hS hL => by
  cases x with
  | none => exact lv_aload_nN C.x C.b hd rfl (gL_get hL hx) (g H locs ls hP hS hL)
  | some a => exact lv_aload_n C.x C.b hd rfl (gL_get hL hx) (g H locs ls hP hS hL)
/-- no long stands just before place i -/
def gpre : List (Option gV) → Nat → Bool
  | _, 0 => true
  | L, i + 1 => match L[i]? with
    | some w => !gcat2 w
    | none => true
theorem gpre_ok {L : List (Option gV)} {i : Nat} (h : gpre L i = true) : ∀ j w, j + 1 = i → L[j]? = some w → gcat2 w = false := by
  intro j w hj hw
  subst hj
  unfold gpre at h
  simp only [hw] at h
  simpa using h
theorem g_istore {i : Nat} {x : Int} (C : gF κ y cc nL rm) (hd : decode cc pc = .ok (.istore i, 2)) (hi : i < L.length) (hp : gpre L i = true) (g : G κ M n (L.set i (some (vi x))) (pc + 2) st cells slots) : G κ M n L pc (vi x :: st) cells slots := fun H locs ls hP hS hL => lv_istore C.x C.b hd hL hi rfl (fun ls' h => g H locs ls' hP hS (gL_set (gpre_ok hp) hi h))
theorem g_istore_n {i : Fin 4} {x : Int} (C : gF κ y cc nL rm) (hd : decode cc pc = .ok (.istore_n i, 1)) (hi : (i : Nat) < L.length) (hp : gpre L i = true) (g : G κ M n (L.set i (some (vi x))) (pc + 1) st cells slots) : G κ M n L pc (vi x :: st) cells slots := fun H locs ls hP hS hL => lv_istore_n C.x C.b hd rfl hL hi rfl (fun ls' h => g H locs ls' hP hS (gL_set (gpre_ok hp) hi h))
theorem g_lstore {i : Nat} {x : Int} (C : gF κ y cc nL rm) (hd : decode cc pc = .ok (.lstore i, 2)) (hi : i + 1 < L.length) (hp : gpre L i = true) (g : G κ M n ((L.set i (some (vl x))).set (i + 1) none) (pc + 2) st cells slots) : G κ M n L pc (vl x :: st) cells slots := fun H locs ls hP hS hL => lv_lstore C.x C.b hd hL hi rfl (fun ls' h => g H locs ls' hP hS (gL_set2 (gpre_ok hp) hi h))
theorem g_lstore_n {i : Fin 4} {x : Int} (C : gF κ y cc nL rm) (hd : decode cc pc = .ok (.lstore_n i, 1)) (hi : (i : Nat) + 1 < L.length) (hp : gpre L i = true) (g : G κ M n ((L.set i (some (vl x))).set (i + 1) none) (pc + 1) st cells slots) : G κ M n L pc (vl x :: st) cells slots := fun H locs ls hP hS hL => lv_lstore_n C.x C.b hd rfl hL hi rfl (fun ls' h => g H locs ls' hP hS (gL_set2 (gpre_ok hp) hi h))
theorem g_astore {i : Nat} {x : Option Int} (C : gF κ y cc nL rm) (hd : decode cc pc = .ok (.astore i, 2)) (hi : i < L.length) (hp : gpre L i = true) (g : G κ M n (L.set i (some (.inr (.inr x)))) (pc + 2) st cells slots) : G κ M n L pc (.inr (.inr x) :: st) cells slots := fun H locs ls hP hS hL => by
  cases x with
  | none => exact lv_astoreN C.x C.b hd hL hi rfl (fun ls' h => g H locs ls' hP hS (gL_set (gpre_ok hp) hi h))
  | some a => exact lv_astore C.x C.b hd hL hi rfl (fun ls' h => g H locs ls' hP hS (gL_set (gpre_ok hp) hi h))
theorem g_astore_n {i : Fin 4} {x : Option Int} (C : gF κ y cc nL rm) (hd : decode cc pc = .ok (.astore_n i, 1)) (hi : (i : Nat) < L.length) (hp : gpre L i = true) (g : G κ M n (L.set i (some (.inr (.inr x)))) (pc + 1) st cells slots) : G κ M n L pc (.inr (.inr x) :: st) cells slots := fun H locs ls hP hS hL => by
  cases x with
  | none => exact lv_astore_nN C.x C.b hd rfl hL hi rfl (fun ls' h => g H locs ls' hP hS (gL_set (gpre_ok hp) hi h))
  | some a => exact lv_astore_n C.x C.b hd rfl hL hi rfl (fun ls' h => g H locs ls' hP hS (gL_set (gpre_ok hp) hi h))
theorem g_iinc {i : Nat} {x k : Int} (C : gF κ y cc nL rm) (hd : decode cc pc = .ok (.iinc i k, 3)) (hx : L[i]? = some (some (vi x))) (hi : i < L.length) (hp : gpre L i = true) (g : G κ M n (L.set i (some (vi (x + k)))) (pc + 3) st cells slots) : G κ M n L pc st cells slots := fun H locs ls hP hS hL => by
  have hm : (i, gv (kX κ) (vi x)) ∈ gls (kX κ) 0 L := by have := gls_get (kX κ) L 0 i _ hx; rwa [Nat.zero_add] at this
  obtain ⟨q, hq⟩ := List.getElem?_of_mem hm
  exact lv_iinc C.x C.b hd hL (k := q) hq (v := Int32.ofInt (x + k)) (Int32.ofInt_add x k).symm hi rfl (fun ls' h => g H locs ls' hP hS (gL_set (gpre_ok hp) hi h))
end GR
