/-! THE CLAIM OUT OF ONE WALK OF THE LAW'S BODY. Your part is whole_start (and what it stands on); all else here is the same for every law, but numbers. -/
def R_law : String := "PadPolishLaw"
def lw_P (b : Addr) (xs : List Int32) (args : Array Value) (s : State) : Prop := args = #[.ref b] ∧ s.IntsAt b xs ∧ xs.length ≤ 3072 ∧ (Jvm.Cond.and given_1 narrow_1).before args s = true
def lw_Q (_ : Array Value) (s : State) (o : Outcome) (t : State) : Prop := o = .returned (some (.int 1)) ∧ Framed s o t [] 600000 7302250
def lw_Z (below : List Frame) (a : Array Value) (s : State) : State → Prop := fun t => ∃ o, t.status = .running ∧ Ended t below o ∧ lw_Q a s o t
/-- the law's own end, with 1 on the stack, nothing written that was there before, its room as the claim has it -/
theorem lw_ret {p : Program} {l : Launch} {e : Env} {s : State} {m : MethodId} {below : List Frame} {meth : Method} {c : Code} {b : Nat} (hx : p.tables.exec = Jvm.exec) (hb : c.code = code) (hr : meth.sig.returnType = ret) (hlocks : meth.locks = false) {pc : Nat} {H : Heap} {ls : Array Slot} (hdg : decode code pc = .ok (.ireturn, 1)) : W p l e room_1 s m #[Value.ref b] below meth c H [] 600000 7302250 (lw_Z below #[Value.ref b] s) (F0 m pc ls [.int 1]) := by
  intro T hT X
  obtain ⟨fs, hret, hrun, hended, hW, hframe⟩ := X.leave (v := some (.int 1)) (hlocks := hlocks) (fun h => by rw [hr] at h; cases h)
  have hmeth' : T.vm.method? m = some meth := X.method'
  refine ⟨T.setFrames fs, ?_, .returned (some (.int 1)), hrun, hended, rfl, ⟨_, rfl⟩, hW, hframe⟩
  jvm_step X.here [X.here.top, hx, hb, hdg, hmeth', hr, ret, narrow_b1]
  (try refine ⟨rfl, ?_⟩); (try refine ⟨rfl, ?_⟩)
  first | (intro acts; rw [hret _ acts rfl rfl rfl]) | rw [hret _ _ rfl rfl rfl]
  exact Steps.refl _
/-- what holds at the law's entry: the machine, the code, the tables' words (any of lw_tbl by 'hts w (by decide +kernel)'), the script of L ints xs at the cell b, what the Statement gives of the start (any of its parts by flat_of_before) -/
def lw_At (p : Program) (s : State) (m : MethodId) (meth : Method) (c : Code) (b L : Nat) (xs : Nat → Int32) : Prop :=
  p.tables.exec = Jvm.exec ∧ c.code = code ∧ meth.sig.returnType = ret ∧ c.maxLocals = 4 ∧ s.vm.findClass R_law = some m.cls ∧ (∀ w ∈ lw_tbl, w.before #[Value.ref b] s = true) ∧ va_X b L xs s s.heap ∧ b < s.heap.size ∧ meth.locks = false ∧ (Jvm.Cond.and given_1 narrow_1).before #[Value.ref b] s = true
theorem XL0.full {X : XT} {ℓ : Int → Int} {M : gM} (h : XL0 X ℓ M) (hf : ∀ a, 152 ≤ a → M a = none) : XL X ℓ M 164 M := by
  obtain ⟨h1, h2, h3, h4, h5, h6, h7, h8, h9, h10, h11, h12, h13⟩ := h
  exact ⟨h1, h2, h3, h4, h5, h6, h7, h8, h9, h10, h11, h12, h13, fun a _ _ => rfl, Int.le_refl _, fun a ha => hf a (by omega)⟩
set_option maxRecDepth 20000 in
/-- the law, from its first instruction -/
theorem lw_first {κ : gC} {nm : String} {Ls : Int} {xs : Nat → Int32} (C : gF κ (yLw nm) cL_law 4 room_1) (S : gScr κ Ls xs) (hLs : 0 ≤ Ls ∧ Ls ≤ 3072) (hE : ∀ (M : gM) (n : Int) (L : List (Option gV)) (c s : Nat), c ≤ 600000 → s ≤ 7302250 → G κ M n L 1181 [vi 1] c s) : G κ (fun _ => none) 0 [some (vr (-3)), none, none, none] 0 [] 0 0 := by
  refine g_new C nw_L_7 dL_law_0 ⟨by show 0 + 1 ≤ 600000; omega, by show 0 + 16 ≤ 7302250; omega⟩ ?_
  refine g_dup C dL_law_3 rfl ?_
  refine g_invI C (ct_X11_init (Z := fun _ => none) (fun _ _ => rfl)) ci_L_9 (rml (by decide) (by decide) (by show 0 + 1 + 151 ≤ 600000; omega) (by show 0 + 16 + 2043 ≤ 7302250; omega)) (Nat.le_of_ble_eq_true rfl) rfl dL_law_4 rfl (fun r M1 n1 q => ?_)
  obtain ⟨rfl, rfl, hX, hf⟩ := q
  show G κ M1 152 [some (vr (-3)), none, none, none] 7 [vr 0] (0 + 1 + 151) (0 + 16 + 2043)
  refine s_n1_astore C dL_law_7 rfl ?_
  refine g_new C nw_L_10 dL_law_8 ⟨by show 0 + 1 + 151 + 1 ≤ 600000; omega, by show 0 + 16 + 2043 + 24 ≤ 7302250; omega⟩ ?_
  refine g_dup C dL_law_11 rfl ?_
  refine g_invI C (ct_X12_init (Z := M1)) ci_L_12 (rml (by decide) (by decide) (by show 0 + 1 + 151 + 1 + 11 ≤ 600000; omega) (by show 0 + 16 + 2043 + 24 + 3229 ≤ 7302250; omega)) (Nat.le_of_ble_eq_true rfl) rfl dL_law_12 rfl (q_v ?_)
  refine s_n2_astore C dL_law_15 rfl ?_
  refine g_iconst C dL_law_16 ?_
  refine s_n3_istore C dL_law_17 rfl ?_
  exact G.widen (by show 0 + 1 + 151 + 1 + 11 ≤ 200 + 13 * (0 : Int).toNat; decide) (by show 0 + 16 + 2043 + 24 + 3229 ≤ 6000 + 87 * (0 : Int).toNat; decide) (lw_loop C S hLs hE 600 0 x0 l0 y0 164 (YO y0 M1) (Int.le_refl _) hLs.1 (by omega) ⟨(hX.full hf).uy y0, YOi_YO y0 M1, xOK_0, yR_0⟩)
theorem whole_start {p : Program} {e : Env} {s : State} {m : MethodId} {below : List Frame} {meth : Method} {c : Code} (l : Launch) {b L : Nat} {xs : Nat → Int32} (hL : L ≤ 3072) (C0 : lw_At p s m meth c b L xs) : W p l e room_1 s m #[Value.ref b] below meth c s.heap [] 0 0 (lw_Z below #[Value.ref b] s) (entryFrame m ([Value.ref b] : List Value).toArray 4) := by
  obtain ⟨hx, hb, hr, hml, hown, hts, hX, hbl, hlocks, hgv⟩ := C0
  obtain ⟨X, e1, e2, hG⟩ := u_start (b := b) hts hgv
  have eb : gr X (-3) = b := by
    unfold gr
    rw [if_neg (by decide), if_neg (by decide), if_pos rfl]
    exact e2
  have C : gF (p, l, e, room_1, s, m, #[Value.ref b], below, meth, c, lw_Z below #[Value.ref b] s, X) (yLw meth.name) cL_law 4 room_1 := ⟨hx, hb, hml, hown, fun w hw => hts w (List.mem_filter.mp hw).1, hlocks, rfl, rfl, hG⟩
  have S : gScr (p, l, e, room_1, s, m, #[Value.ref b], below, meth, c, lw_Z below #[Value.ref b] s, X) (L : Int) xs := by
    refine ⟨Int.natCast_nonneg L, ?_, ?_, ?_⟩
    · show va_X (gr X (-3)) (L : Int).toNat xs s s.heap
      rw [eb, Int.toNat_natCast]
      exact hX
    · show gr X (-3) < s.heap.size
      rw [eb]
      exact hbl
    · show ¬ X.2.2.1 ≤ gr X (-3)
      rw [eb, e1]
      exact Nat.not_le.mpr hbl
  have K := lw_first C S ⟨Int.natCast_nonneg L, by omega⟩ (fun M n Lc c0 s0 h1 h2 => by
    intro H locs ls hP hS hLc
    refine W.widen h1 h2 (va_forget (fun q hq => ?_) (lw_ret hx hb hr hlocks dL_law_1181))
    have := hS.2.2 q hq
    show s.heap.size ≤ q.base
    rw [← e1]
    exact this)
  have hl := lv_entry ([Value.ref b]) (n := 4) (Nat.le_of_ble_eq_true rfl)
  rw [lg_entry_eq]
  refine K s.heap [] _ ⟨Int.le_refl _, ?_, fun a q h => by cases h⟩ va_S.rf (gL_sub hl rfl (fun k v hk => ?_))
  · show s.heap.size = X.2.2.1 + (0 : Int).toNat
    rw [e1]
    rfl
  · match k, hk with
    | 0, hk =>
      cases hk
      show (0, Value.ref (gr X (-3))) ∈ [(0, Value.ref b)]
      rw [eb]
      exact List.mem_cons_self
    | 1, hk => cases hk
    | 2, hk => cases hk
    | 3, hk => cases hk
    | k + 4, hk => cases hk
