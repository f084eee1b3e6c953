/-! ARITHMETIC AND BRANCHES -/
def iR (x : Int) : Prop := -2147483648 ≤ x ∧ x < 2147483648
def lR (x : Int) : Prop := -9223372036854775808 ≤ x ∧ x < 9223372036854775808
theorem iI_toInt {x : Int} (h : iR x) : (Int32.ofInt x).toInt = x := Int32.toInt_ofInt_of_le h.1 h.2
theorem lI_toInt {x : Int} (h : lR x) : (Int64.ofInt x).toInt = x := Int64.toInt_ofInt_of_le h.1 h.2
theorem iI_of (z : Int32) : Int32.ofInt z.toInt = z := Int32.ofInt_toInt z
theorem iR_of (z : Int32) : iR z.toInt := ⟨Int32.le_toInt z, Int32.toInt_lt z⟩
theorem iI_eq {x z : Int} (hx : iR x) (hz : iR z) : Int32.ofInt x = Int32.ofInt z ↔ x = z := ⟨fun h => by have := congrArg Int32.toInt h; rwa [iI_toInt hx, iI_toInt hz] at this, fun h => by rw [h]⟩
theorem iI_lt {x z : Int} (hx : iR x) (hz : iR z) : Int32.ofInt x < Int32.ofInt z ↔ x < z := by rw [Int32.lt_iff_toInt_lt, iI_toInt hx, iI_toInt hz]
theorem iI_le {x z : Int} (hx : iR x) (hz : iR z) : Int32.ofInt x ≤ Int32.ofInt z ↔ x ≤ z := by rw [Int32.le_iff_toInt_le, iI_toInt hx, iI_toInt hz]
theorem lI_eq {x z : Int} (hx : lR x) (hz : lR z) : Int64.ofInt x = Int64.ofInt z ↔ x = z := ⟨fun h => by have := congrArg Int64.toInt h; rwa [lI_toInt hx, lI_toInt hz] at this, fun h => by rw [h]⟩
theorem lI_lt {x z : Int} (hx : lR x) (hz : lR z) : Int64.ofInt x < Int64.ofInt z ↔ x < z := by rw [Int64.lt_iff_toInt_lt, lI_toInt hx, lI_toInt hz]
theorem iR0 : iR 0 := ⟨by decide, by decide⟩
theorem iI_div {x z : Int} (hx : 0 ≤ x ∧ x < 2147483648) (hz : 0 < z ∧ z < 2147483648) : Int32.ofInt x / Int32.ofInt z = Int32.ofInt (x / z) := by
  have h1 : iR x := ⟨by omega, hx.2⟩
  have h2 : iR z := ⟨by omega, hz.2⟩
  have h3 : 0 ≤ x / z := Int.ediv_nonneg hx.1 (by omega)
  have h4 : x / z ≤ x := Int.ediv_le_self z hx.1
  apply Int32.toInt_inj.mp
  rw [Int32.toInt_div_of_ne_right _ _ (by rw [Ne, ← Int32.toInt_inj, iI_toInt h2]; show ¬ z = -1; omega), iI_toInt h1, iI_toInt h2, iI_toInt (x := x / z) ⟨by omega, by omega⟩, Int.tdiv_eq_ediv_of_nonneg hx.1]
theorem lI_div {x z : Int} (hx : 0 ≤ x ∧ x < 9223372036854775808) (hz : 0 < z ∧ z < 9223372036854775808) : Int64.ofInt x / Int64.ofInt z = Int64.ofInt (x / z) := by
  have h1 : lR x := ⟨by omega, hx.2⟩
  have h2 : lR z := ⟨by omega, hz.2⟩
  have h3 : 0 ≤ x / z := Int.ediv_nonneg hx.1 (by omega)
  have h4 : x / z ≤ x := Int.ediv_le_self z hx.1
  apply Int64.toInt_inj.mp
  rw [Int64.toInt_div_of_ne_right _ _ (by rw [Ne, ← Int64.toInt_inj, lI_toInt h2]; show ¬ z = -1; omega), lI_toInt h1, lI_toInt h2, lI_toInt (x := x / z) ⟨by omega, by omega⟩, Int.tdiv_eq_ediv_of_nonneg hx.1]
theorem iI_ne0 {z : Int} (hz : iR z) (h : z ≠ 0) : ¬ Int32.ofInt z = 0 := fun q => h ((iI_eq hz iR0).mp q)
theorem lI_ne0 {z : Int} (hz : lR z) (h : z ≠ 0) : ¬ Int64.ofInt z = 0 := fun q => h ((lI_eq hz ⟨by decide, by decide⟩).mp q)
theorem iI_l {x : Int} (h : iR x) : (Int32.ofInt x).toInt64 = Int64.ofInt x := by
  apply Int64.toInt_inj.mp
  rw [Int32.toInt_toInt64, iI_toInt h, lI_toInt (x := x) ⟨by have := h.1; omega, by have := h.2; omega⟩]
theorem lI_i (x : Int) : (Int64.ofInt x).toInt32 = Int32.ofInt x := Int64.toInt32_ofInt
theorem bm_b (x : Int) : iR (x.bmod 256) := by
  have h1 := Int.le_bmod (x := x) (m := 256) (by decide)
  have h2 := Int.bmod_lt (x := x) (m := 256) (by decide)
  constructor <;> omega
theorem bm_s (x : Int) : iR (x.bmod 65536) := by
  have h1 := Int.le_bmod (x := x) (m := 65536) (by decide)
  have h2 := Int.bmod_lt (x := x) (m := 65536) (by decide)
  constructor <;> omega
theorem iI_b (x : Int) : (Int32.ofInt x).toInt8.toInt32 = Int32.ofInt (x.bmod 256) := by
  rw [Int32.toInt8_ofInt]
  apply Int32.toInt_inj.mp
  rw [Int8.toInt_toInt32, Int8.toInt_ofInt, iI_toInt (bm_b x)]
theorem iI_s (x : Int) : (Int32.ofInt x).toInt16.toInt32 = Int32.ofInt (x.bmod 65536) := by
  rw [Int32.toInt16_ofInt]
  apply Int32.toInt_inj.mp
  rw [Int16.toInt_toInt32, Int16.toInt_ofInt, iI_toInt (bm_s x)]
/-- bits: what the machine gives, as a whole number -/
def bAnd (x z : Int) : Int := (Int32.ofInt x &&& Int32.ofInt z).toInt
def bOr (x z : Int) : Int := (Int32.ofInt x ||| Int32.ofInt z).toInt
def bXor (x z : Int) : Int := (Int32.ofInt x ^^^ Int32.ofInt z).toInt
def bShl (x z : Int) : Int := (Int32.ofInt x <<< (Int32.ofInt z &&& 31)).toInt
def bShr (x z : Int) : Int := (Int32.ofInt x >>> (Int32.ofInt z &&& 31)).toInt
def lCmp (x z : Int) : Int := if x < z then -1 else if x = z then 0 else 1
section GA
variable {κ : gC} {y : MethodName} {cc : ByteArray} {nL : Nat} {rm : Room} {M : gM} {n : Int} {L : List (Option gV)} {pc : Nat} {st : List gV} {cells slots : Nat} {x z : Int}
theorem g_iadd (C : gF κ y cc nL rm) (hd : decode cc pc = .ok (.iadd, 1)) (g : G κ M n L (pc + 1) (vi (x + z) :: st) cells slots) : G κ M n L pc (vi z :: vi x :: st) cells slots := fun H locs ls hP hS hL => lv_iadd C.x C.b hd (by have := g H locs ls hP hS hL; rwa [List.map_cons, show gv (kX κ) (vi (x + z)) = .int (Int32.ofInt x + Int32.ofInt z) from congrArg Value.int (Int32.ofInt_add x z)] at this)
theorem g_isub (C : gF κ y cc nL rm) (hd : decode cc pc = .ok (.isub, 1)) (g : G κ M n L (pc + 1) (vi (x - z) :: st) cells slots) : G κ M n L pc (vi z :: vi x :: st) cells slots := fun H locs ls hP hS hL => lv_isub C.x C.b hd (by have := g H locs ls hP hS hL; rwa [List.map_cons, show gv (kX κ) (vi (x - z)) = .int (Int32.ofInt x - Int32.ofInt z) from congrArg Value.int (Int32.ofInt_sub x z)] at this)
theorem g_imul (C : gF κ y cc nL rm) (hd : decode cc pc = .ok (.imul, 1)) (g : G κ M n L (pc + 1) (vi (x * z) :: st) cells slots) : G κ M n L pc (vi z :: vi x :: st) cells slots := fun H locs ls hP hS hL => lv_imul C.x C.b hd (by have := g H locs ls hP hS hL; rwa [List.map_cons, show gv (kX κ) (vi (x * z)) = .int (Int32.ofInt x * Int32.ofInt z) from congrArg Value.int (Int32.ofInt_mul x z)] at this)
theorem g_ineg (C : gF κ y cc nL rm) (hd : decode cc pc = .ok (.ineg, 1)) (g : G κ M n L (pc + 1) (vi (-x) :: st) cells slots) : G κ M n L pc (vi x :: st) cells slots := fun H locs ls hP hS hL => lv_ineg C.x C.b hd (by have := g H locs ls hP hS hL; rwa [List.map_cons, show gv (kX κ) (vi (-x)) = .int (-Int32.ofInt x) from congrArg Value.int (Int32.ofInt_neg x)] at this)
theorem g_idiv (C : gF κ y cc nL rm) (hd : decode cc pc = .ok (.idiv, 1)) (h : 0 ≤ x ∧ x < 2147483648 ∧ 0 < z ∧ z < 2147483648) (g : G κ M n L (pc + 1) (vi (x / z) :: st) cells slots) : G κ M n L pc (vi z :: vi x :: st) cells slots := fun H locs ls hP hS hL => lv_idiv C.x C.b hd (iI_ne0 ⟨by omega, h.2.2.2⟩ (by omega)) (by have := g H locs ls hP hS hL; rwa [List.map_cons, show gv (kX κ) (vi (x / z)) = .int (Int32.ofInt x / Int32.ofInt z) from congrArg Value.int (iI_div ⟨h.1, h.2.1⟩ h.2.2).symm] at this)
theorem g_irem (C : gF κ y cc nL rm) (hd : decode cc pc = .ok (.irem, 1)) (h : 0 ≤ x ∧ x < 2147483648 ∧ 0 < z ∧ z < 2147483648) (g : G κ M n L (pc + 1) (vi (x % z) :: st) cells slots) : G κ M n L pc (vi z :: vi x :: st) cells slots := fun H locs ls hP hS hL => lv_irem C.x C.b hd (iI_ne0 ⟨by omega, h.2.2.2⟩ (by omega)) (by have := g H locs ls hP hS hL; rwa [List.map_cons, show gv (kX κ) (vi (x % z)) = .int (Int32.ofInt x - Int32.ofInt x / Int32.ofInt z * Int32.ofInt z) from congrArg Value.int (by rw [iI_div ⟨h.1, h.2.1⟩ h.2.2, ← Int32.ofInt_mul, ← Int32.ofInt_sub, Int.emod_def, Int.mul_comm])] at this)
theorem g_ladd (C : gF κ y cc nL rm) (hd : decode cc pc = .ok (.ladd, 1)) (g : G κ M n L (pc + 1) (vl (x + z) :: st) cells slots) : G κ M n L pc (vl z :: vl x :: st) cells slots := fun H locs ls hP hS hL => lv_ladd C.x C.b hd (by have := g H locs ls hP hS hL; rwa [List.map_cons, show gv (kX κ) (vl (x + z)) = .long (Int64.ofInt x + Int64.ofInt z) from congrArg Value.long (Int64.ofInt_add x z)] at this)
theorem g_lmul (C : gF κ y cc nL rm) (hd : decode cc pc = .ok (.lmul, 1)) (g : G κ M n L (pc + 1) (vl (x * z) :: st) cells slots) : G κ M n L pc (vl z :: vl x :: st) cells slots := fun H locs ls hP hS hL => lv_lmul C.x C.b hd (by have := g H locs ls hP hS hL; rwa [List.map_cons, show gv (kX κ) (vl (x * z)) = .long (Int64.ofInt x * Int64.ofInt z) from congrArg Value.long (Int64.ofInt_mul x z)] at this)
theorem g_ldiv (C : gF κ y cc nL rm) (hd : decode cc pc = .ok (.ldiv, 1)) (h : 0 ≤ x ∧ x < 9223372036854775808 ∧ 0 < z ∧ z < 9223372036854775808) (g : G κ M n L (pc + 1) (vl (x / z) :: st) cells slots) : G κ M n L pc (vl z :: vl x :: st) cells slots := fun H locs ls hP hS hL => lv_ldiv C.x C.b hd (lI_ne0 ⟨by omega, h.2.2.2⟩ (by omega)) (by have := g H locs ls hP hS hL; rwa [List.map_cons, show gv (kX κ) (vl (x / z)) = .long (Int64.ofInt x / Int64.ofInt z) from congrArg Value.long (lI_div ⟨h.1, h.2.1⟩ h.2.2).symm] at this)
theorem g_lrem (C : gF κ y cc nL rm) (hd : decode cc pc = .ok (.lrem, 1)) (h : 0 ≤ x ∧ x < 9223372036854775808 ∧ 0 < z ∧ z < 9223372036854775808) (g : G κ M n L (pc + 1) (vl (x % z) :: st) cells slots) : G κ M n L pc (vl z :: vl x :: st) cells slots := fun H locs ls hP hS hL => lv_lrem C.x C.b hd (lI_ne0 ⟨by omega, h.2.2.2⟩ (by omega)) (by have := g H locs ls hP hS hL; rwa [List.map_cons, show gv (kX κ) (vl (x % z)) = .long (Int64.ofInt x - Int64.ofInt x / Int64.ofInt z * Int64.ofInt z) from congrArg Value.long (by rw [lI_div ⟨h.1, h.2.1⟩ h.2.2, ← Int64.ofInt_mul, ← Int64.ofInt_sub, Int.emod_def, Int.mul_comm])] at this)
theorem g_i2l (C : gF κ y cc nL rm) (hd : decode cc pc = .ok (.i2l, 1)) (h : iR x) (g : G κ M n L (pc + 1) (vl x :: st) cells slots) : G κ M n L pc (vi x :: st) cells slots := fun H locs ls hP hS hL => lv_i2l C.x C.b hd (iI_l h) (g H locs ls hP hS hL)
theorem g_l2i (C : gF κ y cc nL rm) (hd : decode cc pc = .ok (.l2i, 1)) (g : G κ M n L (pc + 1) (vi x :: st) cells slots) : G κ M n L pc (vl x :: st) cells slots := fun H locs ls hP hS hL => lv_l2i C.x C.b hd (lI_i x) (g H locs ls hP hS hL)
theorem g_i2b (C : gF κ y cc nL rm) (hd : decode cc pc = .ok (.i2b, 1)) (g : G κ M n L (pc + 1) (vi (x.bmod 256) :: st) cells slots) : G κ M n L pc (vi x :: st) cells slots := fun H locs ls hP hS hL => lv_i2b C.x C.b hd (iI_b x) (g H locs ls hP hS hL)
theorem g_i2s (C : gF κ y cc nL rm) (hd : decode cc pc = .ok (.i2s, 1)) (g : G κ M n L (pc + 1) (vi (x.bmod 65536) :: st) cells slots) : G κ M n L pc (vi x :: st) cells slots := fun H locs ls hP hS hL => lv_i2s C.x C.b hd (iI_s x) (g H locs ls hP hS hL)
theorem g_iand (C : gF κ y cc nL rm) (hd : decode cc pc = .ok (.iand, 1)) (g : G κ M n L (pc + 1) (vi (bAnd x z) :: st) cells slots) : G κ M n L pc (vi z :: vi x :: st) cells slots := fun H locs ls hP hS hL => lv_iand C.x C.b hd (by have := g H locs ls hP hS hL; rwa [List.map_cons, show gv (kX κ) (vi (bAnd x z)) = .int (Int32.ofInt x &&& Int32.ofInt z) from congrArg Value.int (iI_of _)] at this)
theorem g_ior (C : gF κ y cc nL rm) (hd : decode cc pc = .ok (.ior, 1)) (g : G κ M n L (pc + 1) (vi (bOr x z) :: st) cells slots) : G κ M n L pc (vi z :: vi x :: st) cells slots := fun H locs ls hP hS hL => lv_ior C.x C.b hd (by have := g H locs ls hP hS hL; rwa [List.map_cons, show gv (kX κ) (vi (bOr x z)) = .int (Int32.ofInt x ||| Int32.ofInt z) from congrArg Value.int (iI_of _)] at this)
theorem g_ixor (C : gF κ y cc nL rm) (hd : decode cc pc = .ok (.ixor, 1)) (g : G κ M n L (pc + 1) (vi (bXor x z) :: st) cells slots) : G κ M n L pc (vi z :: vi x :: st) cells slots := fun H locs ls hP hS hL => lv_ixor C.x C.b hd (by have := g H locs ls hP hS hL; rwa [List.map_cons, show gv (kX κ) (vi (bXor x z)) = .int (Int32.ofInt x ^^^ Int32.ofInt z) from congrArg Value.int (iI_of _)] at this)
theorem g_ishl (C : gF κ y cc nL rm) (hd : decode cc pc = .ok (.ishl, 1)) (g : G κ M n L (pc + 1) (vi (bShl x z) :: st) cells slots) : G κ M n L pc (vi z :: vi x :: st) cells slots := fun H locs ls hP hS hL => lv_ishl C.x C.b hd (by have := g H locs ls hP hS hL; rwa [List.map_cons, show gv (kX κ) (vi (bShl x z)) = .int (Int32.ofInt x <<< (Int32.ofInt z &&& 31)) from congrArg Value.int (iI_of _)] at this)
theorem g_ishr (C : gF κ y cc nL rm) (hd : decode cc pc = .ok (.ishr, 1)) (g : G κ M n L (pc + 1) (vi (bShr x z) :: st) cells slots) : G κ M n L pc (vi z :: vi x :: st) cells slots := fun H locs ls hP hS hL => lv_ishr C.x C.b hd (by have := g H locs ls hP hS hL; rwa [List.map_cons, show gv (kX κ) (vi (bShr x z)) = .int (Int32.ofInt x >>> (Int32.ofInt z &&& 31)) from congrArg Value.int (iI_of _)] at this)
theorem gv_cat1i (X : gX) (x : Int) : (gv X (vi x)).category = 1 := rfl
theorem gv_cat1r (X : gX) (a : Option Int) : (gv X (.inr (.inr a))).category = 1 := by cases a <;> rfl
theorem gv_cat1 (X : gX) {v : gV} (hv : gcat2 (some v) = false) : (gv X v).category = 1 := by
  rcases v with q | q | q
  · rfl
  · cases hv
  · exact gv_cat1r _ q
theorem g_dup {v : gV} (C : gF κ y cc nL rm) (hd : decode cc pc = .ok (.dup, 1)) (hv : gcat2 (some v) = false) (g : G κ M n L (pc + 1) (v :: v :: st) cells slots) : G κ M n L pc (v :: st) cells slots := fun H locs ls hP hS hL => lv_dup C.x C.b hd (gv_cat1 _ hv) (g H locs ls hP hS hL)
theorem g_pop {v : gV} (C : gF κ y cc nL rm) (hd : decode cc pc = .ok (.pop, 1)) (hv : gcat2 (some v) = false) (g : G κ M n L (pc + 1) st cells slots) : G κ M n L pc (v :: st) cells slots := fun H locs ls hP hS hL => lv_pop C.x C.b hd (gv_cat1 _ hv) (g H locs ls hP hS hL)
theorem g_dup2 {a : Option Int} (C : gF κ y cc nL rm) (hd : decode cc pc = .ok (.dup2, 1)) (g : G κ M n L (pc + 1) (vi x :: .inr (.inr a) :: vi x :: .inr (.inr a) :: st) cells slots) : G κ M n L pc (vi x :: .inr (.inr a) :: st) cells slots := fun H locs ls hP hS hL => lv_dup2_11 C.x C.b hd rfl (gv_cat1r _ a) (g H locs ls hP hS hL)
theorem g_dup_x1 {a b : Option Int} (C : gF κ y cc nL rm) (hd : decode cc pc = .ok (.dup_x1, 1)) (g : G κ M n L (pc + 1) (.inr (.inr b) :: .inr (.inr a) :: .inr (.inr b) :: st) cells slots) : G κ M n L pc (.inr (.inr b) :: .inr (.inr a) :: st) cells slots := fun H locs ls hP hS hL => lv_dup_x1 C.x C.b hd (gv_cat1r _ b) (gv_cat1r _ a) (g H locs ls hP hS hL)
-- branches: the numbers are in range
theorem g_goto {off : Int} (tgt : Nat) (C : gF κ y cc nL rm) (hd : decode cc pc = .ok (.goto off, 3)) (ht : (pc : Int) + off = (tgt : Int)) (g : G κ M n L tgt st cells slots) : G κ M n L pc st cells slots := fun H locs ls hP hS hL => lv_goto C.x C.b hd ht (g H locs ls hP hS hL)
theorem g_icmp_eq {off : Int} (tgt : Nat) (C : gF κ y cc nL rm) (hd : decode cc pc = .ok (.if_icmp .eq off, 3)) (ht : (pc : Int) + off = (tgt : Int)) (hx : iR x) (hz : iR z) (a : x = z → G κ M n L tgt st cells slots) (b : ¬ x = z → G κ M n L (pc + 3) st cells slots) : G κ M n L pc (vi z :: vi x :: st) cells slots := fun H locs ls hP hS hL => lv_icmp_eq C.x C.b hd ht (fun h => a ((iI_eq hx hz).mp h) H locs ls hP hS hL) (fun h => b (fun q => h ((iI_eq hx hz).mpr q)) H locs ls hP hS hL)
theorem g_icmp_ne {off : Int} (tgt : Nat) (C : gF κ y cc nL rm) (hd : decode cc pc = .ok (.if_icmp .ne off, 3)) (ht : (pc : Int) + off = (tgt : Int)) (hx : iR x) (hz : iR z) (a : ¬ x = z → G κ M n L tgt st cells slots) (b : x = z → G κ M n L (pc + 3) st cells slots) : G κ M n L pc (vi z :: vi x :: st) cells slots := fun H locs ls hP hS hL => lv_icmp_ne C.x C.b hd ht (fun h => a (fun q => h ((iI_eq hx hz).mpr q)) H locs ls hP hS hL) (fun h => b ((iI_eq hx hz).mp h) H locs ls hP hS hL)
theorem g_icmp_lt {off : Int} (tgt : Nat) (C : gF κ y cc nL rm) (hd : decode cc pc = .ok (.if_icmp .lt off, 3)) (ht : (pc : Int) + off = (tgt : Int)) (hx : iR x) (hz : iR z) (a : x < z → G κ M n L tgt st cells slots) (b : z ≤ x → G κ M n L (pc + 3) st cells slots) : G κ M n L pc (vi z :: vi x :: st) cells slots := fun H locs ls hP hS hL => lv_icmp_lt C.x C.b hd ht (fun h => a ((iI_lt hx hz).mp h) H locs ls hP hS hL) (fun h => b (Int.not_lt.mp fun q => h ((iI_lt hx hz).mpr q)) H locs ls hP hS hL)
theorem g_icmp_ge {off : Int} (tgt : Nat) (C : gF κ y cc nL rm) (hd : decode cc pc = .ok (.if_icmp .ge off, 3)) (ht : (pc : Int) + off = (tgt : Int)) (hx : iR x) (hz : iR z) (a : z ≤ x → G κ M n L tgt st cells slots) (b : x < z → G κ M n L (pc + 3) st cells slots) : G κ M n L pc (vi z :: vi x :: st) cells slots := fun H locs ls hP hS hL => lv_icmp_ge C.x C.b hd ht (fun h => a ((iI_le hz hx).mp h) H locs ls hP hS hL) (fun h => b (Int.not_le.mp fun q => h ((iI_le hz hx).mpr q)) H locs ls hP hS hL)
theorem g_icmp_gt {off : Int} (tgt : Nat) (C : gF κ y cc nL rm) (hd : decode cc pc = .ok (.if_icmp .gt off, 3)) (ht : (pc : Int) + off = (tgt : Int)) (hx : iR x) (hz : iR z) (a : z < x → G κ M n L tgt st cells slots) (b : x ≤ z → G κ M n L (pc + 3) st cells slots) : G κ M n L pc (vi z :: vi x :: st) cells slots := fun H locs ls hP hS hL => lv_icmp_gt C.x C.b hd ht (fun h => a ((iI_lt hz hx).mp h) H locs ls hP hS hL) (fun h => b (Int.not_lt.mp fun q => h ((iI_lt hz hx).mpr q)) H locs ls hP hS hL)
theorem g_icmp_le {off : Int} (tgt : Nat) (C : gF κ y cc nL rm) (hd : decode cc pc = .ok (.if_icmp .le off, 3)) (ht : (pc : Int) + off = (tgt : Int)) (hx : iR x) (hz : iR z) (a : x ≤ z → G κ M n L tgt st cells slots) (b : z < x → G κ M n L (pc + 3) st cells slots) : G κ M n L pc (vi z :: vi x :: st) cells slots := fun H locs ls hP hS hL => lv_icmp_le C.x C.b hd ht (fun h => a ((iI_le hx hz).mp h) H locs ls hP hS hL) (fun h => b (Int.not_le.mp fun q => h ((iI_le hx hz).mpr q)) H locs ls hP hS hL)
theorem g_if_eq {off : Int} (tgt : Nat) (C : gF κ y cc nL rm) (hd : decode cc pc = .ok (.ifCond .eq off, 3)) (ht : (pc : Int) + off = (tgt : Int)) (hx : iR x) (a : x = 0 → G κ M n L tgt st cells slots) (b : ¬ x = 0 → G κ M n L (pc + 3) st cells slots) : G κ M n L pc (vi x :: st) cells slots := fun H locs ls hP hS hL => lv_if_eq C.x C.b hd ht (fun h => a ((iI_eq hx iR0).mp h) H locs ls hP hS hL) (fun h => b (fun q => h ((iI_eq hx iR0).mpr q)) H locs ls hP hS hL)
theorem g_if_ne {off : Int} (tgt : Nat) (C : gF κ y cc nL rm) (hd : decode cc pc = .ok (.ifCond .ne off, 3)) (ht : (pc : Int) + off = (tgt : Int)) (hx : iR x) (a : ¬ x = 0 → G κ M n L tgt st cells slots) (b : x = 0 → G κ M n L (pc + 3) st cells slots) : G κ M n L pc (vi x :: st) cells slots := fun H locs ls hP hS hL => lv_if_ne C.x C.b hd ht (fun h => a (fun q => h ((iI_eq hx iR0).mpr q)) H locs ls hP hS hL) (fun h => b ((iI_eq hx iR0).mp h) H locs ls hP hS hL)
theorem g_if_lt {off : Int} (tgt : Nat) (C : gF κ y cc nL rm) (hd : decode cc pc = .ok (.ifCond .lt off, 3)) (ht : (pc : Int) + off = (tgt : Int)) (hx : iR x) (a : x < 0 → G κ M n L tgt st cells slots) (b : 0 ≤ x → G κ M n L (pc + 3) st cells slots) : G κ M n L pc (vi x :: st) cells slots := fun H locs ls hP hS hL => lv_if_lt C.x C.b hd ht (fun h => a ((iI_lt hx iR0).mp h) H locs ls hP hS hL) (fun h => b (Int.not_lt.mp fun q => h ((iI_lt hx iR0).mpr q)) H locs ls hP hS hL)
theorem g_if_ge {off : Int} (tgt : Nat) (C : gF κ y cc nL rm) (hd : decode cc pc = .ok (.ifCond .ge off, 3)) (ht : (pc : Int) + off = (tgt : Int)) (hx : iR x) (a : 0 ≤ x → G κ M n L tgt st cells slots) (b : x < 0 → G κ M n L (pc + 3) st cells slots) : G κ M n L pc (vi x :: st) cells slots := fun H locs ls hP hS hL => lv_if_ge C.x C.b hd ht (fun h => a ((iI_le iR0 hx).mp h) H locs ls hP hS hL) (fun h => b (Int.not_le.mp fun q => h ((iI_le iR0 hx).mpr q)) H locs ls hP hS hL)
theorem g_if_gt {off : Int} (tgt : Nat) (C : gF κ y cc nL rm) (hd : decode cc pc = .ok (.ifCond .gt off, 3)) (ht : (pc : Int) + off = (tgt : Int)) (hx : iR x) (a : 0 < x → G κ M n L tgt st cells slots) (b : x ≤ 0 → G κ M n L (pc + 3) st cells slots) : G κ M n L pc (vi x :: st) cells slots := fun H locs ls hP hS hL => lv_if_gt C.x C.b hd ht (fun h => a ((iI_lt iR0 hx).mp h) H locs ls hP hS hL) (fun h => b (Int.not_lt.mp fun q => h ((iI_lt iR0 hx).mpr q)) H locs ls hP hS hL)
theorem g_if_le {off : Int} (tgt : Nat) (C : gF κ y cc nL rm) (hd : decode cc pc = .ok (.ifCond .le off, 3)) (ht : (pc : Int) + off = (tgt : Int)) (hx : iR x) (a : x ≤ 0 → G κ M n L tgt st cells slots) (b : 0 < x → G κ M n L (pc + 3) st cells slots) : G κ M n L pc (vi x :: st) cells slots := fun H locs ls hP hS hL => lv_if_le C.x C.b hd ht (fun h => a ((iI_le hx iR0).mp h) H locs ls hP hS hL) (fun h => b (Int.not_le.mp fun q => h ((iI_le hx iR0).mpr q)) H locs ls hP hS hL)
theorem g_ifnull {a : Int} {off : Int} (C : gF κ y cc nL rm) (hd : decode cc pc = .ok (.ifnull off, 3)) (g : G κ M n L (pc + 3) st cells slots) : G κ M n L pc (vr a :: st) cells slots := fun H locs ls hP hS hL => lv_ifnull C.x C.b hd (g H locs ls hP hS hL)
theorem g_ifnullN {off : Int} (tgt : Nat) (C : gF κ y cc nL rm) (hd : decode cc pc = .ok (.ifnull off, 3)) (ht : (pc : Int) + off = (tgt : Int)) (g : G κ M n L tgt st cells slots) : G κ M n L pc (vn :: st) cells slots := fun H locs ls hP hS hL => lv_ifnullN C.x C.b hd ht (g H locs ls hP hS hL)
theorem g_ifnonnull {a : Int} {off : Int} (tgt : Nat) (C : gF κ y cc nL rm) (hd : decode cc pc = .ok (.ifnonnull off, 3)) (ht : (pc : Int) + off = (tgt : Int)) (g : G κ M n L tgt st cells slots) : G κ M n L pc (vr a :: st) cells slots := fun H locs ls hP hS hL => lv_ifnonnull C.x C.b hd ht (g H locs ls hP hS hL)
theorem g_ifnonnullN {off : Int} (C : gF κ y cc nL rm) (hd : decode cc pc = .ok (.ifnonnull off, 3)) (g : G κ M n L (pc + 3) st cells slots) : G κ M n L pc (vn :: st) cells slots := fun H locs ls hP hS hL => lv_ifnonnullN C.x C.b hd (g H locs ls hP hS hL)
theorem lCmp_ok (hx : lR x) (hz : lR z) : lg_cmp (Int64.ofInt x) (Int64.ofInt z) = Int32.ofInt (lCmp x z) := by
  unfold lg_cmp lCmp
  by_cases h1 : x < z
  · have n1 : ¬ Int64.ofInt z < Int64.ofInt x := fun q => by have := (lI_lt hz hx).mp q; omega
    have n2 : ¬ Int64.ofInt x = Int64.ofInt z := fun q => by have := (lI_eq hx hz).mp q; omega
    rw [if_neg n1, if_neg n2, if_pos h1]
    rfl
  · rw [if_neg h1]
    by_cases h2 : x = z
    · subst h2
      have n1 : ¬ Int64.ofInt x < Int64.ofInt x := fun q => by have := (lI_lt hx hx).mp q; omega
      rw [if_neg n1, if_pos rfl, if_pos rfl]
      rfl
    · have n3 : Int64.ofInt z < Int64.ofInt x := (lI_lt hz hx).mpr (by omega)
      rw [if_pos n3, if_neg h2]
      rfl
theorem g_lcmp (C : gF κ y cc nL rm) (hd : decode cc pc = .ok (.lcmp, 1)) (hx : lR x) (hz : lR z) (g : G κ M n L (pc + 1) (vi (lCmp x z) :: st) cells slots) : G κ M n L pc (vl z :: vl x :: st) cells slots := fun H locs ls hP hS hL => W.lcmp C.x C.b hd (by have := g H locs ls hP hS hL; rwa [List.map_cons, show gv (kX κ) (vi (lCmp x z)) = .int (lg_cmp (Int64.ofInt x) (Int64.ofInt z)) from congrArg Value.int (lCmp_ok hx hz).symm] at this)
theorem g_tswI {dflt lo hi : Int} {offs : Array Int} {len : Nat} {off : Int} (tgt : Nat) (C : gF κ y cc nL rm) (hd : decode cc pc = .ok (.tableswitch dflt lo hi offs, len)) (hx : iR x) (h1 : lo ≤ x) (h2 : x ≤ hi) (ho : offs[(x - lo).toNat]? = some off) (ht : (pc : Int) + off = (tgt : Int)) (g : G κ M n L tgt st cells slots) : G κ M n L pc (vi x :: st) cells slots := fun H locs ls hP hS hL => lv_tableIn C.x C.b hd (by rw [iI_toInt hx]; omega) (by rw [iI_toInt hx]; omega) (by rw [iI_toInt hx]; exact ho) ht (g H locs ls hP hS hL)
theorem g_tswO {dflt lo hi : Int} {offs : Array Int} {len : Nat} (tgt : Nat) (C : gF κ y cc nL rm) (hd : decode cc pc = .ok (.tableswitch dflt lo hi offs, len)) (hx : iR x) (h : x < lo ∨ hi < x) (ht : (pc : Int) + dflt = (tgt : Int)) (g : G κ M n L tgt st cells slots) : G κ M n L pc (vi x :: st) cells slots := fun H locs ls hP hS hL => lv_tableOut C.x C.b hd (by rw [iI_toInt hx]; exact h) ht (g H locs ls hP hS hL)
theorem g_lsw {dflt : Int} {ps : Array (Int × Int)} {len : Nat} {off : Int} (tgt : Nat) (C : gF κ y cc nL rm) (hd : decode cc pc = .ok (.lookupswitch dflt ps, len)) (hp : (ps.toList.zip (ps.toList.drop 1)).all (fun (a, next) => a.1 < next.1) = true) (hx : iR x) (ho : Op.lookupswitch.offset ps.toList dflt x = off) (ht : (pc : Int) + off = (tgt : Int)) (g : G κ M n L tgt st cells slots) : G κ M n L pc (vi x :: st) cells slots := fun H locs ls hP hS hL => lv_lookup C.x C.b hd hp (by rw [iI_toInt hx]; exact ho) ht (g H locs ls hP hS hL)
end GA
