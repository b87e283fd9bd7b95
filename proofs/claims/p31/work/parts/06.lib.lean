/-! whole numbers as ints of the machine -/
def iI (z : Int) : Int32 := Int32.ofInt z
def lI (z : Int) : Int64 := Int64.ofInt z
theorem iI_add (a b : Int) : iI a + iI b = iI (a + b) := (Int32.ofInt_add a b).symm
theorem iI_sub (a b : Int) : iI a - iI b = iI (a - b) := (Int32.ofInt_sub a b).symm
theorem iI_mul (a b : Int) : iI a * iI b = iI (a * b) := (Int32.ofInt_mul a b).symm
theorem iI_neg (a : Int) : -iI a = iI (-a) := (Int32.ofInt_neg a).symm
theorem iI_toInt {z : Int} (h : -2147483648 ≤ z ∧ z ≤ 2147483647) : (iI z).toInt = z := Int32.toInt_ofInt_of_le (by omega) (by omega)
theorem iI_of (x : Int32) : x = iI x.toInt := (Int32.ofInt_toInt x).symm
theorem iI_rng (x : Int32) : -2147483648 ≤ x.toInt ∧ x.toInt ≤ 2147483647 := ⟨Int32.le_toInt x, by have := Int32.toInt_lt x; omega⟩
theorem iI_lt {a b : Int} (ha : -2147483648 ≤ a ∧ a ≤ 2147483647) (hb : -2147483648 ≤ b ∧ b ≤ 2147483647) : iI a < iI b ↔ a < b := by
  rw [Int32.lt_iff_toInt_lt, iI_toInt ha, iI_toInt hb]
theorem iI_le {a b : Int} (ha : -2147483648 ≤ a ∧ a ≤ 2147483647) (hb : -2147483648 ≤ b ∧ b ≤ 2147483647) : iI a ≤ iI b ↔ a ≤ b := by
  rw [Int32.le_iff_toInt_le, iI_toInt ha, iI_toInt hb]
theorem iI_eq {a b : Int} (ha : -2147483648 ≤ a ∧ a ≤ 2147483647) (hb : -2147483648 ≤ b ∧ b ≤ 2147483647) : iI a = iI b ↔ a = b :=
  ⟨fun h => by rw [← iI_toInt ha, ← iI_toInt hb, h], fun h => by rw [h]⟩
theorem iI_cl {z : Int} (h0 : 0 ≤ z) (h : z ≤ 2147483647) : (iI z).toNatClampNeg = z.toNat := by
  show (iI z).toInt.toNat = z.toNat
  rw [iI_toInt ⟨by omega, h⟩]
theorem iI_nat (n : Nat) : nI n = iI (n : Int) := (Int32.ofInt_eq_ofNat).symm
theorem iI_toI {z : Int} (h : -2147483648 ≤ z ∧ z ≤ 2147483647) {x : Int32} (e : x.toInt = z) : x = iI z := by
  rw [iI_of x, e]
theorem iI_tdiv {a b : Int} (ha : -2147483648 ≤ a ∧ a ≤ 2147483647) (hb : 0 < b ∧ b ≤ 2147483647) : iI a / iI b = iI (Int.tdiv a b) := by
  have hb2 : -2147483648 ≤ b ∧ b ≤ 2147483647 := ⟨by omega, hb.2⟩
  have h1 : (iI a / iI b).toInt = a.tdiv b := by
    rw [Int32.toInt_div_of_ne_right, iI_toInt ha, iI_toInt hb2]
    intro h
    have h2 := congrArg Int32.toInt h
    rw [iI_toInt hb2] at h2
    have h3 : (-1 : Int32).toInt = -1 := by decide
    omega
  rw [iI_of (iI a / iI b), h1]
theorem iI_ne0 {b : Int} (hb : 0 < b ∧ b ≤ 2147483647) : ¬ iI b = 0 := by
  intro h
  have h2 := congrArg Int32.toInt h
  rw [iI_toInt ⟨by omega, hb.2⟩] at h2
  have h3 : (0 : Int32).toInt = 0 := by decide
  omega
theorem iI_tmod {a b : Int} (ha : -2147483648 ≤ a ∧ a ≤ 2147483647) (hb : 0 < b ∧ b ≤ 2147483647) : iI a - iI a / iI b * iI b = iI (Int.tmod a b) := by
  rw [iI_tdiv ha hb, iI_mul, iI_sub]
  congr 1
  have := Int.tmod_def a b
  rw [this, Int.mul_comm]
theorem iI_emod {a b : Int} (ha : 0 ≤ a ∧ a ≤ 2147483647) (hb : 0 < b ∧ b ≤ 2147483647) : iI a - iI a / iI b * iI b = iI (a % b) := by
  rw [iI_tmod ⟨by omega, ha.2⟩ hb, Int.tmod_eq_emod_of_nonneg ha.1]
theorem iI_ediv {a b : Int} (ha : 0 ≤ a ∧ a ≤ 2147483647) (hb : 0 < b ∧ b ≤ 2147483647) : iI a / iI b = iI (a / b) := by
  rw [iI_tdiv ⟨by omega, ha.2⟩ hb, Int.tdiv_eq_ediv_of_nonneg ha.1]
theorem iI_shr {x k : Int} (hx : -2147483648 ≤ x ∧ x ≤ 2147483647) (hk : 0 ≤ k ∧ k < 32) : iI x >>> (iI k &&& 31) = iI (x / 2 ^ k.toNat) := by
  have hs : ∀ n, n < 32 → ((nI n &&& 31).toBitVec.smod 32).toNat = n := by decide +kernel
  have hk2 : iI k = nI k.toNat := by rw [iI_nat, Int.toNat_of_nonneg hk.1]
  have h1 : (iI x >>> (iI k &&& 31)).toInt = x / 2 ^ k.toNat := by
    rw [pk_shr (iI x) (iI k &&& 31) k.toNat (by rw [hk2]; exact hs _ (by omega)), iI_toInt hx, Int.shiftRight_eq_div_pow]
    norm_cast
  rw [iI_of (iI x >>> (iI k &&& 31)), h1]
theorem iI_shl {x k : Int} (hx : 0 ≤ x) (hk : 0 ≤ k ∧ k < 32) (hb : x * 2 ^ k.toNat < 4294967296) : iI x <<< (iI k &&& 31) = iI (x * 2 ^ k.toNat) := by
  have hs : ∀ n, n < 32 → ((nI n &&& 31).toBitVec.smod 32).toNat = n := by decide +kernel
  have hk2 : iI k = nI k.toNat := by rw [iI_nat, Int.toNat_of_nonneg hk.1]
  have hx2 : iI x = nI x.toNat := by rw [iI_nat, Int.toNat_of_nonneg hx]
  have hx3 : (x.toNat : Int) = x := Int.toNat_of_nonneg hx
  have hb2 : x.toNat * 2 ^ k.toNat < 2 ^ 32 := by
    have : ((x.toNat * 2 ^ k.toNat : Nat) : Int) < 4294967296 := by
      rw [Int.natCast_mul, hx3, Int.natCast_pow]; exact hb
    omega
  rw [hk2, hx2, pk_shlN (nI k.toNat &&& 31) k.toNat (hs _ (by omega)) hb2, iI_nat, Int.natCast_mul, hx3, Int.natCast_pow]
  rfl
theorem lI_add (a b : Int) : lI a + lI b = lI (a + b) := (Int64.ofInt_add a b).symm
theorem lI_sub (a b : Int) : lI a - lI b = lI (a - b) := (Int64.ofInt_sub a b).symm
theorem lI_mul (a b : Int) : lI a * lI b = lI (a * b) := (Int64.ofInt_mul a b).symm
theorem lI_toInt {z : Int} (h : -9223372036854775808 ≤ z ∧ z ≤ 9223372036854775807) : (lI z).toInt = z := Int64.toInt_ofInt_of_le (by omega) (by omega)
theorem lI_of (x : Int64) : x = lI x.toInt := (Int64.ofInt_toInt x).symm
theorem lI_wide {z : Int} (h : -2147483648 ≤ z ∧ z ≤ 2147483647) : (iI z).toInt64 = lI z := by
  rw [lI_of (iI z).toInt64, Int32.toInt_toInt64, iI_toInt h]
theorem lI_low {z : Int} (h : -2147483648 ≤ z ∧ z ≤ 2147483647) : (lI z).toInt32 = iI z := by
  rw [iI_of (lI z).toInt32, Int64.toInt_toInt32, lI_toInt ⟨by omega, by omega⟩]
  congr 1
  rw [Int.bmod_eq_of_le] <;> omega
theorem lI_ne0 {b : Int} (hb : 0 < b ∧ b ≤ 9223372036854775807) : ¬ lI b = 0 := by
  intro h
  have h2 := congrArg Int64.toInt h
  rw [lI_toInt ⟨by omega, hb.2⟩] at h2
  have h3 : (0 : Int64).toInt = 0 := by decide
  omega
theorem lI_ediv {a b : Int} (ha : 0 ≤ a ∧ a ≤ 9223372036854775807) (hb : 0 < b ∧ b ≤ 9223372036854775807) : lI a / lI b = lI (a / b) := by
  have ha2 : -9223372036854775808 ≤ a ∧ a ≤ 9223372036854775807 := ⟨by omega, ha.2⟩
  have hb2 : -9223372036854775808 ≤ b ∧ b ≤ 9223372036854775807 := ⟨by omega, hb.2⟩
  have h1 : (lI a / lI b).toInt = a / b := by
    rw [Int64.toInt_div_of_ne_right, lI_toInt ha2, lI_toInt hb2, Int.tdiv_eq_ediv_of_nonneg ha.1]
    intro h
    have h2 := congrArg Int64.toInt h
    rw [lI_toInt hb2] at h2
    have h3 : (-1 : Int64).toInt = -1 := by decide
    omega
  rw [lI_of (lI a / lI b), h1]
/-! rows of ints by whole numbers -/
def aI (f : Int → Int) : Nat → Int32 := fun k => iI (f (k : Int))
def ups (f : Int → Int) (i v : Int) : Int → Int := fun j => if j = i then v else f j
theorem ups_eq (f : Int → Int) (i v : Int) : ups f i v i = v := if_pos rfl
theorem ups_ne (f : Int → Int) {i j : Int} (v : Int) (h : j ≠ i) : ups f i v j = f j := if_neg h
def upr (R : Nat → Int → Int) (c : Nat) (f : Int → Int) : Nat → Int → Int := fun d => cond (Nat.beq d c) f (R d)
theorem aI_get {f : Int → Int} {z : Int} (h0 : 0 ≤ z) (h : z ≤ 2147483647) : aI f (iI z).toNatClampNeg = iI (f z) := by
  unfold aI
  rw [iI_cl h0 h, Int.toNat_of_nonneg h0]
theorem aI_upd {f : Int → Int} {i v : Int} (h0 : 0 ≤ i) (h : i ≤ 2147483647) : upd (aI f) (iI i).toNatClampNeg (iI v) = aI (ups f i v) := by
  rw [iI_cl h0 h]
  funext k
  by_cases e : k = i.toNat
  · subst e
    rw [pk_us]
    unfold aI
    rw [Int.toNat_of_nonneg h0, ups_eq]
  · rw [pk_un e]
    have e2 : (k : Int) ≠ i := by omega
    unfold aI
    rw [ups_ne f v e2]
theorem vp_iI {z : Int} {n : Nat} (h : 0 ≤ z ∧ z < (n : Int) ∧ (n : Int) ≤ 2147483647) : vp_in (iI z) n :=
  vp_in_iff.mpr (by rw [iI_toInt ⟨by omega, by omega⟩]; exact ⟨h.1, h.2.1⟩)
section KROWS
variable {p : Program} {l : Launch} {e : Env} {R : Room} {s : State} {m : MethodId} {args : Array Value} {below : List Frame} {meth : Method} {c : Code} {H : Heap} {locs : List Loc} {cells slots : Nat} {Q : State → Prop}
variable {cc : ByteArray} {pc : Nat} {ls : Array Slot} {rest : List Value}
theorem k_iconst (hexec : p.tables.exec = Jvm.exec) (hb : c.code = cc) {n : Int} (hdg : decode cc pc = .ok (.iconst n, 1)) (k : W p l e R s m args below meth c H locs cells slots Q (F0 m (pc + 1) ls (.int (iI n) :: rest))) : W p l e R s m args below meth c H locs cells slots Q (F0 m pc ls rest) := lv_iconst hexec hb hdg rfl k
theorem k_bipush (hexec : p.tables.exec = Jvm.exec) (hb : c.code = cc) {n : Int} (hdg : decode cc pc = .ok (.bipush n, 2)) (hv : (Int8.ofInt n).toInt32 = iI n) (k : W p l e R s m args below meth c H locs cells slots Q (F0 m (pc + 2) ls (.int (iI n) :: rest))) : W p l e R s m args below meth c H locs cells slots Q (F0 m pc ls rest) := lv_bipush hexec hb hdg hv k
theorem k_sipush (hexec : p.tables.exec = Jvm.exec) (hb : c.code = cc) {n : Int} (hdg : decode cc pc = .ok (.sipush n, 3)) (hv : (Int16.ofInt n).toInt32 = iI n) (k : W p l e R s m args below meth c H locs cells slots Q (F0 m (pc + 3) ls (.int (iI n) :: rest))) : W p l e R s m args below meth c H locs cells slots Q (F0 m pc ls rest) := lv_sipush hexec hb hdg hv k
theorem k_ldc (hexec : p.tables.exec = Jvm.exec) (hb : c.code = cc) {own : String} {index : Nat} {v : Int32} {z : Int} (hown : s.vm.findClass own = some m.cls) (hconst : (Jvm.Cond.constant own index v).before args s = true) (hz : v = iI z) (hdg : decode cc pc = .ok (.ldc index, 2)) (k : W p l e R s m args below meth c H locs cells slots Q (F0 m (pc + 2) ls (.int (iI z) :: rest))) : W p l e R s m args below meth c H locs cells slots Q (F0 m pc ls rest) := lv_ldc hexec hb hown hconst hdg (by rw [hz]; exact k)
theorem k_ldcw (hexec : p.tables.exec = Jvm.exec) (hb : c.code = cc) {own : String} {index : Nat} {v : Int32} {z : Int} (hown : s.vm.findClass own = some m.cls) (hconst : (Jvm.Cond.constant own index v).before args s = true) (hz : v = iI z) (hdg : decode cc pc = .ok (.ldc_w index, 3)) (k : W p l e R s m args below meth c H locs cells slots Q (F0 m (pc + 3) ls (.int (iI z) :: rest))) : W p l e R s m args below meth c H locs cells slots Q (F0 m pc ls rest) := lv_ldcw hexec hb hown hconst hdg (by rw [hz]; exact k)
theorem k_ldc2 (hexec : p.tables.exec = Jvm.exec) (hb : c.code = cc) {own : String} {index : Nat} {v : Int64} {z : Int} (hown : s.vm.findClass own = some m.cls) (hconst : (Jvm.Cond.constantLong own index v).before args s = true) (hz : v = lI z) (hdg : decode cc pc = .ok (.ldc2_w index, 3)) (k : W p l e R s m args below meth c H locs cells slots Q (F0 m (pc + 3) ls (.long (lI z) :: rest))) : W p l e R s m args below meth c H locs cells slots Q (F0 m pc ls rest) := lv_ldc2 hexec hb hown hconst hdg (by rw [hz]; exact k)
theorem k_lconst (hexec : p.tables.exec = Jvm.exec) (hb : c.code = cc) {n : Fin 2} {z : Int} (hdg : decode cc pc = .ok (.lconst n, 1)) (hv : Int64.ofNat (n : Nat) = lI z) (k : W p l e R s m args below meth c H locs cells slots Q (F0 m (pc + 1) ls (.long (lI z) :: rest))) : W p l e R s m args below meth c H locs cells slots Q (F0 m pc ls rest) := lv_lconst hexec hb hdg hv k
theorem k_iadd (hexec : p.tables.exec = Jvm.exec) (hb : c.code = cc) {x y : Int} (hdg : decode cc pc = .ok (.iadd, 1)) (k : W p l e R s m args below meth c H locs cells slots Q (F0 m (pc + 1) ls (.int (iI (x + y)) :: rest))) : W p l e R s m args below meth c H locs cells slots Q (F0 m pc ls (.int (iI y) :: .int (iI x) :: rest)) := lv_iadd hexec hb hdg (by rw [iI_add]; exact k)
theorem k_isub (hexec : p.tables.exec = Jvm.exec) (hb : c.code = cc) {x y : Int} (hdg : decode cc pc = .ok (.isub, 1)) (k : W p l e R s m args below meth c H locs cells slots Q (F0 m (pc + 1) ls (.int (iI (x - y)) :: rest))) : W p l e R s m args below meth c H locs cells slots Q (F0 m pc ls (.int (iI y) :: .int (iI x) :: rest)) := lv_isub hexec hb hdg (by rw [iI_sub]; exact k)
theorem k_imul (hexec : p.tables.exec = Jvm.exec) (hb : c.code = cc) {x y : Int} (hdg : decode cc pc = .ok (.imul, 1)) (k : W p l e R s m args below meth c H locs cells slots Q (F0 m (pc + 1) ls (.int (iI (x * y)) :: rest))) : W p l e R s m args below meth c H locs cells slots Q (F0 m pc ls (.int (iI y) :: .int (iI x) :: rest)) := lv_imul hexec hb hdg (by rw [iI_mul]; exact k)
theorem k_ineg (hexec : p.tables.exec = Jvm.exec) (hb : c.code = cc) {x : Int} (hdg : decode cc pc = .ok (.ineg, 1)) (k : W p l e R s m args below meth c H locs cells slots Q (F0 m (pc + 1) ls (.int (iI (-x)) :: rest))) : W p l e R s m args below meth c H locs cells slots Q (F0 m pc ls (.int (iI x) :: rest)) := lv_ineg hexec hb hdg (by rw [iI_neg]; exact k)
theorem k_idiv (hexec : p.tables.exec = Jvm.exec) (hb : c.code = cc) {x y : Int} (hdg : decode cc pc = .ok (.idiv, 1)) (hx : 0 ≤ x ∧ x ≤ 2147483647) (hy : 0 < y ∧ y ≤ 2147483647) (k : W p l e R s m args below meth c H locs cells slots Q (F0 m (pc + 1) ls (.int (iI (x / y)) :: rest))) : W p l e R s m args below meth c H locs cells slots Q (F0 m pc ls (.int (iI y) :: .int (iI x) :: rest)) := lv_idiv hexec hb hdg (iI_ne0 hy) (by rw [iI_ediv hx hy]; exact k)
theorem k_irem (hexec : p.tables.exec = Jvm.exec) (hb : c.code = cc) {x y : Int} (hdg : decode cc pc = .ok (.irem, 1)) (hx : 0 ≤ x ∧ x ≤ 2147483647) (hy : 0 < y ∧ y ≤ 2147483647) (k : W p l e R s m args below meth c H locs cells slots Q (F0 m (pc + 1) ls (.int (iI (x % y)) :: rest))) : W p l e R s m args below meth c H locs cells slots Q (F0 m pc ls (.int (iI y) :: .int (iI x) :: rest)) := lv_irem hexec hb hdg (iI_ne0 hy) (by rw [iI_emod hx hy]; exact k)
theorem k_idivT (hexec : p.tables.exec = Jvm.exec) (hb : c.code = cc) {x y : Int} (hdg : decode cc pc = .ok (.idiv, 1)) (hx : -2147483648 ≤ x ∧ x ≤ 2147483647) (hy : 0 < y ∧ y ≤ 2147483647) (k : W p l e R s m args below meth c H locs cells slots Q (F0 m (pc + 1) ls (.int (iI (Int.tdiv x y)) :: rest))) : W p l e R s m args below meth c H locs cells slots Q (F0 m pc ls (.int (iI y) :: .int (iI x) :: rest)) := lv_idiv hexec hb hdg (iI_ne0 hy) (by rw [iI_tdiv hx hy]; exact k)
theorem k_iremT (hexec : p.tables.exec = Jvm.exec) (hb : c.code = cc) {x y : Int} (hdg : decode cc pc = .ok (.irem, 1)) (hx : -2147483648 ≤ x ∧ x ≤ 2147483647) (hy : 0 < y ∧ y ≤ 2147483647) (k : W p l e R s m args below meth c H locs cells slots Q (F0 m (pc + 1) ls (.int (iI (Int.tmod x y)) :: rest))) : W p l e R s m args below meth c H locs cells slots Q (F0 m pc ls (.int (iI y) :: .int (iI x) :: rest)) := lv_irem hexec hb hdg (iI_ne0 hy) (by rw [iI_tmod hx hy]; exact k)
theorem k_ishr (hexec : p.tables.exec = Jvm.exec) (hb : c.code = cc) {x y : Int} (hdg : decode cc pc = .ok (.ishr, 1)) (hx : -2147483648 ≤ x ∧ x ≤ 2147483647) (hy : 0 ≤ y ∧ y < 32) (k : W p l e R s m args below meth c H locs cells slots Q (F0 m (pc + 1) ls (.int (iI (x / 2 ^ y.toNat)) :: rest))) : W p l e R s m args below meth c H locs cells slots Q (F0 m pc ls (.int (iI y) :: .int (iI x) :: rest)) := lv_ishr hexec hb hdg (by rw [iI_shr hx hy]; exact k)
theorem k_ishl (hexec : p.tables.exec = Jvm.exec) (hb : c.code = cc) {x y : Int} (hdg : decode cc pc = .ok (.ishl, 1)) (hx : 0 ≤ x) (hy : 0 ≤ y ∧ y < 32) (hz : x * 2 ^ y.toNat < 4294967296) (k : W p l e R s m args below meth c H locs cells slots Q (F0 m (pc + 1) ls (.int (iI (x * 2 ^ y.toNat)) :: rest))) : W p l e R s m args below meth c H locs cells slots Q (F0 m pc ls (.int (iI y) :: .int (iI x) :: rest)) := lv_ishl hexec hb hdg (by rw [iI_shl hx hy hz]; exact k)
theorem k_i2l (hexec : p.tables.exec = Jvm.exec) (hb : c.code = cc) {x : Int} (hdg : decode cc pc = .ok (.i2l, 1)) (hx : -2147483648 ≤ x ∧ x ≤ 2147483647) (k : W p l e R s m args below meth c H locs cells slots Q (F0 m (pc + 1) ls (.long (lI x) :: rest))) : W p l e R s m args below meth c H locs cells slots Q (F0 m pc ls (.int (iI x) :: rest)) := lv_i2l hexec hb hdg (lI_wide hx) k
theorem k_l2i (hexec : p.tables.exec = Jvm.exec) (hb : c.code = cc) {x : Int} (hdg : decode cc pc = .ok (.l2i, 1)) (hx : -2147483648 ≤ x ∧ x ≤ 2147483647) (k : W p l e R s m args below meth c H locs cells slots Q (F0 m (pc + 1) ls (.int (iI x) :: rest))) : W p l e R s m args below meth c H locs cells slots Q (F0 m pc ls (.long (lI x) :: rest)) := lv_l2i hexec hb hdg (lI_low hx) k
theorem k_ladd (hexec : p.tables.exec = Jvm.exec) (hb : c.code = cc) {x y : Int} (hdg : decode cc pc = .ok (.ladd, 1)) (k : W p l e R s m args below meth c H locs cells slots Q (F0 m (pc + 1) ls (.long (lI (x + y)) :: rest))) : W p l e R s m args below meth c H locs cells slots Q (F0 m pc ls (.long (lI y) :: .long (lI x) :: rest)) := lv_ladd hexec hb hdg (by rw [lI_add]; exact k)
theorem k_lsub (hexec : p.tables.exec = Jvm.exec) (hb : c.code = cc) {x y : Int} (hdg : decode cc pc = .ok (.lsub, 1)) (k : W p l e R s m args below meth c H locs cells slots Q (F0 m (pc + 1) ls (.long (lI (x - y)) :: rest))) : W p l e R s m args below meth c H locs cells slots Q (F0 m pc ls (.long (lI y) :: .long (lI x) :: rest)) := lv_lsub hexec hb hdg (by rw [lI_sub]; exact k)
theorem k_lmul (hexec : p.tables.exec = Jvm.exec) (hb : c.code = cc) {x y : Int} (hdg : decode cc pc = .ok (.lmul, 1)) (k : W p l e R s m args below meth c H locs cells slots Q (F0 m (pc + 1) ls (.long (lI (x * y)) :: rest))) : W p l e R s m args below meth c H locs cells slots Q (F0 m pc ls (.long (lI y) :: .long (lI x) :: rest)) := lv_lmul hexec hb hdg (by rw [lI_mul]; exact k)
theorem k_ldiv (hexec : p.tables.exec = Jvm.exec) (hb : c.code = cc) {x y : Int} (hdg : decode cc pc = .ok (.ldiv, 1)) (hx : 0 ≤ x ∧ x ≤ 9223372036854775807) (hy : 0 < y ∧ y ≤ 9223372036854775807) (k : W p l e R s m args below meth c H locs cells slots Q (F0 m (pc + 1) ls (.long (lI (x / y)) :: rest))) : W p l e R s m args below meth c H locs cells slots Q (F0 m pc ls (.long (lI y) :: .long (lI x) :: rest)) := lv_ldiv hexec hb hdg (lI_ne0 hy) (by rw [lI_ediv hx hy]; exact k)
theorem i0_rng : -2147483648 ≤ (0 : Int) ∧ (0 : Int) ≤ 2147483647 := ⟨by decide, by decide⟩
theorem k_icmp_eq (hexec : p.tables.exec = Jvm.exec) (hb : c.code = cc) {x y : Int} {off : Int} {tgt : Nat} (hdg : decode cc pc = .ok (.if_icmp .eq off, 3)) (ht : (pc : Int) + off = (tgt : Int)) (hx : -2147483648 ≤ x ∧ x ≤ 2147483647) (hy : -2147483648 ≤ y ∧ y ≤ 2147483647) (kt : x = y → W p l e R s m args below meth c H locs cells slots Q (F0 m tgt ls rest)) (kf : ¬ x = y → W p l e R s m args below meth c H locs cells slots Q (F0 m (pc + 3) ls rest)) : W p l e R s m args below meth c H locs cells slots Q (F0 m pc ls (.int (iI y) :: .int (iI x) :: rest)) :=
  lv_icmp_eq hexec hb hdg ht (fun h => kt ((iI_eq hx hy).mp h)) (fun h => kf (fun q => h ((iI_eq hx hy).mpr q)))
theorem k_if_eq (hexec : p.tables.exec = Jvm.exec) (hb : c.code = cc) {x : Int} {off : Int} {tgt : Nat} (hdg : decode cc pc = .ok (.ifCond .eq off, 3)) (ht : (pc : Int) + off = (tgt : Int)) (hx : -2147483648 ≤ x ∧ x ≤ 2147483647) (kt : x = 0 → W p l e R s m args below meth c H locs cells slots Q (F0 m tgt ls rest)) (kf : ¬ x = 0 → W p l e R s m args below meth c H locs cells slots Q (F0 m (pc + 3) ls rest)) : W p l e R s m args below meth c H locs cells slots Q (F0 m pc ls (.int (iI x) :: rest)) :=
  lv_if_eq hexec hb hdg ht (fun h => kt ((iI_eq hx i0_rng).mp h)) (fun h => kf (fun q => h ((iI_eq hx i0_rng).mpr q)))
theorem k_icmp_ne (hexec : p.tables.exec = Jvm.exec) (hb : c.code = cc) {x y : Int} {off : Int} {tgt : Nat} (hdg : decode cc pc = .ok (.if_icmp .ne off, 3)) (ht : (pc : Int) + off = (tgt : Int)) (hx : -2147483648 ≤ x ∧ x ≤ 2147483647) (hy : -2147483648 ≤ y ∧ y ≤ 2147483647) (kt : ¬ x = y → W p l e R s m args below meth c H locs cells slots Q (F0 m tgt ls rest)) (kf : x = y → W p l e R s m args below meth c H locs cells slots Q (F0 m (pc + 3) ls rest)) : W p l e R s m args below meth c H locs cells slots Q (F0 m pc ls (.int (iI y) :: .int (iI x) :: rest)) :=
  lv_icmp_ne hexec hb hdg ht (fun h => kt (fun q => h ((iI_eq hx hy).mpr q))) (fun h => kf ((iI_eq hx hy).mp h))
theorem k_if_ne (hexec : p.tables.exec = Jvm.exec) (hb : c.code = cc) {x : Int} {off : Int} {tgt : Nat} (hdg : decode cc pc = .ok (.ifCond .ne off, 3)) (ht : (pc : Int) + off = (tgt : Int)) (hx : -2147483648 ≤ x ∧ x ≤ 2147483647) (kt : ¬ x = 0 → W p l e R s m args below meth c H locs cells slots Q (F0 m tgt ls rest)) (kf : x = 0 → W p l e R s m args below meth c H locs cells slots Q (F0 m (pc + 3) ls rest)) : W p l e R s m args below meth c H locs cells slots Q (F0 m pc ls (.int (iI x) :: rest)) :=
  lv_if_ne hexec hb hdg ht (fun h => kt (fun q => h ((iI_eq hx i0_rng).mpr q))) (fun h => kf ((iI_eq hx i0_rng).mp h))
theorem k_icmp_lt (hexec : p.tables.exec = Jvm.exec) (hb : c.code = cc) {x y : Int} {off : Int} {tgt : Nat} (hdg : decode cc pc = .ok (.if_icmp .lt off, 3)) (ht : (pc : Int) + off = (tgt : Int)) (hx : -2147483648 ≤ x ∧ x ≤ 2147483647) (hy : -2147483648 ≤ y ∧ y ≤ 2147483647) (kt : x < y → W p l e R s m args below meth c H locs cells slots Q (F0 m tgt ls rest)) (kf : y ≤ x → W p l e R s m args below meth c H locs cells slots Q (F0 m (pc + 3) ls rest)) : W p l e R s m args below meth c H locs cells slots Q (F0 m pc ls (.int (iI y) :: .int (iI x) :: rest)) :=
  lv_icmp_lt hexec hb hdg ht (fun h => kt ((iI_lt hx hy).mp h)) (fun h => kf (Int.not_lt.mp (fun q => h ((iI_lt hx hy).mpr q))))
theorem k_if_lt (hexec : p.tables.exec = Jvm.exec) (hb : c.code = cc) {x : Int} {off : Int} {tgt : Nat} (hdg : decode cc pc = .ok (.ifCond .lt off, 3)) (ht : (pc : Int) + off = (tgt : Int)) (hx : -2147483648 ≤ x ∧ x ≤ 2147483647) (kt : x < 0 → W p l e R s m args below meth c H locs cells slots Q (F0 m tgt ls rest)) (kf : 0 ≤ x → W p l e R s m args below meth c H locs cells slots Q (F0 m (pc + 3) ls rest)) : W p l e R s m args below meth c H locs cells slots Q (F0 m pc ls (.int (iI x) :: rest)) :=
  lv_if_lt hexec hb hdg ht (fun h => kt ((iI_lt hx i0_rng).mp h)) (fun h => kf (Int.not_lt.mp (fun q => h ((iI_lt hx i0_rng).mpr q))))
theorem k_icmp_ge (hexec : p.tables.exec = Jvm.exec) (hb : c.code = cc) {x y : Int} {off : Int} {tgt : Nat} (hdg : decode cc pc = .ok (.if_icmp .ge off, 3)) (ht : (pc : Int) + off = (tgt : Int)) (hx : -2147483648 ≤ x ∧ x ≤ 2147483647) (hy : -2147483648 ≤ y ∧ y ≤ 2147483647) (kt : y ≤ x → W p l e R s m args below meth c H locs cells slots Q (F0 m tgt ls rest)) (kf : x < y → W p l e R s m args below meth c H locs cells slots Q (F0 m (pc + 3) ls rest)) : W p l e R s m args below meth c H locs cells slots Q (F0 m pc ls (.int (iI y) :: .int (iI x) :: rest)) :=
  lv_icmp_ge hexec hb hdg ht (fun h => kt ((iI_le hy hx).mp h)) (fun h => kf (Int.not_le.mp (fun q => h ((iI_le hy hx).mpr q))))
theorem k_if_ge (hexec : p.tables.exec = Jvm.exec) (hb : c.code = cc) {x : Int} {off : Int} {tgt : Nat} (hdg : decode cc pc = .ok (.ifCond .ge off, 3)) (ht : (pc : Int) + off = (tgt : Int)) (hx : -2147483648 ≤ x ∧ x ≤ 2147483647) (kt : 0 ≤ x → W p l e R s m args below meth c H locs cells slots Q (F0 m tgt ls rest)) (kf : x < 0 → W p l e R s m args below meth c H locs cells slots Q (F0 m (pc + 3) ls rest)) : W p l e R s m args below meth c H locs cells slots Q (F0 m pc ls (.int (iI x) :: rest)) :=
  lv_if_ge hexec hb hdg ht (fun h => kt ((iI_le i0_rng hx).mp h)) (fun h => kf (Int.not_le.mp (fun q => h ((iI_le i0_rng hx).mpr q))))
theorem k_icmp_gt (hexec : p.tables.exec = Jvm.exec) (hb : c.code = cc) {x y : Int} {off : Int} {tgt : Nat} (hdg : decode cc pc = .ok (.if_icmp .gt off, 3)) (ht : (pc : Int) + off = (tgt : Int)) (hx : -2147483648 ≤ x ∧ x ≤ 2147483647) (hy : -2147483648 ≤ y ∧ y ≤ 2147483647) (kt : y < x → W p l e R s m args below meth c H locs cells slots Q (F0 m tgt ls rest)) (kf : x ≤ y → W p l e R s m args below meth c H locs cells slots Q (F0 m (pc + 3) ls rest)) : W p l e R s m args below meth c H locs cells slots Q (F0 m pc ls (.int (iI y) :: .int (iI x) :: rest)) :=
  lv_icmp_gt hexec hb hdg ht (fun h => kt ((iI_lt hy hx).mp h)) (fun h => kf (Int.not_lt.mp (fun q => h ((iI_lt hy hx).mpr q))))
theorem k_if_gt (hexec : p.tables.exec = Jvm.exec) (hb : c.code = cc) {x : Int} {off : Int} {tgt : Nat} (hdg : decode cc pc = .ok (.ifCond .gt off, 3)) (ht : (pc : Int) + off = (tgt : Int)) (hx : -2147483648 ≤ x ∧ x ≤ 2147483647) (kt : 0 < x → W p l e R s m args below meth c H locs cells slots Q (F0 m tgt ls rest)) (kf : x ≤ 0 → W p l e R s m args below meth c H locs cells slots Q (F0 m (pc + 3) ls rest)) : W p l e R s m args below meth c H locs cells slots Q (F0 m pc ls (.int (iI x) :: rest)) :=
  lv_if_gt hexec hb hdg ht (fun h => kt ((iI_lt i0_rng hx).mp h)) (fun h => kf (Int.not_lt.mp (fun q => h ((iI_lt i0_rng hx).mpr q))))
theorem k_icmp_le (hexec : p.tables.exec = Jvm.exec) (hb : c.code = cc) {x y : Int} {off : Int} {tgt : Nat} (hdg : decode cc pc = .ok (.if_icmp .le off, 3)) (ht : (pc : Int) + off = (tgt : Int)) (hx : -2147483648 ≤ x ∧ x ≤ 2147483647) (hy : -2147483648 ≤ y ∧ y ≤ 2147483647) (kt : x ≤ y → W p l e R s m args below meth c H locs cells slots Q (F0 m tgt ls rest)) (kf : y < x → W p l e R s m args below meth c H locs cells slots Q (F0 m (pc + 3) ls rest)) : W p l e R s m args below meth c H locs cells slots Q (F0 m pc ls (.int (iI y) :: .int (iI x) :: rest)) :=
  lv_icmp_le hexec hb hdg ht (fun h => kt ((iI_le hx hy).mp h)) (fun h => kf (Int.not_le.mp (fun q => h ((iI_le hx hy).mpr q))))
theorem k_if_le (hexec : p.tables.exec = Jvm.exec) (hb : c.code = cc) {x : Int} {off : Int} {tgt : Nat} (hdg : decode cc pc = .ok (.ifCond .le off, 3)) (ht : (pc : Int) + off = (tgt : Int)) (hx : -2147483648 ≤ x ∧ x ≤ 2147483647) (kt : x ≤ 0 → W p l e R s m args below meth c H locs cells slots Q (F0 m tgt ls rest)) (kf : 0 < x → W p l e R s m args below meth c H locs cells slots Q (F0 m (pc + 3) ls rest)) : W p l e R s m args below meth c H locs cells slots Q (F0 m pc ls (.int (iI x) :: rest)) :=
  lv_if_le hexec hb hdg ht (fun h => kt ((iI_le hx i0_rng).mp h)) (fun h => kf (Int.not_le.mp (fun q => h ((iI_le hx i0_rng).mpr q))))
theorem k_tin (hexec : p.tables.exec = Jvm.exec) (hb : c.code = cc) {dflt lo hi : Int} {offs : Array Int} {len : Nat} {x : Int} {off : Int} {tgt : Nat} (v : Int) (hxv : x = v) (hv : -2147483648 ≤ v ∧ v ≤ 2147483647) (hdg : decode cc pc = .ok (.tableswitch dflt lo hi offs, len)) (h1 : ¬ v < lo) (h2 : ¬ hi < v) (ho : offs[(v - lo).toNat]? = some off) (ht : (pc : Int) + off = (tgt : Int))
    (k : W p l e R s m args below meth c H locs cells slots Q (F0 m tgt ls rest)) : W p l e R s m args below meth c H locs cells slots Q (F0 m pc ls (.int (iI x) :: rest)) := by
  subst hxv
  exact lv_tableIn hexec hb hdg (by rw [iI_toInt hv]; exact h1) (by rw [iI_toInt hv]; exact h2) (by rw [iI_toInt hv]; exact ho) ht k
theorem k_tout (hexec : p.tables.exec = Jvm.exec) (hb : c.code = cc) {dflt lo hi : Int} {offs : Array Int} {len : Nat} {x : Int} {tgt : Nat} (hv : -2147483648 ≤ x ∧ x ≤ 2147483647) (hdg : decode cc pc = .ok (.tableswitch dflt lo hi offs, len)) (h : x < lo ∨ hi < x) (ht : (pc : Int) + dflt = (tgt : Int))
    (k : W p l e R s m args below meth c H locs cells slots Q (F0 m tgt ls rest)) : W p l e R s m args below meth c H locs cells slots Q (F0 m pc ls (.int (iI x) :: rest)) :=
  lv_tableOut hexec hb hdg (by rw [iI_toInt hv]; exact h) ht k
variable {D : va_G} {cl : List vw_C} {ws : va_W} {tys : List (ClassId × FieldType)} {a : Nat} {A : Nat → Prop} {H0 : Heap}
theorem k_iald (hexec : p.tables.exec = Jvm.exec) (hb : c.code = cc) (hK : va_K D cl tys s) (hP : va_P D cl ws H) (q0 t0 : Nat) {cA : ClassId} {n : Nat} {f : Int → Int} (ha : ws[q0]? = some (a, .inl (cA, n, .inl (aI f)))) (ht : tys[t0]? = some (cA, .int)) {i : Int} (hi : 0 ≤ i ∧ i < (n : Int) ∧ (n : Int) ≤ 2147483647) (hdg : decode cc pc = .ok (.iaload, 1))
    (kk : W p l e R s m args below meth c H locs cells slots Q (F0 m (pc + 1) ls (.int (iI (f i)) :: rest))) : W p l e R s m args below meth c H locs cells slots Q (F0 m pc ls (.int (iI i) :: .ref a :: rest)) :=
  va_iald hexec hb hK hP q0 t0 ha ht (vp_iI hi) hdg (by rw [aI_get hi.1 (by omega)]; exact kk)
theorem k_bald (hexec : p.tables.exec = Jvm.exec) (hb : c.code = cc) (hK : va_K D cl tys s) (hP : va_P D cl ws H) (q0 t0 : Nat) {cA : ClassId} {n : Nat} {f : Int → Int} (ha : ws[q0]? = some (a, .inl (cA, n, .inl (aI f)))) (ht : tys[t0]? = some (cA, .byte)) {i : Int} (hi : 0 ≤ i ∧ i < (n : Int) ∧ (n : Int) ≤ 2147483647) (hdg : decode cc pc = .ok (.baload, 1))
    (kk : W p l e R s m args below meth c H locs cells slots Q (F0 m (pc + 1) ls (.int (iI (f i)) :: rest))) : W p l e R s m args below meth c H locs cells slots Q (F0 m pc ls (.int (iI i) :: .ref a :: rest)) :=
  va_bald hexec hb hK hP q0 t0 ha ht (vp_iI hi) hdg (by rw [aI_get hi.1 (by omega)]; exact kk)
theorem k_zald (hexec : p.tables.exec = Jvm.exec) (hb : c.code = cc) (hK : va_K D cl tys s) (hP : va_P D cl ws H) (q0 t0 : Nat) {cA : ClassId} {n : Nat} {f : Int → Int} (ha : ws[q0]? = some (a, .inl (cA, n, .inl (aI f)))) (ht : tys[t0]? = some (cA, .boolean)) {i : Int} (hi : 0 ≤ i ∧ i < (n : Int) ∧ (n : Int) ≤ 2147483647) (hdg : decode cc pc = .ok (.baload, 1))
    (kk : W p l e R s m args below meth c H locs cells slots Q (F0 m (pc + 1) ls (.int (iI (f i)) :: rest))) : W p l e R s m args below meth c H locs cells slots Q (F0 m pc ls (.int (iI i) :: .ref a :: rest)) :=
  va_zald hexec hb hK hP q0 t0 ha ht (vp_iI hi) hdg (by rw [aI_get hi.1 (by omega)]; exact kk)
theorem k_iast (hexec : p.tables.exec = Jvm.exec) (hb : c.code = cc) (hK : va_K D cl tys s) (hP : va_P D cl ws H) (hD : va_D A ws) (hS : va_S A H0 H locs) (q0 t0 : Nat) {cA : ClassId} {n : Nat} {f : Int → Int} (ha : ws[q0]? = some (a, .inl (cA, n, .inl (aI f)))) (ht : tys[t0]? = some (cA, .int)) {i x : Int} (hi : 0 ≤ i ∧ i < (n : Int) ∧ (n : Int) ≤ 2147483647) (hdg : decode cc pc = .ok (.iastore, 1))
    (kk : ∀ (H1 : Heap) (locs1 : List Loc), va_P D cl (ws.set q0 (a, .inl (cA, n, .inl (aI (ups f i x))))) H1 → va_D A (ws.set q0 (a, .inl (cA, n, .inl (aI (ups f i x))))) → va_S A H0 H1 locs1 → W p l e R s m args below meth c H1 locs1 cells slots Q (F0 m (pc + 1) ls rest)) : W p l e R s m args below meth c H locs cells slots Q (F0 m pc ls (.int (iI x) :: .int (iI i) :: .ref a :: rest)) :=
  va_iast hexec hb hK hP hD hS q0 t0 ha ht (vp_iI hi) hdg (fun H1 locs1 h1 h2 h3 => kk H1 locs1 (by rw [aI_upd hi.1 (by omega)] at h1; exact h1) (by rw [aI_upd hi.1 (by omega)] at h2; exact h2) h3)
theorem k_alen (hexec : p.tables.exec = Jvm.exec) (hb : c.code = cc) (hK : va_K D cl tys s) (hP : va_P D cl ws H) (q0 t0 : Nat) {cA : ClassId} {x : vp_A} (ha : ws[q0]? = some (a, .inl (cA, x))) {ty : FieldType} (ht : tys[t0]? = some (cA, ty)) (z : Int) (hz : (x.1 : Int) = z) (hdg : decode cc pc = .ok (.arraylength, 1))
    (kk : W p l e R s m args below meth c H locs cells slots Q (F0 m (pc + 1) ls (.int (iI z) :: rest))) : W p l e R s m args below meth c H locs cells slots Q (F0 m pc ls (.ref a :: rest)) :=
  va_alen hexec hb hK hP q0 t0 ha ht (v := iI z) (by rw [← hz]; exact (iI_nat x.1)) hdg kk
end KROWS
/-! the two forms of contract: a method that only reads (kPre, kRO), a method that writes its world (mPre) -/
def kG : Type := (Nat → Prop) → State → Heap → Prop
def kGok (G : (Nat → Prop) → State → Heap → Prop) : Prop :=
  (∀ (A : Nat → Prop) (U : State) (H H1 : Heap), (∀ a : Nat, a < H.size → ¬ A a → H1[a]? = H[a]?) → G A U H → G A U H1) ∧
  (∀ (A : Nat → Prop) (s U : State) (H : Heap), s.WarmedH U.vm → G A s H → G A U H) ∧
  (∀ (A : Nat → Prop) (s U : State) (H : Heap), s.vm = U.vm → G A s H → G A U H) ∧
  (∀ (A B : Nat → Prop) (U : State) (H : Heap), (∀ q, B q → A q) → G A U H → G B U H)
def kGT : (Nat → Prop) → State → Heap → Prop := fun _ _ _ => True
theorem kGT_ok : kGok kGT := ⟨fun _ _ _ _ _ h => h, fun _ _ _ _ _ h => h, fun _ _ _ _ _ h => h, fun _ _ _ _ _ h => h⟩
def kPre (G : (Nat → Prop) → State → Heap → Prop) (D : va_G) (ws : va_W) (av : List Value) : Array Value → State → Prop := va_Pc av (fun U => G (fun _ => False) U U.heap ∧ va_P D vwCl ws U.heap)
def kRO (post : Int → Prop) : Array Value → State → Outcome → State → Prop := fun _ st oc t => ∃ r : Int, oc = .returned (some (.int (iI r))) ∧ post r ∧ t.heap = st.heap
def mPre (G : (Nat → Prop) → State → Heap → Prop) (D : va_G) (ws : va_W) (sz : Nat) (av : List Value) : Array Value → State → Prop := va_Pc av (fun U => U.heap.size = sz ∧ G (va_A ws sz) U U.heap ∧ va_P D vwCl ws U.heap ∧ va_D (fun _ => True) ws)
def kQi {S : Type} (D : va_G) (ws : va_W) (sz : Nat) (wf : S → va_W) (post : Int → S → Prop) : Array Value → State → Outcome → State → Prop := va_Qi (fun x u => ∃ r : Int, x = iI r ∧ post r u) (fun u t => va_P D vwCl (wf u) t.heap ∧ va_D (va_A ws sz) (wf u)) (va_A ws sz)
def kQv {S : Type} (D : va_G) (ws : va_W) (sz : Nat) (wf : S → va_W) (post : S → Prop) : Array Value → State → Outcome → State → Prop := va_Qv post (fun u t => va_P D vwCl (wf u) t.heap ∧ va_D (va_A ws sz) (wf u)) (va_A ws sz)
theorem kPre_blind {G : (Nat → Prop) → State → Heap → Prop} (hG : kGok G) {D : va_G} {ws : va_W} {av : List Value} : FrameBlind (kPre G D ws av) := fun a U g mk q => ⟨q.1, hG.2.2.1 _ U (U.calling g mk a) _ rfl q.2.1, q.2.2⟩
theorem mPre_blind {G : (Nat → Prop) → State → Heap → Prop} (hG : kGok G) {D : va_G} {ws : va_W} {sz : Nat} {av : List Value} : FrameBlind (mPre G D ws sz av) := fun a U g mk q => ⟨q.1, q.2.1, hG.2.2.1 _ U (U.calling g mk a) _ rfl q.2.2.1, q.2.2.2⟩
theorem kRO_start {l : Launch} {y : MethodName} {wsy ws' : List Cond} {rm : Room} {G : (Nat → Prop) → State → Heap → Prop} {D : va_G} {ws : va_W} {av : List Value} {cc : ByteArray} {maxL : Nat} {ret : Option FieldType} {Qc : Array Value → State → Outcome → State → Prop} (hy : plainName y.cls = true) (hw : wsy = Cond.code y cc maxL ret :: ws') (hlen : (lg_sl av).length ≤ maxL)
    (body : ∀ (p : Program) (e : Env) (s : State) (m : MethodId) (below : List Frame) (meth : Method) (c : Code), p.tables.exec = Jvm.exec → c.code = cc → meth.sig.returnType = ret → meth.locks = false → c.maxLocals = maxL → (∀ w ∈ wsy, w.before av.toArray s = true) → s.vm.findClass y.cls = some m.cls → G (fun _ => False) s s.heap → va_P D vwCl ws s.heap → ∀ ls : Array Slot, lv_has ls maxL (lv_args 0 av) → W p l e rm s m av.toArray below meth c s.heap [] 0 0 (MQ below Qc av.toArray s 0 0 (fun _ => False)) (F0 m 0 ls [])) :
    Met l y wsy rm (kPre G D ws av) Qc 0 0 (fun _ => False) := by
  refine Met.ofW hy hw ?_
  intro p e s m args below meth c s₁ B hml hv
  obtain ⟨rfl, hG, hP⟩ := hv
  have hl := lv_entry av (n := maxL) hlen
  have hb := body p e s m below meth c B.exec B.bytes B.returns B.notSynchronized hml (atoms_spec (ws := wsy) B.pre) (findClass_of_methodNamed B.named) hG hP _ hl
  rw [lg_entry_eq]
  exact hb
theorem kM_start {l : Launch} {y : MethodName} {wsy ws' : List Cond} {rm : Room} {G : (Nat → Prop) → State → Heap → Prop} {D : va_G} {ws : va_W} {sz : Nat} {av : List Value} {cc : ByteArray} {maxL : Nat} {ret : Option FieldType} {Qc : Array Value → State → Outcome → State → Prop} {mc ms : Nat} (hy : plainName y.cls = true) (hw : wsy = Cond.code y cc maxL ret :: ws') (hlen : (lg_sl av).length ≤ maxL)
    (body : ∀ (p : Program) (e : Env) (s : State) (m : MethodId) (below : List Frame) (meth : Method) (c : Code), p.tables.exec = Jvm.exec → c.code = cc → meth.sig.returnType = ret → meth.locks = false → c.maxLocals = maxL → (∀ w ∈ wsy, w.before av.toArray s = true) → s.vm.findClass y.cls = some m.cls → s.heap.size = sz → (∀ q : Nat, s.heap.size ≤ q → va_A ws sz q) → G (va_A ws sz) s s.heap → va_P D vwCl ws s.heap → va_D (va_A ws sz) ws → va_S (va_A ws sz) s.heap s.heap [] → (y.name = "<init>" → meth.name = "<init>") → ∀ ls : Array Slot, lv_has ls maxL (lv_args 0 av) → W p l e rm s m av.toArray below meth c s.heap [] 0 0 (MQ below Qc av.toArray s mc ms (va_A ws sz)) (F0 m 0 ls [])) :
    Met l y wsy rm (mPre G D ws sz av) Qc mc ms (va_A ws sz) := by
  refine Met.ofW hy hw ?_
  intro p e s m args below meth c s₁ B hml hv
  obtain ⟨rfl, hsz, hG, hP, hD0⟩ := hv
  have hl := lv_entry av (n := maxL) hlen
  have hb := body p e s m below meth c B.exec B.bytes B.returns B.notSynchronized hml (atoms_spec (ws := wsy) B.pre) (findClass_of_methodNamed B.named) hsz (fun q h => Or.inr (by rw [← hsz]; exact h)) hG hP hD0.self va_S.rf (fun h => (name_of_methodNamed B.named B.method).1.trans h) _ hl
  rw [lg_entry_eq]
  exact hb
section KCALL
variable {p : Program} {l : Launch} {e : Env} {R : Room} {s : State} {m : MethodId} {args : Array Value} {below : List Frame} {meth : Method} {c : Code} {H : Heap} {locs : List Loc} {cells slots : Nat} {Q : State → Prop}
variable {pc : Nat} {ls : Array Slot} {rest st0 : List Value} {a : Array Value}
theorem k_ro {post : Int → Prop} {free : Addr → Prop} (hr : va_Run p l e R s m args below meth c H locs cells slots 0 0 (F0 m pc ls st0) rest (kRO post a) (fun _ => False))
    (kk : ∀ r : Int, post r → W p l e R s m args below meth c H locs cells slots Q (F0 m (pc + 3) ls (.int (iI r) :: rest))) : W p l e R s m args below meth c H locs cells slots Q (F0 m pc ls st0) := by
  intro T hT X
  obtain ⟨v, st₀, t, T', L, h0, X', hL, e1, e2, ⟨r, hv, hp, hh⟩, st⟩ := hr T hT X
  cases hv
  obtain ⟨t2, a1, b1⟩ := kk r hp T' (by rw [e1, hh, h0]) (Stand.forget X' (fun q h => (hL q h).elim))
  exact ⟨t2, st t2 a1, b1⟩
variable {y : MethodName} {bytes cc : ByteArray} {maxL nL index : Nat} {ret : Option FieldType} {wsy ws' : List Cond} {rm : Room} {Ts : List Cond} {own C : String} {b : Addr} {As : List Value} {G : (Nat → Prop) → State → Heap → Prop} {D : va_G} {wsC : va_W} {post : Int → Prop}
/-- a static method that only reads -/
theorem k_roS (S : CallFix p m c cc nL s args Ts own) (hM : Met l y wsy rm (kPre G D wsC As) (kRO post) 0 0 (fun _ => False)) (hT : GoodIn Ts (va_wsS own index y wsy)) (hw : wsy = Cond.code y bytes maxL ret :: ws') (hrm : rm.cells = 0 ∧ rm.slots = 0) (n9 : Nat) (hn9 : As.length = n9)
    (hd : y.cls ≠ "java/lang/invoke/MethodHandle" ∧ y.cls ≠ "java/lang/invoke/VarHandle" ∧ (parseMethodDescriptor y.desc).map (fun d => d.parameters.length) = some n9) (hR : rm.frames + 1 ≤ R.frames ∧ 8 + (maxL + 11) + rm.locals ≤ R.locals)
    (hGok : kGok G) (hG : G (fun _ => False) s H) (hP : va_P D vwCl wsC H) (hsize : ls.size = nL) (hstack : st0 = As.reverse ++ rest) (hW : (rest.map fun v => v.category).sum ≤ 8) (hcs : cells ≤ R.cells ∧ slots ≤ R.slots) (hdg : decode cc pc = .ok (.invokestatic index, 3))
    (kk : ∀ r : Int, post r → W p l e R s m args below meth c H locs cells slots Q (F0 m (pc + 3) ls (.int (iI r) :: rest))) : W p l e R s m args below meth c H locs cells slots Q (F0 m pc ls st0) :=
  k_ro (free := fun _ => False) (va_runS S hM (va_cwS n9 S.2.2.2.2 hT hw hrm.1 hrm.2 hd hR) ⟨kPre_blind hGok, fun U hU hW => ⟨rfl, by rw [hU]; exact hGok.2.1 _ s U H hW hG, by rw [hU]; exact hP⟩⟩ rfl hn9 hsize hstack (lv_room hW) hdg hcs) kk
/-- a method of an object (private ones too) that only reads -/
theorem k_roV (S : CallFix p m c cc nL s args Ts own) (hM : Met l y wsy rm (kPre G D wsC (.ref b :: As)) (kRO post) 0 0 (fun _ => False)) (hT : GoodIn Ts (wsV own index C y wsy)) (hw : wsy = Cond.code y bytes maxL ret :: ws') (hrm : rm.cells = 0 ∧ rm.slots = 0) (n9 : Nat) (hn9 : As.length = n9)
    (hd : y.cls = C ∧ y.cls ≠ "java/lang/invoke/MethodHandle" ∧ y.cls ≠ "java/lang/invoke/VarHandle" ∧ (parseMethodDescriptor y.desc).map (fun d => d.parameters.length) = some n9) (hR : rm.frames + 1 ≤ R.frames ∧ 8 + (maxL + 11) + rm.locals ≤ R.locals)
    (hGok : kGok G) (hG : G (fun _ => False) s H) (hP : va_P D vwCl wsC H) (hrecv : ∃ cell : Cell, H[b]? = some cell ∧ cell.vm.isStatics = false ∧ s.vm.findClass C = some cell.cls) (hsize : ls.size = nL) (hstack : st0 = As.reverse ++ .ref b :: rest) (hW : (rest.map fun v => v.category).sum ≤ 8) (hcs : cells ≤ R.cells ∧ slots ≤ R.slots) (hdg : decode cc pc = .ok (.invokevirtual index, 3))
    (kk : ∀ r : Int, post r → W p l e R s m args below meth c H locs cells slots Q (F0 m (pc + 3) ls (.int (iI r) :: rest))) : W p l e R s m args below meth c H locs cells slots Q (F0 m pc ls st0) :=
  k_ro (free := fun _ => False) (va_runV S hM (cwV n9 S.2.2.2.2 hT hw hrm.1 hrm.2 hd hR) ⟨kPre_blind hGok, hrecv, fun U hU hW => ⟨rfl, by rw [hU]; exact hGok.2.1 _ s U H hW hG, by rw [hU]; exact hP⟩⟩ rfl hn9 hsize hstack (lv_room hW) hdg hcs) kk
/-- a private static method of a nest mate that only reads -/
theorem k_roSN {host : String} (S : CallFix p m c cc nL s args Ts own) (hM : Met l y wsy rm (kPre G D wsC As) (kRO post) 0 0 (fun _ => False)) (hT : GoodIn Ts wsy) (hnest : va_Nw (.methodLinkNest own index y host) s) (hini : (Cond.initialized y.cls).before args s = true) (hstt : (Cond.static y).before args s = true) (hw : wsy = Cond.code y bytes maxL ret :: ws') (hrm : rm.cells = 0 ∧ rm.slots = 0) (n9 : Nat) (hn9 : As.length = n9)
    (hd : y.cls ≠ "java/lang/invoke/MethodHandle" ∧ y.cls ≠ "java/lang/invoke/VarHandle" ∧ (parseMethodDescriptor y.desc).map (fun d => d.parameters.length) = some n9) (hR : rm.frames + 1 ≤ R.frames ∧ 8 + (maxL + 11) + rm.locals ≤ R.locals)
    (hGok : kGok G) (hG : G (fun _ => False) s H) (hP : va_P D vwCl wsC H) (hsize : ls.size = nL) (hstack : st0 = As.reverse ++ rest) (hW : (rest.map fun v => v.category).sum ≤ 8) (hcs : cells ≤ R.cells ∧ slots ≤ R.slots) (hdg : decode cc pc = .ok (.invokestatic index, 3))
    (kk : ∀ r : Int, post r → W p l e R s m args below meth c H locs cells slots Q (F0 m (pc + 3) ls (.int (iI r) :: rest))) : W p l e R s m args below meth c H locs cells slots Q (F0 m pc ls st0) :=
  k_ro (free := fun _ => False) (va_runSN S hM ⟨va_cnB n9 S.2.2.2.2 hT hw hrm.1 hrm.2 hnest hini hd hR, hstt, trivial⟩ ⟨kPre_blind hGok, fun U hU hW => ⟨rfl, by rw [hU]; exact hGok.2.1 _ s U H hW hG, by rw [hU]; exact hP⟩⟩ rfl hn9 hsize hstack (lv_room hW) hdg hcs) kk
end KCALL
theorem k_free {A0 : Nat → Prop} {ws : va_W} {H0 H : Heap} {locs : List Loc} (hD : va_D A0 ws) (hS : va_S A0 H0 H locs) (hA : ∀ q, H0.size ≤ q → A0 q) : ∀ q, va_A ws H.size q → A0 q := fun q h => by
  rcases h with ⟨k, e, h⟩ | h
  · exact hD.2 k (q, e) h
  · exact hA q (Nat.le_trans hS.1 h)
theorem k_addr {A : Nat → Prop} {w w' : va_W} (h : va_D A w) (e : w.map (fun q => q.1) = w'.map (fun q => q.1)) : va_D A w' := by
  have key : ∀ (k : Nat) (q : Nat × va_E), w'[k]? = some q → ∃ q0 : Nat × va_E, w[k]? = some q0 ∧ q0.1 = q.1 := by
    intro k q hk
    have h1 : (w.map (fun q => q.1))[k]? = some q.1 := by rw [e, List.getElem?_map, hk]; rfl
    rw [List.getElem?_map] at h1
    cases hw : w[k]? with
    | none => rw [hw] at h1; cases h1
    | some q0 => rw [hw] at h1; exact ⟨q0, rfl, Option.some.inj h1⟩
  refine ⟨fun i j x y hi hj hxy => ?_, fun k q hk => ?_⟩
  · obtain ⟨x0, h1, h2⟩ := key i x hi
    obtain ⟨y0, h3, h4⟩ := key j y hj
    exact h.1 i j x0 y0 h1 h3 (h2.trans (hxy.trans h4.symm))
  · obtain ⟨q0, h1, h2⟩ := key k q hk
    rw [← h2]
    exact h.2 k q0 h1
section KMUT
variable {p : Program} {l : Launch} {e : Env} {R : Room} {s : State} {m : MethodId} {args : Array Value} {below : List Frame} {meth : Method} {c : Code} {H : Heap} {locs : List Loc} {cells slots : Nat} {Q : State → Prop}
variable {pc : Nat} {ls : Array Slot} {rest st0 : List Value} {a : Array Value} {A0 : Nat → Prop} {H0 : Heap} {mc ms : Nat}
variable {D : va_G} {wsC : va_W} {S : Type} {wf : S → va_W}
theorem k_mui {post : Int → S → Prop} (hr : va_Run p l e R s m args below meth c H locs cells slots mc ms (F0 m pc ls st0) rest (kQi D wsC H.size wf post a) (va_A wsC H.size)) (hF : ∀ q, va_A wsC H.size q → A0 q) (hS : va_S A0 H0 H locs)
    (kk : ∀ (r : Int) (u : S) (H1 : Heap) (locs1 : List Loc), post r u → va_P D vwCl (wf u) H1 → va_D (va_A wsC H.size) (wf u) → va_S A0 H0 H1 locs1 → (∀ q : Nat, q < H.size → ¬ va_A wsC H.size q → H1[q]? = H[q]?) → W p l e R s m args below meth c H1 locs1 (cells + mc) (slots + ms) Q (F0 m (pc + 3) ls (.int (iI r) :: rest))) : W p l e R s m args below meth c H locs cells slots Q (F0 m pc ls st0) :=
  va_calli hr hS (fun q _ h => hF q h) hF (fun r u t H1 locs1 ht hvm hp hB hz hk hS1 => by
    obtain ⟨z, rfl, hp⟩ := hp
    exact kk z u H1 locs1 hp (by rw [← ht]; exact hB.1) hB.2 hS1 hk)
theorem k_muv {post : S → Prop} (hr : va_Run p l e R s m args below meth c H locs cells slots mc ms (F0 m pc ls st0) rest (kQv D wsC H.size wf post a) (va_A wsC H.size)) (hF : ∀ q, va_A wsC H.size q → A0 q) (hS : va_S A0 H0 H locs)
    (kk : ∀ (u : S) (H1 : Heap) (locs1 : List Loc), post u → va_P D vwCl (wf u) H1 → va_D (va_A wsC H.size) (wf u) → va_S A0 H0 H1 locs1 → (∀ q : Nat, q < H.size → ¬ va_A wsC H.size q → H1[q]? = H[q]?) → W p l e R s m args below meth c H1 locs1 (cells + mc) (slots + ms) Q (F0 m (pc + 3) ls rest)) : W p l e R s m args below meth c H locs cells slots Q (F0 m pc ls st0) :=
  va_callv hr hS (fun q _ h => hF q h) hF (fun u t H1 locs1 ht hvm hp hB hz hk hS1 => kk u H1 locs1 hp (by rw [← ht]; exact hB.1) hB.2 hS1 hk)
variable {y : MethodName} {bytes cc : ByteArray} {maxL nL index : Nat} {ret : Option FieldType} {wsy ws' : List Cond} {rm : Room} {Ts : List Cond} {own C : String} {b : Addr} {As : List Value} {G : (Nat → Prop) → State → Heap → Prop} {Qc : Array Value → State → Outcome → State → Prop}
/-- the run of a method of an object that writes its world -/
theorem k_runV (S : CallFix p m c cc nL s args Ts own) (hM : Met l y wsy rm (mPre G D wsC H.size (.ref b :: As)) Qc mc ms (va_A wsC H.size)) (hT : GoodIn Ts (wsV own index C y wsy)) (hw : wsy = Cond.code y bytes maxL ret :: ws') (hrm : rm.cells = mc ∧ rm.slots = ms) (n9 : Nat) (hn9 : As.length = n9)
    (hd : y.cls = C ∧ y.cls ≠ "java/lang/invoke/MethodHandle" ∧ y.cls ≠ "java/lang/invoke/VarHandle" ∧ (parseMethodDescriptor y.desc).map (fun d => d.parameters.length) = some n9) (hR : rm.frames + 1 ≤ R.frames ∧ 8 + (maxL + 11) + rm.locals ≤ R.locals)
    (hGok : kGok G) (hG : G A0 s H0) (hS : va_S A0 H0 H locs) (hF : ∀ q, va_A wsC H.size q → A0 q) (hP : va_P D vwCl wsC H) (hD : va_D A0 wsC) (hrecv : ∃ cell : Cell, H[b]? = some cell ∧ cell.vm.isStatics = false ∧ s.vm.findClass C = some cell.cls) (hsize : ls.size = nL) (hstack : st0 = As.reverse ++ .ref b :: rest) (hW : (rest.map fun v => v.category).sum ≤ 8) (hcs : cells + mc ≤ R.cells ∧ slots + ms ≤ R.slots) (hdg : decode cc pc = .ok (.invokevirtual index, 3)) :
    va_Run p l e R s m args below meth c H locs cells slots mc ms (F0 m pc ls st0) rest (Qc (Value.ref b :: As).toArray) (va_A wsC H.size) :=
  va_runV S hM (cwV n9 S.2.2.2.2 hT hw hrm.1 hrm.2 hd hR) ⟨mPre_blind hGok, hrecv, fun U hU hW => ⟨rfl, by rw [hU], by rw [hU]; exact hGok.2.1 _ s U H hW (hGok.2.2.2 _ _ _ _ hF (hGok.1 _ _ _ _ hS.2.1 hG)), by rw [hU]; exact hP, hD.weaken (fun _ _ _ _ => trivial)⟩⟩ rfl hn9 hsize hstack (lv_room hW) hdg hcs
theorem k_runS (S : CallFix p m c cc nL s args Ts own) (hM : Met l y wsy rm (mPre G D wsC H.size As) Qc mc ms (va_A wsC H.size)) (hT : GoodIn Ts (va_wsS own index y wsy)) (hw : wsy = Cond.code y bytes maxL ret :: ws') (hrm : rm.cells = mc ∧ rm.slots = ms) (n9 : Nat) (hn9 : As.length = n9)
    (hd : y.cls ≠ "java/lang/invoke/MethodHandle" ∧ y.cls ≠ "java/lang/invoke/VarHandle" ∧ (parseMethodDescriptor y.desc).map (fun d => d.parameters.length) = some n9) (hR : rm.frames + 1 ≤ R.frames ∧ 8 + (maxL + 11) + rm.locals ≤ R.locals)
    (hGok : kGok G) (hG : G A0 s H0) (hS : va_S A0 H0 H locs) (hF : ∀ q, va_A wsC H.size q → A0 q) (hP : va_P D vwCl wsC H) (hD : va_D A0 wsC) (hsize : ls.size = nL) (hstack : st0 = As.reverse ++ rest) (hW : (rest.map fun v => v.category).sum ≤ 8) (hcs : cells + mc ≤ R.cells ∧ slots + ms ≤ R.slots) (hdg : decode cc pc = .ok (.invokestatic index, 3)) :
    va_Run p l e R s m args below meth c H locs cells slots mc ms (F0 m pc ls st0) rest (Qc As.toArray) (va_A wsC H.size) :=
  va_runS S hM (va_cwS n9 S.2.2.2.2 hT hw hrm.1 hrm.2 hd hR) ⟨mPre_blind hGok, fun U hU hW => ⟨rfl, by rw [hU], by rw [hU]; exact hGok.2.1 _ s U H hW (hGok.2.2.2 _ _ _ _ hF (hGok.1 _ _ _ _ hS.2.1 hG)), by rw [hU]; exact hP, hD.weaken (fun _ _ _ _ => trivial)⟩⟩ rfl hn9 hsize hstack (lv_room hW) hdg hcs
end KMUT
/-! what every method may take as given of the machine and its static rows -/
def tysA (cy : Nat → ClassId) : List (ClassId × FieldType) := [(cy 0, .int), (cy 1, .byte), (cy 2, .boolean), (cy 3, .object RX4)]
def stA (C n : String) (N : Nat) (f : Int → Int) (A : Nat → Prop) (U : State) (H : Heap) : Prop := ∃ t : Nat, va_Z C n "[I" (.ref t) A U H ∧ va_T .int t N (fun j => .int (aI f j)) A U H
theorem stA.kept {C n : String} {N : Nat} {f : Int → Int} {A : Nat → Prop} {U : State} {H H1 : Heap} (h : stA C n N f A U H) (hq : ∀ a : Nat, a < H.size → ¬ A a → H1[a]? = H[a]?) : stA C n N f A U H1 := by
  obtain ⟨t, h1, h2⟩ := h
  exact ⟨t, h1.kept hq, h2.kept hq⟩
theorem stA.moved {C n : String} {N : Nat} {f : Int → Int} {A : Nat → Prop} {u U : State} {H : Heap} (hvm : u.vm.Alike U.vm) (h : stA C n N f A u H) : stA C n N f A U H := by
  obtain ⟨t, h1, h2⟩ := h
  exact ⟨t, va_Z.moved hvm h1, va_T.moved hvm h2⟩
theorem stA.narrow {C n : String} {N : Nat} {f : Int → Int} {A B : Nat → Prop} {U : State} {H : Heap} (h : stA C n N f A U H) (hAB : ∀ q, B q → A q) : stA C n N f B U H := by
  obtain ⟨t, h1, h2⟩ := h
  exact ⟨t, h1.narrow hAB, h2.narrow hAB⟩
def listI (L : List Int) : Int → Int := fun k => L.getD k.toNat 0
def atFirst : Int → Int := listI [250, 0, 0, 5, 1000, 50, 100, 1000, 0, 3]
def leastI : Int → Int := listI [-5000, -100, -100, 0, 0, 0, 1, 1, 0, 0]
def mostI : Int → Int := listI [5000, 100, 100, 500, 180000, 5000, 1000, 100000, 359999, 9]
def turnsI : Int → Int := listI [45000, 26565, 14036, 7125, 3576, 1790, 895, 448, 224, 112, 56, 28, 14, 7, 3, 2]
def numbersI : Int → Int := listI [0, 4, 3, 2, 2, 1, 1]
def GG (D : va_G) (cy : Nat → ClassId) (A : Nat → Prop) (U : State) (H : Heap) : Prop :=
  va_K D vwCl (tysA cy) U ∧ va_Nw (.methodLinkNest RX4 77 yX6_inRange "ArcPlate") U ∧ stA RX0 "TURNS" 16 turnsI A U H ∧ stA RX4 "AT_FIRST" 10 atFirst A U H ∧ stA RX4 "LEAST" 10 leastI A U H ∧ stA RX4 "MOST" 10 mostI A U H ∧ stA RX5 "NUMBERS" 7 numbersI A U H
theorem alike_eq {u U : State} (h : u.vm = U.vm) : u.vm.Alike U.vm := by rw [h]; exact Vm.Alike.refl _
theorem GG_ok (D : va_G) (cy : Nat → ClassId) : kGok (GG D cy) := by
  refine ⟨fun A U H H1 hq h => ?_, fun A s U H hW h => ?_, fun A s U H hv h => ?_, fun A B U H hAB h => ?_⟩
  · obtain ⟨h1, h2, h3, h4, h5, h6, h7⟩ := h
    exact ⟨h1, h2, h3.kept hq, h4.kept hq, h5.kept hq, h6.kept hq, h7.kept hq⟩
  · obtain ⟨h1, h2, h3, h4, h5, h6, h7⟩ := h
    exact ⟨va_K.moved hW.alike h1, va_Nw.warmM hW h2, stA.moved hW.alike h3, stA.moved hW.alike h4, stA.moved hW.alike h5, stA.moved hW.alike h6, stA.moved hW.alike h7⟩
  · obtain ⟨h1, h2, h3, h4, h5, h6, h7⟩ := h
    have hv2 := alike_eq hv
    exact ⟨va_K.moved hv2 h1, va_Nw.same rfl hv h2, stA.moved hv2 h3, stA.moved hv2 h4, stA.moved hv2 h5, stA.moved hv2 h6, stA.moved hv2 h7⟩
  · obtain ⟨h1, h2, h3, h4, h5, h6, h7⟩ := h
    exact ⟨h1, h2, h3.narrow hAB, h4.narrow hAB, h5.narrow hAB, h6.narrow hAB, h7.narrow hAB⟩
section KST
variable {p : Program} {l : Launch} {e : Env} {R : Room} {s : State} {m : MethodId} {args : Array Value} {below : List Frame} {meth : Method} {c : Code} {H : Heap} {locs : List Loc} {cells slots : Nat} {Q : State → Prop}
variable {cc : ByteArray} {pc : Nat} {ls : Array Slot} {rest : List Value} {A : Nat → Prop} {t N : Nat} {f : Int → Int}
theorem k_tald (hexec : p.tables.exec = Jvm.exec) (hb : c.code = cc) (hT : va_T .int t N (fun j => .int (aI f j)) A s s.heap) (hS : va_S A s.heap H locs) {i : Int} (hi : 0 ≤ i ∧ i < (N : Int) ∧ (N : Int) ≤ 2147483647) (hdg : decode cc pc = .ok (.iaload, 1))
    (kk : W p l e R s m args below meth c H locs cells slots Q (F0 m (pc + 1) ls (.int (iI (f i)) :: rest))) : W p l e R s m args below meth c H locs cells slots Q (F0 m pc ls (.int (iI i) :: .ref t :: rest)) :=
  va_ti hexec hb hT hS (vp_iI hi) (v := .int (iI (f i))) (by rw [aI_get hi.1 (by omega)]) hdg kk
theorem k_tlen (hexec : p.tables.exec = Jvm.exec) (hb : c.code = cc) (hT : va_T .int t N (fun j => .int (aI f j)) A s s.heap) (hS : va_S A s.heap H locs) (z : Int) (hz : (N : Int) = z) (hdg : decode cc pc = .ok (.arraylength, 1))
    (kk : W p l e R s m args below meth c H locs cells slots Q (F0 m (pc + 1) ls (.int (iI z) :: rest))) : W p l e R s m args below meth c H locs cells slots Q (F0 m pc ls (.ref t :: rest)) :=
  va_tlen hexec hb hT hS (v := iI z) (by rw [← hz]; exact (iI_nat N)) hdg kk
end KST
/-! the reference's world: R 0 the whole numbers of the object, R 1 m, R 2 saved, R 3 text, R 4 costs, R 5 starOf, R 6 trailOf, R 7 numbers, R 8 0 the hash -/
def rfW (cy : Nat → ClassId) (a : Nat → Nat) (R : Nat → Int → Int) : va_W := [
  (a 0, .inr (6, [.ref (a 1), .ref (a 2), .int (iI (R 0 2)), .ref (a 3), .int (iI (R 0 4)), .int (iI (R 0 5)), .int (iI (R 0 6)), .int (iI (R 0 7)), .int (iI (R 0 8)), .int (iI (R 0 9)), .ref (a 4), .ref (a 5), .ref (a 6), .int (iI (R 0 13)), .int (iI (R 0 14)), .int (iI (R 0 15)), .int (iI (R 0 16)), .ref (a 7), .long (lI (R 8 0))])),
  (a 1, .inl (cy 0, 494, .inl (aI (R 1)))), (a 2, .inl (cy 0, 1976, .inl (aI (R 2)))), (a 3, .inl (cy 0, 150, .inl (aI (R 3)))), (a 4, .inl (cy 0, 144, .inl (aI (R 4)))), (a 5, .inl (cy 0, 12, .inl (aI (R 5)))), (a 6, .inl (cy 0, 12, .inl (aI (R 6)))), (a 7, .inl (cy 0, 4, .inl (aI (R 7))))]
theorem rfW_D {cy : Nat → ClassId} {a : Nat → Nat} {R R' : Nat → Int → Int} {A : Nat → Prop} (h : va_D A (rfW cy a R)) : va_D A (rfW cy a R') := k_addr h rfl
/-! a plate's world: P 0 trails, stars, poleX, poleY; P 1 points, P 2 frames, P 3 xs, P 4 ys, P 5 radii, P 6 angles, P 7 lights, P 8 settings -/
def plW (cy : Nat → ClassId) (a : Nat → Nat) (P : Nat → Int → Int) : va_W := [
  (a 0, .inr (3, [.int (iI (P 0 0)), .int (iI (P 0 1)), .int (iI (P 0 2)), .int (iI (P 0 3)), .ref (a 1), .ref (a 2), .ref (a 3), .ref (a 4), .ref (a 5), .ref (a 6), .ref (a 7), .ref (a 8)])),
  (a 1, .inl (cy 0, 12, .inl (aI (P 1)))), (a 2, .inl (cy 0, 144, .inl (aI (P 2)))), (a 3, .inl (cy 0, 144, .inl (aI (P 3)))), (a 4, .inl (cy 0, 144, .inl (aI (P 4)))), (a 5, .inl (cy 0, 12, .inl (aI (P 5)))), (a 6, .inl (cy 0, 12, .inl (aI (P 6)))), (a 7, .inl (cy 0, 12, .inl (aI (P 7)))), (a 8, .inl (cy 0, 10, .inl (aI (P 8))))]
theorem plW_D {cy : Nat → ClassId} {a : Nat → Nat} {P P' : Nat → Int → Int} {A : Nat → Prop} (h : va_D A (plW cy a P)) : va_D A (plW cy a P') := k_addr h rfl
/-! behind a call on a part of the world: each cell is the callee's, or as it was -/
def k_sel (ws w1 : va_W) : Nat → List (Option Nat) → List (Option (Nat × va_E))
  | _, [] => []
  | k, some j :: r => w1[j]? :: k_sel ws w1 (k + 1) r
  | k, none :: r => ws[k]? :: k_sel ws w1 (k + 1) r
def k_jok (isC : List Nat) : Nat → List (Option Nat) → Bool
  | _, [] => true
  | k, some _ :: r => k_jok isC (k + 1) r
  | k, none :: r => !(isC.contains k) && k_jok isC (k + 1) r
theorem k_sel_at {ws w1 : va_W} {isC : List Nat} {q : Nat × va_E} : ∀ (js : List (Option Nat)) (k0 k : Nat), (k_sel ws w1 k0 js)[k]? = some (some q) → k_jok isC k0 js = true → (∃ j : Nat, w1[j]? = some q) ∨ (∃ i : Nat, ws[i]? = some q ∧ i ∉ isC)
  | [], k0, k, h, _ => by simp [k_sel] at h
  | some j :: r, k0, 0, h, _ => by
    simp only [k_sel, List.getElem?_cons_zero] at h
    exact Or.inl ⟨j, Option.some.inj h⟩
  | none :: r, k0, 0, h, hj => by
    simp only [k_sel, List.getElem?_cons_zero] at h
    simp only [k_jok, Bool.and_eq_true, Bool.not_eq_true', List.contains_eq_mem, decide_eq_false_iff_not] at hj
    exact Or.inr ⟨k0, Option.some.inj h, hj.1⟩
  | some j :: r, k0, k + 1, h, hj => by
    simp only [k_sel, List.getElem?_cons_succ] at h
    exact k_sel_at r (k0 + 1) k h hj
  | none :: r, k0, k + 1, h, hj => by
    simp only [k_sel, List.getElem?_cons_succ] at h
    simp only [k_jok, Bool.and_eq_true] at hj
    exact k_sel_at r (k0 + 1) k h hj.2
theorem k_join {A0 : Nat → Prop} {D : va_G} {cl : List vw_C} {ws wc w1 ws' : va_W} {H H1 : Heap} (hP : va_P D cl ws H) (hD : va_D A0 ws) (isC : List Nat) (js : List (Option Nat)) (hC : isC.map (fun i => ws[i]?) = wc.map some)
    (hk : ∀ q : Nat, q < H.size → ¬ va_A wc H.size q → H1[q]? = H[q]?) (hP1 : va_P D cl w1 H1) (hn : k_sel ws w1 0 js = ws'.map some) (hj : k_jok isC 0 js = true) : va_P D cl ws' H1 := by
  intro k q hq
  have h1 : (k_sel ws w1 0 js)[k]? = some (some q) := by rw [hn, List.getElem?_map, hq]; rfl
  rcases k_sel_at js 0 k h1 hj with ⟨j, h⟩ | ⟨i, h, hi⟩
  · exact hP1 j q h
  · have hl := (hP i q h).lt
    refine (hP i q h).kept (hk q.1 hl ?_)
    rintro (⟨k2, e, h2⟩ | h2)
    · have h3 : (isC.map (fun i => ws[i]?))[k2]? = some (some (q.1, e)) := by rw [hC, List.getElem?_map, h2]; rfl
      rw [List.getElem?_map] at h3
      cases hi2 : isC[k2]? with
      | none => rw [hi2] at h3; cases h3
      | some i2 =>
        rw [hi2] at h3
        have h4 : ws[i2]? = some (q.1, e) := Option.some.inj h3
        have h5 := hD.1 i i2 q (q.1, e) h h4 rfl
        subst h5
        exact hi (List.mem_of_getElem? hi2)
    · omega
