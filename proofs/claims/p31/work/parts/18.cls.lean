/-! the class: division to minus infinity, roots by pairs of digits -/
theorem tdiv_spec {a b : Int} (hb : 0 < b) : (0 ≤ a → Int.tdiv a b = a / b) ∧ (a < 0 → (Int.tdiv a b * b = a ∧ Int.tdiv a b = a / b) ∨ (Int.tdiv a b * b ≠ a ∧ Int.tdiv a b = a / b + 1)) ∧ (a < 0 → (a ≤ Int.tdiv a b * b ∧ Int.tdiv a b * b < a + b) ∧ Int.tdiv a b * b ≤ 0) := by
  refine ⟨fun h => Int.tdiv_eq_ediv_of_nonneg h, fun h => ?_, fun h => ?_⟩
  · have e : Int.tdiv a b = -((-a) / b) := by
      have := Int.neg_tdiv (a := -a) (b := b)
      rw [Int.neg_neg] at this
      rw [this, Int.tdiv_eq_ediv_of_nonneg (by omega)]
    obtain ⟨h1, h2⟩ := div_spec (a := -a) hb
    obtain ⟨h3, h4⟩ := div_spec (a := a) hb
    rw [e, Int.neg_mul]
    by_cases z : (-a) / b * b = -a
    · refine Or.inl ⟨by omega, ?_⟩
      exact (div_uniq hb (by rw [Int.neg_mul]; omega) (by rw [Int.neg_mul]; omega)).symm
    · refine Or.inr ⟨by omega, ?_⟩
      have := div_uniq (a := a) (q := -((-a) / b) - 1) hb (by rw [Int.sub_mul, Int.neg_mul]; omega) (by rw [Int.sub_mul, Int.neg_mul]; omega)
      omega
  · have e : Int.tdiv a b = -((-a) / b) := by
      have := Int.neg_tdiv (a := -a) (b := b)
      rw [Int.neg_neg] at this
      rw [this, Int.tdiv_eq_ediv_of_nonneg (by omega)]
    obtain ⟨h1, h2⟩ := div_spec (a := -a) hb
    have h3 : 0 ≤ (-a) / b := Int.ediv_nonneg (by omega) (by omega)
    have h4 : 0 ≤ (-a) / b * b := Int.mul_nonneg h3 (by omega)
    rw [e, Int.neg_mul]
    omega
theorem tmod_spec {a b : Int} (hb : 0 < b) : (0 ≤ a → Int.tmod a b = a % b) ∧ (a < 0 → (Int.tmod a b = 0 ∧ a % b = 0) ∨ (Int.tmod a b ≠ 0 ∧ Int.tmod a b + b = a % b)) ∧ (-b < Int.tmod a b ∧ Int.tmod a b < b) := by
  have h1 : Int.tmod a b = a - b * Int.tdiv a b := Int.tmod_def a b
  have h2 : a % b = a - b * (a / b) := Int.emod_def a b
  have h3 := Int.emod_nonneg a (show b ≠ 0 by omega)
  have h4 := Int.emod_lt_of_pos a hb
  have h5 := tdiv_spec (a := a) hb
  rw [Int.mul_comm] at h1
  refine ⟨fun h => Int.tmod_eq_emod_of_nonneg h, fun h => ?_, ?_⟩
  · rcases h5.2.1 h with ⟨q1, q2⟩ | ⟨q1, q2⟩
    · refine Or.inl ⟨by omega, ?_⟩
      rw [h2, Int.mul_comm, ← q2, q1]
      omega
    · refine Or.inr ⟨by omega, ?_⟩
      rw [h1, h2, q2, Int.add_mul, Int.mul_comm b]
      omega
  · rcases Int.lt_or_le a 0 with h | h
    · have h6 := h5.2.2 h
      rcases h5.2.1 h with ⟨q1, q2⟩ | ⟨q1, q2⟩
      · omega
      · have e : Int.tdiv a b * b = b * (a / b) + b := by rw [q2, Int.add_mul, Int.mul_comm]; omega
        omega
    · have e := h5.1 h
      have e2 : Int.tdiv a b * b = b * (a / b) := by rw [e, Int.mul_comm]
      omega
theorem rs_pow (i : Nat) : (4 : Int) ^ i = 2 ^ i * 2 ^ i := by rw [show (4 : Int) = 2 * 2 by decide, Int.mul_pow]
theorem rs_dig (i : Nat) : (1 : Int) * 2 ^ (2 * ((i + 1 : Nat) : Int) - 2).toNat = 4 ^ i := by
  rw [show (2 * ((i + 1 : Nat) : Int) - 2).toNat = i + i by omega, Int.pow_add, Int.one_mul, rs_pow]
theorem rs_half (r : Int) (i : Nat) : r * 4 ^ (i + 1) / 2 = 2 * r * 4 ^ i := by
  have e : r * 4 ^ (i + 1) = (2 * r * 4 ^ i) * 2 := by
    rw [Int.pow_succ]
    simp only [Int.mul_comm, Int.mul_left_comm, Int.mul_assoc]
    congr 1
    omega
  rw [e]
  exact Int.mul_ediv_cancel _ (by decide)
theorem rs_A (r : Int) (i : Nat) : 2 * r * 2 ^ i = r * 2 ^ (i + 1) := by
  rw [Int.pow_succ]
  simp only [Int.mul_comm, Int.mul_left_comm, Int.mul_assoc]
theorem rs_sq (r : Int) (i : Nat) : (2 * r + 1) * 2 ^ i * ((2 * r + 1) * 2 ^ i) = r * 2 ^ (i + 1) * (r * 2 ^ (i + 1)) + (r * 4 ^ (i + 1) + 4 ^ i) := by
  rw [← rs_A, rs_pow, rs_pow, Int.pow_succ]
  generalize (2 : Int) ^ i = p
  have e1 : (2 * r + 1) * p = 2 * r * p + p := by rw [Int.add_mul, Int.one_mul]
  have e2 : (2 * r * p + p) * (2 * r * p + p) = 2 * r * p * (2 * r * p) + (2 * (2 * r * p * p) + p * p) := by
    rw [Int.add_mul, Int.mul_add, Int.mul_add]
    have : p * (2 * r * p) = 2 * r * p * p := Int.mul_comm _ _
    omega
  have e3 : r * (p * 2 * (p * 2)) = 2 * (2 * r * p * p) := by
    simp only [Int.mul_comm, Int.mul_left_comm, Int.mul_assoc]
  rw [e1, e2, e3]
theorem rs_bd {n r : Int} {i : Nat} (hi : i + 1 ≤ 16) (h0 : 0 ≤ r) (h1 : r * 2 ^ (i + 1) * (r * 2 ^ (i + 1)) ≤ n) (hn : n ≤ 200000000) : (0 ≤ r * 4 ^ (i + 1) ∧ r * 4 ^ (i + 1) ≤ 930000000) ∧ ((0 : Int) < 4 ^ i ∧ (4 : Int) ^ i ≤ 1073741824) ∧ 0 ≤ r * 2 ^ (i + 1) * (r * 2 ^ (i + 1)) := by
  have hp : ∀ k : Nat, k < 17 → (0 : Int) < 2 ^ k ∧ (2 : Int) ^ k ≤ 65536 := by decide +kernel
  have hq : ∀ k : Nat, k < 16 → (0 : Int) < 4 ^ k ∧ (4 : Int) ^ k ≤ 1073741824 := by decide +kernel
  have p1 := hp (i + 1) (by omega)
  have hA0 : 0 ≤ r * 2 ^ (i + 1) := Int.mul_nonneg h0 (by omega)
  have hA : r * 2 ^ (i + 1) ≤ 14190 := by
    rcases Int.lt_or_le 14190 (r * 2 ^ (i + 1)) with z | z
    · have := Int.mul_le_mul (show (14190 : Int) ≤ r * 2 ^ (i + 1) by omega) (show (14190 : Int) ≤ r * 2 ^ (i + 1) by omega) (by decide) hA0
      omega
    · exact z
  have e : r * 4 ^ (i + 1) = r * 2 ^ (i + 1) * 2 ^ (i + 1) := by rw [rs_pow, Int.mul_assoc]
  have b : r * 2 ^ (i + 1) * 2 ^ (i + 1) ≤ 14190 * 65536 := Int.mul_le_mul hA p1.2 (by omega) (by decide)
  have b0 : 0 ≤ r * 2 ^ (i + 1) * 2 ^ (i + 1) := Int.mul_nonneg hA0 (by omega)
  refine ⟨by rw [e]; omega, hq i (by omega), Int.mul_nonneg hA0 hA0⟩
theorem rs_in {n r : Int} {i : Nat} (h2 : n < (r * 2 ^ (i + 1) + 2 ^ (i + 1)) * (r * 2 ^ (i + 1) + 2 ^ (i + 1))) : n < ((2 * r + 1) * 2 ^ i + 2 ^ i) * ((2 * r + 1) * 2 ^ i + 2 ^ i) := by
  have e : (2 * r + 1) * 2 ^ i + 2 ^ i = r * 2 ^ (i + 1) + 2 ^ (i + 1) := by
    rw [Int.add_mul, rs_A, Int.one_mul, Int.pow_succ]
    omega
  rw [e]
  exact h2
theorem rs_out {n r : Int} {i : Nat} (h : n < (2 * r + 1) * 2 ^ i * ((2 * r + 1) * 2 ^ i)) : n < (2 * r * 2 ^ i + 2 ^ i) * (2 * r * 2 ^ i + 2 ^ i) := by
  have e : 2 * r * 2 ^ i + 2 ^ i = (2 * r + 1) * 2 ^ i := by rw [Int.add_mul, Int.one_mul]
  rw [e]
  exact h
/-! methods of a class that the machine has rows of its own for, but none for these -/
theorem k_ofWF {l : Launch} {y : MethodName} {ws ws' : List Cond} {rm : Room} {Pc : Array Value → State → Prop} {Qc : Array Value → State → Outcome → State → Prop} {mc ms : Nat} {free : Addr → Prop} {cc : ByteArray} {maxL : Nat} {ret : Option FieldType}
    (hy : plainFor y = true) (hw : ws = Cond.code y cc maxL ret :: ws')
    (body : ∀ p e s m args below meth c s₁, BodyLoose p l y (headSpec ws rm) cc maxL ret e s m args below meth c s₁ → c.maxLocals = maxL → Pc args s →
      W p l e (headSpec ws rm).room s m args below meth c s.heap [] 0 0 (MQ below Qc args s mc ms free) (entryFrame m args maxL)) : Met l y ws rm Pc Qc mc ms free := by
  refine MetFree.of_bodySF (code := cc) (maxLocals := maxL) (ret := ret) hy ?_ ?_
  · intro args s m h hn
    obtain ⟨meth, c, h1, h2, h3, h4, h5, h6, -, -⟩ := Cond.code_spec hn (atoms_spec (ws := ws) h _ (by rw [hw]; exact List.mem_cons_self))
    exact ⟨meth, c, h1, h2, h3, h4, h5, h6⟩
  · intro p e s m args below meth c s₁ B hml hP _
    have hh0 : s₁.heap = s.heap := by rw [B.state]; rfl
    obtain ⟨t, a1, o, b1, b2, b3⟩ := body p e s m args below meth c s₁ B hml hP s₁ hh0 (Stand.of_body B)
    exact ⟨t, o, a1, b1, b2, ⟨b3.1, b3.2⟩⟩
theorem kRO_startF {l : Launch} {y : MethodName} {wsy ws' : List Cond} {rm : Room} {G : (Nat → Prop) → State → Heap → Prop} {D : va_G} {ws : va_W} {av : List Value} {cc : ByteArray} {maxL : Nat} {ret : Option FieldType} {Qc : Array Value → State → Outcome → State → Prop} (hy : plainFor y = true) (hw : wsy = Cond.code y cc maxL ret :: ws') (hlen : (lg_sl av).length ≤ maxL)
    (body : ∀ (p : Program) (e : Env) (s : State) (m : MethodId) (below : List Frame) (meth : Method) (c : Code), p.tables.exec = Jvm.exec → c.code = cc → meth.sig.returnType = ret → meth.locks = false → c.maxLocals = maxL → (∀ w ∈ wsy, w.before av.toArray s = true) → s.vm.findClass y.cls = some m.cls → G (fun _ => False) s s.heap → va_P D vwCl ws s.heap → ∀ ls : Array Slot, lv_has ls maxL (lv_args 0 av) → W p l e rm s m av.toArray below meth c s.heap [] 0 0 (MQ below Qc av.toArray s 0 0 (fun _ => False)) (F0 m 0 ls [])) :
    Met l y wsy rm (kPre G D ws av) Qc 0 0 (fun _ => False) := by
  refine k_ofWF hy hw ?_
  intro p e s m args below meth c s₁ B hml hv
  obtain ⟨rfl, hG, hP⟩ := hv
  have hl := lv_entry av (n := maxL) hlen
  have hb := body p e s m below meth c B.exec B.bytes B.returns B.notSynchronized hml (atoms_spec (ws := wsy) B.pre) (findClass_of_methodNamed B.named) hG hP _ hl
  rw [lg_entry_eq]
  exact hb
