/-! texts of commands: T the bytes, n their number -/
noncomputable def runI (Q : Int → Prop) (n : Int) : Nat → Int → Int
  | 0, q => q
  | f + 1, q => @ite _ (q < n ∧ Q q) (Classical.propDecidable _) (runI Q n f (q + 1)) q
noncomputable def run (Q : Int → Prop) (n q : Int) : Int := runI Q n (n - q).toNat q
theorem run_y {Q : Int → Prop} {n q : Int} (h : q < n) (hq : Q q) : run Q n q = run Q n (q + 1) := by
  obtain ⟨m, hm⟩ : ∃ m : Nat, (n - q).toNat = m + 1 := ⟨(n - q).toNat - 1, by omega⟩
  unfold run
  rw [hm, show (n - (q + 1)).toNat = m by omega]
  conv => lhs; unfold runI
  rw [if_pos ⟨h, hq⟩]
theorem run_n {Q : Int → Prop} {n q : Int} (h : ¬ (q < n ∧ Q q)) : run Q n q = q := by
  unfold run
  cases (n - q).toNat with
  | zero => rfl
  | succ m =>
    unfold runI
    rw [if_neg h]
theorem run_bd {Q : Int → Prop} {n : Int} : ∀ (m : Nat) (q : Int), (n - q).toNat = m → q ≤ run Q n q ∧ (q ≤ n → run Q n q ≤ n) ∧ ¬ (run Q n q < n ∧ Q (run Q n q)) ∧ ∀ k : Int, q ≤ k → k < run Q n q → Q k
  | 0, q, hm => by
    have h : ¬ (q < n ∧ Q q) := fun z => by omega
    rw [run_n h]
    exact ⟨Int.le_refl _, fun z => z, h, fun k a b => by omega⟩
  | m + 1, q, hm => by
    by_cases h : q < n ∧ Q q
    · rw [run_y h.1 h.2]
      obtain ⟨a, b, c, d⟩ := run_bd (Q := Q) (n := n) m (q + 1) (by omega)
      refine ⟨by omega, fun _ => b (by omega), c, fun k k0 k1 => ?_⟩
      by_cases e : k = q
      · rw [e]; exact h.2
      · exact d k (by omega) k1
    · rw [run_n h]
      exact ⟨Int.le_refl _, fun z => z, h, fun k a b => by omega⟩
noncomputable def skp (T : Int → Int) (n q : Int) : Int := run (fun k => T k = 32) n q
noncomputable def wre (T : Int → Int) (n q : Int) : Int := run (fun k => 97 ≤ T k ∧ T k ≤ 122) n q
theorem skp_bd (T : Int → Int) {n q : Int} (h : q ≤ n) : q ≤ skp T n q ∧ skp T n q ≤ n ∧ ¬ (skp T n q < n ∧ T (skp T n q) = 32) := by
  obtain ⟨a, b, c, _⟩ := run_bd (Q := fun k => T k = 32) (n := n) _ q rfl
  exact ⟨a, b h, c⟩
theorem wre_bd (T : Int → Int) {n q : Int} (h : q ≤ n) : q ≤ wre T n q ∧ wre T n q ≤ n ∧ ¬ (wre T n q < n ∧ 97 ≤ T (wre T n q) ∧ T (wre T n q) ≤ 122) ∧ ∀ k : Int, q ≤ k → k < wre T n q → 97 ≤ T k ∧ T k ≤ 122 := by
  obtain ⟨a, b, c, d⟩ := run_bd (Q := fun k => 97 ≤ T k ∧ T k ≤ 122) (n := n) _ q rfl
  exact ⟨a, b h, c, d⟩
theorem skp_y {T : Int → Int} {n q : Int} (h : q < n) (hq : T q = 32) : skp T n q = skp T n (q + 1) := run_y (Q := fun k => T k = 32) h hq
theorem skp_n {T : Int → Int} {n q : Int} (h : ¬ (q < n ∧ T q = 32)) : skp T n q = q := run_n (Q := fun k => T k = 32) h
theorem wre_y {T : Int → Int} {n q : Int} (h : q < n) (hq : 97 ≤ T q ∧ T q ≤ 122) : wre T n q = wre T n (q + 1) := run_y (Q := fun k => 97 ≤ T k ∧ T k ≤ 122) h hq
theorem wre_n {T : Int → Int} {n q : Int} (h : ¬ (q < n ∧ 97 ≤ T q ∧ T q ≤ 122)) : wre T n q = q := run_n (Q := fun k => 97 ≤ T k ∧ T k ≤ 122) h
/-- up to f digits: where they end, their value behind v -/
def dgI (T : Int → Int) (n : Int) : Nat → Int → Int → Int × Int
  | 0, q, v => (q, v)
  | f + 1, q, v => if q < n ∧ 48 ≤ T q ∧ T q ≤ 57 then dgI T n f (q + 1) (10 * v + T q - 48) else (q, v)
def dgF (T : Int → Int) (n q : Int) : Int × Int := dgI T n 6 q 0
theorem dgI_bd (T : Int → Int) (n : Int) : ∀ (f : Nat) (q v b : Int), 0 ≤ v → v ≤ b → q ≤ n → (q ≤ (dgI T n f q v).1 ∧ (dgI T n f q v).1 ≤ n ∧ (dgI T n f q v).1 ≤ q + f) ∧ (0 ≤ (dgI T n f q v).2 ∧ (dgI T n f q v).2 ≤ (b + 1) * 10 ^ f - 1)
  | 0, q, v, b, h0, h1, h2 => by
    show (q ≤ q ∧ q ≤ n ∧ q ≤ q + ((0 : Nat) : Int)) ∧ (0 ≤ v ∧ v ≤ (b + 1) * 10 ^ 0 - 1)
    rw [Int.pow_zero, Int.mul_one]
    omega
  | f + 1, q, v, b, h0, h1, h2 => by
    unfold dgI
    split
    · next h =>
      have ih := dgI_bd T n f (q + 1) (10 * v + T q - 48) (10 * b + 9) (by omega) (by omega) (by omega)
      have e : (10 * b + 9 + 1) * 10 ^ f = (b + 1) * 10 ^ (f + 1) := by
        rw [Int.pow_succ, show 10 * b + 9 + 1 = (b + 1) * 10 by omega, Int.mul_assoc, Int.mul_comm 10]
      rw [e] at ih
      omega
    · have hp : (1 : Int) ≤ 10 ^ (f + 1) := Int.add_one_le_of_lt (Int.pow_pos (by decide))
      have : (b + 1) * 1 ≤ (b + 1) * 10 ^ (f + 1) := Int.mul_le_mul_of_nonneg_left hp (by omega)
      show (q ≤ q ∧ q ≤ n ∧ q ≤ q + ((f + 1 : Nat) : Int)) ∧ (0 ≤ v ∧ v ≤ (b + 1) * 10 ^ (f + 1) - 1)
      omega
theorem dgF_bd (T : Int → Int) {n q : Int} (h : q ≤ n) : (q ≤ (dgF T n q).1 ∧ (dgF T n q).1 ≤ n ∧ (dgF T n q).1 ≤ q + 6) ∧ (0 ≤ (dgF T n q).2 ∧ (dgF T n q).2 ≤ 999999) := by
  have a := dgI_bd T n 6 q 0 0 (by omega) (by omega) h
  have e : ((0 : Int) + 1) * 10 ^ 6 - 1 = 999999 := by decide
  rw [e] at a
  exact a
/-- words -/
def wdL : Int → List Int := fun k => if k = 0 then [116, 114, 97, 105, 108] else if k = 1 then [112, 111, 105, 110, 116] else if k = 2 then [115, 116, 97, 114] else if k = 3 then [112, 111, 108, 101] else if k = 4 then [115, 101, 116] else if k = 5 then [98, 97, 99, 107] else [115, 101, 97, 114, 99, 104]
def isWd (T : Int → Int) (s e : Int) (w : List Int) : Prop := e - s = (w.length : Int) ∧ ∀ i : Nat, i < w.length → T (s + i) = w.getD i 0
noncomputable def kindW (T : Int → Int) (s e : Int) : Int :=
  @ite _ (isWd T s e (wdL 0)) (Classical.propDecidable _) 0 (@ite _ (isWd T s e (wdL 1)) (Classical.propDecidable _) 1 (@ite _ (isWd T s e (wdL 2)) (Classical.propDecidable _) 2 (@ite _ (isWd T s e (wdL 3)) (Classical.propDecidable _) 3 (@ite _ (isWd T s e (wdL 4)) (Classical.propDecidable _) 4 (@ite _ (isWd T s e (wdL 5)) (Classical.propDecidable _) 5 (@ite _ (isWd T s e (wdL 6)) (Classical.propDecidable _) 6 (-1000000000)))))))
theorem kindW_rg (T : Int → Int) (s e : Int) : kindW T s e = -1000000000 ∨ (0 ≤ kindW T s e ∧ kindW T s e ≤ 6) := by
  unfold kindW
  (repeat' split) <;> omega
def cmdN (v : Int) : Int := if v = 10984098 then 0 else if v = 8805260 then 1 else if v = 388602 then 2 else if v = 326192 then 3 else if v = 14006 then 4 else if v = 40187 then 5 else if v = 275319332 then 6 else -1000000000
def wnI (T : Int → Int) (s : Int) : Nat → Int
  | 0 => 0
  | k + 1 => if k < 7 then wnI T s k * 27 + T (s + k) - 96 else -1
def wcI (T : Int → Int) (s e : Int) : Int := if e - s > 6 then -1000000000 else cmdN (wnI T s (e - s).toNat)
theorem wnI_bd {T : Int → Int} {s : Int} : ∀ k : Nat, (∀ i : Nat, i < k → 97 ≤ T (s + i) ∧ T (s + i) ≤ 122) → -1 ≤ wnI T s k ∧ wnI T s k ≤ 12000000000
  | 0, _ => by show (-1 : Int) ≤ 0 ∧ (0 : Int) ≤ 12000000000; decide
  | 1, h => by have a := h 0 (by omega); show -1 ≤ (0 : Int) * 27 + T (s + (0 : Nat)) - 96 ∧ (0 : Int) * 27 + T (s + (0 : Nat)) - 96 ≤ 12000000000; omega
  | 2, h => by
    have a := h 0 (by omega); have b := h 1 (by omega)
    show -1 ≤ ((0 : Int) * 27 + T (s + (0 : Nat)) - 96) * 27 + T (s + (1 : Nat)) - 96 ∧ ((0 : Int) * 27 + T (s + (0 : Nat)) - 96) * 27 + T (s + (1 : Nat)) - 96 ≤ 12000000000
    omega
  | 3, h => by
    have a := h 0 (by omega); have b := h 1 (by omega); have c := h 2 (by omega)
    show -1 ≤ (((0 : Int) * 27 + T (s + (0 : Nat)) - 96) * 27 + T (s + (1 : Nat)) - 96) * 27 + T (s + (2 : Nat)) - 96 ∧ (((0 : Int) * 27 + T (s + (0 : Nat)) - 96) * 27 + T (s + (1 : Nat)) - 96) * 27 + T (s + (2 : Nat)) - 96 ≤ 12000000000
    omega
  | 4, h => by
    have a := h 0 (by omega); have b := h 1 (by omega); have c := h 2 (by omega); have d := h 3 (by omega)
    show -1 ≤ ((((0 : Int) * 27 + T (s + (0 : Nat)) - 96) * 27 + T (s + (1 : Nat)) - 96) * 27 + T (s + (2 : Nat)) - 96) * 27 + T (s + (3 : Nat)) - 96 ∧ ((((0 : Int) * 27 + T (s + (0 : Nat)) - 96) * 27 + T (s + (1 : Nat)) - 96) * 27 + T (s + (2 : Nat)) - 96) * 27 + T (s + (3 : Nat)) - 96 ≤ 12000000000
    omega
  | 5, h => by
    have a := h 0 (by omega); have b := h 1 (by omega); have c := h 2 (by omega); have d := h 3 (by omega); have e := h 4 (by omega)
    show -1 ≤ (((((0 : Int) * 27 + T (s + (0 : Nat)) - 96) * 27 + T (s + (1 : Nat)) - 96) * 27 + T (s + (2 : Nat)) - 96) * 27 + T (s + (3 : Nat)) - 96) * 27 + T (s + (4 : Nat)) - 96 ∧ (((((0 : Int) * 27 + T (s + (0 : Nat)) - 96) * 27 + T (s + (1 : Nat)) - 96) * 27 + T (s + (2 : Nat)) - 96) * 27 + T (s + (3 : Nat)) - 96) * 27 + T (s + (4 : Nat)) - 96 ≤ 12000000000
    omega
  | 6, h => by
    have a := h 0 (by omega); have b := h 1 (by omega); have c := h 2 (by omega); have d := h 3 (by omega); have e := h 4 (by omega); have f := h 5 (by omega)
    show -1 ≤ ((((((0 : Int) * 27 + T (s + (0 : Nat)) - 96) * 27 + T (s + (1 : Nat)) - 96) * 27 + T (s + (2 : Nat)) - 96) * 27 + T (s + (3 : Nat)) - 96) * 27 + T (s + (4 : Nat)) - 96) * 27 + T (s + (5 : Nat)) - 96 ∧ ((((((0 : Int) * 27 + T (s + (0 : Nat)) - 96) * 27 + T (s + (1 : Nat)) - 96) * 27 + T (s + (2 : Nat)) - 96) * 27 + T (s + (3 : Nat)) - 96) * 27 + T (s + (4 : Nat)) - 96) * 27 + T (s + (5 : Nat)) - 96 ≤ 12000000000
    omega
  | 7, h => by
    have a := h 0 (by omega); have b := h 1 (by omega); have c := h 2 (by omega); have d := h 3 (by omega); have e := h 4 (by omega); have f := h 5 (by omega); have g := h 6 (by omega)
    show -1 ≤ (((((((0 : Int) * 27 + T (s + (0 : Nat)) - 96) * 27 + T (s + (1 : Nat)) - 96) * 27 + T (s + (2 : Nat)) - 96) * 27 + T (s + (3 : Nat)) - 96) * 27 + T (s + (4 : Nat)) - 96) * 27 + T (s + (5 : Nat)) - 96) * 27 + T (s + (6 : Nat)) - 96 ∧ (((((((0 : Int) * 27 + T (s + (0 : Nat)) - 96) * 27 + T (s + (1 : Nat)) - 96) * 27 + T (s + (2 : Nat)) - 96) * 27 + T (s + (3 : Nat)) - 96) * 27 + T (s + (4 : Nat)) - 96) * 27 + T (s + (5 : Nat)) - 96) * 27 + T (s + (6 : Nat)) - 96 ≤ 12000000000
    omega
  | k + 8, _ => by
    show -1 ≤ (if k + 7 < 7 then wnI T s (k + 7) * 27 + T (s + ((k + 7 : Nat) : Int)) - 96 else -1) ∧ (if k + 7 < 7 then wnI T s (k + 7) * 27 + T (s + ((k + 7 : Nat) : Int)) - 96 else -1) ≤ 12000000000
    rw [if_neg (by omega)]
    omega
theorem wk_0 {T : Int → Int} {s e : Int} (he : e - s = 0)  : (wnI T s 0 = 10984098 ↔ isWd T s e (wdL 0)) ∧ (wnI T s 0 = 8805260 ↔ isWd T s e (wdL 1)) ∧ (wnI T s 0 = 388602 ↔ isWd T s e (wdL 2)) ∧ (wnI T s 0 = 326192 ↔ isWd T s e (wdL 3)) ∧ (wnI T s 0 = 14006 ↔ isWd T s e (wdL 4)) ∧ (wnI T s 0 = 40187 ↔ isWd T s e (wdL 5)) ∧ (wnI T s 0 = 275319332 ↔ isWd T s e (wdL 6)) := by
  have E : wnI T s 0 = (0 : Int) := rfl
  refine ⟨?_, ?_, ?_, ?_, ?_, ?_, ?_⟩
  · constructor
    · intro h; exfalso; omega
    · rintro ⟨h, _⟩; exfalso; have h2 : e - s = 5 := h; omega
  · constructor
    · intro h; exfalso; omega
    · rintro ⟨h, _⟩; exfalso; have h2 : e - s = 5 := h; omega
  · constructor
    · intro h; exfalso; omega
    · rintro ⟨h, _⟩; exfalso; have h2 : e - s = 4 := h; omega
  · constructor
    · intro h; exfalso; omega
    · rintro ⟨h, _⟩; exfalso; have h2 : e - s = 4 := h; omega
  · constructor
    · intro h; exfalso; omega
    · rintro ⟨h, _⟩; exfalso; have h2 : e - s = 3 := h; omega
  · constructor
    · intro h; exfalso; omega
    · rintro ⟨h, _⟩; exfalso; have h2 : e - s = 4 := h; omega
  · constructor
    · intro h; exfalso; omega
    · rintro ⟨h, _⟩; exfalso; have h2 : e - s = 6 := h; omega
theorem wk_1 {T : Int → Int} {s e : Int} (he : e - s = 1) (h0 : 97 ≤ T (s + ((0 : Nat) : Int)) ∧ T (s + ((0 : Nat) : Int)) ≤ 122) : (wnI T s 1 = 10984098 ↔ isWd T s e (wdL 0)) ∧ (wnI T s 1 = 8805260 ↔ isWd T s e (wdL 1)) ∧ (wnI T s 1 = 388602 ↔ isWd T s e (wdL 2)) ∧ (wnI T s 1 = 326192 ↔ isWd T s e (wdL 3)) ∧ (wnI T s 1 = 14006 ↔ isWd T s e (wdL 4)) ∧ (wnI T s 1 = 40187 ↔ isWd T s e (wdL 5)) ∧ (wnI T s 1 = 275319332 ↔ isWd T s e (wdL 6)) := by
  have E : wnI T s 1 = ((0 : Int) * 27 + T (s + ((0 : Nat) : Int)) - 96) := rfl
  refine ⟨?_, ?_, ?_, ?_, ?_, ?_, ?_⟩
  · constructor
    · intro h; exfalso; omega
    · rintro ⟨h, _⟩; exfalso; have h2 : e - s = 5 := h; omega
  · constructor
    · intro h; exfalso; omega
    · rintro ⟨h, _⟩; exfalso; have h2 : e - s = 5 := h; omega
  · constructor
    · intro h; exfalso; omega
    · rintro ⟨h, _⟩; exfalso; have h2 : e - s = 4 := h; omega
  · constructor
    · intro h; exfalso; omega
    · rintro ⟨h, _⟩; exfalso; have h2 : e - s = 4 := h; omega
  · constructor
    · intro h; exfalso; omega
    · rintro ⟨h, _⟩; exfalso; have h2 : e - s = 3 := h; omega
  · constructor
    · intro h; exfalso; omega
    · rintro ⟨h, _⟩; exfalso; have h2 : e - s = 4 := h; omega
  · constructor
    · intro h; exfalso; omega
    · rintro ⟨h, _⟩; exfalso; have h2 : e - s = 6 := h; omega
theorem wk_2 {T : Int → Int} {s e : Int} (he : e - s = 2) (h0 : 97 ≤ T (s + ((0 : Nat) : Int)) ∧ T (s + ((0 : Nat) : Int)) ≤ 122) (h1 : 97 ≤ T (s + ((1 : Nat) : Int)) ∧ T (s + ((1 : Nat) : Int)) ≤ 122) : (wnI T s 2 = 10984098 ↔ isWd T s e (wdL 0)) ∧ (wnI T s 2 = 8805260 ↔ isWd T s e (wdL 1)) ∧ (wnI T s 2 = 388602 ↔ isWd T s e (wdL 2)) ∧ (wnI T s 2 = 326192 ↔ isWd T s e (wdL 3)) ∧ (wnI T s 2 = 14006 ↔ isWd T s e (wdL 4)) ∧ (wnI T s 2 = 40187 ↔ isWd T s e (wdL 5)) ∧ (wnI T s 2 = 275319332 ↔ isWd T s e (wdL 6)) := by
  have E : wnI T s 2 = (((0 : Int) * 27 + T (s + ((0 : Nat) : Int)) - 96) * 27 + T (s + ((1 : Nat) : Int)) - 96) := rfl
  refine ⟨?_, ?_, ?_, ?_, ?_, ?_, ?_⟩
  · constructor
    · intro h; exfalso; omega
    · rintro ⟨h, _⟩; exfalso; have h2 : e - s = 5 := h; omega
  · constructor
    · intro h; exfalso; omega
    · rintro ⟨h, _⟩; exfalso; have h2 : e - s = 5 := h; omega
  · constructor
    · intro h; exfalso; omega
    · rintro ⟨h, _⟩; exfalso; have h2 : e - s = 4 := h; omega
  · constructor
    · intro h; exfalso; omega
    · rintro ⟨h, _⟩; exfalso; have h2 : e - s = 4 := h; omega
  · constructor
    · intro h; exfalso; omega
    · rintro ⟨h, _⟩; exfalso; have h2 : e - s = 3 := h; omega
  · constructor
    · intro h; exfalso; omega
    · rintro ⟨h, _⟩; exfalso; have h2 : e - s = 4 := h; omega
  · constructor
    · intro h; exfalso; omega
    · rintro ⟨h, _⟩; exfalso; have h2 : e - s = 6 := h; omega
theorem wk_3 {T : Int → Int} {s e : Int} (he : e - s = 3) (h0 : 97 ≤ T (s + ((0 : Nat) : Int)) ∧ T (s + ((0 : Nat) : Int)) ≤ 122) (h1 : 97 ≤ T (s + ((1 : Nat) : Int)) ∧ T (s + ((1 : Nat) : Int)) ≤ 122) (h2 : 97 ≤ T (s + ((2 : Nat) : Int)) ∧ T (s + ((2 : Nat) : Int)) ≤ 122) : (wnI T s 3 = 10984098 ↔ isWd T s e (wdL 0)) ∧ (wnI T s 3 = 8805260 ↔ isWd T s e (wdL 1)) ∧ (wnI T s 3 = 388602 ↔ isWd T s e (wdL 2)) ∧ (wnI T s 3 = 326192 ↔ isWd T s e (wdL 3)) ∧ (wnI T s 3 = 14006 ↔ isWd T s e (wdL 4)) ∧ (wnI T s 3 = 40187 ↔ isWd T s e (wdL 5)) ∧ (wnI T s 3 = 275319332 ↔ isWd T s e (wdL 6)) := by
  have E : wnI T s 3 = ((((0 : Int) * 27 + T (s + ((0 : Nat) : Int)) - 96) * 27 + T (s + ((1 : Nat) : Int)) - 96) * 27 + T (s + ((2 : Nat) : Int)) - 96) := rfl
  refine ⟨?_, ?_, ?_, ?_, ?_, ?_, ?_⟩
  · constructor
    · intro h; exfalso; omega
    · rintro ⟨h, _⟩; exfalso; have h2 : e - s = 5 := h; omega
  · constructor
    · intro h; exfalso; omega
    · rintro ⟨h, _⟩; exfalso; have h2 : e - s = 5 := h; omega
  · constructor
    · intro h; exfalso; omega
    · rintro ⟨h, _⟩; exfalso; have h2 : e - s = 4 := h; omega
  · constructor
    · intro h; exfalso; omega
    · rintro ⟨h, _⟩; exfalso; have h2 : e - s = 4 := h; omega
  · constructor
    · intro h
      refine ⟨by show e - s = 3; omega, fun i hi => ?_⟩
      have hi2 : i < 3 := hi
      rcases (show i = 0 ∨ i = 1 ∨ i = 2 by omega) with q | q | q
      · subst q; show T (s + ((0 : Nat) : Int)) = 115; omega
      · subst q; show T (s + ((1 : Nat) : Int)) = 101; omega
      · subst q; show T (s + ((2 : Nat) : Int)) = 116; omega
    · rintro ⟨_, h⟩
      have g0 : T (s + ((0 : Nat) : Int)) = 115 := h 0 (by decide)
      have g1 : T (s + ((1 : Nat) : Int)) = 101 := h 1 (by decide)
      have g2 : T (s + ((2 : Nat) : Int)) = 116 := h 2 (by decide)
      omega
  · constructor
    · intro h; exfalso; omega
    · rintro ⟨h, _⟩; exfalso; have h2 : e - s = 4 := h; omega
  · constructor
    · intro h; exfalso; omega
    · rintro ⟨h, _⟩; exfalso; have h2 : e - s = 6 := h; omega
theorem wk_4 {T : Int → Int} {s e : Int} (he : e - s = 4) (h0 : 97 ≤ T (s + ((0 : Nat) : Int)) ∧ T (s + ((0 : Nat) : Int)) ≤ 122) (h1 : 97 ≤ T (s + ((1 : Nat) : Int)) ∧ T (s + ((1 : Nat) : Int)) ≤ 122) (h2 : 97 ≤ T (s + ((2 : Nat) : Int)) ∧ T (s + ((2 : Nat) : Int)) ≤ 122) (h3 : 97 ≤ T (s + ((3 : Nat) : Int)) ∧ T (s + ((3 : Nat) : Int)) ≤ 122) : (wnI T s 4 = 10984098 ↔ isWd T s e (wdL 0)) ∧ (wnI T s 4 = 8805260 ↔ isWd T s e (wdL 1)) ∧ (wnI T s 4 = 388602 ↔ isWd T s e (wdL 2)) ∧ (wnI T s 4 = 326192 ↔ isWd T s e (wdL 3)) ∧ (wnI T s 4 = 14006 ↔ isWd T s e (wdL 4)) ∧ (wnI T s 4 = 40187 ↔ isWd T s e (wdL 5)) ∧ (wnI T s 4 = 275319332 ↔ isWd T s e (wdL 6)) := by
  have E : wnI T s 4 = (((((0 : Int) * 27 + T (s + ((0 : Nat) : Int)) - 96) * 27 + T (s + ((1 : Nat) : Int)) - 96) * 27 + T (s + ((2 : Nat) : Int)) - 96) * 27 + T (s + ((3 : Nat) : Int)) - 96) := rfl
  refine ⟨?_, ?_, ?_, ?_, ?_, ?_, ?_⟩
  · constructor
    · intro h; exfalso; omega
    · rintro ⟨h, _⟩; exfalso; have h2 : e - s = 5 := h; omega
  · constructor
    · intro h; exfalso; omega
    · rintro ⟨h, _⟩; exfalso; have h2 : e - s = 5 := h; omega
  · constructor
    · intro h
      refine ⟨by show e - s = 4; omega, fun i hi => ?_⟩
      have hi2 : i < 4 := hi
      rcases (show i = 0 ∨ i = 1 ∨ i = 2 ∨ i = 3 by omega) with q | q | q | q
      · subst q; show T (s + ((0 : Nat) : Int)) = 115; omega
      · subst q; show T (s + ((1 : Nat) : Int)) = 116; omega
      · subst q; show T (s + ((2 : Nat) : Int)) = 97; omega
      · subst q; show T (s + ((3 : Nat) : Int)) = 114; omega
    · rintro ⟨_, h⟩
      have g0 : T (s + ((0 : Nat) : Int)) = 115 := h 0 (by decide)
      have g1 : T (s + ((1 : Nat) : Int)) = 116 := h 1 (by decide)
      have g2 : T (s + ((2 : Nat) : Int)) = 97 := h 2 (by decide)
      have g3 : T (s + ((3 : Nat) : Int)) = 114 := h 3 (by decide)
      omega
  · constructor
    · intro h
      refine ⟨by show e - s = 4; omega, fun i hi => ?_⟩
      have hi2 : i < 4 := hi
      rcases (show i = 0 ∨ i = 1 ∨ i = 2 ∨ i = 3 by omega) with q | q | q | q
      · subst q; show T (s + ((0 : Nat) : Int)) = 112; omega
      · subst q; show T (s + ((1 : Nat) : Int)) = 111; omega
      · subst q; show T (s + ((2 : Nat) : Int)) = 108; omega
      · subst q; show T (s + ((3 : Nat) : Int)) = 101; omega
    · rintro ⟨_, h⟩
      have g0 : T (s + ((0 : Nat) : Int)) = 112 := h 0 (by decide)
      have g1 : T (s + ((1 : Nat) : Int)) = 111 := h 1 (by decide)
      have g2 : T (s + ((2 : Nat) : Int)) = 108 := h 2 (by decide)
      have g3 : T (s + ((3 : Nat) : Int)) = 101 := h 3 (by decide)
      omega
  · constructor
    · intro h; exfalso; omega
    · rintro ⟨h, _⟩; exfalso; have h2 : e - s = 3 := h; omega
  · constructor
    · intro h
      refine ⟨by show e - s = 4; omega, fun i hi => ?_⟩
      have hi2 : i < 4 := hi
      rcases (show i = 0 ∨ i = 1 ∨ i = 2 ∨ i = 3 by omega) with q | q | q | q
      · subst q; show T (s + ((0 : Nat) : Int)) = 98; omega
      · subst q; show T (s + ((1 : Nat) : Int)) = 97; omega
      · subst q; show T (s + ((2 : Nat) : Int)) = 99; omega
      · subst q; show T (s + ((3 : Nat) : Int)) = 107; omega
    · rintro ⟨_, h⟩
      have g0 : T (s + ((0 : Nat) : Int)) = 98 := h 0 (by decide)
      have g1 : T (s + ((1 : Nat) : Int)) = 97 := h 1 (by decide)
      have g2 : T (s + ((2 : Nat) : Int)) = 99 := h 2 (by decide)
      have g3 : T (s + ((3 : Nat) : Int)) = 107 := h 3 (by decide)
      omega
  · constructor
    · intro h; exfalso; omega
    · rintro ⟨h, _⟩; exfalso; have h2 : e - s = 6 := h; omega
theorem wk_5 {T : Int → Int} {s e : Int} (he : e - s = 5) (h0 : 97 ≤ T (s + ((0 : Nat) : Int)) ∧ T (s + ((0 : Nat) : Int)) ≤ 122) (h1 : 97 ≤ T (s + ((1 : Nat) : Int)) ∧ T (s + ((1 : Nat) : Int)) ≤ 122) (h2 : 97 ≤ T (s + ((2 : Nat) : Int)) ∧ T (s + ((2 : Nat) : Int)) ≤ 122) (h3 : 97 ≤ T (s + ((3 : Nat) : Int)) ∧ T (s + ((3 : Nat) : Int)) ≤ 122) (h4 : 97 ≤ T (s + ((4 : Nat) : Int)) ∧ T (s + ((4 : Nat) : Int)) ≤ 122) : (wnI T s 5 = 10984098 ↔ isWd T s e (wdL 0)) ∧ (wnI T s 5 = 8805260 ↔ isWd T s e (wdL 1)) ∧ (wnI T s 5 = 388602 ↔ isWd T s e (wdL 2)) ∧ (wnI T s 5 = 326192 ↔ isWd T s e (wdL 3)) ∧ (wnI T s 5 = 14006 ↔ isWd T s e (wdL 4)) ∧ (wnI T s 5 = 40187 ↔ isWd T s e (wdL 5)) ∧ (wnI T s 5 = 275319332 ↔ isWd T s e (wdL 6)) := by
  have E : wnI T s 5 = ((((((0 : Int) * 27 + T (s + ((0 : Nat) : Int)) - 96) * 27 + T (s + ((1 : Nat) : Int)) - 96) * 27 + T (s + ((2 : Nat) : Int)) - 96) * 27 + T (s + ((3 : Nat) : Int)) - 96) * 27 + T (s + ((4 : Nat) : Int)) - 96) := rfl
  refine ⟨?_, ?_, ?_, ?_, ?_, ?_, ?_⟩
  · constructor
    · intro h
      refine ⟨by show e - s = 5; omega, fun i hi => ?_⟩
      have hi2 : i < 5 := hi
      rcases (show i = 0 ∨ i = 1 ∨ i = 2 ∨ i = 3 ∨ i = 4 by omega) with q | q | q | q | q
      · subst q; show T (s + ((0 : Nat) : Int)) = 116; omega
      · subst q; show T (s + ((1 : Nat) : Int)) = 114; omega
      · subst q; show T (s + ((2 : Nat) : Int)) = 97; omega
      · subst q; show T (s + ((3 : Nat) : Int)) = 105; omega
      · subst q; show T (s + ((4 : Nat) : Int)) = 108; omega
    · rintro ⟨_, h⟩
      have g0 : T (s + ((0 : Nat) : Int)) = 116 := h 0 (by decide)
      have g1 : T (s + ((1 : Nat) : Int)) = 114 := h 1 (by decide)
      have g2 : T (s + ((2 : Nat) : Int)) = 97 := h 2 (by decide)
      have g3 : T (s + ((3 : Nat) : Int)) = 105 := h 3 (by decide)
      have g4 : T (s + ((4 : Nat) : Int)) = 108 := h 4 (by decide)
      omega
  · constructor
    · intro h
      refine ⟨by show e - s = 5; omega, fun i hi => ?_⟩
      have hi2 : i < 5 := hi
      rcases (show i = 0 ∨ i = 1 ∨ i = 2 ∨ i = 3 ∨ i = 4 by omega) with q | q | q | q | q
      · subst q; show T (s + ((0 : Nat) : Int)) = 112; omega
      · subst q; show T (s + ((1 : Nat) : Int)) = 111; omega
      · subst q; show T (s + ((2 : Nat) : Int)) = 105; omega
      · subst q; show T (s + ((3 : Nat) : Int)) = 110; omega
      · subst q; show T (s + ((4 : Nat) : Int)) = 116; omega
    · rintro ⟨_, h⟩
      have g0 : T (s + ((0 : Nat) : Int)) = 112 := h 0 (by decide)
      have g1 : T (s + ((1 : Nat) : Int)) = 111 := h 1 (by decide)
      have g2 : T (s + ((2 : Nat) : Int)) = 105 := h 2 (by decide)
      have g3 : T (s + ((3 : Nat) : Int)) = 110 := h 3 (by decide)
      have g4 : T (s + ((4 : Nat) : Int)) = 116 := h 4 (by decide)
      omega
  · constructor
    · intro h; exfalso; omega
    · rintro ⟨h, _⟩; exfalso; have h2 : e - s = 4 := h; omega
  · constructor
    · intro h; exfalso; omega
    · rintro ⟨h, _⟩; exfalso; have h2 : e - s = 4 := h; omega
  · constructor
    · intro h; exfalso; omega
    · rintro ⟨h, _⟩; exfalso; have h2 : e - s = 3 := h; omega
  · constructor
    · intro h; exfalso; omega
    · rintro ⟨h, _⟩; exfalso; have h2 : e - s = 4 := h; omega
  · constructor
    · intro h; exfalso; omega
    · rintro ⟨h, _⟩; exfalso; have h2 : e - s = 6 := h; omega
theorem wk_6 {T : Int → Int} {s e : Int} (he : e - s = 6) (h0 : 97 ≤ T (s + ((0 : Nat) : Int)) ∧ T (s + ((0 : Nat) : Int)) ≤ 122) (h1 : 97 ≤ T (s + ((1 : Nat) : Int)) ∧ T (s + ((1 : Nat) : Int)) ≤ 122) (h2 : 97 ≤ T (s + ((2 : Nat) : Int)) ∧ T (s + ((2 : Nat) : Int)) ≤ 122) (h3 : 97 ≤ T (s + ((3 : Nat) : Int)) ∧ T (s + ((3 : Nat) : Int)) ≤ 122) (h4 : 97 ≤ T (s + ((4 : Nat) : Int)) ∧ T (s + ((4 : Nat) : Int)) ≤ 122) (h5 : 97 ≤ T (s + ((5 : Nat) : Int)) ∧ T (s + ((5 : Nat) : Int)) ≤ 122) : (wnI T s 6 = 10984098 ↔ isWd T s e (wdL 0)) ∧ (wnI T s 6 = 8805260 ↔ isWd T s e (wdL 1)) ∧ (wnI T s 6 = 388602 ↔ isWd T s e (wdL 2)) ∧ (wnI T s 6 = 326192 ↔ isWd T s e (wdL 3)) ∧ (wnI T s 6 = 14006 ↔ isWd T s e (wdL 4)) ∧ (wnI T s 6 = 40187 ↔ isWd T s e (wdL 5)) ∧ (wnI T s 6 = 275319332 ↔ isWd T s e (wdL 6)) := by
  have E : wnI T s 6 = (((((((0 : Int) * 27 + T (s + ((0 : Nat) : Int)) - 96) * 27 + T (s + ((1 : Nat) : Int)) - 96) * 27 + T (s + ((2 : Nat) : Int)) - 96) * 27 + T (s + ((3 : Nat) : Int)) - 96) * 27 + T (s + ((4 : Nat) : Int)) - 96) * 27 + T (s + ((5 : Nat) : Int)) - 96) := rfl
  refine ⟨?_, ?_, ?_, ?_, ?_, ?_, ?_⟩
  · constructor
    · intro h; exfalso; omega
    · rintro ⟨h, _⟩; exfalso; have h2 : e - s = 5 := h; omega
  · constructor
    · intro h; exfalso; omega
    · rintro ⟨h, _⟩; exfalso; have h2 : e - s = 5 := h; omega
  · constructor
    · intro h; exfalso; omega
    · rintro ⟨h, _⟩; exfalso; have h2 : e - s = 4 := h; omega
  · constructor
    · intro h; exfalso; omega
    · rintro ⟨h, _⟩; exfalso; have h2 : e - s = 4 := h; omega
  · constructor
    · intro h; exfalso; omega
    · rintro ⟨h, _⟩; exfalso; have h2 : e - s = 3 := h; omega
  · constructor
    · intro h; exfalso; omega
    · rintro ⟨h, _⟩; exfalso; have h2 : e - s = 4 := h; omega
  · constructor
    · intro h
      refine ⟨by show e - s = 6; omega, fun i hi => ?_⟩
      have hi2 : i < 6 := hi
      rcases (show i = 0 ∨ i = 1 ∨ i = 2 ∨ i = 3 ∨ i = 4 ∨ i = 5 by omega) with q | q | q | q | q | q
      · subst q; show T (s + ((0 : Nat) : Int)) = 115; omega
      · subst q; show T (s + ((1 : Nat) : Int)) = 101; omega
      · subst q; show T (s + ((2 : Nat) : Int)) = 97; omega
      · subst q; show T (s + ((3 : Nat) : Int)) = 114; omega
      · subst q; show T (s + ((4 : Nat) : Int)) = 99; omega
      · subst q; show T (s + ((5 : Nat) : Int)) = 104; omega
    · rintro ⟨_, h⟩
      have g0 : T (s + ((0 : Nat) : Int)) = 115 := h 0 (by decide)
      have g1 : T (s + ((1 : Nat) : Int)) = 101 := h 1 (by decide)
      have g2 : T (s + ((2 : Nat) : Int)) = 97 := h 2 (by decide)
      have g3 : T (s + ((3 : Nat) : Int)) = 114 := h 3 (by decide)
      have g4 : T (s + ((4 : Nat) : Int)) = 99 := h 4 (by decide)
      have g5 : T (s + ((5 : Nat) : Int)) = 104 := h 5 (by decide)
      omega
theorem kind_iff {T : Int → Int} {s e : Int} {v : Int} (h0 : v = 10984098 ↔ isWd T s e (wdL 0)) (h1 : v = 8805260 ↔ isWd T s e (wdL 1)) (h2 : v = 388602 ↔ isWd T s e (wdL 2)) (h3 : v = 326192 ↔ isWd T s e (wdL 3)) (h4 : v = 14006 ↔ isWd T s e (wdL 4)) (h5 : v = 40187 ↔ isWd T s e (wdL 5)) (h6 : v = 275319332 ↔ isWd T s e (wdL 6)) : cmdN v = kindW T s e := by
  unfold cmdN kindW
  by_cases g0 : v = 10984098
  · rw [if_pos g0, if_pos (h0.mp g0)]
  rw [if_neg g0, if_neg (fun z => g0 (h0.mpr z))]
  by_cases g1 : v = 8805260
  · rw [if_pos g1, if_pos (h1.mp g1)]
  rw [if_neg g1, if_neg (fun z => g1 (h1.mpr z))]
  by_cases g2 : v = 388602
  · rw [if_pos g2, if_pos (h2.mp g2)]
  rw [if_neg g2, if_neg (fun z => g2 (h2.mpr z))]
  by_cases g3 : v = 326192
  · rw [if_pos g3, if_pos (h3.mp g3)]
  rw [if_neg g3, if_neg (fun z => g3 (h3.mpr z))]
  by_cases g4 : v = 14006
  · rw [if_pos g4, if_pos (h4.mp g4)]
  rw [if_neg g4, if_neg (fun z => g4 (h4.mpr z))]
  by_cases g5 : v = 40187
  · rw [if_pos g5, if_pos (h5.mp g5)]
  rw [if_neg g5, if_neg (fun z => g5 (h5.mpr z))]
  by_cases g6 : v = 275319332
  · rw [if_pos g6, if_pos (h6.mp g6)]
  rw [if_neg g6, if_neg (fun z => g6 (h6.mpr z))]
theorem kind_num {T : Int → Int} {s e : Int} (h : s ≤ e) (hl : ∀ k : Int, s ≤ k → k < e → 97 ≤ T k ∧ T k ≤ 122) : wcI T s e = kindW T s e := by
  unfold wcI
  by_cases g : e - s > 6
  · rw [if_pos g]
    have no : ∀ k : Int, ¬ isWd T s e (wdL k) := by
      rintro k ⟨z, _⟩
      have hb : ((wdL k).length : Int) ≤ 6 := by
        unfold wdL
        (repeat' split) <;> decide
      omega
    unfold kindW
    rw [if_neg (no 0), if_neg (no 1), if_neg (no 2), if_neg (no 3), if_neg (no 4), if_neg (no 5), if_neg (no 6)]
  · rw [if_neg g]
    have hd : ∀ i : Nat, (i : Int) < e - s → 97 ≤ T (s + (i : Int)) ∧ T (s + (i : Int)) ≤ 122 := fun i hi => hl _ (by omega) (by omega)
    rcases (show e - s = 0 ∨ e - s = 1 ∨ e - s = 2 ∨ e - s = 3 ∨ e - s = 4 ∨ e - s = 5 ∨ e - s = 6 by omega) with q | q | q | q | q | q | q
    · rw [q]; obtain ⟨a0, a1, a2, a3, a4, a5, a6⟩ := wk_0 (T := T) (s := s) (e := e) q ; exact kind_iff a0 a1 a2 a3 a4 a5 a6
    · rw [q]; obtain ⟨a0, a1, a2, a3, a4, a5, a6⟩ := wk_1 (T := T) (s := s) (e := e) q (hd 0 (by omega)); exact kind_iff a0 a1 a2 a3 a4 a5 a6
    · rw [q]; obtain ⟨a0, a1, a2, a3, a4, a5, a6⟩ := wk_2 (T := T) (s := s) (e := e) q (hd 0 (by omega)) (hd 1 (by omega)); exact kind_iff a0 a1 a2 a3 a4 a5 a6
    · rw [q]; obtain ⟨a0, a1, a2, a3, a4, a5, a6⟩ := wk_3 (T := T) (s := s) (e := e) q (hd 0 (by omega)) (hd 1 (by omega)) (hd 2 (by omega)); exact kind_iff a0 a1 a2 a3 a4 a5 a6
    · rw [q]; obtain ⟨a0, a1, a2, a3, a4, a5, a6⟩ := wk_4 (T := T) (s := s) (e := e) q (hd 0 (by omega)) (hd 1 (by omega)) (hd 2 (by omega)) (hd 3 (by omega)); exact kind_iff a0 a1 a2 a3 a4 a5 a6
    · rw [q]; obtain ⟨a0, a1, a2, a3, a4, a5, a6⟩ := wk_5 (T := T) (s := s) (e := e) q (hd 0 (by omega)) (hd 1 (by omega)) (hd 2 (by omega)) (hd 3 (by omega)) (hd 4 (by omega)); exact kind_iff a0 a1 a2 a3 a4 a5 a6
    · rw [q]; obtain ⟨a0, a1, a2, a3, a4, a5, a6⟩ := wk_6 (T := T) (s := s) (e := e) q (hd 0 (by omega)) (hd 1 (by omega)) (hd 2 (by omega)) (hd 3 (by omega)) (hd 4 (by omega)) (hd 5 (by omega)); exact kind_iff a0 a1 a2 a3 a4 a5 a6
