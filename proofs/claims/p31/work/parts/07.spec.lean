/-! what both programs compute, over whole numbers; M is the plate as one row (the reference's m) -/
def sumI (f : Int → Int) : Nat → Int
  | 0 => 0
  | n + 1 => sumI f n + f (n : Int)
def sumZ (f : Int → Int) (p : Int) : Int := sumI f p.toNat
theorem sumZ_0 (f : Int → Int) : sumZ f 0 = 0 := rfl
theorem sumZ_s (f : Int → Int) {p : Int} (h : 0 ≤ p) : sumZ f (p + 1) = sumZ f p + f p := by
  obtain ⟨n, rfl⟩ : ∃ n : Nat, p = (n : Int) := ⟨p.toNat, (Int.toNat_of_nonneg h).symm⟩
  have e1 : ((n : Int) + 1).toNat = n + 1 := by omega
  have e2 : ((n : Int)).toNat = n := by omega
  unfold sumZ
  rw [e1, e2]
  rfl
def minI (f : Int → Int) : Nat → Int
  | 0 => f 0
  | n + 1 => min (minI f n) (f ((n : Int) + 1))
def maxI (f : Int → Int) : Nat → Int
  | 0 => f 0
  | n + 1 => max (maxI f n) (f ((n : Int) + 1))
def minZ (f : Int → Int) (p : Int) : Int := minI f (p - 1).toNat
def maxZ (f : Int → Int) (p : Int) : Int := maxI f (p - 1).toNat
theorem minZ_1 (f : Int → Int) : minZ f 1 = f 0 := rfl
theorem maxZ_1 (f : Int → Int) : maxZ f 1 = f 0 := rfl
theorem minZ_s (f : Int → Int) {p : Int} (h : 1 ≤ p) : minZ f (p + 1) = min (minZ f p) (f p) := by
  obtain ⟨n, rfl⟩ : ∃ n : Nat, p = (n : Int) + 1 := ⟨(p - 1).toNat, by omega⟩
  have e1 : ((n : Int) + 1 + 1 - 1).toNat = n + 1 := by omega
  have e2 : ((n : Int) + 1 - 1).toNat = n := by omega
  unfold minZ
  rw [e1, e2]
  rfl
theorem maxZ_s (f : Int → Int) {p : Int} (h : 1 ≤ p) : maxZ f (p + 1) = max (maxZ f p) (f p) := by
  obtain ⟨n, rfl⟩ : ∃ n : Nat, p = (n : Int) + 1 := ⟨(p - 1).toNat, by omega⟩
  have e1 : ((n : Int) + 1 + 1 - 1).toNat = n + 1 := by omega
  have e2 : ((n : Int) + 1 - 1).toNat = n := by omega
  unfold maxZ
  rw [e1, e2]
  rfl
theorem sumI_bd {f : Int → Int} {lo hi : Int} : ∀ n : Nat, (∀ k : Int, 0 ≤ k → k < (n : Int) → lo ≤ f k ∧ f k ≤ hi) → lo * n ≤ sumI f n ∧ sumI f n ≤ hi * n
  | 0, _ => by simp [sumI]
  | n + 1, h => by
    have h1 := sumI_bd n (fun k a b => h k a (by omega))
    have h2 := h n (by omega) (by omega)
    have e1 : lo * ((n + 1 : Nat) : Int) = lo * n + lo := by rw [Int.natCast_add, Int.mul_add]; simp
    have e2 : hi * ((n + 1 : Nat) : Int) = hi * n + hi := by rw [Int.natCast_add, Int.mul_add]; simp
    rw [e1, e2]
    show lo * n + lo ≤ sumI f n + f n ∧ sumI f n + f n ≤ hi * n + hi
    omega
theorem sumZ_bd {f : Int → Int} {lo hi p : Int} (hp : 0 ≤ p) (h : ∀ k : Int, 0 ≤ k → k < p → lo ≤ f k ∧ f k ≤ hi) : lo * p ≤ sumZ f p ∧ sumZ f p ≤ hi * p := by
  have h1 := sumI_bd (f := f) (lo := lo) (hi := hi) p.toNat (fun k a b => h k a (by omega))
  rw [Int.toNat_of_nonneg hp] at h1
  exact h1
theorem minI_bd {f : Int → Int} {lo hi : Int} : ∀ n : Nat, (∀ k : Int, 0 ≤ k → k ≤ (n : Int) → lo ≤ f k ∧ f k ≤ hi) → lo ≤ minI f n ∧ minI f n ≤ maxI f n ∧ maxI f n ≤ hi
  | 0, h => by
    have := h 0 (by omega) (by omega)
    show lo ≤ f 0 ∧ f 0 ≤ f 0 ∧ f 0 ≤ hi
    omega
  | n + 1, h => by
    have h1 := minI_bd n (fun k a b => h k a (by omega))
    have h2 := h ((n : Int) + 1) (by omega) (by omega)
    show lo ≤ min (minI f n) (f ((n : Int) + 1)) ∧ min (minI f n) (f ((n : Int) + 1)) ≤ max (maxI f n) (f ((n : Int) + 1)) ∧ max (maxI f n) (f ((n : Int) + 1)) ≤ hi
    omega
theorem minZ_bd {f : Int → Int} {lo hi p : Int} (hp : 1 ≤ p) (h : ∀ k : Int, 0 ≤ k → k < p → lo ≤ f k ∧ f k ≤ hi) : lo ≤ minZ f p ∧ minZ f p ≤ maxZ f p ∧ maxZ f p ≤ hi :=
  minI_bd (p - 1).toNat (fun k a b => h k a (by omega))
theorem sumI_congr {f g : Int → Int} : ∀ n : Nat, (∀ k : Int, 0 ≤ k → k < (n : Int) → f k = g k) → sumI f n = sumI g n
  | 0, _ => rfl
  | n + 1, h => by
    show sumI f n + f n = sumI g n + g n
    rw [sumI_congr n (fun k a b => h k a (by omega)), h n (by omega) (by omega)]
theorem sumZ_congr {f g : Int → Int} {p : Int} (h : ∀ k : Int, 0 ≤ k → k < p → f k = g k) : sumZ f p = sumZ g p := sumI_congr p.toNat (fun k a b => h k a (by omega))
theorem mul_bd {u f a b : Int} (hu : -a ≤ u ∧ u ≤ a) (hf : 0 ≤ f ∧ f ≤ b) : -(a * b) ≤ u * f ∧ u * f ≤ a * b := by
  have ha : 0 ≤ a := by omega
  have h1 : u * f ≤ a * f := Int.mul_le_mul_of_nonneg_right hu.2 hf.1
  have h2 : a * f ≤ a * b := Int.mul_le_mul_of_nonneg_left hf.2 ha
  have h3 : -a * f ≤ u * f := Int.mul_le_mul_of_nonneg_right hu.1 hf.1
  have h4 : -a * f = -(a * f) := Int.neg_mul a f
  omega
theorem sq_bd {d a : Int} (h : -a ≤ d ∧ d ≤ a) : 0 ≤ d * d ∧ d * d ≤ a * a := by
  rcases Int.le_total 0 d with q | q
  · exact ⟨Int.mul_nonneg q q, Int.mul_le_mul h.2 h.2 q (by omega)⟩
  · have e : d * d = (-d) * (-d) := by rw [Int.neg_mul_neg]
    rw [e]
    exact ⟨Int.mul_nonneg (by omega) (by omega), Int.mul_le_mul (by omega) (by omega) (by omega) (by omega)⟩
theorem div_uniq {a b q : Int} (hb : 0 < b) (h1 : q * b ≤ a) (h2 : a < q * b + b) : a / b = q := by
  apply Int.le_antisymm
  · apply Int.le_of_lt_add_one
    apply Int.ediv_lt_of_lt_mul hb
    rw [Int.add_mul]; omega
  · exact Int.le_ediv_of_mul_le hb h1
theorem div_spec {a b : Int} (hb : 0 < b) : a / b * b ≤ a ∧ a < a / b * b + b := by
  have h1 := Int.mul_ediv_add_emod a b
  have h2 := Int.emod_nonneg a (show b ≠ 0 by omega)
  have h3 := Int.emod_lt_of_pos a hb
  rw [Int.mul_comm] at h1
  omega
/-- floor division as the reference writes it -/
theorem floor_neg {a b : Int} (hb : 0 < b) (ha : a < 0) : -((b - 1 - a) / b) = a / b := by
  have h := div_spec (a := a) hb
  have : (b - 1 - a) / b = -(a / b) := by
    apply div_uniq hb
    · rw [Int.neg_mul]; omega
    · rw [Int.neg_mul]; omega
  rw [this, Int.neg_neg]
theorem div_bd {a b lo hi : Int} (hb : 0 < b) (h1 : lo * b ≤ a) (h2 : a < hi * b + b) : lo ≤ a / b ∧ a / b ≤ hi := by
  constructor
  · exact Int.le_ediv_of_mul_le hb h1
  · apply Int.le_of_lt_add_one
    apply Int.ediv_lt_of_lt_mul hb
    rw [Int.add_mul]; omega
/-! roots -/
theorem rt_exN : ∀ n : Nat, ∃ r : Nat, r * r ≤ n ∧ n < (r + 1) * (r + 1)
  | 0 => ⟨0, by decide, by decide⟩
  | n + 1 => by
    obtain ⟨r, h1, h2⟩ := rt_exN n
    by_cases h : n + 1 < (r + 1) * (r + 1)
    · exact ⟨r, by omega, h⟩
    · refine ⟨r + 1, by omega, ?_⟩
      have : (r + 1) * (r + 1) < (r + 1 + 1) * (r + 1 + 1) := Nat.mul_lt_mul_of_lt_of_lt (by omega) (by omega)
      omega
theorem rt_ex (n : Int) : ∃ r : Int, 0 ≤ n → 0 ≤ r ∧ r * r ≤ n ∧ n < (r + 1) * (r + 1) := by
  obtain ⟨r, h1, h2⟩ := rt_exN n.toNat
  refine ⟨(r : Int), fun h => ?_⟩
  have e : ((n.toNat : Nat) : Int) = n := Int.toNat_of_nonneg h
  have h3 : ((r * r : Nat) : Int) ≤ n := by omega
  have h4 : n < (((r + 1) * (r + 1) : Nat) : Int) := by omega
  refine ⟨by omega, ?_, ?_⟩
  · rw [Int.natCast_mul] at h3; exact h3
  · rw [Int.natCast_mul, Int.natCast_add] at h4; exact h4
noncomputable def rt (n : Int) : Int := Classical.choose (rt_ex n)
theorem rt_spec {n : Int} (h : 0 ≤ n) : 0 ≤ rt n ∧ rt n * rt n ≤ n ∧ n < (rt n + 1) * (rt n + 1) := Classical.choose_spec (rt_ex n) h
theorem sq_lt {a b : Int} (ha : 0 ≤ a) (h : a * a < b * b) (hb : 0 ≤ b) : a < b := by
  rcases Int.lt_or_le a b with q | q
  · exact q
  · have := Int.mul_le_mul q q hb ha
    omega
theorem rt_uniq {n r : Int} (h0 : 0 ≤ r) (h1 : r * r ≤ n) (h2 : n < (r + 1) * (r + 1)) : rt n = r := by
  have hn : 0 ≤ n := Int.le_trans (Int.mul_nonneg h0 h0) h1
  obtain ⟨g0, g1, g2⟩ := rt_spec hn
  have a := sq_lt g0 (Int.lt_of_le_of_lt g1 h2) (by omega)
  have b := sq_lt h0 (Int.lt_of_le_of_lt h1 g2) (by omega)
  omega
theorem rt_bd {n b : Int} (h : 0 ≤ n) (hb : 0 ≤ b) (hn : n < (b + 1) * (b + 1)) : 0 ≤ rt n ∧ rt n ≤ b := by
  obtain ⟨g0, g1, g2⟩ := rt_spec h
  have := sq_lt g0 (Int.lt_of_le_of_lt g1 hn) (by omega)
  omega
theorem rt_mono {a b : Int} (ha : 0 ≤ a) (h : a ≤ b) : rt a ≤ rt b := by
  obtain ⟨g0, g1, g2⟩ := rt_spec ha
  obtain ⟨k0, k1, k2⟩ := rt_spec (Int.le_trans ha h)
  have := sq_lt g0 (Int.lt_of_le_of_lt (Int.le_trans g1 h) k2) (by omega)
  omega
/-! angles -/
def absI (z : Int) : Int := if z < 0 then -z else z
theorem absI_spec (z : Int) : (z < 0 ∧ absI z = -z) ∨ (0 ≤ z ∧ absI z = z) := by
  unfold absI
  split <;> omega
def turnI (f t : Int) : Int := if (t - f) % 360000 > 180000 then (t - f) % 360000 - 360000 else (t - f) % 360000
theorem turnI_bd (f t : Int) : -180000 < turnI f t ∧ turnI f t ≤ 180000 := by
  unfold turnI
  split <;> omega
def cdc (x y a : Int) : Nat → Int × Int × Int
  | 0 => (x, y, a)
  | k + 1 => if 0 < (cdc x y a k).2.1 then ((cdc x y a k).1 + (cdc x y a k).2.1 / 2 ^ k, (cdc x y a k).2.1 - (cdc x y a k).1 / 2 ^ k, (cdc x y a k).2.2 + turnsI k)
    else if (cdc x y a k).2.1 < 0 then ((cdc x y a k).1 - (cdc x y a k).2.1 / 2 ^ k, (cdc x y a k).2.1 + (cdc x y a k).1 / 2 ^ k, (cdc x y a k).2.2 - turnsI k)
    else cdc x y a k
def angF (dx dy : Int) : Int :=
  if dx = 0 ∧ dy = 0 then 0
  else (cdc (1024 * absI dx) (1024 * (if dx < 0 then -dy else dy)) (if dx < 0 then 180000 else 0) 16).2.2 % 360000
theorem angF_bd (dx dy : Int) : 0 ≤ angF dx dy ∧ angF dx dy < 360000 := by
  unfold angF
  split <;> omega
def cbd : Nat → Int
  | 0 => 7200000
  | k + 1 => cbd k + cbd k / 2 ^ k + 1
theorem cbd_le : ∀ k : Nat, k < 17 → 0 ≤ cbd k ∧ cbd k ≤ 100000000 := by decide +kernel
theorem turns_bd : ∀ k : Nat, k < 16 → 0 ≤ turnsI k ∧ turnsI k ≤ 45000 := by decide +kernel
theorem shr_bd {x b : Int} (k : Nat) (h : -b ≤ x ∧ x ≤ b) : -(b / 2 ^ k) - 1 ≤ x / 2 ^ k ∧ x / 2 ^ k ≤ b / 2 ^ k := by
  have hp : (0 : Int) < 2 ^ k := Int.pow_pos (by decide)
  have h1 := div_spec (a := x) hp
  have h2 := div_spec (a := b) hp
  constructor
  · apply Int.le_ediv_of_mul_le hp
    rw [Int.sub_mul, Int.neg_mul]
    omega
  · exact Int.ediv_le_ediv hp h.2
theorem cdc_bd {x y a : Int} (hx : -7200000 ≤ x ∧ x ≤ 7200000) (hy : -7200000 ≤ y ∧ y ≤ 7200000) (ha : 0 ≤ a ∧ a ≤ 180000) : ∀ k : Nat, k ≤ 16 → (-(cbd k) ≤ (cdc x y a k).1 ∧ (cdc x y a k).1 ≤ cbd k) ∧ (-(cbd k) ≤ (cdc x y a k).2.1 ∧ (cdc x y a k).2.1 ≤ cbd k) ∧ (-(45000 * (k : Int)) ≤ (cdc x y a k).2.2 ∧ (cdc x y a k).2.2 ≤ 180000 + 45000 * (k : Int))
  | 0, _ => by
    show (-7200000 ≤ x ∧ x ≤ 7200000) ∧ (-7200000 ≤ y ∧ y ≤ 7200000) ∧ _
    refine ⟨hx, hy, ?_⟩
    show -(45000 * ((0 : Nat) : Int)) ≤ a ∧ a ≤ 180000 + 45000 * ((0 : Nat) : Int)
    omega
  | k + 1, hk => by
    obtain ⟨h1, h2, h3⟩ := cdc_bd hx hy ha k (by omega)
    have hb := cbd_le k (by omega)
    have ht := turns_bd k (by omega)
    have sx := shr_bd k h1
    have sy := shr_bd k h2
    have hc : cbd (k + 1) = cbd k + cbd k / 2 ^ k + 1 := rfl
    have hk1 : ((k + 1 : Nat) : Int) = (k : Int) + 1 := by omega
    rw [hc, hk1]
    have hd : 0 ≤ cbd k / 2 ^ k := Int.ediv_nonneg hb.1 (Int.le_of_lt (Int.pow_pos (by decide)))
    unfold cdc
    split
    · refine ⟨?_, ?_, ?_⟩ <;> dsimp only <;> omega
    · split
      · refine ⟨?_, ?_, ?_⟩ <;> dsimp only <;> omega
      · refine ⟨?_, ?_, ?_⟩ <;> omega
/-! the plate -/
def pts (M : Int → Int) (t : Int) : Int := M (14 + 37 * t)
def cel (t p : Int) : Int := 14 + 37 * t + 1 + 3 * p
def frm (M : Int → Int) (t p : Int) : Int := M (cel t p)
def plX (M : Int → Int) (t p : Int) : Int := M (cel t p + 1) - M 1 * frm M t p / 100
def plY (M : Int → Int) (t p : Int) : Int := M (cel t p + 2) - M 2 * frm M t p / 100
noncomputable def rdOf (M : Int → Int) (t p : Int) : Int := rt ((plX M t p - M 10) * (plX M t p - M 10) + (plY M t p - M 11) * (plY M t p - M 11))
noncomputable def rdT (M : Int → Int) (t : Int) : Int := sumZ (rdOf M t) (pts M t) / pts M t
noncomputable def sprd (M : Int → Int) (t : Int) : Int := maxZ (rdOf M t) (pts M t) - minZ (rdOf M t) (pts M t)
noncomputable def pcost (M : Int → Int) : Int := sumZ (fun t => if 1 < pts M t then sprd M t else 0) (M 12)
def angOf (M : Int → Int) (t p : Int) : Int := angF (plX M t p - M 10) (plY M t p - M 11)
def swp (M : Int → Int) (t : Int) : Int := sumZ (fun p => turnI (angOf M t p) (angOf M t (p + 1))) (pts M t - 1)
def fspan (M : Int → Int) (t : Int) : Int := frm M t (pts M t - 1) - frm M t 0
def misf (M : Int → Int) (t : Int) : Int := absI (swp M t - M 0 * fspan M t)
abbrev isGoodP (M : Int → Int) (t : Int) : Prop := 1 < pts M t ∧ sprd M t ≤ M 3 ∧ misf M t ≤ M 4
def gapN (M : Int → Int) (t : Int) : Int := sumZ (fun p => if M 6 < frm M t (p + 1) - frm M t p then 1 else 0) (pts M t - 1)
def plR (M : Int → Int) (s : Int) : Int := M (458 + 3 * s) * M 7 / 1000
def stAng (M : Int → Int) (z s f : Int) : Int := (M (458 + 3 * s + 1) + z + M 0 * f) % 360000
noncomputable def cstZ (M : Int → Int) (z t s : Int) : Int := absI (rdT M t - plR M s) + absI (turnI (angOf M t 0) (stAng M z s (frm M t 0))) * rdT M t / 57296
def irg (z : Int) : Prop := -2147483648 ≤ z ∧ z ≤ 2147483647
/-- the ranges of a plate -/
def InvS (M : Int → Int) : Prop := (-5000 ≤ M 0 ∧ M 0 ≤ 5000) ∧ (-100 ≤ M 1 ∧ M 1 ≤ 100) ∧ (-100 ≤ M 2 ∧ M 2 ≤ 100) ∧ (0 ≤ M 3 ∧ M 3 ≤ 500) ∧ (0 ≤ M 4 ∧ M 4 ≤ 180000) ∧ (0 ≤ M 5 ∧ M 5 ≤ 5000) ∧ (1 ≤ M 6 ∧ M 6 ≤ 1000) ∧ (1 ≤ M 7 ∧ M 7 ≤ 100000) ∧ (0 ≤ M 8 ∧ M 8 ≤ 359999) ∧ (0 ≤ M 9 ∧ M 9 ≤ 9) ∧ (-2000 ≤ M 10 ∧ M 10 ≤ 6000) ∧ (-2000 ≤ M 11 ∧ M 11 ≤ 6000) ∧ (0 ≤ M 12 ∧ M 12 ≤ 12) ∧ (0 ≤ M 13 ∧ M 13 ≤ 12)
def InvT (M : Int → Int) : Prop := ∀ t : Int, 0 ≤ t → t < M 12 → (0 ≤ pts M t ∧ pts M t ≤ 12) ∧ ∀ p : Int, 0 ≤ p → p < pts M t → (0 ≤ frm M t p ∧ frm M t p ≤ 1000) ∧ (0 ≤ M (cel t p + 1) ∧ M (cel t p + 1) ≤ 4000) ∧ (0 ≤ M (cel t p + 2) ∧ M (cel t p + 2) ≤ 4000) ∧ (p + 1 < pts M t → frm M t p < frm M t (p + 1))
def InvC (M : Int → Int) : Prop := ∀ s : Int, 0 ≤ s → s < M 13 → (1 ≤ M (458 + 3 * s) ∧ M (458 + 3 * s) ≤ 100000) ∧ (0 ≤ M (458 + 3 * s + 1) ∧ M (458 + 3 * s + 1) ≤ 359999) ∧ (0 ≤ M (458 + 3 * s + 2) ∧ M (458 + 3 * s + 2) ≤ 9)
def Inv (M : Int → Int) : Prop := InvS M ∧ InvT M ∧ InvC M
theorem inv_pts {M : Int → Int} (h : Inv M) {t : Int} (h0 : 0 ≤ t) (h1 : t < M 12) : 0 ≤ pts M t ∧ pts M t ≤ 12 := (h.2.1 t h0 h1).1
theorem inv_frm {M : Int → Int} (h : Inv M) {t p : Int} (h0 : 0 ≤ t) (h1 : t < M 12) (h2 : 0 ≤ p) (h3 : p < pts M t) : 0 ≤ frm M t p ∧ frm M t p ≤ 1000 := ((h.2.1 t h0 h1).2 p h2 h3).1
theorem inv_uf {M : Int → Int} (h : Inv M) {t p : Int} (h0 : 0 ≤ t) (h1 : t < M 12) (h2 : 0 ≤ p) (h3 : p < pts M t) : (-100000 ≤ M 1 * frm M t p ∧ M 1 * frm M t p ≤ 100000) ∧ (-100000 ≤ M 2 * frm M t p ∧ M 2 * frm M t p ≤ 100000) := by
  have hf := inv_frm h h0 h1 h2 h3
  have a := mul_bd h.1.2.1 hf
  have b := mul_bd h.1.2.2.1 hf
  omega
theorem inv_plX {M : Int → Int} (h : Inv M) {t p : Int} (h0 : 0 ≤ t) (h1 : t < M 12) (h2 : 0 ≤ p) (h3 : p < pts M t) : (-1000 ≤ plX M t p ∧ plX M t p ≤ 5000) ∧ (-1000 ≤ plY M t p ∧ plY M t p ≤ 5000) := by
  have hu := inv_uf h h0 h1 h2 h3
  have hx := ((h.2.1 t h0 h1).2 p h2 h3).2
  unfold plX plY
  omega
theorem inv_dxy {M : Int → Int} (h : Inv M) {t p : Int} (h0 : 0 ≤ t) (h1 : t < M 12) (h2 : 0 ≤ p) (h3 : p < pts M t) : (-7000 ≤ plX M t p - M 10 ∧ plX M t p - M 10 ≤ 7000) ∧ (-7000 ≤ plY M t p - M 11 ∧ plY M t p - M 11 ≤ 7000) := by
  have a := inv_plX h h0 h1 h2 h3
  have b := h.1.2.2.2.2.2.2.2.2.2.2.1
  have c := h.1.2.2.2.2.2.2.2.2.2.2.2.1
  omega
theorem sum_sq {x y : Int} (hx : -7000 ≤ x ∧ x ≤ 7000) (hy : -7000 ≤ y ∧ y ≤ 7000) : (0 ≤ x * x ∧ x * x ≤ 49000000) ∧ (0 ≤ y * y ∧ y * y ≤ 49000000) := ⟨sq_bd hx, sq_bd hy⟩
theorem inv_rd {M : Int → Int} (h : Inv M) {t p : Int} (h0 : 0 ≤ t) (h1 : t < M 12) (h2 : 0 ≤ p) (h3 : p < pts M t) : 0 ≤ rdOf M t p ∧ rdOf M t p ≤ 9900 := by
  have hd := inv_dxy h h0 h1 h2 h3
  have hs := sum_sq hd.1 hd.2
  unfold rdOf
  exact rt_bd (by omega) (by omega) (by omega)
theorem inv_ang {M : Int → Int} (t p : Int) : 0 ≤ angOf M t p ∧ angOf M t p < 360000 := angF_bd _ _
theorem inv_rdsum {M : Int → Int} (h : Inv M) {t p : Int} (h0 : 0 ≤ t) (h1 : t < M 12) (h2 : 0 ≤ p) (h3 : p ≤ pts M t) : 0 ≤ sumZ (rdOf M t) p ∧ sumZ (rdOf M t) p ≤ 9900 * p := by
  have a := sumZ_bd (f := rdOf M t) (lo := 0) (hi := 9900) h2 (fun k a b => inv_rd h h0 h1 a (by omega))
  omega
theorem inv_rdT {M : Int → Int} (h : Inv M) {t : Int} (h0 : 0 ≤ t) (h1 : t < M 12) (h2 : 0 < pts M t) : 0 ≤ rdT M t ∧ rdT M t ≤ 9900 := by
  have a := inv_rdsum h h0 h1 (Int.le_of_lt h2) (Int.le_refl _)
  unfold rdT
  exact div_bd h2 (by omega) (by omega)
theorem inv_sprd {M : Int → Int} (h : Inv M) {t : Int} (h0 : 0 ≤ t) (h1 : t < M 12) (h2 : 0 < pts M t) : 0 ≤ sprd M t ∧ sprd M t ≤ 9900 := by
  have a := minZ_bd (f := rdOf M t) (lo := 0) (hi := 9900) (p := pts M t) (by omega) (fun k a b => inv_rd h h0 h1 a b)
  unfold sprd
  omega
theorem inv_swp {M : Int → Int} (h : Inv M) {t p : Int} (h0 : 0 ≤ t) (h1 : t < M 12) (h2 : 0 ≤ p) (h3 : p < pts M t) : -2160000 ≤ sumZ (fun p => turnI (angOf M t p) (angOf M t (p + 1))) p ∧ sumZ (fun p => turnI (angOf M t p) (angOf M t (p + 1))) p ≤ 2160000 := by
  have a := sumZ_bd (f := fun p => turnI (angOf M t p) (angOf M t (p + 1))) (lo := -180000) (hi := 180000) h2 (fun k _ _ => by have := turnI_bd (angOf M t k) (angOf M t (k + 1)); omega)
  have b := inv_pts h h0 h1
  omega
