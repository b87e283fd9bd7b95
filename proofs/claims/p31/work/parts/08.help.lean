theorem tmod_360 (a : Int) : (-360000 < a.tmod 360000 ∧ a.tmod 360000 < 360000) ∧ (0 ≤ a.tmod 360000 → a.tmod 360000 = a % 360000) ∧ (a.tmod 360000 < 0 → a.tmod 360000 + 360000 = a % 360000) := by
  have h := Int.tmod_eq_emod (a := a) (b := 360000)
  have hb : ((360000 : Int).natAbs : Int) = 360000 := by decide
  have h1 := Int.emod_nonneg a (show (360000 : Int) ≠ 0 by decide)
  have h2 := Int.emod_lt_of_pos a (show (0 : Int) < 360000 by decide)
  rcases Int.le_total 0 a with q | q
  · have e := Int.tmod_eq_emod_of_nonneg (b := 360000) q
    omega
  · by_cases d : (360000 : Int) ∣ a
    · have e0 : a % 360000 = 0 := Int.emod_eq_zero_of_dvd d
      have e : a.tmod 360000 = 0 := Int.tmod_eq_zero_of_dvd d
      omega
    · have hn : ¬ (0 ≤ a ∨ (360000 : Int) ∣ a) := by
        rintro (z | z)
        · exact d (by rw [show a = 0 by omega]; exact Int.dvd_zero _)
        · exact d z
      rw [if_neg hn] at h
      omega
theorem cel_eq (t q : Int) : cel t q = 15 + 37 * t + 3 * q := by unfold cel; omega
theorem bool_nar {z : Int} (h : z = 0 ∨ z = 1) : narrow .boolean (.int (iI z)) = .int (iI z) := by
  rcases h with h | h <;> subst h <;> decide +kernel
def bitN : Nat → Int
  | 0 => 0
  | j + 1 => 2 ^ j
theorem bitN_bd (j : Nat) (h : j ≤ 15) : 0 ≤ bitN j ∧ bitN j ≤ 2 ^ j ∧ bitN j ≤ 16384 := by
  have : ∀ j, j < 16 → (0 ≤ bitN j ∧ bitN j ≤ 2 ^ j ∧ bitN j ≤ 16384) := by decide +kernel
  exact this j (by omega)
theorem bitN_half (i : Nat) : bitN (i + 1) / 2 = bitN i := by
  cases i with
  | zero => decide
  | succ i =>
    show (2 : Int) ^ (i + 1) / 2 = 2 ^ i
    rw [Int.pow_succ]
    exact Int.mul_ediv_cancel _ (by decide)
theorem bitN_pos {j : Nat} (h : 0 < bitN j) : ∃ i, j = i + 1 := by
  cases j with
  | zero => exact absurd h (by decide)
  | succ i => exact ⟨i, rfl⟩
theorem two_half {i j : Nat} (hj : j = i + 1) : (2 : Int) ^ j = 2 ^ i + 2 ^ i ∧ bitN j = 2 ^ i ∧ (0 : Int) < 2 ^ i := by
  subst hj
  refine ⟨by rw [Int.pow_succ]; omega, rfl, Int.pow_pos (by decide)⟩
theorem root_rng {r : Int} {j : Nat} (hr : 0 ≤ r) (hb : bitN j ≤ 2 ^ j) (h : r + 2 ^ j ≤ 32768) (h0 : 0 ≤ bitN j) : 0 ≤ (r + bitN j) * (r + bitN j) ∧ (r + bitN j) * (r + bitN j) ≤ 1073741824 := by
  have := sq_bd (d := r + bitN j) (a := 32768) (by omega)
  omega
theorem root_in {n r : Int} {i j : Nat} (hj : j = i + 1) (h : n < (r + 2 ^ j) * (r + 2 ^ j)) : n < (r + bitN j + 2 ^ i) * (r + bitN j + 2 ^ i) := by
  obtain ⟨h1, h2, -⟩ := two_half hj
  have e : r + bitN j + 2 ^ i = r + 2 ^ j := by omega
  rw [e]; exact h
theorem root_out {n r : Int} {i j : Nat} (hj : j = i + 1) (h : n < (r + bitN j) * (r + bitN j)) : n < (r + 0 + 2 ^ i) * (r + 0 + 2 ^ i) := by
  obtain ⟨h1, h2, -⟩ := two_half hj
  rw [Int.add_zero, ← h2]; exact h
theorem root_end {n r : Int} {j : Nat} (h : n < (r + 2 ^ j) * (r + 2 ^ j)) (hb : bitN j ≤ 0) : n < (r + 1) * (r + 1) := by
  cases j with
  | zero => exact h
  | succ i =>
    have h1 : (0 : Int) < 2 ^ i := Int.pow_pos (by decide)
    have h2 : bitN (i + 1) = 2 ^ i := rfl
    omega
theorem ang_bd {dx dy : Int} (h1 : -7000 ≤ dx ∧ dx ≤ 7000) (h2 : -7000 ≤ dy ∧ dy ≤ 7000) (k : Nat) (hk : k ≤ 16) : (-(cbd k) ≤ (cdc (1024 * absI dx) (1024 * (if dx < 0 then -dy else dy)) (if dx < 0 then 180000 else 0) k).1 ∧ (cdc (1024 * absI dx) (1024 * (if dx < 0 then -dy else dy)) (if dx < 0 then 180000 else 0) k).1 ≤ cbd k) ∧ (-(cbd k) ≤ (cdc (1024 * absI dx) (1024 * (if dx < 0 then -dy else dy)) (if dx < 0 then 180000 else 0) k).2.1 ∧ (cdc (1024 * absI dx) (1024 * (if dx < 0 then -dy else dy)) (if dx < 0 then 180000 else 0) k).2.1 ≤ cbd k) ∧ (-(45000 * (k : Int)) ≤ (cdc (1024 * absI dx) (1024 * (if dx < 0 then -dy else dy)) (if dx < 0 then 180000 else 0) k).2.2 ∧ (cdc (1024 * absI dx) (1024 * (if dx < 0 then -dy else dy)) (if dx < 0 then 180000 else 0) k).2.2 ≤ 180000 + 45000 * (k : Int)) := cdc_bd (x := 1024 * absI dx) (y := 1024 * (if dx < 0 then -dy else dy)) (a := if dx < 0 then 180000 else 0) (by have := absI_spec dx; omega) (by split <;> omega) (by split <;> omega) k hk
theorem cdc_k {k : Int} (hk : 0 ≤ k) : (k + 1).toNat = k.toNat + 1 := by omega
theorem turns_k {k : Int} (hk : 0 ≤ k) : turnsI ((k.toNat : Nat) : Int) = turnsI k := by rw [Int.toNat_of_nonneg hk]
theorem cdc_s1 {x y a k : Int} (hk : 0 ≤ k) (h : 0 < (cdc x y a k.toNat).2.1) : cdc x y a (k + 1).toNat = ((cdc x y a k.toNat).1 + (cdc x y a k.toNat).2.1 / 2 ^ k.toNat, (cdc x y a k.toNat).2.1 - (cdc x y a k.toNat).1 / 2 ^ k.toNat, (cdc x y a k.toNat).2.2 + turnsI k) := by
  rw [cdc_k hk]
  conv => lhs; unfold cdc
  rw [if_pos h, turns_k hk]
theorem cdc_s2 {x y a k : Int} (hk : 0 ≤ k) (h : (cdc x y a k.toNat).2.1 < 0) : cdc x y a (k + 1).toNat = ((cdc x y a k.toNat).1 - (cdc x y a k.toNat).2.1 / 2 ^ k.toNat, (cdc x y a k.toNat).2.1 + (cdc x y a k.toNat).1 / 2 ^ k.toNat, (cdc x y a k.toNat).2.2 - turnsI k) := by
  rw [cdc_k hk]
  conv => lhs; unfold cdc
  rw [if_neg (by omega), if_pos h, turns_k hk]
theorem cdc_s0 {x y a k : Int} (hk : 0 ≤ k) (h : (cdc x y a k.toNat).2.1 = 0) : cdc x y a (k + 1).toNat = cdc x y a k.toNat := by
  rw [cdc_k hk]
  conv => lhs; unfold cdc
  rw [if_neg (by omega), if_neg (by omega)]
theorem lm_tab (w : Int) : (w = 0 → leastI w = -5000 ∧ mostI w = 5000) ∧ (w = 1 → leastI w = -100 ∧ mostI w = 100) ∧ (w = 2 → leastI w = -100 ∧ mostI w = 100) ∧ (w = 3 → leastI w = 0 ∧ mostI w = 500) ∧ (w = 4 → leastI w = 0 ∧ mostI w = 180000) ∧ (w = 5 → leastI w = 0 ∧ mostI w = 5000) ∧ (w = 6 → leastI w = 1 ∧ mostI w = 1000) ∧ (w = 7 → leastI w = 1 ∧ mostI w = 100000) ∧ (w = 8 → leastI w = 0 ∧ mostI w = 359999) ∧ (w = 9 → leastI w = 0 ∧ mostI w = 9) := by
  refine ⟨?_, ?_, ?_, ?_, ?_, ?_, ?_, ?_, ?_, ?_⟩ <;> (intro h; subst h; exact ⟨rfl, rfl⟩)
def setOK (w v : Int) : Prop := (0 ≤ w ∧ w ≤ 9) ∧ leastI w ≤ v ∧ v ≤ mostI w
def poleOK (x y : Int) : Prop := (-2000 ≤ x ∧ x ≤ 6000) ∧ -2000 ≤ y ∧ y ≤ 6000
def starOK (r a b : Int) : Prop := (1 ≤ r ∧ r ≤ 100000) ∧ (0 ≤ a ∧ a ≤ 359999) ∧ 0 ≤ b ∧ b ≤ 9
def pointOK (f x y : Int) : Prop := (0 ≤ f ∧ f ≤ 1000) ∧ (0 ≤ x ∧ x ≤ 4000) ∧ 0 ≤ y ∧ y ≤ 4000
def hasF (M : Int → Int) (t f : Int) : Prop := ∃ k : Int, 0 ≤ k ∧ k < pts M t ∧ frm M t k = f
theorem sumZ_p (g : Int → Int → Int) {q : Int} (h : 1 ≤ q) : sumZ (fun k => g k (k + 1)) (q - 1) + g (q - 1) q = sumZ (fun k => g k (k + 1)) (q + 1 - 1) := by
  have e : q + 1 - 1 = (q - 1) + 1 := by omega
  rw [e, sumZ_s _ (by omega)]
  have e2 : q - 1 + 1 = q := by omega
  rw [e2]
theorem mul_bd2 {u f a b : Int} (hu : -a ≤ u ∧ u ≤ a) (hf : -b ≤ f ∧ f ≤ b) : -(a * b) ≤ u * f ∧ u * f ≤ a * b := by
  rcases Int.le_total 0 f with q | q
  · exact mul_bd hu ⟨q, hf.2⟩
  · have h := mul_bd (u := u) (f := -f) (a := a) (b := b) hu ⟨by omega, by omega⟩
    rw [Int.mul_neg] at h
    omega
theorem inv_fspan {M : Int → Int} (h : Inv M) {t : Int} (h0 : 0 ≤ t) (h1 : t < M 12) (h2 : 0 < pts M t) : (-1000 ≤ fspan M t ∧ fspan M t ≤ 1000) ∧ (-5000000 ≤ M 0 * fspan M t ∧ M 0 * fspan M t ≤ 5000000) := by
  have a := inv_frm h h0 h1 (p := pts M t - 1) (by omega) (by omega)
  have b := inv_frm h h0 h1 (p := 0) (by omega) (by omega)
  have c : -1000 ≤ fspan M t ∧ fspan M t ≤ 1000 := by unfold fspan; omega
  have d := mul_bd2 h.1.1 c
  omega
theorem inv_swp2 {M : Int → Int} (h : Inv M) {t : Int} (h0 : 0 ≤ t) (h1 : t < M 12) (h2 : 0 < pts M t) : -2160000 ≤ swp M t ∧ swp M t ≤ 2160000 := inv_swp h h0 h1 (p := pts M t - 1) (by omega) (by omega)
theorem inv_misf {M : Int → Int} (h : Inv M) {t : Int} (h0 : 0 ≤ t) (h1 : t < M 12) (h2 : 0 < pts M t) : (-7160000 ≤ swp M t - M 0 * fspan M t ∧ swp M t - M 0 * fspan M t ≤ 7160000) ∧ (0 ≤ misf M t ∧ misf M t ≤ 7160000) := by
  have a := inv_fspan h h0 h1 h2
  have b := inv_swp2 h h0 h1 h2
  have c := absI_spec (swp M t - M 0 * fspan M t)
  unfold misf
  omega
theorem inv_plR {M : Int → Int} (h : Inv M) {u : Int} (h0 : 0 ≤ u) (h1 : u < M 13) : (0 ≤ M (458 + 3 * u) * M 7 ∧ M (458 + 3 * u) * M 7 ≤ 10000000000) ∧ (0 ≤ plR M u ∧ plR M u ≤ 10000000) := by
  have a := (h.2.2 u h0 h1).1
  have b := h.1.2.2.2.2.2.2.2.1
  have c : 0 ≤ M (458 + 3 * u) * M 7 := Int.mul_nonneg (by omega) (by omega)
  have d : M (458 + 3 * u) * M 7 ≤ 100000 * 100000 := Int.mul_le_mul a.2 b.2 (by omega) (by decide)
  have e : M (458 + 3 * u) * M 7 ≤ 10000000000 := by omega
  refine ⟨⟨c, e⟩, ?_⟩
  unfold plR
  generalize M (458 + 3 * u) * M 7 = z at c e
  omega
theorem inv_sta {M : Int → Int} (h : Inv M) {u f : Int} (h0 : 0 ≤ u) (h1 : u < M 13) (hf : 0 ≤ f ∧ f ≤ 1000) : (-5000000 ≤ M 0 * f ∧ M 0 * f ≤ 5000000) ∧ (0 ≤ M (458 + 3 * u + 1) ∧ M (458 + 3 * u + 1) ≤ 359999) := by
  have a := (h.2.2 u h0 h1).2.1
  have b := mul_bd h.1.1 hf
  omega
theorem stAng_bd (M : Int → Int) (z u f : Int) : 0 ≤ stAng M z u f ∧ stAng M z u f < 360000 := by
  unfold stAng
  omega
theorem inv_cst {M : Int → Int} (h : Inv M) {t u : Int} (z : Int) (h0 : 0 ≤ t) (h1 : t < M 12) (h2 : 0 < pts M t) (h0u : 0 ≤ u) (h1u : u < M 13) : (0 ≤ absI (turnI (angOf M t 0) (stAng M z u (frm M t 0))) * rdT M t ∧ absI (turnI (angOf M t 0) (stAng M z u (frm M t 0))) * rdT M t ≤ 1782000000) ∧ (0 ≤ absI (rdT M t - plR M u) ∧ absI (rdT M t - plR M u) ≤ 10009900) ∧ (0 ≤ cstZ M z t u ∧ cstZ M z t u ≤ 10100000) := by
  have a := inv_rdT h h0 h1 h2
  have b := inv_plR h h0u h1u
  have c := absI_spec (rdT M t - plR M u)
  have d := turnI_bd (angOf M t 0) (stAng M z u (frm M t 0))
  have e := absI_spec (turnI (angOf M t 0) (stAng M z u (frm M t 0)))
  have f : 0 ≤ absI (turnI (angOf M t 0) (stAng M z u (frm M t 0))) * rdT M t := Int.mul_nonneg (by omega) (by omega)
  have g : absI (turnI (angOf M t 0) (stAng M z u (frm M t 0))) * rdT M t ≤ 180000 * 9900 := Int.mul_le_mul (by omega) a.2 a.1 (by decide)
  refine ⟨by omega, by omega, ?_⟩
  unfold cstZ
  generalize absI (turnI (angOf M t 0) (stAng M z u (frm M t 0))) * rdT M t = w at f g
  omega
theorem hf_step {M : Int → Int} {t f q b : Int} (h : (b = 0 ∧ ∀ k : Int, 0 ≤ k → k < q → frm M t k ≠ f) ∨ (b = 1 ∧ ∃ k : Int, 0 ≤ k ∧ k < q ∧ frm M t k = f)) (hq : 0 ≤ q) {b2 : Int} (hb : b2 = 0 ∨ b2 = 1) (h2 : b2 = 1 ↔ (b ≠ 0 ∨ frm M t q = f)) : (b2 = 0 ∧ ∀ k : Int, 0 ≤ k → k < q + 1 → frm M t k ≠ f) ∨ (b2 = 1 ∧ ∃ k : Int, 0 ≤ k ∧ k < q + 1 ∧ frm M t k = f) := by
  rcases hb with e | e
  · refine Or.inl ⟨e, fun k k0 k1 hk => ?_⟩
    have n := mt h2.mpr (by omega)
    rcases h with ⟨g, hh⟩ | ⟨g, hh⟩
    · by_cases z : k = q
      · subst z; exact n (Or.inr hk)
      · exact hh k k0 (by omega) hk
    · exact n (Or.inl (by omega))
  · refine Or.inr ⟨e, ?_⟩
    rcases h2.mp e with n | n
    · rcases h with ⟨g, hh⟩ | ⟨g, hh⟩
      · exact absurd g n
      · obtain ⟨k, k0, k1, k2⟩ := hh
        exact ⟨k, k0, by omega, k2⟩
    · exact ⟨q, hq, by omega, n⟩
noncomputable def goodN (M : Int → Int) (t : Int) : Int := if isGoodP M t then 1 else 0
noncomputable def trV (M SO : Int → Int) (t w : Int) : Int :=
  if pts M t = 0 ∧ 0 < w ∧ w < 6 then -1000000000 else if w = 0 then pts M t else if w = 1 then rdT M t else if w = 2 then sprd M t else if w = 3 then swp M t else if w = 4 then M 0 * fspan M t else if w = 5 then misf M t else if w = 6 then goodN M t else if w = 7 then gapN M t else SO t
noncomputable def ptV (M : Int → Int) (t q w : Int) : Int := if w = 3 then plX M t q else if w = 4 then plY M t q else if w = 5 then rdOf M t q else if w = 6 then angOf M t q else M (cel t q + w)
abbrev missP (M TR : Int → Int) (u : Int) : Prop := TR u = -1000000000 ∧ M 9 ≤ M (458 + 3 * u + 2)
def missN (M TR : Int → Int) (u : Int) : Int := if missP M TR u then 1 else 0
def stV (M TR CO : Int → Int) (u w : Int) : Int := if w = 3 then plR M u else if w = 4 then TR u else if w = 5 then (if TR u = -1000000000 then -1000000000 else CO (12 * TR u + u)) else if w = 6 then missN M TR u else M (458 + 3 * u + w)
noncomputable def ovT (M : Int → Int) (w : Int) : Int := sumZ (fun t => if w = 9 then pts M t else if w = 10 then gapN M t else goodN M t) (M 12)
def missC (M TR : Int → Int) : Int := sumZ (missN M TR) (M 13)
noncomputable def whV (M TR : Int → Int) (mt sm w : Int) : Int := if w = 0 then M 12 else if w = 1 then M 13 else if w = 2 then M 10 else if w = 3 then M 11 else if w = 4 then pcost M else if w = 6 then mt else if w = 7 then sm else if w = 8 then missC M TR else ovT M w
def zfor (M : Int → Int) (t u : Int) : Int := (angOf M t 0 - M (458 + 3 * u + 1) - M 0 * frm M t 0) % 360000
def TRok (f : Int → Int) : Prop := ∀ k : Int, 0 ≤ k → k < 12 → f k = -1000000000 ∨ (0 ≤ f k ∧ f k < 12)
theorem inv_S12 {M : Int → Int} (h : Inv M) : (0 ≤ M 12 ∧ M 12 ≤ 12) ∧ (0 ≤ M 13 ∧ M 13 ≤ 12) := h.1.2.2.2.2.2.2.2.2.2.2.2.2
theorem gap_end {f : Int → Int} {q n : Int} (h : 1 ≤ q) (h2 : q ≤ n ∨ q = 1) (h3 : n ≤ q) (h0 : 0 ≤ n) : sumZ f (q - 1) = sumZ f (n - 1) := by
  rcases Int.lt_or_le n q with z | z
  · have e1 : q = 1 := by omega
    have e2 : n = 0 := by omega
    subst e1; subst e2; rfl
  · have e : q = n := by omega
    subst e; rfl
theorem inv_gap {M : Int → Int} {t : Int} (h0 : 0 ≤ pts M t ∧ pts M t ≤ 12) : 0 ≤ gapN M t ∧ gapN M t ≤ 12 := by
  unfold gapN
  rcases Int.le_total 1 (pts M t) with z | z
  · have a := sumZ_bd (f := fun k => if M 6 < frm M t (k + 1) - frm M t k then (1 : Int) else 0) (lo := 0) (hi := 1) (p := pts M t - 1) (by omega) (fun k _ _ => by split <;> omega)
    omega
  · have e : (pts M t - 1).toNat = 0 := by omega
    have e2 : sumZ (fun k => if M 6 < frm M t (k + 1) - frm M t k then (1 : Int) else 0) (pts M t - 1) = 0 := by unfold sumZ; rw [e]; rfl
    omega
theorem hf_end {M : Int → Int} {t f b : Int} (h : (b = 0 ∧ ∀ k : Int, 0 ≤ k → k < pts M t → frm M t k ≠ f) ∨ (b = 1 ∧ ∃ k : Int, 0 ≤ k ∧ k < pts M t ∧ frm M t k = f)) : (hasF M t f ∧ b = 1) ∨ (¬ hasF M t f ∧ b = 0) := by
  rcases h with ⟨g, g2⟩ | ⟨g, g2⟩
  · exact Or.inr ⟨fun ⟨k, k0, k1, k2⟩ => g2 k k0 k1 k2, g⟩
  · exact Or.inl ⟨g2, g⟩
theorem goodN_1 {M : Int → Int} {t : Int} (h : isGoodP M t) : goodN M t = 1 := if_pos h
theorem goodN_0 {M : Int → Int} {t : Int} (h : ¬ isGoodP M t) : goodN M t = 0 := if_neg h
theorem missN_1 {M TR : Int → Int} {t : Int} (h : missP M TR t) : missN M TR t = 1 := if_pos h
theorem missN_0 {M TR : Int → Int} {t : Int} (h : ¬ missP M TR t) : missN M TR t = 0 := if_neg h
