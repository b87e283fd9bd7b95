/-! best drift, as the class goes through it -/
def bdR (M : Int → Int) (q k U V L : Int) : Prop := ∃ b c : Int, bdI M q k.toNat = (b, c) ∧ ((b = -1000000000 ∧ L = -1000000000) ∨ (b = 1000 * (U + 100) + V + 100 ∧ c = L ∧ 0 ≤ L ∧ -1000000000 < b))
theorem bdR_skip {M : Int → Int} {q U V L : Int} : ∀ (n : Nat) (k : Int), 0 ≤ k → bdR M q k U V L → (∀ j : Int, k ≤ j → j < k + n → ¬ ((-100 ≤ bdU M q j ∧ bdU M q j ≤ 100) ∧ -100 ≤ bdV M q j ∧ bdV M q j ≤ 100)) → bdR M q (k + n) U V L
  | 0, k, _, h, _ => by rw [show k + ((0 : Nat) : Int) = k by omega]; exact h
  | n + 1, k, h0, h, hn => by
    obtain ⟨b, c, h1, h2⟩ := h
    have h3 := bdI_n h0 h1 (fun g => hn k (Int.le_refl _) (by omega) g.1)
    have h4 := bdR_skip n (k + 1) (by omega) ⟨b, c, h3, h2⟩ (fun j a b => hn j (by omega) (by omega))
    rw [show k + ((n + 1 : Nat) : Int) = k + 1 + (n : Int) by omega]
    exact h4
theorem bd_ix (M : Int → Int) {q du dv k : Int} (hk : k = (du + q) * (2 * q + 1) + (dv + q)) (h : -q ≤ dv ∧ dv ≤ q) : bdU M q k = M 1 + du ∧ bdV M q k = M 2 + dv := by
  have e1 : k / (2 * q + 1) = du + q := by
    rw [hk]
    refine div_uniq (by omega) ?_ ?_
    · omega
    · omega
  have e2 : k % (2 * q + 1) = dv + q := by
    have h3 := Int.emod_def k (2 * q + 1)
    rw [e1] at h3
    have h4 : (2 * q + 1) * (du + q) = (du + q) * (2 * q + 1) := Int.mul_comm _ _
    omega
  unfold bdU bdV
  rw [e1, e2]
  omega
theorem bd_k0 {q du dv : Int} (hq : 0 ≤ q) (hu : -q ≤ du) (hv : -q ≤ dv) : 0 ≤ (du + q) * (2 * q + 1) + (dv + q) := by
  have := Int.mul_nonneg (show 0 ≤ du + q by omega) (show 0 ≤ 2 * q + 1 by omega)
  omega
theorem bdR_y {M : Int → Int} {q du dv U V L ct : Int} (h : bdR M q ((du + q) * (2 * q + 1) + (dv + q)) U V L) (hu : -q ≤ du) (hv : -q ≤ dv ∧ dv ≤ q) (h1 : -100 ≤ M 1 + du ∧ M 1 + du ≤ 100) (h2 : -100 ≤ M 2 + dv ∧ M 2 + dv ≤ 100) (hc : ct = pcost (tDr M (M 1 + du) (M 2 + dv))) (h0 : 0 ≤ ct) (hl : L = -1000000000 ∨ ct < L) : bdR M q ((du + q) * (2 * q + 1) + (dv + 1 + q)) (M 1 + du) (M 2 + dv) ct := by
  obtain ⟨b, c, g1, g2⟩ := h
  have k0 := bd_k0 (q := q) (du := du) (dv := dv) (by omega) hu hv.1
  obtain ⟨e1, e2⟩ := bd_ix M rfl hv (du := du)
  have g3 := bdI_y k0 g1 (by rw [e1, e2]; exact ⟨h1, h2⟩) (by
    rw [e1, e2, ← hc]
    rcases g2 with ⟨a1, a2⟩ | ⟨a1, a2, a3, a4⟩
    · exact Or.inl a1
    · rcases hl with h | h
      · omega
      · exact Or.inr (by omega))
  rw [e1, e2, ← hc] at g3
  refine ⟨_, _, by rw [show (du + q) * (2 * q + 1) + (dv + 1 + q) = (du + q) * (2 * q + 1) + (dv + q) + 1 by omega]; exact g3, Or.inr ⟨rfl, rfl, h0, by omega⟩⟩
theorem bdR_n {M : Int → Int} {q du dv U V L ct : Int} (h : bdR M q ((du + q) * (2 * q + 1) + (dv + q)) U V L) (hu : -q ≤ du) (hv : -q ≤ dv ∧ dv ≤ q) (hc : ct = pcost (tDr M (M 1 + du) (M 2 + dv))) (h0 : L ≠ -1000000000) (hl : L ≤ ct) : bdR M q ((du + q) * (2 * q + 1) + (dv + 1 + q)) U V L := by
  obtain ⟨b, c, g1, g2⟩ := h
  have k0 := bd_k0 (q := q) (du := du) (dv := dv) (by omega) hu hv.1
  obtain ⟨e1, e2⟩ := bd_ix M rfl hv (du := du)
  have g3 := bdI_n k0 g1 (fun g => by
    have g4 := g.2
    rw [e1, e2, ← hc] at g4
    rcases g2 with ⟨a1, a2⟩ | ⟨a1, a2, a3, a4⟩
    · exact h0 a2
    · omega)
  exact ⟨b, c, by rw [show (du + q) * (2 * q + 1) + (dv + 1 + q) = (du + q) * (2 * q + 1) + (dv + q) + 1 by omega]; exact g3, g2⟩
/-- the places ahead of a row's first, behind its last; the rows ahead of the first, behind the last -/
theorem bdR_st {M : Int → Int} {q du dv U V L : Int} (h : bdR M q ((du + q) * (2 * q + 1)) U V L) (hu : -q ≤ du) (hv : -q ≤ dv ∧ dv ≤ q + 1) (hd : dv = -q ∨ M 2 + dv ≤ -100) : bdR M q ((du + q) * (2 * q + 1) + (dv + q)) U V L := by
  have h9 := bdR_skip (dv + q).toNat ((du + q) * (2 * q + 1)) (Int.mul_nonneg (by omega) (by omega)) h (fun j a b g => by
    obtain ⟨e1, e2⟩ := bd_ix M (q := q) (du := du) (dv := j - (du + q) * (2 * q + 1) - q) (k := j) (by omega) (by omega)
    rw [e2] at g
    omega)
  rw [show ((dv + q).toNat : Int) = dv + q by omega] at h9
  exact h9
theorem bdR_row {M : Int → Int} {q du dv U V L : Int} (h : bdR M q ((du + q) * (2 * q + 1) + (dv + q)) U V L) (hu : -q ≤ du) (hv : -q ≤ dv ∧ dv ≤ q + 1) (hd : dv = q + 1 ∨ 100 < M 2 + dv) : bdR M q ((du + 1 + q) * (2 * q + 1)) U V L := by
  have h9 := bdR_skip (q + 1 - dv).toNat ((du + q) * (2 * q + 1) + (dv + q)) (bd_k0 (by omega) hu hv.1) h (fun j a b g => by
    obtain ⟨e1, e2⟩ := bd_ix M (q := q) (du := du) (dv := j - (du + q) * (2 * q + 1) - q) (k := j) (by omega) (by omega)
    rw [e2] at g
    omega)
  have e : (du + 1 + q) * (2 * q + 1) = (du + q) * (2 * q + 1) + (2 * q + 1) := by rw [show du + 1 + q = (du + q) + 1 by omega, Int.add_mul, Int.one_mul]
  rw [e, show (du + q) * (2 * q + 1) + (2 * q + 1) = (du + q) * (2 * q + 1) + (dv + q) + ((q + 1 - dv).toNat : Int) by omega]
  exact h9
theorem bd_rows {M : Int → Int} {q : Int} {j : Int} (hq : 0 ≤ q) (h0 : 0 ≤ j) : ∃ du dv : Int, j = (du + q) * (2 * q + 1) + (dv + q) ∧ (-q ≤ dv ∧ dv ≤ q) ∧ bdU M q j = M 1 + du ∧ ∀ e : Int, (e + q) * (2 * q + 1) ≤ j → e ≤ du := by
  obtain ⟨h1, h2⟩ := div_spec (a := j) (b := 2 * q + 1) (by omega)
  have hv : -q ≤ j - j / (2 * q + 1) * (2 * q + 1) - q ∧ j - j / (2 * q + 1) * (2 * q + 1) - q ≤ q := by omega
  have hj : j = (j / (2 * q + 1) - q + q) * (2 * q + 1) + (j - j / (2 * q + 1) * (2 * q + 1) - q + q) := by
    rw [show j / (2 * q + 1) - q + q = j / (2 * q + 1) by omega]; omega
  refine ⟨j / (2 * q + 1) - q, j - j / (2 * q + 1) * (2 * q + 1) - q, hj, hv, (bd_ix M hj hv).1, fun e he => ?_⟩
  have := Int.le_ediv_of_mul_le (show 0 < 2 * q + 1 by omega) he
  omega
theorem bdR_lo {M : Int → Int} {q du : Int} (hq : 0 ≤ q) (hu : -q ≤ du) (hd : du = -q ∨ M 1 + du ≤ -100) (U V : Int) : bdR M q ((du + q) * (2 * q + 1)) U V (-1000000000) := by
  have z := Int.mul_nonneg (show 0 ≤ du + q by omega) (show 0 ≤ 2 * q + 1 by omega)
  have h9 := bdR_skip (M := M) (q := q) (U := U) (V := V) (L := -1000000000) ((du + q) * (2 * q + 1)).toNat 0 (Int.le_refl 0) ⟨-1000000000, 0, rfl, Or.inl ⟨rfl, rfl⟩⟩ (fun j a b g => by
    obtain ⟨du2, dv2, r1, r2, r3, r4⟩ := bd_rows (M := M) (q := q) (j := j) hq a
    rw [r3] at g
    rcases hd with hd | hd
    · rw [hd, show (-q + q) * (2 * q + 1) = 0 by rw [show -q + q = (0 : Int) by omega, Int.zero_mul]] at b
      omega
    · have hlt : du2 < du := by
        rcases Int.lt_or_le du2 du with y | y
        · exact y
        · have := Int.mul_le_mul_of_nonneg_right (show du + q ≤ du2 + q by omega) (show 0 ≤ 2 * q + 1 by omega)
          omega
      omega)
  rw [show (0 : Int) + (((du + q) * (2 * q + 1)).toNat : Int) = (du + q) * (2 * q + 1) by omega] at h9
  exact h9
theorem bdR_end {M : Int → Int} {q du U V L : Int} (hq : 0 ≤ q) (h : bdR M q ((du + q) * (2 * q + 1)) U V L) (hu : -q ≤ du ∧ du ≤ q + 1) (hd : du = q + 1 ∨ 100 < M 1 + du) (hL : L ≠ -1000000000) : 1000 * (U + 100) + (V + 100) = bdF M q := by
  have z := Int.mul_nonneg (show 0 ≤ du + q by omega) (show 0 ≤ 2 * q + 1 by omega)
  have z2 := Int.mul_le_mul_of_nonneg_right (show du + q ≤ 2 * q + 1 by omega) (show 0 ≤ 2 * q + 1 by omega)
  have h9 := bdR_skip ((2 * q + 1) * (2 * q + 1) - (du + q) * (2 * q + 1)).toNat ((du + q) * (2 * q + 1)) z h (fun j a b g => by
    obtain ⟨du2, dv2, r1, r2, r3, r4⟩ := bd_rows (M := M) (q := q) (j := j) hq (by omega)
    have r5 := r4 du a
    rw [r3] at g
    rcases hd with hd | hd
    · rw [hd, show q + 1 + q = 2 * q + 1 by omega] at a b
      omega
    · omega)
  rw [show (du + q) * (2 * q + 1) + (((2 * q + 1) * (2 * q + 1) - (du + q) * (2 * q + 1)).toNat : Int) = (2 * q + 1) * (2 * q + 1) by omega] at h9
  obtain ⟨b, c, g1, g2⟩ := h9
  unfold bdF
  rw [g1]
  rcases g2 with ⟨a1, a2⟩ | ⟨a1, a2, a3, a4⟩
  · exact absurd a2 hL
  · show _ = b
    omega
/-! best zero, as the class goes through it -/
theorem bz_go {M : Int → Int} {t u z b m9 s9 : Int} (ht : 0 ≤ t) (hu : 0 ≤ u ∧ u < M 13) (hp : ¬ pts M t = 0) (hz : z = zfor M t u) (h : bzI M (t * M 13 + u).toNat = (b, m9, s9)) : bzI M (t * M 13 + (u + 1)).toNat = bzN M z (b, m9, s9) := by
  have k0 : 0 ≤ t * M 13 := Int.mul_nonneg ht (by omega)
  have e1 : (t * M 13 + u) / M 13 = t := div_uniq (by omega) (by omega) (by omega)
  have e2 : (t * M 13 + u) % M 13 = u := by
    have := Int.emod_def (t * M 13 + u) (M 13)
    rw [e1, Int.mul_comm (M 13)] at this
    omega
  rw [show t * M 13 + (u + 1) = t * M 13 + u + 1 by omega, bzI_s M (by omega), e1, e2, if_neg hp, h, hz]
theorem bz_sk {M : Int → Int} {t : Int} {B : Int × Int × Int} (ht : 0 ≤ t) (h13 : 0 ≤ M 13) (hp : pts M t = 0) (h : bzI M (t * M 13).toNat = B) : bzI M ((t + 1) * M 13).toNat = B := by
  have k0 : 0 ≤ t * M 13 := Int.mul_nonneg ht h13
  have key : ∀ n : Nat, (n : Int) ≤ M 13 → bzI M (t * M 13 + n).toNat = B := by
    intro n
    induction n with
    | zero => intro _; rw [show t * M 13 + ((0 : Nat) : Int) = t * M 13 by omega]; exact h
    | succ n ih =>
      intro hn
      have e1 : (t * M 13 + n) / M 13 = t := div_uniq (by omega) (by omega) (by omega)
      rw [show t * M 13 + ((n + 1 : Nat) : Int) = t * M 13 + n + 1 by omega, bzI_s M (by omega), e1, if_pos hp]
      exact ih (by omega)
  have k := key (M 13).toNat (by omega)
  rw [show t * M 13 + ((M 13).toNat : Int) = (t + 1) * M 13 by rw [Int.add_mul, Int.one_mul]; omega] at k
  exact k
theorem bzN_y {M : Int → Int} {z b m9 s9 m2 s2 : Int} (h1 : m2 = (mat M z).2.2.1) (h2 : s2 = (mat M z).2.2.2) (h : b = -1000000000 ∨ m9 < m2 ∨ (m2 = m9 ∧ (s2 < s9 ∨ (s2 = s9 ∧ z < b)))) : bzN M z (b, m9, s9) = (z, m2, s2) := by
  unfold bzN
  rw [← h1, ← h2, if_pos h]
theorem bzN_n {M : Int → Int} {z b m9 s9 m2 s2 : Int} (h1 : m2 = (mat M z).2.2.1) (h2 : s2 = (mat M z).2.2.2) (h : ¬ (b = -1000000000 ∨ m9 < m2 ∨ (m2 = m9 ∧ (s2 < s9 ∨ (s2 = s9 ∧ z < b))))) : bzN M z (b, m9, s9) = (b, m9, s9) := by
  unfold bzN
  rw [← h1, ← h2, if_neg h]
/-! sums over the matched trails are sums over the matched stars -/
theorem sumI_z : ∀ n : Nat, sumI (fun _ => 0) n = 0
  | 0 => rfl
  | n + 1 => by
    show sumI (fun _ => 0) n + 0 = 0
    rw [sumI_z n]; rfl
theorem sc_two {M : Int → Int} (z : Int) (hI : Inv M) (F : Int → Int → Int) : ∀ n : Nat, sumZ (fun t => if (matS M z n).1 t = -1000000000 then 0 else F t ((matS M z n).1 t)) (M 12) = sumZ (fun u => if (matS M z n).2.1 u = -1000000000 then 0 else F ((matS M z n).2.1 u) u) (M 13)
  | 0 => by
    have e1 : (fun t => if (matS M z 0).1 t = -1000000000 then 0 else F t ((matS M z 0).1 t)) = fun _ => 0 := by funext t; exact if_pos rfl
    have e2 : (fun u => if (matS M z 0).2.1 u = -1000000000 then 0 else F ((matS M z 0).2.1 u) u) = fun _ => 0 := by funext t; exact if_pos rfl
    rw [e1, e2]
    unfold sumZ
    rw [sumI_z, sumI_z]
  | n + 1 => by
    have ih := sc_two z hI F n
    have h12 := inv_S12 hI
    by_cases hp : pick M z (matS M z n).1 (matS M z n).2.1 = -1000000000
    · have e : matS M z (n + 1) = matS M z n := matS_stop hp 1
      rw [e]; exact ih
    · obtain ⟨c, r⟩ := pick_ok hI hp
      obtain ⟨b, hb⟩ : ∃ b, b = pick M z (matS M z n).1 (matS M z n).2.1 := ⟨_, rfl⟩
      rw [← hb] at c r hp
      have e := matS_go hb.symm hp
      rw [e]
      have u1 := sumI_upd (f := fun t => if ups (matS M z n).1 (b / 12) (b % 12) t = -1000000000 then 0 else F t (ups (matS M z n).1 (b / 12) (b % 12) t)) (g := fun t => if (matS M z n).1 t = -1000000000 then 0 else F t ((matS M z n).1 t)) (i := b / 12) (fun k hk => by (try dsimp only); rw [ups_ne _ _ hk]) (M 12).toNat
      have u2 := sumI_upd (f := fun u => if ups (matS M z n).2.1 (b % 12) (b / 12) u = -1000000000 then 0 else F (ups (matS M z n).2.1 (b % 12) (b / 12) u) u) (g := fun u => if (matS M z n).2.1 u = -1000000000 then 0 else F ((matS M z n).2.1 u) u) (i := b % 12) (fun k hk => by (try dsimp only); rw [ups_ne _ _ hk]) (M 13).toNat
      rw [if_pos (by omega)] at u1 u2
      (try dsimp only at u1 u2)
      rw [ups_eq, if_neg (by omega), if_pos c.2.2.2.1] at u1
      rw [ups_eq, if_neg (by omega), if_pos c.2.2.2.2.1] at u2
      unfold sumZ at ih ⊢
      (try dsimp only)
      omega
theorem sc_C {M : Int → Int} (hI : Inv M) : scS M (M 12) = sumZ (fun u => if (mat M (M 8)).2.1 u = -1000000000 then 0 else rdT M ((mat M (M 8)).2.1 u)) (M 13) ∧ scB M (M 12) = sumZ (fun u => if (mat M (M 8)).2.1 u = -1000000000 then 0 else M (458 + 3 * u)) (M 13) :=
  ⟨sc_two (M 8) hI (fun t _ => rdT M t) 12, sc_two (M 8) hI (fun _ u => M (458 + 3 * u)) 12⟩
theorem ms_no {f : Int → Int} {s left m : Int} (h : s < m) (h0 : f s = 0) : msI f (m - s).toNat s left = msI f (m - (s + 1)).toNat (s + 1) left := by
  rw [msI_s h, if_neg (by omega), h0, Int.sub_zero]
theorem ms_yes {f : Int → Int} {s left m : Int} (h : s < m) (h1 : f s = 1) (hl : left ≠ 0) : msI f (m - s).toNat s left = msI f (m - (s + 1)).toNat (s + 1) (left - 1) := by
  rw [msI_s h, if_neg (by omega), h1]
theorem ms_hit {f : Int → Int} {s left m : Int} (h : s < m) (h1 : f s = 1) (hl : left = 0) : msI f (m - s).toNat s left = s := by
  rw [msI_s h, if_pos ⟨h1, hl⟩]
theorem goodN_p {M : Int → Int} {t : Int} (h : goodN M t ≠ 0) : isGoodP M t := by
  by_cases z : isGoodP M t
  · exact z
  · exact absurd (goodN_0 z) h
theorem goodN_q {M : Int → Int} {t : Int} (h : goodN M t = 0) : ¬ isGoodP M t := fun z => by
  have := goodN_1 z
  omega
