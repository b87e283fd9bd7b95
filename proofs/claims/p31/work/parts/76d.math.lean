/-! drifts and zeros: what the law's check of thoughts is made of -/
abbrev bdK (M : Int → Int) (q k : Int) : Prop := (-100 ≤ bdU M q k ∧ bdU M q k ≤ 100) ∧ -100 ≤ bdV M q k ∧ bdV M q k ≤ 100
theorem bdI_sp {M : Int → Int} (q : Int) : ∀ n : Nat, ((bdI M q n).1 = -1000000000 ∧ ∀ k : Int, 0 ≤ k → k < (n : Int) → ¬ bdK M q k) ∨ ∃ k : Int, (0 ≤ k ∧ k < (n : Int)) ∧ bdK M q k ∧ bdI M q n = (1000 * (bdU M q k + 100) + bdV M q k + 100, pcost (tDr M (bdU M q k) (bdV M q k))) ∧ ∀ j : Int, 0 ≤ j → j < (n : Int) → bdK M q j → (bdI M q n).2 ≤ pcost (tDr M (bdU M q j) (bdV M q j))
  | 0 => Or.inl ⟨rfl, fun k a b => by exfalso; omega⟩
  | n + 1 => by
    have ih := bdI_sp (M := M) q n
    by_cases hp : bdK M q n ∧ ((bdI M q n).1 = -1000000000 ∨ pcost (tDr M (bdU M q n) (bdV M q n)) < (bdI M q n).2)
    · have e : bdI M q (n + 1) = (1000 * (bdU M q n + 100) + bdV M q n + 100, pcost (tDr M (bdU M q n) (bdV M q n))) := by
        conv => lhs; unfold bdI
        rw [if_pos hp]
      refine Or.inr ⟨n, ⟨by omega, by omega⟩, hp.1, e, fun j j0 j1 hj => ?_⟩
      rw [e]
      (try dsimp only)
      rcases (show j = (n : Int) ∨ j < (n : Int) by omega) with e1 | e1
      · subst e1
        exact Int.le_refl _
      · rcases ih with ⟨h1, h2⟩ | ⟨k, hk, hk2, hk3, hk4⟩
        · exact absurd hj (h2 j j0 e1)
        · have h4 := hk4 j j0 e1 hj
          rcases hp.2 with h | h
          · rw [hk3] at h
            (try dsimp only at h)
            exfalso
            omega
          · omega
    · have e : bdI M q (n + 1) = bdI M q n := by
        conv => lhs; unfold bdI
        rw [if_neg hp]
      rw [e]
      rcases ih with ⟨h1, h2⟩ | ⟨k, hk, hk2, hk3, hk4⟩
      · refine Or.inl ⟨h1, fun k k0 k1 hv => ?_⟩
        rcases (show k = (n : Int) ∨ k < (n : Int) by omega) with e1 | e1
        · subst e1
          exact hp ⟨hv, Or.inl h1⟩
        · exact h2 k k0 e1 hv
      · refine Or.inr ⟨k, ⟨hk.1, by omega⟩, hk2, hk3, fun j j0 j1 hj => ?_⟩
        rcases (show j = (n : Int) ∨ j < (n : Int) by omega) with e1 | e1
        · subst e1
          rcases Int.lt_or_le (pcost (tDr M (bdU M q n) (bdV M q n))) (bdI M q n).2 with g | g
          · exact absurd ⟨hj, Or.inr g⟩ hp
          · exact g
        · exact hk4 j j0 e1 hj
theorem bdF_sp {M : Int → Int} {q : Int} (hI : Inv M) (hq : 0 ≤ q ∧ q ≤ 5) : ∃ u v : Int, bdF M q = 1000 * (u + 100) + v + 100 ∧ ((-100 ≤ u ∧ u ≤ 100) ∧ -100 ≤ v ∧ v ≤ 100) ∧ ((M 1 - q ≤ u ∧ u ≤ M 1 + q) ∧ M 2 - q ≤ v ∧ v ≤ M 2 + q) ∧ pcost (tDr M u v) ≤ pcost M := by
  have hS := hI.1
  unfold InvS at hS
  have hn : (((2 * q + 1) * (2 * q + 1)).toNat : Int) = (2 * q + 1) * (2 * q + 1) := Int.toNat_of_nonneg (Int.mul_nonneg (by omega) (by omega))
  have hk0 : 0 ≤ (0 + q) * (2 * q + 1) + (0 + q) := bd_k0 hq.1 (by omega) (by omega)
  have hk1 : (0 + q) * (2 * q + 1) + (0 + q) < (2 * q + 1) * (2 * q + 1) := by
    rcases (show q = 0 ∨ q = 1 ∨ q = 2 ∨ q = 3 ∨ q = 4 ∨ q = 5 by omega) with e | e | e | e | e | e <;> subst e <;> decide
  obtain ⟨x1, x2⟩ := bd_ix M (q := q) (du := 0) (dv := 0) rfl (by omega)
  have hv : bdK M q ((0 + q) * (2 * q + 1) + (0 + q)) := by
    unfold bdK
    rw [x1, x2]
    omega
  rcases bdI_sp (M := M) q ((2 * q + 1) * (2 * q + 1)).toNat with ⟨h1, h2⟩ | ⟨k, hk, hk2, hk3, hk4⟩
  · exact absurd hv (h2 _ hk0 (by omega))
  · have h4 := hk4 _ hk0 (by omega) hv
    rw [x1, x2, Int.add_zero, Int.add_zero, tDr_id, hk3] at h4
    have d0 := Int.ediv_nonneg hk.1 (show 0 ≤ 2 * q + 1 by omega)
    have d1 : k / (2 * q + 1) < 2 * q + 1 := Int.ediv_lt_of_lt_mul (by omega) (by omega)
    have r0 := Int.emod_nonneg k (show 2 * q + 1 ≠ 0 by omega)
    have r1 := Int.emod_lt_of_pos k (show 0 < 2 * q + 1 by omega)
    refine ⟨bdU M q k, bdV M q k, by unfold bdF; rw [hk3], hk2, ?_, h4⟩
    unfold bdU bdV
    omega
theorem bdF_0 {M : Int → Int} (hI : Inv M) : bdF M 0 = 1000 * (M 1 + 100) + M 2 + 100 := by
  obtain ⟨u, v, h1, h2, h3, h4⟩ := bdF_sp hI (q := 0) (by decide)
  rw [h1]
  omega
/-- the best zero is one that some pair brings -/
theorem bzI_sp {M : Int → Int} : ∀ n : Nat, ((bzI M n).1 = -1000000000 ∧ ∀ k : Int, 0 ≤ k → k < (n : Int) → pts M (k / M 13) = 0) ∨ ∃ k : Int, (0 ≤ k ∧ k < (n : Int)) ∧ pts M (k / M 13) ≠ 0 ∧ (bzI M n).1 = zfor M (k / M 13) (k % M 13)
  | 0 => Or.inl ⟨rfl, fun k a b => by exfalso; omega⟩
  | n + 1 => by
    have ih := bzI_sp (M := M) n
    by_cases hp : pts M ((n : Int) / M 13) = 0
    · have e : bzI M (n + 1) = bzI M n := by
        conv => lhs; unfold bzI
        rw [if_pos hp]
      rw [e]
      rcases ih with ⟨h1, h2⟩ | ⟨k, hk, hk2, hk3⟩
      · refine Or.inl ⟨h1, fun k k0 k1 => ?_⟩
        rcases (show k = (n : Int) ∨ k < (n : Int) by omega) with e1 | e1
        · subst e1
          exact hp
        · exact h2 k k0 e1
      · exact Or.inr ⟨k, ⟨hk.1, by omega⟩, hk2, hk3⟩
    · have e : bzI M (n + 1) = bzN M (zfor M ((n : Int) / M 13) ((n : Int) % M 13)) (bzI M n) := by
        conv => lhs; unfold bzI
        rw [if_neg hp]
      have hb := zfor_bd M ((n : Int) / M 13) ((n : Int) % M 13)
      rw [e]
      unfold bzN
      split
      · exact Or.inr ⟨n, ⟨by omega, by omega⟩, hp, rfl⟩
      · next hc =>
        rcases ih with ⟨h1, h2⟩ | ⟨k, hk, hk2, hk3⟩
        · exact absurd (Or.inl h1) hc
        · exact Or.inr ⟨k, ⟨hk.1, by omega⟩, hk2, hk3⟩
theorem bzF_sp {M : Int → Int} (hI : Inv M) : (bzF M = -1000000000 ∧ (M 13 = 0 ∨ sumZ (pts M) (M 12) = 0)) ∨ (bzF M ≠ -1000000000 ∧ (0 ≤ bzF M ∧ bzF M ≤ 359999) ∧ ∃ t u : Int, (0 ≤ t ∧ t < M 12) ∧ (0 ≤ u ∧ u < M 13) ∧ 0 < pts M t ∧ bzF M = zfor M t u) := by
  have h12 := inv_S12 hI
  have hn : ((M 13 * M 12).toNat : Int) = M 13 * M 12 := Int.toNat_of_nonneg (Int.mul_nonneg (by omega) (by omega))
  rcases bzI_sp (M := M) (M 13 * M 12).toNat with ⟨h1, h2⟩ | ⟨k, hk, hk2, hk3⟩
  · refine Or.inl ⟨h1, ?_⟩
    by_cases h13 : M 13 = 0
    · exact Or.inl h13
    · refine Or.inr ?_
      have hz : ∀ t : Int, 0 ≤ t → t < M 12 → pts M t = 0 := fun t t0 t1 => by
        have e1 : t * M 13 / M 13 = t := Int.mul_ediv_cancel t h13
        have g := h2 (t * M 13) (Int.mul_nonneg t0 (by omega)) (by
          rw [hn, Int.mul_comm (M 13) (M 12)]
          exact Int.mul_lt_mul_of_pos_right t1 (by omega))
        rw [e1] at g
        exact g
      have a := sumZ_bd (f := pts M) (lo := 0) (hi := 0) (p := M 12) h12.1.1 (fun t t0 t1 => by have := hz t t0 t1; omega)
      omega
  · obtain ⟨p1, p2, p3⟩ := bz_pos hk.1 (x := M 13) (y := M 12) (by omega) (by omega)
    have hb := zfor_bd M (k / M 13) (k % M 13)
    have hp := inv_pts hI p2.1 p2.2
    refine Or.inr ⟨?_, ?_, k / M 13, k % M 13, p2, p3, by omega, hk3⟩
    · show (bzI M (M 13 * M 12).toNat).1 ≠ -1000000000
      omega
    · show 0 ≤ (bzI M (M 13 * M 12).toNat).1 ∧ (bzI M (M 13 * M 12).toNat).1 ≤ 359999
      omega
theorem bzN_u8 (M : Int → Int) (y z : Int) (B : Int × Int × Int) : bzN (ups M 8 y) z B = bzN M z B := by
  unfold bzN
  rw [u8_mat]
theorem bzI_u8 {M : Int → Int} (hI : Inv M) (y : Int) : ∀ n : Nat, bzI (ups M 8 y) n = bzI M n
  | 0 => rfl
  | n + 1 => by
    have h12 := inv_S12 hI
    have ih := bzI_u8 hI y n
    have e13 : ups M 8 y 13 = M 13 := u8_ne M y (by decide)
    have d0 : 0 ≤ (n : Int) / M 13 := Int.ediv_nonneg (by omega) h12.2.1
    have r0 : 0 ≤ (n : Int) % M 13 := by
      by_cases h : M 13 = 0
      · rw [h, Int.emod_zero]; omega
      · exact Int.emod_nonneg _ h
    unfold bzI
    rw [e13, u8_pts M y _ d0, u8_zfor M y d0 r0, bzN_u8, ih]
theorem bzF_u8 {M : Int → Int} (hI : Inv M) (y : Int) : bzF (ups M 8 y) = bzF M := by
  unfold bzF
  rw [u8_ne M y (show (13 : Int) ≠ 8 by decide), u8_ne M y (show (12 : Int) ≠ 8 by decide), bzI_u8 hI]
theorem sta_bd (M : Int → Int) (z u f : Int) : 0 ≤ stAng M z u f ∧ stAng M z u f < 360000 := by
  unfold stAng
  omega
/-- the zero that a pair brings makes their angles the same -/
theorem zfor_meets {M : Int → Int} {t u : Int} (h0 : 0 ≤ t) (h2 : 0 ≤ u) : stAng (ups M 8 (zfor M t u)) (ups M 8 (zfor M t u) 8) u (frm (ups M 8 (zfor M t u)) t 0) = angOf (ups M 8 (zfor M t u)) t 0 := by
  have ha := inv_ang (M := M) t 0
  rw [u8_ang M _ h0 (Int.le_refl 0), u8_frm M _ h0 (Int.le_refl 0), ups_eq]
  unfold stAng
  rw [u8_ne M _ (show 458 + 3 * u + 1 ≠ 8 by omega), u8_ne M _ (show (0 : Int) ≠ 8 by decide)]
  unfold zfor
  omega
