/-! search: what the law's check of it is made of -/
theorem lkR_min {M : Int → Int} (hI : Inv M) (s x0 y0 : Int) : ∀ n : Nat, ∀ k : Int, 0 ≤ k → k < (n : Int) → nbOK M s k → (lkR M s x0 y0 n).2.2 ≠ -1000000000 ∧ (lkR M s x0 y0 n).2.2 ≤ nbC M s k
  | 0, k, h0, h1, _ => by exfalso; omega
  | n + 1, k, h0, h1, hk => by
    have ih := lkR_min hI s x0 y0 n
    by_cases hp : nbOK M s n ∧ ((lkR M s x0 y0 n).2.2 = -1000000000 ∨ nbC M s n < (lkR M s x0 y0 n).2.2)
    · have e : lkR M s x0 y0 (n + 1) = (nbX (M 10) s n, nbY (M 11) s n, nbC M s n) := by
        conv => lhs; unfold lkR
        rw [if_pos hp]
      have hc := inv_pcost (inv_tPo hI hp.1.2)
      rw [e]
      (try dsimp only)
      refine ⟨by unfold nbC; omega, ?_⟩
      rcases (show k = (n : Int) ∨ k < (n : Int) by omega) with e1 | e1
      · subst e1
        exact Int.le_refl _
      · have := ih k h0 e1 hk
        have := hp.2
        omega
    · have e : lkR M s x0 y0 (n + 1) = lkR M s x0 y0 n := by
        conv => lhs; unfold lkR
        rw [if_neg hp]
      rw [e]
      rcases (show k = (n : Int) ∨ k < (n : Int) by omega) with e1 | e1
      · subst e1
        constructor
        · intro z
          exact hp ⟨hk, Or.inl z⟩
        · rcases Int.lt_or_le (nbC M s (n : Int)) (lkR M s x0 y0 n).2.2 with g | g
          · exact absurd ⟨hk, Or.inr g⟩ hp
          · exact g
      · exact ih k h0 e1 hk
theorem lk_loc {M : Int → Int} (hI : Inv M) (h : ¬ lkOK M 1) {k : Int} (h0 : 0 ≤ k) (h1 : k < 9) (hp : poleOK (M 10 + k % 3 - 1) (M 11 + k / 3 - 1)) : pcost M ≤ pcost (tPo M (M 10 + k % 3 - 1) (M 11 + k / 3 - 1)) := by
  by_cases h4 : k = 4
  · subst h4
    rw [show M 10 + 4 % 3 - 1 = M 10 by omega, show M 11 + 4 / 3 - 1 = M 11 by omega, tPo_id]
    exact Int.le_refl _
  · have ex : nbX (M 10) 1 k = M 10 + k % 3 - 1 := by unfold nbX; omega
    have ey : nbY (M 11) 1 k = M 11 + k / 3 - 1 := by unfold nbY; omega
    have hk : nbOK M 1 k := ⟨h4, by rw [ex, ey]; exact hp⟩
    have g := lkR_min hI 1 0 0 9 k h0 (by omega) hk
    unfold nbC at g
    rw [ex, ey] at g
    rcases Int.lt_or_le (lkR M 1 0 0 9).2.2 (pcost M) with z | z
    · exact absurd ⟨g.1, z⟩ h
    · omega
theorem srF_sp : ∀ (f : Nat) (M : Int → Int) (s : Int), Inv M → 0 ≤ s → pcost M + s < (f : Int) → (0 ≤ (srF f M s).2 ∧ pcost (srF f M s).1 ≤ pcost M - (srF f M s).2) ∧ (1 ≤ s → ¬ lkOK (srF f M s).1 1)
  | 0, M, s, hI, hs, hf => by
    have := (inv_pcost hI).1
    exfalso
    omega
  | f + 1, M, s, hI, hs, hf => by
    rw [srF_s]
    by_cases h0 : s ≤ 0
    · rw [if_pos h0]
      exact ⟨⟨Int.le_refl _, by (try dsimp only); omega⟩, fun h => by exfalso; omega⟩
    · rw [if_neg h0]
      by_cases hk : lkOK M s
      · rw [if_pos hk]
        rcases lkOK_of (M := M) (s := s) (x0 := 0) (y0 := 0) (a := (lkc M s).1) (b := (lkc M s).2.1) (c := (lkc M s).2.2) rfl with ⟨_, g⟩ | ⟨g1, g2, g3, g4⟩
        · exact absurd hk g
        · have hlt := hk.2
          rw [g3] at hlt
          have ih := srF_sp f (tPo M (lkc M s).1 (lkc M s).2.1) s (inv_tPo hI g2) hs (by omega)
          (try dsimp only)
          exact ⟨⟨by omega, by omega⟩, ih.2⟩
      · rw [if_neg hk]
        have ih := srF_sp f M (s / 2) hI (by omega) (by omega)
        refine ⟨ih.1, fun h1 => ?_⟩
        rcases (show s = 1 ∨ 2 ≤ s by omega) with e | e
        · subst e
          have e0 : srF f M (1 / 2) = (M, 0) := by
            cases f with
            | zero => rfl
            | succ f => rw [srF_s, if_pos (by decide)]
          rw [e0]
          exact hk
        · exact ih.2 (by omega)
/-- what a search leaves -/
theorem srch_sp {M : Int → Int} {s : Int} (hI : Inv M) (h : 1 ≤ s ∧ s ≤ 512) : (0 ≤ (srch M s).2 ∧ pcost (srch M s).1 ≤ pcost M - (srch M s).2) ∧ ¬ lkOK (srch M s).1 1 := by
  have hp := inv_pcost hI
  have g := srF_sp 200000 M s hI (by omega) (by omega)
  exact ⟨g.1, g.2 h.1⟩
theorem srch_loc {M : Int → Int} (hI : Inv M) (h : ¬ lkOK M 1) : (srch M 1).2 = 0 := by
  rw [srch_n hI (by decide) (by decide) h, srch_0 (by decide)]
