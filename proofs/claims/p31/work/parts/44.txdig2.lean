/-! ranges of what the digest mixes -/
theorem trV_bd {M SO : Int → Int} {t w : Int} (hI : Inv M) (h0 : 0 ≤ t) (h1 : t < M 12) (hs : -1000000000 ≤ SO t ∧ SO t ≤ 12) : -2147483648 ≤ trV M SO t w ∧ trV M SO t w ≤ 2147483647 := by
  have hp := inv_pts hI h0 h1
  have hg := inv_gap hp
  have hn : goodN M t = 0 ∨ goodN M t = 1 := by
    by_cases z : isGoodP M t
    · exact Or.inr (goodN_1 z)
    · exact Or.inl (goodN_0 z)
  unfold trV
  by_cases z : pts M t = 0 ∧ 0 < w ∧ w < 6
  · rw [if_pos z]; omega
  · rw [if_neg z]
    by_cases y : 0 < pts M t
    · have a1 := inv_rdT hI h0 h1 y
      have a2 := inv_sprd hI h0 h1 y
      have a3 := inv_swp2 hI h0 h1 y
      have a4 := inv_misf hI h0 h1 y
      (repeat' split) <;> omega
    · have q : w ≤ 0 ∨ 6 ≤ w := by omega
      rw [show (if w = 1 then rdT M t else if w = 2 then sprd M t else if w = 3 then swp M t else if w = 4 then M 0 * fspan M t else if w = 5 then misf M t else if w = 6 then goodN M t else if w = 7 then gapN M t else SO t) = (if w = 6 then goodN M t else if w = 7 then gapN M t else SO t) by
        rw [if_neg (show ¬ w = 1 by omega), if_neg (show ¬ w = 2 by omega), if_neg (show ¬ w = 3 by omega), if_neg (show ¬ w = 4 by omega), if_neg (show ¬ w = 5 by omega)]]
      (repeat' split) <;> omega
theorem ptV_bd {M : Int → Int} {t q w : Int} (hI : Inv M) (h0 : 0 ≤ t) (h1 : t < M 12) (h2 : 0 ≤ q) (h3 : q < pts M t) (hw : 0 ≤ w ∧ w ≤ 6) : -2147483648 ≤ ptV M t q w ∧ ptV M t q w ≤ 2147483647 := by
  have a := inv_plX hI h0 h1 h2 h3
  have b := inv_rd hI h0 h1 h2 h3
  have c := inv_ang (M := M) t q
  obtain ⟨d1, d2, d3, _⟩ := (hI.2.1 t h0 h1).2 q h2 h3
  unfold ptV
  by_cases z3 : w = 3
  · rw [if_pos z3]; omega
  · rw [if_neg z3]
    by_cases z4 : w = 4
    · rw [if_pos z4]; omega
    · rw [if_neg z4]
      by_cases z5 : w = 5
      · rw [if_pos z5]; omega
      · rw [if_neg z5]
        by_cases z6 : w = 6
        · rw [if_pos z6]; omega
        · rw [if_neg z6]
          rcases (show w = 0 ∨ w = 1 ∨ w = 2 by omega) with e | e | e <;> subst e
          · rw [Int.add_zero]
            have d0 : 0 ≤ M (cel t q) ∧ M (cel t q) ≤ 1000 := d1
            omega
          · omega
          · omega
theorem stW_bd {M : Int → Int} {u w : Int} (hI : Inv M) (h0 : 0 ≤ u) (h1 : u < M 13) (hw : 0 ≤ w ∧ w ≤ 6) : -2147483648 ≤ stW M u w ∧ stW M u w ≤ 2147483647 := by
  have h12 := inv_S12 hI
  have hm := (mat_ok (M 8) hI).2.1 u h0 (by omega)
  have hp := (inv_plR hI h0 h1).2
  obtain ⟨c1, c2, c3⟩ := hI.2.2 u h0 h1
  have hn := missN_01 M (mat M (M 8)).2.1 u
  unfold stW stV
  by_cases z3 : w = 3
  · rw [if_pos z3]; omega
  · rw [if_neg z3]
    by_cases z4 : w = 4
    · rw [if_pos z4]; omega
    · rw [if_neg z4]
      by_cases z5 : w = 5
      · rw [if_pos z5]
        by_cases y : (mat M (M 8)).2.1 u = -1000000000
        · rw [if_pos y]; omega
        · rw [if_neg y]
          have b := cstK_bd (M := M) (z := M 8) (k := 12 * (mat M (M 8)).2.1 u + u) hI (by omega) (by omega) (by omega) (by rw [show (12 * (mat M (M 8)).2.1 u + u) / 12 = (mat M (M 8)).2.1 u by omega]; omega)
          omega
      · rw [if_neg z5]
        by_cases z6 : w = 6
        · rw [if_pos z6]; omega
        · rw [if_neg z6]
          rcases (show w = 0 ∨ w = 1 ∨ w = 2 by omega) with e | e | e <;> subst e
          · rw [Int.add_zero]; omega
          · omega
          · omega
