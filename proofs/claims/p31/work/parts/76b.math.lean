/-! matches: what the law's second check is made of -/
noncomputable def tsF (M : Int → Int) (u : Int) : Int := (mat M (M 8)).2.1 u
noncomputable def soF (M : Int → Int) (t : Int) : Int := (mat M (M 8)).1 t
noncomputable def gnF (M : Int → Int) (u : Int) : Int := missN M (mat M (M 8)).2.1 u
noncomputable def mnF (M : Int → Int) (u : Int) : Int := if tsF M u = -1000000000 then 0 else 1
noncomputable def scF (M : Int → Int) (u : Int) : Int := if tsF M u = -1000000000 then 0 else cstZ M (M 8) (tsF M u) u
noncomputable def s5F (M : Int → Int) (u : Int) : Int := if tsF M u = -1000000000 then -1000000000 else cstZ M (M 8) (tsF M u) u
theorem mn_sp (M : Int → Int) (u : Int) : (tsF M u = -1000000000 ∧ mnF M u = 0) ∨ (tsF M u ≠ -1000000000 ∧ mnF M u = 1) := by
  unfold mnF
  split <;> omega
theorem sc_sp (M : Int → Int) (u : Int) : (tsF M u = -1000000000 ∧ scF M u = 0 ∧ s5F M u = -1000000000) ∨ (tsF M u ≠ -1000000000 ∧ scF M u = cstZ M (M 8) (tsF M u) u ∧ s5F M u = cstZ M (M 8) (tsF M u) u) := by
  unfold scF s5F
  by_cases h : tsF M u = -1000000000
  · rw [if_pos h, if_pos h]; exact Or.inl ⟨h, rfl, rfl⟩
  · rw [if_neg h, if_neg h]; exact Or.inr ⟨h, rfl, rfl⟩
theorem gn_sp (M : Int → Int) (u : Int) : ((tsF M u = -1000000000 ∧ M 9 ≤ M (458 + 3 * u + 2)) ∧ gnF M u = 1) ∨ (¬ (tsF M u = -1000000000 ∧ M 9 ≤ M (458 + 3 * u + 2)) ∧ gnF M u = 0) := by
  by_cases h : missP M (mat M (M 8)).2.1 u
  · exact Or.inl ⟨h, missN_1 h⟩
  · exact Or.inr ⟨h, missN_0 h⟩
theorem tr_so (M : Int → Int) (t : Int) : trV M (mat M (M 8)).1 t 8 = soF M t := tr_8 M _ t
theorem st_0 (M : Int → Int) (u : Int) : stW M u 0 = M (458 + 3 * u) := by
  unfold stW stV
  rw [if_neg (by decide), if_neg (by decide), if_neg (by decide), if_neg (by decide), Int.add_zero]
theorem st_1 (M : Int → Int) (u : Int) : stW M u 1 = M (458 + 3 * u + 1) := by
  unfold stW stV
  rw [if_neg (by decide), if_neg (by decide), if_neg (by decide), if_neg (by decide)]
theorem st_2 (M : Int → Int) (u : Int) : stW M u 2 = M (458 + 3 * u + 2) := by
  unfold stW stV
  rw [if_neg (by decide), if_neg (by decide), if_neg (by decide), if_neg (by decide)]
theorem st_4 (M : Int → Int) (u : Int) : stW M u 4 = tsF M u := by
  unfold stW stV
  rw [if_neg (by decide), if_pos rfl]
  rfl
theorem st_5 {M : Int → Int} {u : Int} (h0 : 0 ≤ u) (h1 : u < 12) : stW M u 5 = s5F M u := by
  unfold stW stV s5F tsF
  rw [if_neg (by decide), if_neg (by decide), if_pos rfl]
  by_cases h : (mat M (M 8)).2.1 u = -1000000000
  · rw [if_pos h, if_pos h]
  · rw [if_neg h, if_neg h]
    unfold cstK
    rw [show (12 * (mat M (M 8)).2.1 u + u) / 12 = (mat M (M 8)).2.1 u by omega, show (12 * (mat M (M 8)).2.1 u + u) % 12 = u by omega]
theorem st_6 (M : Int → Int) (u : Int) : stW M u 6 = gnF M u := by
  unfold stW stV
  rw [if_neg (by decide), if_neg (by decide), if_neg (by decide), if_pos rfl]
  rfl
/-- what is matched -/
theorem ts_ok {M : Int → Int} (hI : Inv M) {u : Int} (h0 : 0 ≤ u) (h1 : u < M 13) : tsF M u = -1000000000 ∨ (((0 ≤ tsF M u ∧ tsF M u < M 12) ∧ 0 < pts M (tsF M u)) ∧ soF M (tsF M u) = u) := by
  have h12 := inv_S12 hI
  have h := mat_ok (M 8) hI
  rcases h.2.1 u h0 (by omega) with e | e
  · exact Or.inl e
  · by_cases hn : tsF M u = -1000000000
    · exact Or.inl hn
    · exact Or.inr ⟨⟨⟨e.1, e.2.1⟩, e.2.2⟩, (h.2.2.2 u h0 (by omega) hn).2⟩
theorem so_ok {M : Int → Int} (hI : Inv M) {t : Int} (h0 : 0 ≤ t) (h1 : t < M 12) : soF M t = -1000000000 ∨ (((0 ≤ soF M t ∧ soF M t < M 13) ∧ 0 < pts M t) ∧ tsF M (soF M t) = t) := by
  have h12 := inv_S12 hI
  have h := mat_ok (M 8) hI
  rcases h.1 t h0 (by omega) with e | e
  · exact Or.inl e
  · by_cases hn : soF M t = -1000000000
    · exact Or.inl hn
    · have g := h.2.2.1 t h0 (by omega) hn
      exact Or.inr ⟨⟨e, g.2.1⟩, g.2.2⟩
/-- counts and sums of the matches; none is dearer than the tolerance -/
theorem mat_sums {M : Int → Int} (z : Int) (hI : Inv M) : ∀ n : Nat, ((matS M z n).2.2.1 = sumZ (fun u => if (matS M z n).2.1 u = -1000000000 then 0 else 1) (M 13) ∧ (matS M z n).2.2.2 = sumZ (fun u => if (matS M z n).2.1 u = -1000000000 then 0 else cstZ M z ((matS M z n).2.1 u) u) (M 13)) ∧ ∀ u : Int, (matS M z n).2.1 u ≠ -1000000000 → cstZ M z ((matS M z n).2.1 u) u ≤ M 5
  | 0 => by
    have e : (fun u => if (matS M z 0).2.1 u = -1000000000 then (0 : Int) else 1) = fun _ => 0 := by funext u; exact if_pos rfl
    have e2 : (fun u => if (matS M z 0).2.1 u = -1000000000 then (0 : Int) else cstZ M z ((matS M z 0).2.1 u) u) = fun _ => 0 := by funext u; exact if_pos rfl
    refine ⟨⟨?_, ?_⟩, fun u h => absurd rfl h⟩
    · rw [e]; unfold sumZ; rw [sumI_z]; rfl
    · rw [e2]; unfold sumZ; rw [sumI_z]; rfl
  | n + 1 => by
    obtain ⟨⟨i1, i2⟩, i3⟩ := mat_sums z hI n
    have h12 := inv_S12 hI
    by_cases hp : pick M z (matS M z n).1 (matS M z n).2.1 = -1000000000
    · have e : matS M z (n + 1) = matS M z n := matS_stop hp 1
      rw [e]
      exact ⟨⟨i1, i2⟩, i3⟩
    · obtain ⟨c, r⟩ := pick_ok hI hp
      obtain ⟨b, hb⟩ : ∃ b, b = pick M z (matS M z n).1 (matS M z n).2.1 := ⟨_, rfl⟩
      rw [← hb] at c r hp
      have e := matS_go hb.symm hp
      rw [e]
      have u1 := sumI_upd (f := fun u => if ups (matS M z n).2.1 (b % 12) (b / 12) u = -1000000000 then (0 : Int) else 1) (g := fun u => if (matS M z n).2.1 u = -1000000000 then (0 : Int) else 1) (i := b % 12) (fun k hk => by (try dsimp only); rw [ups_ne _ _ hk]) (M 13).toNat
      have u2 := sumI_upd (f := fun u => if ups (matS M z n).2.1 (b % 12) (b / 12) u = -1000000000 then (0 : Int) else cstZ M z (ups (matS M z n).2.1 (b % 12) (b / 12) u) u) (g := fun u => if (matS M z n).2.1 u = -1000000000 then (0 : Int) else cstZ M z ((matS M z n).2.1 u) u) (i := b % 12) (fun k hk => by (try dsimp only); rw [ups_ne _ _ hk]) (M 13).toNat
      rw [if_pos (by omega)] at u1 u2
      (try dsimp only at u1 u2)
      rw [ups_eq, if_neg (by omega), if_pos c.2.2.2.2.1] at u1 u2
      refine ⟨⟨?_, ?_⟩, fun u hu => ?_⟩
      · unfold sumZ at i1 ⊢
        (try dsimp only)
        omega
      · unfold sumZ at i2 ⊢
        (try dsimp only)
        unfold cstK
        omega
      · by_cases hk : u = b % 12
        · subst hk
          (try dsimp only)
          rw [ups_eq]
          exact c.2.2.2.2.2
        · (try dsimp only at hu ⊢)
          rw [ups_ne _ _ hk] at hu ⊢
          exact i3 u hu
theorem mn_tot {M : Int → Int} (hI : Inv M) : (mat M (M 8)).2.2.1 = sumZ (mnF M) (M 13) ∧ (mat M (M 8)).2.2.2 = sumZ (scF M) (M 13) := (mat_sums (M 8) hI 12).1
theorem ts_tol {M : Int → Int} (hI : Inv M) {u : Int} (h : tsF M u ≠ -1000000000) : cstZ M (M 8) (tsF M u) u ≤ M 5 := (mat_sums (M 8) hI 12).2 u h
theorem mn_bd {M : Int → Int} (hI : Inv M) : 0 ≤ sumZ (mnF M) (M 13) ∧ sumZ (mnF M) (M 13) ≤ M 12 ∧ sumZ (mnF M) (M 13) ≤ M 13 := by
  have h12 := inv_S12 hI
  have a := sumZ_bd (f := mnF M) (lo := 0) (hi := 1) (p := M 13) h12.2.1 (fun k _ _ => by have := mn_sp M k; omega)
  have e : sumZ (fun t => if (mat M (M 8)).1 t = -1000000000 then 0 else 1) (M 12) = sumZ (mnF M) (M 13) := sc_two (M 8) hI (fun _ _ => 1) 12
  have b := sumZ_bd (f := fun t => if (mat M (M 8)).1 t = -1000000000 then (0 : Int) else 1) (lo := 0) (hi := 1) (p := M 12) h12.1.1 (fun k _ _ => by
    (try dsimp only)
    split <;> omega)
  omega
/-- the dearest first: some pair is the best one, where there are any -/
theorem bst_ex {M : Int → Int} {z : Int} {SO TR : Int → Int} : ∀ n : Nat, (∃ k : Int, k < (n : Int) ∧ cnd M z SO TR k ∧ ∀ j : Int, j < (n : Int) → cnd M z SO TR j → cstK M z k < cstK M z j ∨ (cstK M z k = cstK M z j ∧ k ≤ j)) ∨ ∀ j : Int, j < (n : Int) → ¬ cnd M z SO TR j
  | 0 => Or.inr (fun j hj h => by have := h.1; omega)
  | n + 1 => by
    by_cases c : cnd M z SO TR (n : Int)
    · rcases bst_ex (M := M) (z := z) (SO := SO) (TR := TR) n with ⟨k, h1, h2, h3⟩ | h
      · by_cases hl : cstK M z k ≤ cstK M z (n : Int)
        · refine Or.inl ⟨k, by omega, h2, fun j hj hc => ?_⟩
          rcases (show j < (n : Int) ∨ j = (n : Int) by omega) with e | e
          · exact h3 j e hc
          · subst e
            omega
        · refine Or.inl ⟨n, by omega, c, fun j hj hc => ?_⟩
          rcases (show j < (n : Int) ∨ j = (n : Int) by omega) with e | e
          · have := h3 j e hc
            omega
          · subst e
            omega
      · refine Or.inl ⟨n, by omega, c, fun j hj hc => ?_⟩
        rcases (show j < (n : Int) ∨ j = (n : Int) by omega) with e | e
        · exact absurd hc (h j e)
        · subst e
          omega
    · rcases bst_ex (M := M) (z := z) (SO := SO) (TR := TR) n with ⟨k, h1, h2, h3⟩ | h
      · refine Or.inl ⟨k, by omega, h2, fun j hj hc => ?_⟩
        rcases (show j < (n : Int) ∨ j = (n : Int) by omega) with e | e
        · exact h3 j e hc
        · subst e
          exact absurd hc c
      · refine Or.inr (fun j hj hc => ?_)
        rcases (show j < (n : Int) ∨ j = (n : Int) by omega) with e | e
        · exact h j e hc
        · subst e
          exact c hc
theorem pick_non {M : Int → Int} {z : Int} {SO TR : Int → Int} (hI : Inv M) (h : pick M z SO TR = -1000000000) (j : Int) : ¬ cnd M z SO TR j := by
  intro hc
  have h12 := inv_S12 hI
  rcases bst_ex (M := M) (z := z) (SO := SO) (TR := TR) 144 with ⟨k, h1, h2, h3⟩ | g
  · have hb : bst M z SO TR k := ⟨h2, fun i hi => h3 i (by have := hi.1; omega) hi⟩
    have e := pick_some hb
    have := h2.1
    omega
  · exact g j (by have := hc.1; omega) hc
theorem mat_cnt {M : Int → Int} (z : Int) (hI : Inv M) : ∀ n : Nat, (matS M z n).2.2.1 = (n : Int) ∨ pick M z (matS M z n).1 (matS M z n).2.1 = -1000000000
  | 0 => Or.inl rfl
  | n + 1 => by
    by_cases hp : pick M z (matS M z n).1 (matS M z n).2.1 = -1000000000
    · have e : matS M z (n + 1) = matS M z n := matS_stop hp 1
      rw [e]
      exact Or.inr hp
    · rcases mat_cnt z hI n with h | h
      · have e := matS_go rfl hp
        rw [e]
        refine Or.inl ?_
        (try dsimp only)
        omega
      · exact absurd h hp
theorem mat_full {M : Int → Int} (z : Int) (hI : Inv M) : pick M z (mat M z).1 (mat M z).2.1 = -1000000000 := by
  have h12 := inv_S12 hI
  by_cases hp : pick M z (matS M z 12).1 (matS M z 12).2.1 = -1000000000
  · exact hp
  · exfalso
    have e := matS_go rfl hp
    rcases mat_cnt z hI 12 with h | h
    · have h13 : (matS M z (12 + 1)).2.2.1 = (matS M z 12).2.2.1 + 1 := by rw [e]
      have s := (mat_sums z hI (12 + 1)).1.1
      have b := sumZ_bd (f := fun u => if (matS M z (12 + 1)).2.1 u = -1000000000 then (0 : Int) else 1) (lo := 0) (hi := 1) (p := M 13) h12.2.1 (fun k _ _ => by
        (try dsimp only)
        split <;> omega)
      omega
    · exact hp h
theorem mat_gr0 {M : Int → Int} (z : Int) (hI : Inv M) {t u : Int} (h0 : 0 ≤ t) (h1 : t < M 12) (h2 : 0 < pts M t) (g0 : 0 ≤ u) (g1 : u < M 13) (hc : cstZ M z t u ≤ M 5) : ∀ n : Nat, ((matS M z n).1 t = -1000000000 ∧ (matS M z n).2.1 u = -1000000000) ∨ ((matS M z n).1 t ≠ -1000000000 ∧ cstZ M z t ((matS M z n).1 t) ≤ cstZ M z t u) ∨ ((matS M z n).2.1 u ≠ -1000000000 ∧ cstZ M z ((matS M z n).2.1 u) u ≤ cstZ M z t u)
  | 0 => Or.inl ⟨rfl, rfl⟩
  | n + 1 => by
    have ih := mat_gr0 z hI h0 h1 h2 g0 g1 hc n
    have h12 := inv_S12 hI
    by_cases hp : pick M z (matS M z n).1 (matS M z n).2.1 = -1000000000
    · have e : matS M z (n + 1) = matS M z n := matS_stop hp 1
      rw [e]
      exact ih
    · have hb0 : bst M z (matS M z n).1 (matS M z n).2.1 (pick M z (matS M z n).1 (matS M z n).2.1) := by
        rcases pick_cases M z (matS M z n).1 (matS M z n).2.1 with ⟨h, _⟩ | h
        · exact absurd h hp
        · exact h
      obtain ⟨c, r⟩ := pick_ok hI hp
      obtain ⟨b, hb⟩ : ∃ b, b = pick M z (matS M z n).1 (matS M z n).2.1 := ⟨_, rfl⟩
      rw [← hb] at c r hp hb0
      have e := matS_go hb.symm hp
      rw [e]
      (try dsimp only)
      rcases ih with ⟨f1, f2⟩ | ⟨f1, f2⟩ | ⟨f1, f2⟩
      · have hcand : cnd M z (matS M z n).1 (matS M z n).2.1 (12 * t + u) := by
          unfold cnd
          rw [show (12 * t + u) / 12 = t by omega, show (12 * t + u) % 12 = u by omega]
          exact ⟨⟨by omega, by omega⟩, g1, h2, f1, f2, hc⟩
        have hle := hb0.2 _ hcand
        unfold cstK at hle
        rw [show (12 * t + u) / 12 = t by omega, show (12 * t + u) % 12 = u by omega] at hle
        by_cases e1 : t = b / 12
        · refine Or.inr (Or.inl ?_)
          rw [e1, ups_eq]
          rw [← e1]
          rw [← e1] at hle
          exact ⟨by omega, by omega⟩
        · by_cases e2 : u = b % 12
          · refine Or.inr (Or.inr ?_)
            rw [e2, ups_eq]
            rw [← e2]
            rw [← e2] at hle
            exact ⟨by omega, by omega⟩
          · refine Or.inl ?_
            rw [ups_ne _ _ e1, ups_ne _ _ e2]
            exact ⟨f1, f2⟩
      · have e1 : t ≠ b / 12 := fun h => f1 (by rw [h]; exact c.2.2.2.1)
        refine Or.inr (Or.inl ?_)
        rw [ups_ne _ _ e1]
        exact ⟨f1, f2⟩
      · have e2 : u ≠ b % 12 := fun h => f1 (by rw [h]; exact c.2.2.2.2.1)
        refine Or.inr (Or.inr ?_)
        rw [ups_ne _ _ e2]
        exact ⟨f1, f2⟩
/-- no pair that is left is cheap enough -/
theorem mat_gr {M : Int → Int} (hI : Inv M) {t u : Int} (h0 : 0 ≤ t) (h1 : t < M 12) (h2 : 0 < pts M t) (g0 : 0 ≤ u) (g1 : u < M 13) (hc : cstZ M (M 8) t u ≤ M 5) : (soF M t ≠ -1000000000 ∧ cstZ M (M 8) t (soF M t) ≤ cstZ M (M 8) t u) ∨ (tsF M u ≠ -1000000000 ∧ cstZ M (M 8) (tsF M u) u ≤ cstZ M (M 8) t u) := by
  have h12 := inv_S12 hI
  rcases mat_gr0 (M 8) hI h0 h1 h2 g0 g1 hc 12 with ⟨f1, f2⟩ | h
  · exfalso
    refine pick_non hI (mat_full (M 8) hI) (12 * t + u) ?_
    unfold cnd
    rw [show (12 * t + u) / 12 = t by omega, show (12 * t + u) % 12 = u by omega]
    exact ⟨⟨by omega, by omega⟩, g1, h2, f1, f2, hc⟩
  · exact h
/-- missing stars by their numbers -/
theorem ms_up {f : Int → Int} {m L : Int} (h01 : ∀ k : Int, f k = 0 ∨ f k = 1) : ∀ j : Nat, (j : Int) ≤ m → (∀ i : Int, 0 ≤ i → i < (j : Int) → f i = 1 → L - sumZ f i ≠ 0) → msI f m.toNat 0 L = msI f (m - (j : Int)).toNat (j : Int) (L - sumZ f (j : Int))
  | 0, _, _ => by
    show msI f m.toNat 0 L = msI f (m - 0).toNat 0 (L - 0)
    rw [Int.sub_zero, Int.sub_zero]
  | j + 1, h, hn => by
    have ih := ms_up (m := m) (L := L) h01 j (by omega) (fun i a b => hn i a (by omega))
    have e : sumZ f ((j + 1 : Nat) : Int) = sumZ f (j : Int) + f (j : Int) := sumZ_s f (p := (j : Int)) (by omega)
    rw [ih, e, show ((j + 1 : Nat) : Int) = (j : Int) + 1 by omega]
    rcases h01 (j : Int) with h0 | h1
    · rw [ms_no (by omega) h0, h0, Int.add_zero]
    · rw [ms_yes (by omega) h1 (hn j (by omega) (by omega) h1), h1]
      congr 1
      omega
theorem sum_up {f : Int → Int} (h01 : ∀ k : Int, f k = 0 ∨ f k = 1) {i : Int} (h0 : 0 ≤ i) : ∀ n : Nat, sumZ f i ≤ sumZ f (i + n)
  | 0 => by rw [show i + ((0 : Nat) : Int) = i by omega]; exact Int.le_refl _
  | n + 1 => by
    have ih := sum_up h01 h0 n
    have e : sumZ f (i + ((n + 1 : Nat) : Int)) = sumZ f (i + (n : Int)) + f (i + (n : Int)) := by
      rw [show i + ((n + 1 : Nat) : Int) = i + (n : Int) + 1 by omega]
      exact sumZ_s f (by omega)
    have := h01 (i + (n : Int))
    omega
theorem gn_01 (M : Int → Int) (k : Int) : gnF M k = 0 ∨ gnF M k = 1 := missN_01 M _ k
theorem gn_gap {M : Int → Int} {i u : Int} (h0 : 0 ≤ i) (h : i < u) (h1 : gnF M i = 1) : sumZ (gnF M) u - sumZ (gnF M) i ≠ 0 := by
  have a := sum_up (gn_01 M) (i := i + 1) (by omega) (u - (i + 1)).toNat
  rw [show i + 1 + ((u - (i + 1)).toNat : Int) = u by omega] at a
  have b := sumZ_s (gnF M) h0
  omega
theorem mis_at {M : Int → Int} {u : Int} (h0 : 0 ≤ u) (h1 : u < M 13) (hg : gnF M u = 1) : misF M (sumZ (gnF M) u) = u := by
  have e := ms_up (f := gnF M) (m := M 13) (L := sumZ (gnF M) u) (gn_01 M) u.toNat (by omega) (fun i a b c => gn_gap a (by omega) c)
  rw [show ((u.toNat : Nat) : Int) = u by omega] at e
  show msI (gnF M) (M 13).toNat 0 (sumZ (gnF M) u) = u
  rw [e]
  exact ms_hit h1 hg (by omega)
theorem mis_end {M : Int → Int} (h0 : 0 ≤ M 13) : misF M (sumZ (gnF M) (M 13)) = -1000000000 := by
  have e := ms_up (f := gnF M) (m := M 13) (L := sumZ (gnF M) (M 13)) (gn_01 M) (M 13).toNat (by omega) (fun i a b c => gn_gap a (by omega) c)
  rw [show (((M 13).toNat : Nat) : Int) = M 13 by omega] at e
  show msI (gnF M) (M 13).toNat 0 (sumZ (gnF M) (M 13)) = -1000000000
  rw [e, show (M 13 - M 13).toNat = 0 by omega]
  rfl
theorem wh_gn (M : Int → Int) : whW M 8 = sumZ (gnF M) (M 13) := wh_8 M
/-- the scale by the matches: none without one -/
theorem scB_z {M : Int → Int} (hI : Inv M) : ∀ n : Nat, (n : Int) ≤ M 13 → (sumZ (fun u => if (mat M (M 8)).2.1 u = -1000000000 then 0 else M (458 + 3 * u)) n = 0 ↔ sumZ (mnF M) n = 0) ∧ 0 ≤ sumZ (fun u => if (mat M (M 8)).2.1 u = -1000000000 then 0 else M (458 + 3 * u)) n ∧ 0 ≤ sumZ (mnF M) n
  | 0, _ => ⟨⟨fun _ => rfl, fun _ => rfl⟩, Int.le_refl _, Int.le_refl _⟩
  | n + 1, h => by
    have ih := scB_z hI n (by omega)
    have e1 : sumZ (fun u => if (mat M (M 8)).2.1 u = -1000000000 then 0 else M (458 + 3 * u)) ((n + 1 : Nat) : Int) = sumZ (fun u => if (mat M (M 8)).2.1 u = -1000000000 then 0 else M (458 + 3 * u)) n + (if (mat M (M 8)).2.1 (n : Int) = -1000000000 then 0 else M (458 + 3 * (n : Int))) := sumZ_s _ (p := (n : Int)) (by omega)
    have e2 : sumZ (mnF M) ((n + 1 : Nat) : Int) = sumZ (mnF M) n + mnF M n := sumZ_s _ (p := (n : Int)) (by omega)
    rw [e1, e2]
    have hR := (hI.2.2 (n : Int) (by omega) (by omega)).1
    have hm := mn_sp M (n : Int)
    by_cases g : (mat M (M 8)).2.1 (n : Int) = -1000000000
    · rw [if_pos g]
      have g' : tsF M (n : Int) = -1000000000 := g
      omega
    · rw [if_neg g]
      have g' : tsF M (n : Int) ≠ -1000000000 := g
      omega
theorem msc_no {M : Int → Int} (hI : Inv M) : (msc M = -1000000000 ∧ sumZ (mnF M) (M 13) = 0) ∨ ((msc M ≠ -1000000000 ∧ (-2147483648 ≤ msc M ∧ msc M ≤ 2147483647)) ∧ 0 < sumZ (mnF M) (M 13)) := by
  have h12 := inv_S12 hI
  obtain ⟨n, hn⟩ : ∃ n : Nat, M 13 = (n : Int) := ⟨(M 13).toNat, (Int.toNat_of_nonneg h12.2.1).symm⟩
  have h := scB_z hI n (by omega)
  rw [← hn] at h
  have hc := sc_C hI
  have b := sc_bd hI h12.1.1 (Int.le_refl (M 12))
  rw [← hc.2] at h
  unfold msc
  by_cases e : scB M (M 12) = 0
  · rw [if_pos e]
    exact Or.inl ⟨rfl, h.1.mp e⟩
  · rw [if_neg e]
    have e2 : sumZ (mnF M) (M 13) ≠ 0 := fun z => e (h.1.mpr z)
    have d := div_bd (a := 1000 * scS M (M 12)) (b := scB M (M 12)) (lo := 0) (hi := 118800000) (by omega) (by omega) (by omega)
    exact Or.inr ⟨⟨by omega, by omega, by omega⟩, by omega⟩
/-- prices of the law -/
theorem pr_sp {M : Int → Int} (hI : Inv M) {t u : Int} (h0 : 0 ≤ t) (h1 : t < M 12) (g0 : 0 ≤ u) (g1 : u < M 13) : (pts M t = 0 ∧ prF M t u = -1000000000) ∨ (0 < pts M t ∧ prF M t u = cstZ M (M 8) t u ∧ (0 ≤ cstZ M (M 8) t u ∧ cstZ M (M 8) t u ≤ 1000000000)) := by
  have hp := inv_pts hI h0 h1
  by_cases h : pts M t = 0
  · exact Or.inl ⟨h, if_pos h⟩
  · have c := (inv_cst hI (M 8) h0 h1 (by omega) g0 g1).2.2
    exact Or.inr ⟨by omega, if_neg h, c.1, by omega⟩
def chF (M : Int → Int) (p : Int) : Int := if p ≠ -1000000000 ∧ p ≤ M 5 then 1 else 0
theorem ch_sp (M : Int → Int) (p : Int) : ((p ≠ -1000000000 ∧ p ≤ M 5) ∧ chF M p = 1) ∨ (¬ (p ≠ -1000000000 ∧ p ≤ M 5) ∧ chF M p = 0) := by
  unfold chF
  by_cases h : p ≠ -1000000000 ∧ p ≤ M 5
  · rw [if_pos h]; exact Or.inl ⟨h, rfl⟩
  · rw [if_neg h]; exact Or.inr ⟨h, rfl⟩
noncomputable def tkF (M : Int → Int) (t u p : Int) : Int := if (soF M t ≠ -1000000000 ∧ cstZ M (M 8) t (soF M t) ≤ p) ∨ (tsF M u ≠ -1000000000 ∧ cstZ M (M 8) (tsF M u) u ≤ p) then 1 else 0
theorem tk_sp (M : Int → Int) (t u p : Int) : (((soF M t ≠ -1000000000 ∧ cstZ M (M 8) t (soF M t) ≤ p) ∨ (tsF M u ≠ -1000000000 ∧ cstZ M (M 8) (tsF M u) u ≤ p)) ∧ tkF M t u p = 1) ∨ (¬ ((soF M t ≠ -1000000000 ∧ cstZ M (M 8) t (soF M t) ≤ p) ∨ (tsF M u ≠ -1000000000 ∧ cstZ M (M 8) (tsF M u) u ≤ p)) ∧ tkF M t u p = 0) := by
  unfold tkF
  by_cases h : (soF M t ≠ -1000000000 ∧ cstZ M (M 8) t (soF M t) ≤ p) ∨ (tsF M u ≠ -1000000000 ∧ cstZ M (M 8) (tsF M u) u ≤ p)
  · rw [if_pos h]; exact Or.inl ⟨h, rfl⟩
  · rw [if_neg h]; exact Or.inr ⟨h, rfl⟩
theorem mc_bd {M : Int → Int} (hI : Inv M) {u : Int} (h0 : 0 ≤ u) (h1 : u ≤ M 13) : (0 ≤ sumZ (mnF M) u ∧ sumZ (mnF M) u ≤ 12) ∧ (0 ≤ sumZ (scF M) u ∧ sumZ (scF M) u ≤ 2000000000) ∧ (0 ≤ sumZ (gnF M) u ∧ sumZ (gnF M) u ≤ 12) := by
  have h12 := inv_S12 hI
  have a := sumZ_bd (f := mnF M) (lo := 0) (hi := 1) (p := u) h0 (fun k _ _ => by have := mn_sp M k; omega)
  have b := sumZ_bd (f := gnF M) (lo := 0) (hi := 1) (p := u) h0 (fun k _ _ => by have := gn_01 M k; omega)
  have c := sumZ_bd (f := scF M) (lo := 0) (hi := 5000) (p := u) h0 (fun k k0 k1 => by
    have s9 := sc_sp M k
    have t9 := ts_ok hI k0 (show k < M 13 by omega)
    have h5 : M 5 ≤ 5000 := by have := hI.1; unfold InvS at this; omega
    by_cases e : tsF M k = -1000000000
    · omega
    · have g := ts_tol hI e
      have cb := (inv_cst hI (M 8) (show 0 ≤ tsF M k by omega) (show tsF M k < M 12 by omega) (by omega) k0 (show k < M 13 by omega)).2.2
      omega)
  omega
