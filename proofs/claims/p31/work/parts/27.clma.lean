theorem full_none {M : Int → Int} {z : Int} {SO TR : Int → Int} (h : (0 ≤ M 12 ∧ M 12 ≤ 12) ∧ (0 ≤ M 13 ∧ M 13 ≤ 12)) (hf : tkn SO (M 12) = M 12 ∨ tkn TR (M 13) = M 13) : pick M z SO TR = -1000000000 := by
  refine pick_none (fun k hk => ?_)
  obtain ⟨k1, k2, k3, k4, k5, k6⟩ := hk
  rcases hf with g | g
  · have e : ((M 12).toNat : Int) = M 12 := by omega
    have f := tkn_full (f := SO) (M 12).toNat (by rw [e]; exact g) (k / 12) (by omega) (by omega)
    exact f k4
  · have e : ((M 13).toNat : Int) = M 13 := by omega
    have f := tkn_full (f := TR) (M 13).toNat (by rw [e]; exact g) (k % 12) (by omega) (by omega)
    exact f k5
theorem colOK_A {M : Int → Int} {z n : Int} {A B C : Int → Int} (hI : Inv M) (hc : colOK M z n A B C (12 * M 12)) : (0 ≤ n ∧ n ≤ 144) ∧ ∀ i : Int, 0 ≤ i → i < n → (0 ≤ A i ∧ A i < 12) ∧ (0 ≤ B i ∧ B i < 12) ∧ (0 ≤ C i ∧ C i ≤ 10100000) := by
  have h12 := inv_S12 hI
  refine ⟨by have := hc.1; omega, fun i a b => ?_⟩
  obtain ⟨g1, g2, g3, g4⟩ := hc.2.1 i a b
  have q := (inv_cst hI z g1.1.1 g1.1.2 g1.2.2 g1.2.1.1 g1.2.1.2).2.2
  rw [g2.1]
  omega
theorem matW_rg {M : Int → Int} {S : (Int → Int) × (Int → Int) × Int × Int} (hI : Inv M) (h : matW M S) : ∀ k : Int, 0 ≤ k → k < 12 → (-1000000000 ≤ S.1 k ∧ S.1 k ≤ 12) ∧ (-1000000000 ≤ S.2.1 k ∧ S.2.1 k ≤ 12) := by
  intro k a b
  have h12 := inv_S12 hI
  have g1 := h.1 k a b
  have g2 := h.2.1 k a b
  omega
