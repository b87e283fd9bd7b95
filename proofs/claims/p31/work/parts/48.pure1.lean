/-! a copied plate; numbers that a command does not read -/
theorem cp_ag {S Z : Nat → Int → Int} (hI : Inv (mO S)) (hz : (S 0 0 = Z 0 0 ∧ S 0 1 = Z 0 1) ∧ S 0 2 = Z 0 2 ∧ S 0 3 = Z 0 3) (h1 : ∀ k : Int, 0 ≤ k → k < 12 → S 1 k = Z 1 k) (h2 : ∀ k : Int, 0 ≤ k → k < 144 → S 2 k = Z 2 k ∧ S 3 k = Z 3 k ∧ S 4 k = Z 4 k) (h5 : ∀ k : Int, 0 ≤ k → k < 12 → S 5 k = Z 5 k ∧ S 6 k = Z 6 k ∧ S 7 k = Z 7 k) (h8 : ∀ k : Int, 0 ≤ k → k < 10 → S 8 k = Z 8 k) : ag (mO S) (mO Z) := by
  have hS := po_S hI
  refine ⟨hd_mO (F := mO S) (fun k a b => by rw [mO_set S b]; exact h8 k a b) (by rw [mO_10]; exact hz.2.1) (by rw [mO_11]; exact hz.2.2) (by rw [mO_12]; exact hz.1.1) (by rw [mO_13]; exact hz.1.2), fun t a b => ?_, fun u a b => ?_⟩
  · rw [mO_12] at b
    have hp := po_pts hI a b
    exact trA_mO a (by omega) a (by omega) hp.2 (h1 t a (by omega)) (fun q c d => h2 _ (by omega) (by omega))
  · rw [mO_13] at b
    obtain ⟨g1, g2, g3⟩ := h5 u a (by omega)
    exact stA_mO a a g1 g2 g3
theorem cpyI_in (S M : Int → Int) {n k : Int} (h0 : 0 ≤ k) (h1 : k < n) : M k = cpyI S M 0 n k := by
  unfold cpyI
  rw [if_pos (by omega), show k - 0 = k by omega]
theorem prsN_un (T : Int → Int) (n : Int) : ∀ (c : Nat) (q : Int) (A A' : Int → Int) (i : Int), (∀ k : Int, 0 ≤ k → k < i → A k = A' k) → (prsN T n c q A i).1 = 1 → ∀ k : Int, 0 ≤ k → k < i + c → (prsN T n c q A i).2.2 k = (prsN T n c q A' i).2.2 k
  | 0, q, A, A', i, h, _, k, k0, k1 => h k k0 (by omega)
  | c + 1, q, A, A', i, h, h1, k, k0, k1 => by
    unfold prsN at h1 ⊢
    by_cases z : skp T n q = q
    · rw [if_pos z] at h1
      exact absurd h1 (show ¬ (0 : Int) = 1 by decide)
    · rw [if_neg z] at h1 ⊢
      rw [if_neg z]
      by_cases y : (dgF T n (skp T n q)).1 = skp T n q
      · rw [if_pos y] at h1
        exact absurd h1 (show ¬ (0 : Int) = 1 by decide)
      · rw [if_neg y] at h1 ⊢
        rw [if_neg y]
        refine prsN_un T n c _ _ _ (i + 1) (fun j j0 j1 => ?_) h1 k k0 (by omega)
        unfold ups
        split
        · rfl
        · exact h j j0 (by omega)
theorem fe_cong (M : Int → Int) {k : Int} {A A' : Int → Int} (hk : 0 ≤ k ∧ k ≤ 6) (h : ∀ j : Int, 0 ≤ j → j < manyF k → A j = A' j) : ftV M k A = ftV M k A' ∧ efM M k A = efM M k A' := by
  rcases (show k = 0 ∨ k = 1 ∨ k = 2 ∨ k = 3 ∨ k = 4 ∨ k = 5 ∨ k = 6 by omega) with e | e | e | e | e | e | e
  · rw [(fv_0 e).1, (fv_0 e).1, (fv_0 e).2, (fv_0 e).2]
    exact ⟨rfl, rfl⟩
  · subst e
    rw [(fv_1 rfl).1, (fv_1 rfl).1, (fv_1 rfl).2, (fv_1 rfl).2, h 0 (by decide) (by decide), h 1 (by decide) (by decide), h 2 (by decide) (by decide), h 3 (by decide) (by decide)]
    exact ⟨rfl, rfl⟩
  · subst e
    rw [(fv_2 rfl).1, (fv_2 rfl).1, (fv_2 rfl).2, (fv_2 rfl).2, h 0 (by decide) (by decide), h 1 (by decide) (by decide), h 2 (by decide) (by decide)]
    exact ⟨rfl, rfl⟩
  · subst e
    rw [(fv_3 rfl).1, (fv_3 rfl).1, (fv_3 rfl).2, (fv_3 rfl).2, h 0 (by decide) (by decide), h 1 (by decide) (by decide)]
    exact ⟨rfl, rfl⟩
  · subst e
    rw [(fv_4 rfl).1, (fv_4 rfl).1, (fv_4 rfl).2, (fv_4 rfl).2, h 0 (by decide) (by decide), h 1 (by decide) (by decide)]
    exact ⟨rfl, rfl⟩
  · subst e
    rw [(fv_5 rfl).1, (fv_5 rfl).1, (fv_5 rfl).2, (fv_5 rfl).2, h 0 (by decide) (by decide)]
    exact ⟨rfl, rfl⟩
  · subst e
    rw [(fv_6 rfl).1, (fv_6 rfl).1, (fv_6 rfl).2, (fv_6 rfl).2, h 0 (by decide) (by decide)]
    exact ⟨rfl, rfl⟩
