/-! what keeping the state leaves, told of the world before the script was read -/
theorem kept2_lo {P P' Q : Nat → Int → Int} (hk : kept2 P' Q) (h : ∀ c : Nat, 50 ≤ c → c < 100 → P' c = P c) (hm : mO P' = mO P) (hn : 0 ≤ P 50 1 ∧ P 50 1 ≤ 4) : kept2 P Q := by
  have e50 : P' 50 1 = P 50 1 := by rw [h 50 (by decide) (by decide)]
  obtain ⟨a, b, d⟩ := hk
  have hb : kpN (P 50 1) ≤ 4 := by unfold kpN; split <;> omega
  have hp : ∀ k : Nat, k < 4 → mO (pgR P' k) = mO (pgR P k) := fun k hk => mO_cg (fun i hi => h (i + (60 + 10 * k)) (by omega) (by omega))
  rw [e50] at a b d
  refine ⟨a, fun k hk => (b k hk).trans (hp _ ?_), fun k hk => by rw [← hm]; exact d k hk⟩
  split <;> omega
theorem q9_lo {P P' Q : Nat → Int → Int} (hq : ∀ c : Nat, c < 50 → Q c = P' c) (h : ∀ c : Nat, c ≠ 10 → c ≠ 12 → c ≠ 13 → P' c = P c) : ∀ c : Nat, c ≠ 10 → c ≠ 12 → c ≠ 13 → c < 50 → Q c = P c := fun c a b d e => (hq c e).trans (h c a b d)
theorem keep9_lo {P P' Q : Nat → Int → Int} (h : ∀ c : Nat, c < 50 → Q c = P' c) (e : ∀ c : Nat, c < 9 → P' c = P c) : Q = upr (upr (upr (upr (upr (upr (upr (upr (upr Q 0 (P 0)) 1 (P 1)) 2 (P 2)) 3 (P 3)) 4 (P 4)) 5 (P 5)) 6 (P 6)) 7 (P 7)) 8 (P 8) :=
  keep9 (P := fun c => cond (Nat.ble c 8) (P c) (Q c)) (fun c hc => by
    show Q c = cond (Nat.ble c 8) (P c) (Q c)
    by_cases h8 : c ≤ 8
    · rw [Nat.ble_eq_true_of_le h8]
      exact (h c hc).trans (e c (by omega))
    · rw [show Nat.ble c 8 = false from Bool.eq_false_iff.mpr (fun z => h8 (Nat.le_of_ble_eq_true z))]
      rfl)
