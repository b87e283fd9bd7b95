/-! what keeping the state leaves, told of the world before the script was read -/
theorem kept2_lo {P P' Q : Nat → Int → Int} (h : ∀ c : Nat, 50 ≤ c → c < 100 → P' c = P c) (hm : mO P' = mO P) (hk : kept2 P' Q) (hn : 0 ≤ P 50 1 ∧ P 50 1 ≤ 4) : kept2 P Q := by
  have e50 : P' 50 1 = P 50 1 := by rw [h 50 (by decide) (by decide)]
  obtain ⟨a, b, d⟩ := hk
  have hb : kpN (P 50 1) ≤ 4 := by unfold kpN; split <;> omega
  have hp : ∀ k : Nat, k < 4 → mO (pgR P' k) = mO (pgR P k) := fun k hk => mO_cg (fun i hi => h (i + (60 + 10 * k)) (by omega) (by omega))
  rw [e50] at a b d
  refine ⟨a, fun k hk => (b k hk).trans (hp _ ?_), fun k hk => by rw [← hm]; exact d k hk⟩
  split <;> omega
theorem q9_lo {P P' Q : Nat → Int → Int} (hq : ∀ c : Nat, c < 50 → Q c = P' c) (h : ∀ c : Nat, c ≠ 10 → c ≠ 12 → c ≠ 13 → P' c = P c) : ∀ c : Nat, c ≠ 10 → c ≠ 12 → c ≠ 13 → c < 50 → Q c = P c := fun c a b d e => (hq c e).trans (h c a b d)
