/-! where reading a script ends -/
theorem prsT_le {T : Int → Int} {n : Int} : ∀ (f : Nat) (q : Int), q ≤ n → (prsT T n f q).2 ≤ n
  | 0, q, h => h
  | f + 1, q, h => by
    unfold prsT
    by_cases z : q < n
    · rw [if_pos z]
      have hb := (prsC_bd T (fun _ => 0) h).1
      by_cases y : (prsC T n q (fun _ => 0)).1 = 0
      · rw [if_pos y]
        show (prsC T n q (fun _ => 0)).2.1 ≤ n
        omega
      · rw [if_neg y]
        exact prsT_le f _ (skp_bd T (show (prsC T n q (fun _ => 0)).2.1 ≤ n by omega)).2.1
    · rw [if_neg z]
      exact h
theorem prsF_le {T : Int → Int} {n q x : Int} (h : q ≤ n) (e : prsF T n q = (0, x)) : x ≤ n := by
  have g := prsT_le (T := T) 150 q h
  unfold prsF at e
  rw [e] at g
  exact g
