/-! where reading a script ends -/
theorem prsT_le {T : Int → Int} {n : Int} : ∀ (f : Nat) (q : Int), q ≤ n → (prsT T n f q).2 ≤ n
  | 0, q, h => h
  | f + 1, q, h => by
    unfold prsT
    by_cases z : q < n
    · rw [if_pos z]
      have hb := (prsC_bd T (fun _ => 0) h).1
      by_cases y : (prsC T n q (fun _ => 0)).1 = 0
      · rw [if_pos y]
        show (prsC T n q (fun _ => 0)).2.1 ≤ n
        omega
      · rw [if_neg y]
        exact prsT_le f _ (skp_bd T (show (prsC T n q (fun _ => 0)).2.1 ≤ n by omega)).2.1
    · rw [if_neg z]
      exact h
theorem prsF_le {T : Int → Int} {n q x : Int} (h : q ≤ n) (e : prsF T n q = (0, x)) : x ≤ n := by
  have g := prsT_le (T := T) 150 q h
  unfold prsF at e
  rw [e] at g
  exact g
theorem bz_end {M : Int → Int} {t u p1 n : Int} {B : Int × Int × Int} (ht : 0 ≤ t) (h13 : 0 ≤ M 13) (hul : u = if 0 < p1 then n else 0) (hn : n = M 13) (hp : pts M t = p1) (hp0 : 0 ≤ p1) (h : bzI M (t * M 13 + u).toNat = B) : bzI M ((t + 1) * M 13).toNat = B := by
  by_cases h9 : 0 < p1
  · rw [if_pos h9, hn] at hul
    rw [hul] at h
    rw [Int.add_mul, Int.one_mul]
    exact h
  · rw [if_neg h9] at hul
    rw [hul, Int.add_zero] at h
    exact bz_sk ht h13 (by omega) h
