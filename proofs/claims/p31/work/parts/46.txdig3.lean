/-! methods that give a long; more ranges -/
def kQl {S : Type} (D : va_G) (ws : va_W) (sz : Nat) (wf : S → va_W) (post : Int → S → Prop) : Array Value → State → Outcome → State → Prop := va_Ql (fun x u => ∃ r : Int, x = lI r ∧ post r u) (fun u t => va_P D vwCl (wf u) t.heap ∧ va_D (va_A ws sz) (wf u)) (va_A ws sz)
theorem whW_bd {M : Int → Int} {w : Int} (hI : Inv M) : -2147483648 ≤ whW M w ∧ whW M w ≤ 2147483647 := by
  have h12 := inv_S12 hI
  have a := inv_pcost hI
  have b := mat_bd (M 8) hI
  have h10 := hI.1.2.2.2.2.2.2.2.2.2.2.1
  have h11 := hI.1.2.2.2.2.2.2.2.2.2.2.2.1
  have c := sumZ_bd (f := missN M (mat M (M 8)).2.1) (lo := 0) (hi := 1) (p := M 13) h12.2.1 (fun k _ _ => by have := missN_01 M (mat M (M 8)).2.1 k; omega)
  have d := sumZ_bd (f := fun t => if w = 9 then pts M t else if w = 10 then gapN M t else goodN M t) (lo := 0) (hi := 12) (p := M 12) h12.1.1 (fun k k0 k1 => by
    have hp := inv_pts hI k0 k1
    have hg := inv_gap hp
    have hn : goodN M k = 0 ∨ goodN M k = 1 := by
      by_cases z : isGoodP M k
      · exact Or.inr (goodN_1 z)
      · exact Or.inl (goodN_0 z)
    (try dsimp only)
    (repeat' split) <;> omega)
  have c2 : 0 ≤ missC M (mat M (M 8)).2.1 ∧ missC M (mat M (M 8)).2.1 ≤ 12 := by unfold missC; omega
  have d2 : 0 ≤ ovT M w ∧ ovT M w ≤ 144 := by unfold ovT; omega
  unfold whW whV
  (repeat' split) <;> omega
theorem inv_lo {M : Int → Int} (hI : Inv M) {k : Int} (h0 : 0 ≤ k) (h1 : k < 10) : -2147483648 ≤ M k ∧ M k ≤ 2147483647 := by
  have hs := hI.1
  unfold InvS at hs
  rcases (show k = 0 ∨ k = 1 ∨ k = 2 ∨ k = 3 ∨ k = 4 ∨ k = 5 ∨ k = 6 ∨ k = 7 ∨ k = 8 ∨ k = 9 by omega) with e | e | e | e | e | e | e | e | e | e <;> subst e <;> omega
