theorem prsC_un {T : Int → Int} {n q x k : Int} {A B : Int → Int} (A' : Int → Int) (hq : q ≤ n) (e : prsC T n q A = (1, x, k, B)) : ∃ B' : Int → Int, prsC T n q A' = (1, x, k, B') ∧ ∀ j : Int, 0 ≤ j → j < manyF k → B j = B' j := by
  have g := (prsC_bd T A hq).2 A'
  rw [e] at g
  refine ⟨(prsC T n q A').2.2.2, Prod.ext g.1 (Prod.ext g.2.1 (Prod.ext g.2.2 rfl)), fun j j0 j1 => ?_⟩
  have hw := wre_bd T hq
  unfold prsC at e
  by_cases z : kindW T q (wre T n q) = -1000000000
  · rw [if_pos z] at e
    exact absurd (congrArg Prod.fst e) (show ¬ (0 : Int) = 1 by decide)
  · rw [if_neg z] at e
    have hN := prsN_bd T (n := n) (manyF (kindW T q (wre T n q))).toNat (wre T n q) A 0 hw.2.1
    by_cases y : (prsN T n (manyF (kindW T q (wre T n q))).toNat (wre T n q) A 0).1 = 0
    · rw [if_pos y] at e
      exact absurd (congrArg Prod.fst e) (show ¬ (0 : Int) = 1 by decide)
    · rw [if_neg y] at e
      have h1 : (prsN T n (manyF (kindW T q (wre T n q))).toNat (wre T n q) A 0).1 = 1 := by
        rcases hN.1.1 with h | h
        · exact absurd h y
        · exact h
      have hC : (prsC T n q A').2.2.2 = (prsN T n (manyF (kindW T q (wre T n q))).toNat (wre T n q) A' 0).2.2 := by
        unfold prsC
        rw [if_neg z]
        split
        · rfl
        · split <;> rfl
      by_cases w9 : skp T n (prsN T n (manyF (kindW T q (wre T n q))).toNat (wre T n q) A 0).2.1 < n ∧ T (skp T n (prsN T n (manyF (kindW T q (wre T n q))).toNat (wre T n q) A 0).2.1) = 59
      · rw [if_pos w9] at e
        have hB : (prsN T n (manyF (kindW T q (wre T n q))).toNat (wre T n q) A 0).2.2 = B := congrArg (fun p => p.2.2.2) e
        have hk : kindW T q (wre T n q) = k := congrArg (fun p => p.2.2.1) e
        rw [hC, ← hB]
        refine prsN_un T n _ _ A A' 0 (fun i a b => by omega) h1 j j0 ?_
        rw [hk]
        have := manyF_rg k
        omega
      · rw [if_neg w9] at e
        exact absurd (congrArg Prod.fst e) (show ¬ (0 : Int) = 1 by decide)
theorem at_ag2 {M M' : Int → Int} (hI : Inv M) (ha : ag M M') (h : M 12 < 12) : ag (tAT M) (tAT M') := by
  have h12 := inv_S12 hI
  have hI' := inv_A ha hI
  have e := (ag_12 ha).1
  obtain ⟨e1, e2⟩ := at_hd M h12.1.1
  obtain ⟨f1, f2⟩ := at_hd M' (by rw [← e]; exact h12.1.1)
  have n2 := at_near hI' (by rw [← e]; exact h)
  rw [← e] at n2
  refine near_ag ha (at_near hI h) n2 (fun k a b => ?_) (fun t a b c => ?_) (fun u a b c => absurd c id)
  · by_cases z : k = 12
    · rw [z, e2, f2, e]
    · rw [e1 k a b z, f1 k a b z]
      exact ha.1 k a b
  · subst c
    have p1 := at_pts M h12.1.1
    have p2 := at_pts M' (by rw [← e]; exact h12.1.1)
    rw [← e] at p2
    exact ⟨by rw [p1, p2], fun q g1 g2 => by omega⟩
theorem as_ag2 {M M' : Int → Int} {x y z : Int} (hI : Inv M) (ha : ag M M') : ag (tAS M x y z) (tAS M' x y z) := by
  have h12 := inv_S12 hI
  have hI' := inv_A ha hI
  have e := (ag_12 ha).2
  have h0' : 0 ≤ M' 13 := by rw [← e]; exact h12.2.1
  obtain ⟨e1, e2⟩ := as_hd x y z h12.2.1
  obtain ⟨f1, f2⟩ := as_hd x y z h0'
  obtain ⟨n1, n2, n3⟩ := as_new x y z h12.2.1
  obtain ⟨m1, m2, m3⟩ := as_new x y z h0'
  have nn := as_near x y z hI'
  rw [← e] at nn m1 m2 m3
  refine near_ag ha (as_near x y z hI) nn (fun k a b => ?_) (fun t a b c => absurd c id) (fun u a b c => ?_)
  · by_cases w : k = 13
    · rw [w, e2, f2, e]
    · rw [e1 k a (by omega), f1 k a (by omega)]
      exact ha.1 k a b
  · subst c
    unfold stA2
    rw [n1, n2, n3, m1, m2, m3]
    exact ⟨rfl, rfl, rfl⟩
