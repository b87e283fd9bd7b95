/-! ranges of the numbers that were read -/
def nmOK (A : Int → Int) : Prop := ∀ k : Int, 0 ≤ k → k < 4 → 0 ≤ A k ∧ A k ≤ 999999
theorem nm_ups {A : Int → Int} {i v : Int} (h : nmOK A) (hv : 0 ≤ v ∧ v ≤ 999999) : nmOK (ups A i v) := fun k a b => by
  unfold ups
  split
  · exact hv
  · exact h k a b
theorem prsN_nm (T : Int → Int) {n : Int} : ∀ (c : Nat) (q : Int) (A : Int → Int) (i : Int), q ≤ n → nmOK A → nmOK (prsN T n c q A i).2.2
  | 0, q, A, i, _, h => h
  | c + 1, q, A, i, hq, h => by
    have hs := skp_bd T hq
    have hd := dgF_bd T hs.2.1
    unfold prsN
    by_cases z : skp T n q = q
    · rw [if_pos z]
      exact h
    · rw [if_neg z]
      by_cases y : (dgF T n (skp T n q)).1 = skp T n q
      · rw [if_pos y]
        exact nm_ups h hd.2
      · rw [if_neg y]
        exact prsN_nm T c _ _ (i + 1) hd.1.2.1 (nm_ups h hd.2)
theorem prsC_nm (T : Int → Int) {n q : Int} {A : Int → Int} (hq : q ≤ n) (h : nmOK A) : nmOK (prsC T n q A).2.2.2 := by
  have hw := wre_bd T hq
  unfold prsC
  split
  · exact h
  · split
    · exact prsN_nm T _ _ _ _ hw.2.1 h
    · split
      · exact prsN_nm T _ _ _ _ hw.2.1 h
      · exact prsN_nm T _ _ _ _ hw.2.1 h
theorem ups2_c (F : Int → Int) {i j : Int} (x y z : Int) (h : i ≠ j) : ups (ups (ups F i x) j y) j z = ups (ups F i x) j z := ups_ups _ _ _ _
