/-! ranges of the numbers that were read -/
def nmOK (A : Int → Int) : Prop := ∀ k : Int, 0 ≤ k → k < 4 → 0 ≤ A k ∧ A k ≤ 999999
theorem nm_ups {A : Int → Int} {i v : Int} (h : nmOK A) (hv : 0 ≤ v ∧ v ≤ 999999) : nmOK (ups A i v) := fun k a b => by
  unfold ups
  split
  · exact hv
  · exact h k a b
theorem prsN_nm (T : Int → Int) {n : Int} : ∀ (c : Nat) (q : Int) (A : Int → Int) (i : Int), q ≤ n → nmOK A → nmOK (prsN T n c q A i).2.2
  | 0, q, A, i, _, h => h
  | c + 1, q, A, i, hq, h => by
    have hs := skp_bd T hq
    have hd := dgF_bd T hs.2.1
    unfold prsN
    by_cases z : skp T n q = q
    · rw [if_pos z]
      exact h
    · rw [if_neg z]
      by_cases y : (dgF T n (skp T n q)).1 = skp T n q
      · rw [if_pos y]
        exact nm_ups h hd.2
      · rw [if_neg y]
        exact prsN_nm T c _ _ (i + 1) hd.1.2.1 (nm_ups h hd.2)
theorem prsC_nm (T : Int → Int) {n q : Int} {A : Int → Int} (hq : q ≤ n) (h : nmOK A) : nmOK (prsC T n q A).2.2.2 := by
  have hw := wre_bd T hq
  unfold prsC
  split
  · exact h
  · split
    · exact prsN_nm T _ _ _ _ hw.2.1 h
    · split
      · exact prsN_nm T _ _ _ _ hw.2.1 h
      · exact prsN_nm T _ _ _ _ hw.2.1 h
theorem ups2_c (F : Int → Int) {i j : Int} (x y z : Int) (h : i ≠ j) : ups (ups (ups F i x) j y) j z = ups (ups F i x) j z := ups_ups _ _ _ _
theorem prsN_a {T : Int → Int} {n m k q : Int} {A : Int → Int} (h : k < m) (h1 : skp T n q = q) : prsN T n (m - k).toNat q A k = (0, q, A) := by
  rw [prsN_s h, if_pos h1]
theorem prsN_b {T : Int → Int} {n m k q v : Int} {A : Int → Int} (h : k < m) (h1 : ¬ skp T n q = q) (hd : dgF T n (skp T n q) = (skp T n q, v)) : prsN T n (m - k).toNat q A k = (0, skp T n q, ups A k v) := by
  rw [prsN_s h, if_neg h1, if_pos (by rw [hd]), hd]
theorem prsN_c {T : Int → Int} {n m k q v x : Int} {A : Int → Int} (h : k < m) (h1 : ¬ skp T n q = q) (hd : dgF T n (skp T n q) = (x, v)) (h2 : ¬ x = skp T n q) : prsN T n (m - k).toNat q A k = prsN T n (m - (k + 1)).toNat x (ups A k v) (k + 1) := by
  rw [prsN_s h, if_neg h1, if_neg (by rw [hd]; exact h2), hd]
theorem prsC_b0 {T : Int → Int} {n q x k : Int} {A B : Int → Int} (h : q ≤ n) (e : prsC T n q A = (0, x, k, B)) : q ≤ x ∧ x ≤ n := by
  have g := (prsC_bd T A h).1
  rw [e] at g
  rcases g with g | g
  · exact g.2
  · exact absurd g.1 (show ¬ (0 : Int) = 1 by decide)
theorem prsC_b1 {T : Int → Int} {n q x k : Int} {A B : Int → Int} (h : q ≤ n) (e : prsC T n q A = (1, x, k, B)) : q < x ∧ x ≤ n ∧ 0 ≤ k ∧ k ≤ 6 := by
  have g := (prsC_bd T A h).1
  rw [e] at g
  rcases g with g | g
  · exact absurd g.1 (show ¬ (1 : Int) = 0 by decide)
  · exact g.2
theorem prsC_n {T : Int → Int} {n q x k c : Int} {A B : Int → Int} (h : q ≤ n) (e : prsC T n q A = (c, x, k, B)) (hA : nmOK A) : nmOK B := by
  have g := prsC_nm T h hA
  rw [e] at g
  exact g
theorem prsF_n0 {T : Int → Int} {n q x k : Int} {A B : Int → Int} (h : q < n) (e : prsC T n q A = (0, x, k, B)) : prsF T n q = (0, x) := by
  have g := prsF_no A h (by rw [e])
  rw [e] at g
  exact g
theorem prsF_y1 {T : Int → Int} {n q x k : Int} {A B : Int → Int} (hq : 0 ≤ q) (hn : n ≤ 150) (h : q < n) (e : prsC T n q A = (1, x, k, B)) : prsF T n q = prsF T n (skp T n x) := by
  have g := prsF_yes A hq hn h (by rw [e])
  rw [e] at g
  exact g
