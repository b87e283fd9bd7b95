/-! reading one command -/
def manyF (k : Int) : Int := if k = 0 then 0 else if k = 1 then 4 else if k = 2 then 3 else if k = 5 ∨ k = 6 then 1 else 2
theorem manyF_rg (k : Int) : 0 ≤ manyF k ∧ manyF k ≤ 4 := by
  unfold manyF
  (repeat' split) <;> omega
noncomputable def prsN (T : Int → Int) (n : Int) : Nat → Int → (Int → Int) → Int → Int × Int × (Int → Int)
  | 0, q, A, _ => (1, q, A)
  | c + 1, q, A, i => if skp T n q = q then (0, q, A) else if (dgF T n (skp T n q)).1 = skp T n q then (0, skp T n q, ups A i (dgF T n (skp T n q)).2) else prsN T n c (dgF T n (skp T n q)).1 (ups A i (dgF T n (skp T n q)).2) (i + 1)
theorem prsN_0 (T : Int → Int) (n q : Int) (A : Int → Int) (i : Int) : prsN T n 0 q A i = (1, q, A) := rfl
theorem prsN_s {T : Int → Int} {n m k q : Int} {A : Int → Int} (h : k < m) : prsN T n (m - k).toNat q A k = if skp T n q = q then (0, q, A) else if (dgF T n (skp T n q)).1 = skp T n q then (0, skp T n q, ups A k (dgF T n (skp T n q)).2) else prsN T n (m - (k + 1)).toNat (dgF T n (skp T n q)).1 (ups A k (dgF T n (skp T n q)).2) (k + 1) := by
  obtain ⟨c, hc⟩ : ∃ c : Nat, (m - k).toNat = c + 1 := ⟨(m - k).toNat - 1, by omega⟩
  rw [hc, show (m - (k + 1)).toNat = c by omega]
  rfl
theorem prsN_bd (T : Int → Int) {n : Int} : ∀ (c : Nat) (q : Int) (A : Int → Int) (i : Int), q ≤ n → (((prsN T n c q A i).1 = 0 ∨ (prsN T n c q A i).1 = 1) ∧ q ≤ (prsN T n c q A i).2.1 ∧ (prsN T n c q A i).2.1 ≤ n) ∧ ∀ A' : Int → Int, (prsN T n c q A' i).1 = (prsN T n c q A i).1 ∧ (prsN T n c q A' i).2.1 = (prsN T n c q A i).2.1
  | 0, q, A, i, h => ⟨⟨Or.inr rfl, Int.le_refl _, h⟩, fun A' => ⟨rfl, rfl⟩⟩
  | c + 1, q, A, i, h => by
    have hs := skp_bd T h
    have hd := (dgF_bd T hs.2.1).1
    unfold prsN
    by_cases g : skp T n q = q
    · rw [if_pos g]
      exact ⟨⟨Or.inl rfl, Int.le_refl _, h⟩, fun A' => by rw [if_pos g]; exact ⟨rfl, rfl⟩⟩
    · rw [if_neg g]
      by_cases g2 : (dgF T n (skp T n q)).1 = skp T n q
      · rw [if_pos g2]
        exact ⟨⟨Or.inl rfl, hs.1, hs.2.1⟩, fun A' => by rw [if_neg g, if_pos g2]; exact ⟨rfl, rfl⟩⟩
      · rw [if_neg g2]
        have ih := prsN_bd T c (dgF T n (skp T n q)).1 (ups A i (dgF T n (skp T n q)).2) (i + 1) hd.2.1
        refine ⟨⟨ih.1.1, by omega, ih.1.2.2⟩, fun A' => ?_⟩
        rw [if_neg g, if_neg g2]
        have ih2 := prsN_bd T c (dgF T n (skp T n q)).1 (ups A i (dgF T n (skp T n q)).2) (i + 1) hd.2.1
        exact ih2.2 _
noncomputable def prsC (T : Int → Int) (n q : Int) (A : Int → Int) : Int × Int × Int × (Int → Int) :=
  if kindW T q (wre T n q) = -1000000000 then (0, q, -1000000000, A) else
  if (prsN T n (manyF (kindW T q (wre T n q))).toNat (wre T n q) A 0).1 = 0 then (0, (prsN T n (manyF (kindW T q (wre T n q))).toNat (wre T n q) A 0).2.1, kindW T q (wre T n q), (prsN T n (manyF (kindW T q (wre T n q))).toNat (wre T n q) A 0).2.2) else
  if skp T n (prsN T n (manyF (kindW T q (wre T n q))).toNat (wre T n q) A 0).2.1 < n ∧ T (skp T n (prsN T n (manyF (kindW T q (wre T n q))).toNat (wre T n q) A 0).2.1) = 59 then (1, skp T n (prsN T n (manyF (kindW T q (wre T n q))).toNat (wre T n q) A 0).2.1 + 1, kindW T q (wre T n q), (prsN T n (manyF (kindW T q (wre T n q))).toNat (wre T n q) A 0).2.2)
  else (0, skp T n (prsN T n (manyF (kindW T q (wre T n q))).toNat (wre T n q) A 0).2.1, kindW T q (wre T n q), (prsN T n (manyF (kindW T q (wre T n q))).toNat (wre T n q) A 0).2.2)
theorem prsC_0 {T : Int → Int} {n q : Int} {A : Int → Int} (h : kindW T q (wre T n q) = -1000000000) : prsC T n q A = (0, q, -1000000000, A) := by unfold prsC; rw [if_pos h]
theorem prsC_1 {T : Int → Int} {n q k e x : Int} {A B : Int → Int} (hk : kindW T q (wre T n q) = k) (he : wre T n q = e) (h : k ≠ -1000000000) (hr : prsN T n (manyF k).toNat e A 0 = (0, x, B)) : prsC T n q A = (0, x, k, B) := by
  unfold prsC
  rw [hk, he, hr, if_neg h, if_pos rfl]
theorem prsC_2 {T : Int → Int} {n q k e x : Int} {A B : Int → Int} (hk : kindW T q (wre T n q) = k) (he : wre T n q = e) (h : k ≠ -1000000000) (hr : prsN T n (manyF k).toNat e A 0 = (1, x, B)) (hs : skp T n x < n ∧ T (skp T n x) = 59) : prsC T n q A = (1, skp T n x + 1, k, B) := by
  unfold prsC
  rw [hk, he, hr, if_neg h, if_neg (show ¬ (1 : Int) = 0 by decide), if_pos hs]
theorem prsC_3 {T : Int → Int} {n q k e x : Int} {A B : Int → Int} (hk : kindW T q (wre T n q) = k) (he : wre T n q = e) (h : k ≠ -1000000000) (hr : prsN T n (manyF k).toNat e A 0 = (1, x, B)) (hs : ¬ (skp T n x < n ∧ T (skp T n x) = 59)) : prsC T n q A = (0, skp T n x, k, B) := by
  unfold prsC
  rw [hk, he, hr, if_neg h, if_neg (show ¬ (1 : Int) = 0 by decide), if_neg hs]
theorem prsC_bd (T : Int → Int) {n q : Int} (A : Int → Int) (h : q ≤ n) : (((prsC T n q A).1 = 0 ∧ q ≤ (prsC T n q A).2.1 ∧ (prsC T n q A).2.1 ≤ n) ∨ ((prsC T n q A).1 = 1 ∧ q < (prsC T n q A).2.1 ∧ (prsC T n q A).2.1 ≤ n ∧ 0 ≤ (prsC T n q A).2.2.1 ∧ (prsC T n q A).2.2.1 ≤ 6)) ∧ ∀ A' : Int → Int, (prsC T n q A').1 = (prsC T n q A).1 ∧ (prsC T n q A').2.1 = (prsC T n q A).2.1 ∧ (prsC T n q A').2.2.1 = (prsC T n q A).2.2.1 := by
  have hw := wre_bd T h
  have hk := kindW_rg T q (wre T n q)
  have hn := prsN_bd T (n := n) (manyF (kindW T q (wre T n q))).toNat (wre T n q) A 0 hw.2.1
  have hs := skp_bd T hn.1.2.2
  unfold prsC
  by_cases g : kindW T q (wre T n q) = -1000000000
  · rw [if_pos g]
    exact ⟨Or.inl ⟨rfl, Int.le_refl _, h⟩, fun A' => by rw [if_pos g]; exact ⟨rfl, rfl, rfl⟩⟩
  · rw [if_neg g]
    by_cases g2 : (prsN T n (manyF (kindW T q (wre T n q))).toNat (wre T n q) A 0).1 = 0
    · rw [if_pos g2]
      refine ⟨Or.inl ⟨rfl, Int.le_trans hw.1 hn.1.2.1, hn.1.2.2⟩, fun A' => ?_⟩
      have hA := hn.2 A'
      rw [if_neg g, if_pos (by omega), hA.2]
      exact ⟨rfl, rfl, rfl⟩
    · rw [if_neg g2]
      by_cases g3 : skp T n (prsN T n (manyF (kindW T q (wre T n q))).toNat (wre T n q) A 0).2.1 < n ∧ T (skp T n (prsN T n (manyF (kindW T q (wre T n q))).toNat (wre T n q) A 0).2.1) = 59
      · rw [if_pos g3]
        refine ⟨Or.inr ⟨rfl, by show q < _ + 1; omega, by show _ + 1 ≤ n; omega, by show 0 ≤ kindW T q (wre T n q); omega, by show kindW T q (wre T n q) ≤ 6; omega⟩, fun A' => ?_⟩
        have hA := hn.2 A'
        rw [if_neg g, if_neg (by omega), hA.2, if_pos g3]
        exact ⟨rfl, rfl, rfl⟩
      · rw [if_neg g3]
        refine ⟨Or.inl ⟨rfl, by show q ≤ skp T n _; omega, hs.2.1⟩, fun A' => ?_⟩
        have hA := hn.2 A'
        rw [if_neg g, if_neg (by omega), hA.2, if_neg g3]
        exact ⟨rfl, rfl, rfl⟩
/-- reading all of it, from a place behind spaces -/
noncomputable def prsT (T : Int → Int) (n : Int) : Nat → Int → Int × Int
  | 0, q => (1, q)
  | f + 1, q => if q < n then (if (prsC T n q (fun _ => 0)).1 = 0 then (0, (prsC T n q (fun _ => 0)).2.1) else prsT T n f (skp T n (prsC T n q (fun _ => 0)).2.1)) else (1, q)
theorem prsT_end {T : Int → Int} {n q : Int} (f : Nat) (h : ¬ q < n) : prsT T n f q = (1, q) := by
  cases f with
  | zero => rfl
  | succ f => unfold prsT; rw [if_neg h]
theorem prsT_same {T : Int → Int} {n : Int} : ∀ (f g : Nat) (q : Int), q ≤ n → n - q ≤ f → n - q ≤ g → prsT T n f q = prsT T n g q
  | 0, g, q, h, hf, hg => by rw [prsT_end 0 (by omega), prsT_end g (by omega)]
  | f + 1, 0, q, h, hf, hg => by rw [prsT_end 0 (by omega), prsT_end (f + 1) (by omega)]
  | f + 1, g + 1, q, h, hf, hg => by
    unfold prsT
    by_cases z : q < n
    · rw [if_pos z, if_pos z]
      have hb := (prsC_bd T (fun _ => 0) h).1
      by_cases y : (prsC T n q (fun _ => 0)).1 = 0
      · rw [if_pos y, if_pos y]
      · rw [if_neg y, if_neg y]
        have hs := skp_bd T (show (prsC T n q (fun _ => 0)).2.1 ≤ n by omega)
        exact prsT_same f g _ hs.2.1 (by omega) (by omega)
    · rw [if_neg z, if_neg z]
noncomputable def prsF (T : Int → Int) (n q : Int) : Int × Int := prsT T n 150 q
theorem prsF_end {T : Int → Int} {n q : Int} (h : ¬ q < n) : prsF T n q = (1, q) := prsT_end 150 h
theorem prsF_no {T : Int → Int} {n q : Int} (A : Int → Int) (h : q < n) (h0 : (prsC T n q A).1 = 0) : prsF T n q = (0, (prsC T n q A).2.1) := by
  have e := (prsC_bd T A (Int.le_of_lt h)).2 (fun _ => 0)
  show prsT T n (149 + 1) q = _
  unfold prsT
  rw [if_pos h, if_pos (by omega), e.2.1]
theorem prsF_yes {T : Int → Int} {n q : Int} (A : Int → Int) (hq : 0 ≤ q) (hn : n ≤ 150) (h : q < n) (h0 : (prsC T n q A).1 = 1) : prsF T n q = prsF T n (skp T n (prsC T n q A).2.1) := by
  have b := prsC_bd T A (Int.le_of_lt h)
  have e := b.2 (fun _ => 0)
  have hs := skp_bd T (show (prsC T n q A).2.1 ≤ n by omega)
  have key : prsF T n q = prsT T n 149 (skp T n (prsC T n q A).2.1) := by
    show prsT T n (149 + 1) q = _
    conv => lhs; unfold prsT
    rw [if_pos h, if_neg (by omega), e.2.1]
  rw [key]
  exact prsT_same 149 150 _ hs.2.1 (by omega) (by omega)
/-! what a command meets, and what it does -/
noncomputable def ftP (M : Int → Int) (t f x y : Int) : Int := @ite _ (0 ≤ t ∧ t < M 12) (Classical.propDecidable _) (@ite _ (pointOK f x y) (Classical.propDecidable _) (@ite _ (pts M t = 12 ∨ hasF M t f) (Classical.propDecidable _) 3 0) 2) 1
noncomputable def ftS (M : Int → Int) (x y z : Int) : Int := @ite _ (starOK x y z) (Classical.propDecidable _) (if M 13 = 12 then 3 else 0) 2
noncomputable def okV (c : Prop) : Int := @ite _ c (Classical.propDecidable _) 0 2
noncomputable def ftV (M : Int → Int) (k : Int) (A : Int → Int) : Int :=
  if k = 0 then (if M 12 = 12 then 3 else 0) else if k = 1 then ftP M (A 0) (A 1) (A 2) (A 3) else if k = 2 then ftS M (A 0) (A 1) (A 2) else if k = 3 then okV (poleOK (A 0) (A 1)) else if k = 4 then okV (setOK (A 0) (A 1)) else if k = 5 then okV (setOK 0 (-(A 0))) else okV (1 ≤ A 0 ∧ A 0 ≤ 512)
noncomputable def efM (M : Int → Int) (k : Int) (A : Int → Int) : Int → Int :=
  if k = 0 then tAT M else if k = 1 then tAP M (A 0) (A 1) (A 2) (A 3) else if k = 2 then tAS M (A 0) (A 1) (A 2) else if k = 3 then tPo M (A 0) (A 1) else if k = 4 then ups M (A 0) (A 1) else if k = 5 then ups M 0 (-(A 0)) else (srch M (A 0)).1
theorem okV_y {c : Prop} (h : c) : okV c = 0 := if_pos h
theorem okV_n {c : Prop} (h : ¬ c) : okV c = 2 := if_neg h
theorem ftP_1 {M : Int → Int} {t f x y : Int} (h : ¬ (0 ≤ t ∧ t < M 12)) : ftP M t f x y = 1 := if_neg h
theorem ftP_2 {M : Int → Int} {t f x y : Int} (h : (0 ≤ t ∧ t < M 12) ∧ ¬ pointOK f x y) : ftP M t f x y = 2 := by unfold ftP; rw [if_pos h.1, if_neg h.2]
theorem ftP_3 {M : Int → Int} {t f x y : Int} (h : ((0 ≤ t ∧ t < M 12) ∧ pointOK f x y) ∧ (pts M t = 12 ∨ hasF M t f)) : ftP M t f x y = 3 := by unfold ftP; rw [if_pos h.1.1, if_pos h.1.2, if_pos h.2]
theorem ftP_0 {M : Int → Int} {t f x y : Int} (h : ((0 ≤ t ∧ t < M 12) ∧ pointOK f x y) ∧ (pts M t < 12 ∧ ¬ hasF M t f)) : ftP M t f x y = 0 := by
  unfold ftP
  rw [if_pos h.1.1, if_pos h.1.2, if_neg (fun z => by rcases z with z | z; exact absurd z (by omega); exact h.2.2 z)]
theorem ftS_0 {M : Int → Int} {x y z : Int} (h : starOK x y z ∧ M 13 < 12) : ftS M x y z = 0 := by unfold ftS; rw [if_pos h.1, if_neg (by omega)]
theorem ftS_2 {M : Int → Int} {x y z : Int} (h : ¬ starOK x y z) : ftS M x y z = 2 := if_neg h
theorem ftS_3 {M : Int → Int} {x y z : Int} (h : starOK x y z ∧ M 13 = 12) : ftS M x y z = 3 := by unfold ftS; rw [if_pos h.1, if_pos h.2]
theorem ftV_01 {k : Int} (M A : Int → Int) (hk : 0 ≤ k ∧ k ≤ 6) : (k = 0 ∧ ftV M k A = (if M 12 = 12 then 3 else 0) ∧ efM M k A = tAT M) ∨ (k = 1 ∧ ftV M k A = ftP M (A 0) (A 1) (A 2) (A 3) ∧ efM M k A = tAP M (A 0) (A 1) (A 2) (A 3)) ∨ (k = 2 ∧ ftV M k A = ftS M (A 0) (A 1) (A 2) ∧ efM M k A = tAS M (A 0) (A 1) (A 2)) ∨ (k = 3 ∧ ftV M k A = okV (poleOK (A 0) (A 1)) ∧ efM M k A = tPo M (A 0) (A 1)) ∨ (k = 4 ∧ ftV M k A = okV (setOK (A 0) (A 1)) ∧ efM M k A = ups M (A 0) (A 1)) ∨ (k = 5 ∧ ftV M k A = okV (setOK 0 (-(A 0))) ∧ efM M k A = ups M 0 (-(A 0))) ∨ (k = 6 ∧ ftV M k A = okV (1 ≤ A 0 ∧ A 0 ≤ 512) ∧ efM M k A = (srch M (A 0)).1) := by
  rcases (show k = 0 ∨ k = 1 ∨ k = 2 ∨ k = 3 ∨ k = 4 ∨ k = 5 ∨ k = 6 by omega) with h | h | h | h | h | h | h <;> subst h
  · exact Or.inl ⟨rfl, rfl, rfl⟩
  · exact Or.inr (Or.inl ⟨rfl, rfl, rfl⟩)
  · exact Or.inr (Or.inr (Or.inl ⟨rfl, rfl, rfl⟩))
  · exact Or.inr (Or.inr (Or.inr (Or.inl ⟨rfl, rfl, rfl⟩)))
  · exact Or.inr (Or.inr (Or.inr (Or.inr (Or.inl ⟨rfl, rfl, rfl⟩))))
  · exact Or.inr (Or.inr (Or.inr (Or.inr (Or.inr (Or.inl ⟨rfl, rfl, rfl⟩)))))
  · exact Or.inr (Or.inr (Or.inr (Or.inr (Or.inr (Or.inr ⟨rfl, rfl, rfl⟩)))))
