/-! a trail of one plate is as a trail of another; so a star; two plates are alike where they are used -/
def trA (M M' : Int → Int) (t t' : Int) : Prop := pts M t = pts M' t' ∧ ∀ q : Int, 0 ≤ q → q < pts M t → frm M t q = frm M' t' q ∧ M (cel t q + 1) = M' (cel t' q + 1) ∧ M (cel t q + 2) = M' (cel t' q + 2)
def stA2 (M M' : Int → Int) (u u' : Int) : Prop := M (458 + 3 * u) = M' (458 + 3 * u') ∧ M (458 + 3 * u + 1) = M' (458 + 3 * u' + 1) ∧ M (458 + 3 * u + 2) = M' (458 + 3 * u' + 2)
def tOK (M : Int → Int) (t : Int) : Prop := (0 ≤ pts M t ∧ pts M t ≤ 12) ∧ ∀ p : Int, 0 ≤ p → p < pts M t → (0 ≤ frm M t p ∧ frm M t p ≤ 1000) ∧ (0 ≤ M (cel t p + 1) ∧ M (cel t p + 1) ≤ 4000) ∧ (0 ≤ M (cel t p + 2) ∧ M (cel t p + 2) ≤ 4000) ∧ (p + 1 < pts M t → frm M t p < frm M t (p + 1))
def sOK (M : Int → Int) (u : Int) : Prop := (1 ≤ M (458 + 3 * u) ∧ M (458 + 3 * u) ≤ 100000) ∧ (0 ≤ M (458 + 3 * u + 1) ∧ M (458 + 3 * u + 1) ≤ 359999) ∧ (0 ≤ M (458 + 3 * u + 2) ∧ M (458 + 3 * u + 2) ≤ 9)
theorem trA_symm {M M' : Int → Int} {t t' : Int} (h : trA M M' t t') : trA M' M t' t := ⟨h.1.symm, fun q a b => by
  obtain ⟨g1, g2, g3⟩ := h.2 q a (by rw [h.1]; exact b)
  exact ⟨g1.symm, g2.symm, g3.symm⟩⟩
theorem trA_trans {M M' M2 : Int → Int} {t t' t2 : Int} (h : trA M M' t t') (g : trA M' M2 t' t2) : trA M M2 t t2 := ⟨h.1.trans g.1, fun q a b => by
  obtain ⟨h1, h2, h3⟩ := h.2 q a b
  obtain ⟨g1, g2, g3⟩ := g.2 q a (by rw [← h.1]; exact b)
  exact ⟨h1.trans g1, h2.trans g2, h3.trans g3⟩⟩
theorem stA2_symm {M M' : Int → Int} {u u' : Int} (h : stA2 M M' u u') : stA2 M' M u' u := ⟨h.1.symm, h.2.1.symm, h.2.2.symm⟩
theorem stA2_trans {M M' M2 : Int → Int} {u u' u2 : Int} (h : stA2 M M' u u') (g : stA2 M' M2 u' u2) : stA2 M M2 u u2 := ⟨h.1.trans g.1, h.2.1.trans g.2.1, h.2.2.trans g.2.2⟩
theorem tOK_A {M M' : Int → Int} {t t' : Int} (h : trA M M' t t') (g : tOK M t) : tOK M' t' := by
  obtain ⟨g1, g2⟩ := g
  refine ⟨by rw [← h.1]; exact g1, fun p a b => ?_⟩
  rw [← h.1] at b
  obtain ⟨a1, a2, a3⟩ := h.2 p a b
  obtain ⟨b1, b2, b3, b4⟩ := g2 p a b
  rw [← a1, ← a2, ← a3, ← h.1]
  refine ⟨b1, b2, b3, fun c => ?_⟩
  rw [← (h.2 (p + 1) (by omega) c).1]
  exact b4 c
theorem sOK_A {M M' : Int → Int} {u u' : Int} (h : stA2 M M' u u') (g : sOK M u) : sOK M' u' := by
  unfold sOK at g ⊢
  rw [← h.1, ← h.2.1, ← h.2.2]
  exact g
theorem inv_iff (M : Int → Int) : Inv M ↔ InvS M ∧ (∀ t : Int, 0 ≤ t → t < M 12 → tOK M t) ∧ (∀ u : Int, 0 ≤ u → u < M 13 → sOK M u) := Iff.rfl
/-- alike -/
def ag (M M' : Int → Int) : Prop := (∀ k : Int, 0 ≤ k → k < 14 → M k = M' k) ∧ (∀ t : Int, 0 ≤ t → t < M 12 → trA M M' t t) ∧ (∀ u : Int, 0 ≤ u → u < M 13 → stA2 M M' u u)
theorem ag_refl (M : Int → Int) : ag M M := ⟨fun _ _ _ => rfl, fun t _ _ => ⟨rfl, fun q _ _ => ⟨rfl, rfl, rfl⟩⟩, fun u _ _ => ⟨rfl, rfl, rfl⟩⟩
theorem ag_12 {M M' : Int → Int} (h : ag M M') : M 12 = M' 12 ∧ M 13 = M' 13 := ⟨h.1 12 (by decide) (by decide), h.1 13 (by decide) (by decide)⟩
theorem ag_symm {M M' : Int → Int} (h : ag M M') : ag M' M := ⟨fun k a b => (h.1 k a b).symm, fun t a b => trA_symm (h.2.1 t a (by rw [(ag_12 h).1]; exact b)), fun u a b => stA2_symm (h.2.2 u a (by rw [(ag_12 h).2]; exact b))⟩
theorem ag_trans {M M' M2 : Int → Int} (h : ag M M') (g : ag M' M2) : ag M M2 := ⟨fun k a b => (h.1 k a b).trans (g.1 k a b), fun t a b => trA_trans (h.2.1 t a b) (g.2.1 t a (by rw [← (ag_12 h).1]; exact b)), fun u a b => stA2_trans (h.2.2 u a b) (g.2.2 u a (by rw [← (ag_12 h).2]; exact b))⟩
theorem invS_A {M M' : Int → Int} (h : ∀ k : Int, 0 ≤ k → k < 14 → M k = M' k) (g : InvS M) : InvS M' := by
  unfold InvS at g ⊢
  rw [← h 0 (by decide) (by decide), ← h 1 (by decide) (by decide), ← h 2 (by decide) (by decide), ← h 3 (by decide) (by decide), ← h 4 (by decide) (by decide), ← h 5 (by decide) (by decide), ← h 6 (by decide) (by decide), ← h 7 (by decide) (by decide), ← h 8 (by decide) (by decide), ← h 9 (by decide) (by decide), ← h 10 (by decide) (by decide), ← h 11 (by decide) (by decide), ← h 12 (by decide) (by decide), ← h 13 (by decide) (by decide)]
  exact g
theorem inv_A {M M' : Int → Int} (h : ag M M') (g : Inv M) : Inv M' := (inv_iff M').mpr ⟨invS_A h.1 g.1, fun t a b => tOK_A (h.2.1 t a (by rw [(ag_12 h).1]; exact b)) (g.2.1 t a (by rw [(ag_12 h).1]; exact b)), fun u a b => sOK_A (h.2.2 u a (by rw [(ag_12 h).2]; exact b)) (g.2.2 u a (by rw [(ag_12 h).2]; exact b))⟩
/-! what is the same of alike plates -/
theorem frA {M M' : Int → Int} {t : Int} (h : ag M M') (h0 : 0 ≤ t) (h1 : t < M 12) {q : Int} (q0 : 0 ≤ q) (q1 : q < pts M t) : frm M t q = frm M' t q ∧ plX M t q = plX M' t q ∧ plY M t q = plY M' t q := by
  obtain ⟨g1, g2, g3⟩ := (h.2.1 t h0 h1).2 q q0 q1
  unfold plX plY
  rw [← h.1 1 (by decide) (by decide), ← h.1 2 (by decide) (by decide), g1, g2, g3]
  exact ⟨rfl, rfl, rfl⟩
theorem ptA {M M' : Int → Int} {t : Int} (h : ag M M') (h0 : 0 ≤ t) (h1 : t < M 12) : pts M t = pts M' t := (h.2.1 t h0 h1).1
theorem rdA {M M' : Int → Int} {t : Int} (h : ag M M') (h0 : 0 ≤ t) (h1 : t < M 12) {q : Int} (q0 : 0 ≤ q) (q1 : q < pts M t) : rdOf M t q = rdOf M' t q ∧ angOf M t q = angOf M' t q := by
  obtain ⟨_, g2, g3⟩ := frA h h0 h1 q0 q1
  unfold rdOf angOf
  rw [g2, g3, ← h.1 10 (by decide) (by decide), ← h.1 11 (by decide) (by decide)]
  exact ⟨rfl, rfl⟩
theorem rdTA {M M' : Int → Int} {t : Int} (h : ag M M') (h0 : 0 ≤ t) (h1 : t < M 12) : rdT M t = rdT M' t := by
  unfold rdT
  rw [← ptA h h0 h1, sumZ_congr (fun k a b => (rdA h h0 h1 a b).1)]
theorem sprA {M M' : Int → Int} {t : Int} (h : ag M M') (h0 : 0 ≤ t) (h1 : t < M 12) (hp : 0 < pts M t) : sprd M t = sprd M' t := by
  unfold sprd maxZ minZ
  have c := minI_congr (f := rdOf M t) (g := rdOf M' t) (pts M t - 1).toNat (fun k a b => (rdA h h0 h1 a (by omega)).1)
  rw [← ptA h h0 h1, c.1, c.2]
theorem pcA {M M' : Int → Int} (h : ag M M') : pcost M = pcost M' := by
  unfold pcost
  rw [← (ag_12 h).1]
  exact sumZ_congr (fun k a b => by
    (try dsimp only)
    rw [← ptA h a b]
    by_cases z : 1 < pts M k
    · rw [if_pos z, if_pos z, sprA h a b (by omega)]
    · rw [if_neg z, if_neg z])
theorem swpA {M M' : Int → Int} {t : Int} (h : ag M M') (h0 : 0 ≤ t) (h1 : t < M 12) : swp M t = swp M' t := by
  unfold swp
  rw [← ptA h h0 h1]
  exact sumZ_congr (fun k a b => by (try dsimp only); rw [(rdA h h0 h1 a (by omega)).2, (rdA h h0 h1 (show 0 ≤ k + 1 by omega) (by omega)).2])
theorem fspA {M M' : Int → Int} {t : Int} (h : ag M M') (h0 : 0 ≤ t) (h1 : t < M 12) (hp : 0 < pts M t) : fspan M t = fspan M' t := by
  unfold fspan
  rw [← ptA h h0 h1, (frA h h0 h1 (show 0 ≤ pts M t - 1 by omega) (by omega)).1, (frA h h0 h1 (Int.le_refl 0) hp).1]
theorem misA {M M' : Int → Int} {t : Int} (h : ag M M') (h0 : 0 ≤ t) (h1 : t < M 12) (hp : 0 < pts M t) : misf M t = misf M' t := by
  unfold misf
  rw [swpA h h0 h1, fspA h h0 h1 hp, h.1 0 (by decide) (by decide)]
theorem gdA {M M' : Int → Int} {t : Int} (h : ag M M') (h0 : 0 ≤ t) (h1 : t < M 12) : isGoodP M t ↔ isGoodP M' t := by
  unfold isGoodP
  rw [← ptA h h0 h1, ← h.1 3 (by decide) (by decide), ← h.1 4 (by decide) (by decide)]
  by_cases z : 1 < pts M t
  · rw [sprA h h0 h1 (by omega), misA h h0 h1 (by omega)]
  · exact ⟨fun g => absurd g.1 z, fun g => absurd g.1 z⟩
theorem gdNA {M M' : Int → Int} {t : Int} (h : ag M M') (h0 : 0 ≤ t) (h1 : t < M 12) : goodN M t = goodN M' t := by
  by_cases z : isGoodP M t
  · rw [goodN_1 z, goodN_1 ((gdA h h0 h1).mp z)]
  · rw [goodN_0 z, goodN_0 (fun y => z ((gdA h h0 h1).mpr y))]
theorem gapA {M M' : Int → Int} {t : Int} (h : ag M M') (h0 : 0 ≤ t) (h1 : t < M 12) : gapN M t = gapN M' t := by
  unfold gapN
  rw [← ptA h h0 h1, ← h.1 6 (by decide) (by decide)]
  exact sumZ_congr (fun k a b => by (try dsimp only); rw [(frA h h0 h1 a (by omega)).1, (frA h h0 h1 (show 0 ≤ k + 1 by omega) (by omega)).1])
theorem plRA {M M' : Int → Int} {u : Int} (h : ag M M') (h0 : 0 ≤ u) (h1 : u < M 13) : plR M u = plR M' u := by
  unfold plR
  rw [(h.2.2 u h0 h1).1, h.1 7 (by decide) (by decide)]
theorem staA {M M' : Int → Int} {u : Int} (h : ag M M') (z f : Int) (h0 : 0 ≤ u) (h1 : u < M 13) : stAng M z u f = stAng M' z u f := by
  unfold stAng
  rw [(h.2.2 u h0 h1).2.1, h.1 0 (by decide) (by decide)]
theorem cstA {M M' : Int → Int} {t u : Int} (h : ag M M') (z : Int) (h0 : 0 ≤ t) (h1 : t < M 12) (hp : 0 < pts M t) (g0 : 0 ≤ u) (g1 : u < M 13) : cstZ M z t u = cstZ M' z t u := by
  unfold cstZ
  rw [rdTA h h0 h1, plRA h g0 g1, (rdA h h0 h1 (Int.le_refl 0) hp).2, staA h _ _ g0 g1, (frA h h0 h1 (Int.le_refl 0) hp).1]
theorem matA {M M' : Int → Int} (h : ag M M') (z : Int) : mat M z = mat M' z :=
  mat_congr (ag_12 h).1 (ag_12 h).2 (h.1 5 (by decide) (by decide)) (fun t a b => ptA h a b) (fun t u a b c d e => cstA h z a b e c d)
theorem hasA {M M' : Int → Int} {t : Int} (h : ag M M') (h0 : 0 ≤ t) (h1 : t < M 12) (f : Int) : hasF M t f ↔ hasF M' t f := by
  unfold hasF
  rw [← ptA h h0 h1]
  exact ⟨fun ⟨k, a, b, c⟩ => ⟨k, a, b, by rw [← (frA h h0 h1 a b).1]; exact c⟩, fun ⟨k, a, b, c⟩ => ⟨k, a, b, by rw [(frA h h0 h1 a b).1]; exact c⟩⟩
theorem trVA {M M' : Int → Int} {t w : Int} (SO : Int → Int) (h : ag M M') (h0 : 0 ≤ t) (h1 : t < M 12) (hp : 0 ≤ pts M t) : trV M SO t w = trV M' SO t w := by
  unfold trV
  rw [← ptA h h0 h1, ← gdNA h h0 h1, ← gapA h h0 h1, ← rdTA h h0 h1, ← swpA h h0 h1, ← h.1 0 (by decide) (by decide)]
  by_cases z : pts M t = 0 ∧ 0 < w ∧ w < 6
  · rw [if_pos z, if_pos z]
  · rw [if_neg z, if_neg z]
    by_cases y : 0 < pts M t
    · rw [← sprA h h0 h1 y, ← fspA h h0 h1 y, ← misA h h0 h1 y]
    · have e : ¬ (0 < w ∧ w < 6) := fun q => z ⟨by omega, q⟩
      by_cases w0 : w = 0
      · rw [if_pos w0, if_pos w0]
      · have n1 : ¬ w = 1 := by omega
        have n2 : ¬ w = 2 := by omega
        have n3 : ¬ w = 3 := by omega
        have n4 : ¬ w = 4 := by omega
        have n5 : ¬ w = 5 := by omega
        simp only [if_neg n1, if_neg n2, if_neg n3, if_neg n4, if_neg n5]
theorem stWA {M M' : Int → Int} {u w : Int} (h : ag M M') (hI : Inv M) (h0 : 0 ≤ u) (h1 : u < M 13) (hw : 0 ≤ w ∧ w ≤ 6) : stW M u w = stW M' u w := by
  have h12 := inv_S12 hI
  unfold stW stV missN missP
  rw [← matA h, ← h.1 8 (by decide) (by decide), plRA h h0 h1, h.1 9 (by decide) (by decide), (h.2.2 u h0 h1).2.2]
  have e : (if (mat M (M 8)).2.1 u = -1000000000 then -1000000000 else cstK M (M 8) (12 * (mat M (M 8)).2.1 u + u)) = (if (mat M (M 8)).2.1 u = -1000000000 then -1000000000 else cstK M' (M 8) (12 * (mat M (M 8)).2.1 u + u)) := by
    by_cases z : (mat M (M 8)).2.1 u = -1000000000
    · rw [if_pos z, if_pos z]
    · rw [if_neg z, if_neg z]
      have g := (mat_ok (M 8) hI).2.1 u h0 (by omega)
      unfold cstK
      rw [show (12 * (mat M (M 8)).2.1 u + u) / 12 = (mat M (M 8)).2.1 u by omega, show (12 * (mat M (M 8)).2.1 u + u) % 12 = u by omega]
      exact cstA h _ (by omega) (by omega) (by omega) h0 h1
  rw [e]
  have e2 : w = 0 ∨ w = 1 ∨ w = 2 ∨ (3 ≤ w ∧ w ≤ 6) := by omega
  rcases e2 with q | q | q | q
  · subst q
    rw [Int.add_zero, (h.2.2 u h0 h1).1]
  · subst q
    rw [(h.2.2 u h0 h1).2.1]
  · subst q
    rw [(h.2.2 u h0 h1).2.2]
  · by_cases z3 : w = 3
    · rw [if_pos z3, if_pos z3]
    · rw [if_neg z3, if_neg z3]
      by_cases z4 : w = 4
      · rw [if_pos z4, if_pos z4]
      · rw [if_neg z4, if_neg z4]
        by_cases z5 : w = 5
        · rw [if_pos z5, if_pos z5]
        · rw [if_neg z5, if_neg z5, if_pos (show w = 6 by omega), if_pos (show w = 6 by omega)]
theorem ptVA {M M' : Int → Int} {t q w : Int} (h : ag M M') (h0 : 0 ≤ t) (h1 : t < M 12) (q0 : 0 ≤ q) (q1 : q < pts M t) (hw : 0 ≤ w ∧ w ≤ 6) : ptV M t q w = ptV M' t q w := by
  obtain ⟨g1, g2, g3⟩ := frA h h0 h1 q0 q1
  obtain ⟨k1, k2⟩ := rdA h h0 h1 q0 q1
  obtain ⟨m1, m2, m3⟩ := (h.2.1 t h0 h1).2 q q0 q1
  unfold ptV
  rw [g2, g3, k1, k2]
  have e2 : w = 0 ∨ w = 1 ∨ w = 2 ∨ (3 ≤ w ∧ w ≤ 6) := by omega
  rcases e2 with z | z | z | z
  · subst z
    rw [Int.add_zero]
    show (if (0 : Int) = 3 then _ else if (0 : Int) = 4 then _ else if (0 : Int) = 5 then _ else if (0 : Int) = 6 then _ else frm M t q) = (if (0 : Int) = 3 then _ else if (0 : Int) = 4 then _ else if (0 : Int) = 5 then _ else if (0 : Int) = 6 then _ else frm M' t q)
    rw [g1]
  · subst z
    rw [m2]
  · subst z
    rw [m3]
  · by_cases z3 : w = 3
    · rw [if_pos z3, if_pos z3]
    · rw [if_neg z3, if_neg z3]
      by_cases z4 : w = 4
      · rw [if_pos z4, if_pos z4]
      · rw [if_neg z4, if_neg z4]
        by_cases z5 : w = 5
        · rw [if_pos z5, if_pos z5]
        · rw [if_neg z5, if_neg z5, if_pos (show w = 6 by omega), if_pos (show w = 6 by omega)]
