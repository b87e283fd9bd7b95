/-! changes: what the law's rounds are made of -/
def hvI (M : Int → Int) (t f : Int) : Nat → Int
  | 0 => 0
  | n + 1 => if hvI M t f n ≠ 0 ∨ frm M t (n : Int) = f then 1 else 0
def hvF (M : Int → Int) (t f q : Int) : Int := hvI M t f q.toNat
theorem hv_s (M : Int → Int) (t f : Int) {q : Int} (h : 0 ≤ q) : ((hvF M t f q ≠ 0 ∨ frm M t q = f) ∧ hvF M t f (q + 1) = 1) ∨ (¬ (hvF M t f q ≠ 0 ∨ frm M t q = f) ∧ hvF M t f (q + 1) = 0) := by
  obtain ⟨n, rfl⟩ : ∃ n : Nat, q = (n : Int) := ⟨q.toNat, (Int.toNat_of_nonneg h).symm⟩
  have e1 : ((n : Int) + 1).toNat = n + 1 := by omega
  have e2 : ((n : Int)).toNat = n := by omega
  unfold hvF
  rw [e1, e2]
  by_cases c : hvI M t f n ≠ 0 ∨ frm M t (n : Int) = f
  · exact Or.inl ⟨c, if_pos c⟩
  · exact Or.inr ⟨c, if_neg c⟩
theorem hvI_01 (M : Int → Int) (t f : Int) : ∀ n : Nat, hvI M t f n = 0 ∨ hvI M t f n = 1
  | 0 => Or.inl rfl
  | n + 1 => by
    by_cases c : hvI M t f n ≠ 0 ∨ frm M t (n : Int) = f
    · exact Or.inr (if_pos c)
    · exact Or.inl (if_neg c)
theorem hv_01 (M : Int → Int) (t f q : Int) : hvF M t f q = 0 ∨ hvF M t f q = 1 := hvI_01 M t f _
theorem hvI_ex (M : Int → Int) (t f : Int) : ∀ n : Nat, hvI M t f n ≠ 0 ↔ ∃ k : Int, 0 ≤ k ∧ k < (n : Int) ∧ frm M t k = f
  | 0 => ⟨fun h => absurd rfl h, fun ⟨k, a, b, _⟩ => by exfalso; omega⟩
  | n + 1 => by
    have ih := hvI_ex M t f n
    constructor
    · intro h
      by_cases c : hvI M t f n ≠ 0 ∨ frm M t (n : Int) = f
      · rcases c with c | c
        · obtain ⟨k, a, b, d⟩ := ih.mp c
          exact ⟨k, a, by omega, d⟩
        · exact ⟨n, by omega, by omega, c⟩
      · exact absurd (if_neg c) h
    · rintro ⟨k, a, b, d⟩
      have c : hvI M t f n ≠ 0 ∨ frm M t (n : Int) = f := by
        rcases (show k = (n : Int) ∨ k < (n : Int) by omega) with e | e
        · subst e
          exact Or.inr d
        · exact Or.inl (ih.mpr ⟨k, a, e, d⟩)
      have e1 : hvI M t f (n + 1) = 1 := if_pos c
      rw [e1]
      decide
theorem hv_has {M : Int → Int} {t f : Int} (h : 0 ≤ pts M t) : hvF M t f (pts M t) ≠ 0 ↔ hasF M t f := by
  have g := hvI_ex M t f (pts M t).toNat
  rw [Int.toNat_of_nonneg h] at g
  exact g
theorem hv_no {M : Int → Int} {t f : Int} (h : 0 ≤ pts M t) (h0 : hvF M t f (pts M t) = 0) : ¬ hasF M t f := fun z => (hv_has h).mpr z h0
theorem ap_law {M F : Int → Int} {t f x y : Int} (hI : Inv M) (h0 : 0 ≤ t) (h1 : t < M 12) (hnf : ¬ hasF M t f) (e : tAP M t f x y = F) : (F 12 = M 12 ∧ pts F t = pts M t + 1) ∧ (frm F t (posF M t f) = f ∧ F (cel t (posF M t f) + 1) = x ∧ F (cel t (posF M t f) + 2) = y) ∧ 0 ≤ posF M t f ∧ posF M t f ≤ pts M t := by
  subst e
  have hd := ap_hd x y hI h0 h1 hnf
  have hp := (posF_sp hI h0 h1 hnf).1
  refine ⟨⟨hd.1 12 (by decide) (by decide), hd.2⟩, ?_, hp⟩
  rcases ap_pt3 (x := x) (y := y) hI h0 h1 hnf hp.1 hp.2 with g | g | g
  · exfalso
    have := g.1
    omega
  · exact g.2
  · exfalso
    have := g.1
    omega
theorem as_law {M F : Int → Int} {x y z : Int} (hI : Inv M) (e : tAS M x y z = F) : (F 12 = M 12 ∧ F 13 = M 13 + 1) ∧ F (458 + 3 * M 13) = x ∧ F (458 + 3 * M 13 + 1) = y ∧ F (458 + 3 * M 13 + 2) = z := by
  subst e
  have h12 := inv_S12 hI
  have hd := as_hd (M := M) x y z h12.2.1
  exact ⟨⟨hd.1 12 (by decide) (by decide), hd.2⟩, as_new x y z h12.2.1⟩
theorem rp_law {M F : Int → Int} {t q : Int} (h0 : 0 ≤ t) (h2 : 0 ≤ q) (e : tRP M t q = F) : F 12 = M 12 ∧ pts F t = pts M t - 1 := by
  subst e
  have hd := rp_hd (M := M) (t := t) (q := q) h0 h2
  exact ⟨hd.1 12 (by decide) (by decide), hd.2⟩
theorem rt_law {M F : Int → Int} {t : Int} (h0 : 0 ≤ t) (e : tRT M t = F) : F 12 = M 12 - 1 := by
  subst e
  exact (rt_hd (M := M) h0).2
theorem rs_law {M F : Int → Int} {u : Int} (hI : Inv M) (h0 : 0 ≤ u) (h1 : u < M 13) (e : tRS M u = F) : (F 12 = M 12 ∧ F 13 = M 13 - 1) ∧ (u + 1 < M 13 → F (458 + 3 * u + 1) = M (458 + 3 * (u + 1) + 1)) := by
  subst e
  have hd := rs_hd (M := M) (u := u) h0
  refine ⟨⟨hd.1 12 (by decide) (by decide), hd.2⟩, fun h => ?_⟩
  have n9 := ((rs_near hI h0 h1).2 u h0 (by rw [hd.2]; omega) (fun z => z)).2
  (try dsimp only at n9)
  rw [if_neg (by omega)] at n9
  exact n9.2.1.symm
theorem at_law {M F : Int → Int} (hI : Inv M) (e : tAT M = F) : F 12 = M 12 + 1 := by
  subst e
  exact (at_hd M (inv_S12 hI).1.1).2
theorem po_law {M F : Int → Int} {x y : Int} (e : tPo M x y = F) : (F 12 = M 12 ∧ F 10 = x ∧ F 11 = y) ∧ pcost F = pcost (tPo M x y) := by
  subst e
  exact ⟨⟨tPo_ne M x y (by decide) (by decide), tPo_10 M x y, tPo_11 M x y⟩, rfl⟩
theorem set_law {M F : Int → Int} {w v : Int} (h : 0 ≤ w ∧ w ≤ 9) (e : ups M w v = F) : F 12 = M 12 ∧ F w = v := by
  subst e
  exact ⟨ups_ne _ _ (by omega), ups_eq _ _ _⟩
theorem srF_12 : ∀ (f : Nat) (M : Int → Int) (s : Int), (srF f M s).1 12 = M 12
  | 0, M, s => rfl
  | f + 1, M, s => by
    rw [srF_s]
    by_cases h0 : s ≤ 0
    · rw [if_pos h0]
    · rw [if_neg h0]
      by_cases hk : lkOK M s
      · rw [if_pos hk]
        (try dsimp only)
        rw [srF_12 f, tPo_ne _ _ _ (by decide) (by decide)]
      · rw [if_neg hk]
        exact srF_12 f M (s / 2)
theorem sr_law {M F : Int → Int} {s : Int} (e : (srch M s).1 = F) : F 12 = M 12 := by
  subst e
  exact srF_12 200000 M s
theorem setOK_of {w z : Int} (h : (w = 0 ∧ -5000 ≤ z ∧ z ≤ 5000) ∨ ((w = 1 ∨ w = 2) ∧ -100 ≤ z ∧ z ≤ 100) ∨ (w = 3 ∧ 0 ≤ z ∧ z ≤ 500) ∨ (w = 4 ∧ 0 ≤ z ∧ z ≤ 180000) ∨ (w = 5 ∧ 0 ≤ z ∧ z ≤ 5000) ∨ (w = 6 ∧ 1 ≤ z ∧ z ≤ 1000) ∨ (w = 7 ∧ 1 ≤ z ∧ z ≤ 100000) ∨ (w = 8 ∧ 0 ≤ z ∧ z ≤ 359999) ∨ (w = 9 ∧ 0 ≤ z ∧ z ≤ 9)) : setOK w z := by
  rcases h with ⟨e, h⟩ | ⟨e | e, h⟩ | ⟨e, h⟩ | ⟨e, h⟩ | ⟨e, h⟩ | ⟨e, h⟩ | ⟨e, h⟩ | ⟨e, h⟩ | ⟨e, h⟩ <;> subst e <;> exact ⟨by decide, h⟩
def nxF (M : Int → Int) (u : Int) : Int := if u + 1 < M 13 then M (458 + 3 * (u + 1) + 1) else 0
theorem nx_sp (M : Int → Int) (u : Int) : (u + 1 < M 13 ∧ nxF M u = M (458 + 3 * (u + 1) + 1)) ∨ (M 13 ≤ u + 1 ∧ nxF M u = 0) := by
  unfold nxF
  split <;> omega
