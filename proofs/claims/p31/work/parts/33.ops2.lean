/-! a point out -/
theorem rp_hd {M : Int → Int} {t q : Int} (h0 : 0 ≤ t) (h2 : 0 ≤ q) : (∀ k : Int, 0 ≤ k → k < 14 → tRP M t q k = M k) ∧ pts (tRP M t q) t = pts M t - 1 := by
  have c := cel_eq t q
  unfold pts tRP
  refine ⟨fun k a b => ?_, ?_⟩
  · rw [shf_lo _ (by omega), ups_ne _ _ (by omega)]
  · rw [shf_lo _ (by omega), ups_eq]
theorem rp_pt {M : Int → Int} {t q p i : Int} (h0 : 0 ≤ t) (h2 : 0 ≤ q) (h3 : q < pts M t) (p0 : 0 ≤ p) (p1 : p < pts M t - 1) (i0 : 0 ≤ i) (i1 : i ≤ 2) : tRP M t q (cel t p + i) = M (cel t (if p < q then p else p + 1) + i) := by
  have c1 := cel_eq t q
  have c2 := cel_eq t p
  have c3 := cel_eq t (p + 1)
  have c4 := cel_eq t (pts M t - 1)
  unfold tRP
  by_cases z : p < q
  · rw [if_pos z, shf_lo _ (by omega), ups_ne _ _ (by omega)]
  · rw [if_neg z, shf_in _ (k := cel t (p + 1) + i) (by omega) (by omega) (by omega), ups_ne _ _ (by omega)]
theorem rp_near {M : Int → Int} {t q : Int} (hI : Inv M) (h0 : 0 ≤ t) (h1 : t < M 12) (h2 : 0 ≤ q) (h3 : q < pts M t) : near M (tRP M t q) (fun k => k) (fun u => u) (fun k => k = t) noX := by
  have h12 := inv_S12 hI
  have hp := inv_pts hI h0 h1
  have c1 := cel_eq t q
  have c4 := cel_eq t (pts M t - 1)
  obtain ⟨e1, e2⟩ := rp_hd (M := M) h0 h2
  refine ⟨fun k a b c => ?_, fun u a b _ => ?_⟩
  all_goals (try dsimp only)
  · have c : k ≠ t := c
    rw [e1 12 (by decide) (by decide)] at b
    refine ⟨⟨a, b⟩, trA_of (inv_pts hI a b).2 (fun j j0 j1 => ?_)⟩
    unfold tRP
    rcases Int.lt_or_le k t with z | z
    · rw [shf_lo _ (by omega), ups_ne _ _ (by omega)]
    · rw [shf_hi _ (by omega), ups_ne _ _ (by omega)]
  · rw [e1 13 (by decide) (by decide)] at b
    refine ⟨⟨a, b⟩, ?_⟩
    unfold stA2 tRP
    rw [shf_hi _ (by omega), shf_hi _ (by omega), shf_hi _ (by omega), ups_ne _ _ (by omega), ups_ne _ _ (by omega), ups_ne _ _ (by omega)]
    exact ⟨rfl, rfl, rfl⟩
theorem rp_pt3 {M : Int → Int} {t q p : Int} (h0 : 0 ≤ t) (h2 : 0 ≤ q) (h3 : q < pts M t) (p0 : 0 ≤ p) (p1 : p < pts M t - 1) : frm (tRP M t q) t p = frm M t (if p < q then p else p + 1) ∧ tRP M t q (cel t p + 1) = M (cel t (if p < q then p else p + 1) + 1) ∧ tRP M t q (cel t p + 2) = M (cel t (if p < q then p else p + 1) + 2) := by
  refine ⟨?_, rp_pt h0 h2 h3 p0 p1 (by decide) (by decide), rp_pt h0 h2 h3 p0 p1 (by decide) (by decide)⟩
  have g := rp_pt h0 h2 h3 p0 p1 (i := 0) (by decide) (by decide)
  rw [Int.add_zero, Int.add_zero] at g
  exact g
theorem rp_inv {M : Int → Int} {t q : Int} (hI : Inv M) (h0 : 0 ≤ t) (h1 : t < M 12) (h2 : 0 ≤ q) (h3 : q < pts M t) : Inv (tRP M t q) := by
  have h12 := inv_S12 hI
  obtain ⟨e1, e2⟩ := rp_hd (M := M) h0 h2
  refine near_inv hI (rp_near hI h0 h1 h2 h3) (invS_of hI.1 (fun k a b => e1 k a (by omega)) (by rw [e1 12 (by decide) (by decide)]; omega) (by rw [e1 13 (by decide) (by decide)]; omega)) (fun k a b c => ?_) (fun u a b c => absurd c id)
  subst c
  have hp := inv_pts hI h0 h1
  refine ⟨by omega, fun p p0 p1 => ?_⟩
  rw [e2] at p1
  obtain ⟨g1, g2, g3⟩ := rp_pt3 h0 h2 h3 p0 p1
  rw [g1, g2, g3, e2]
  by_cases z : p < q
  · rw [if_pos z]
    obtain ⟨k1, k2, k3, k4⟩ := (hI.2.1 k h0 h1).2 p p0 (by omega)
    refine ⟨k1, k2, k3, fun w => ?_⟩
    obtain ⟨y1, _, _⟩ := rp_pt3 h0 h2 h3 (show 0 ≤ p + 1 by omega) w
    rw [y1]
    have m1 := k4 (by omega)
    by_cases z2 : p + 1 < q
    · rw [if_pos z2]; exact m1
    · rw [if_neg z2]
      have m2 := ((hI.2.1 k h0 h1).2 (p + 1) (by omega) (by omega)).2.2.2 (by omega)
      omega
  · rw [if_neg z]
    obtain ⟨k1, k2, k3, k4⟩ := (hI.2.1 k h0 h1).2 (p + 1) (by omega) (by omega)
    refine ⟨k1, k2, k3, fun w => ?_⟩
    obtain ⟨y1, _, _⟩ := rp_pt3 h0 h2 h3 (show 0 ≤ p + 1 by omega) w
    rw [y1, if_neg (by omega)]
    exact k4 (by omega)
def cRP (P : Nat → Int → Int) (t q : Int) : Nat → Int → Int := upr (upr (upr (upr P 1 (ups (P 1) t (P 1 t - 1))) 2 (shf (P 2) (12 * t + q) (12 * t + P 1 t - 1) 1)) 3 (shf (P 3) (12 * t + q) (12 * t + P 1 t - 1) 1)) 4 (shf (P 4) (12 * t + q) (12 * t + P 1 t - 1) 1)
theorem shf_pt (F : Int → Int) {t q p n : Int} (p0 : 0 ≤ p) (p1 : p < n - 1) (h : 0 ≤ q) : shf F (12 * t + q) (12 * t + n - 1) 1 (12 * t + p) = F (12 * t + (if p < q then p else p + 1)) := by
  by_cases z : p < q
  · rw [if_pos z, shf_lo _ (by omega)]
  · rw [if_neg z]
    exact shf_in _ (by omega) (by omega) (by omega)
theorem rp_ag {M : Int → Int} {P : Nat → Int → Int} {t q : Int} (hI : Inv M) (ha : ag M (mO P)) (h0 : 0 ≤ t) (h1 : t < M 12) (h2 : 0 ≤ q) (h3 : q < pts M t) : ag (tRP M t q) (mO (cRP P t q)) := by
  have h12 := inv_S12 hI
  have hI' := inv_A ha hI
  have hS := po_S hI'
  obtain ⟨e1, e2⟩ := rp_hd (M := M) h0 h2
  obtain ⟨a1, ⟨a2, a3⟩, a4, a5⟩ := ag_hd ha
  have ep : pts M t = P 1 t := (ptA ha h0 h1).trans (mO_pts P h0 (by omega))
  have hp := inv_pts hI h0 h1
  refine near_ag ha (rp_near hI h0 h1 h2 h3) (tau := fun k => k) (sig := fun u => u) ⟨fun k a b c => ?_, fun u a b _ => ?_⟩ (hd_mO (fun k a b => (e1 k a (by omega)).trans (a1 k a b)) ((e1 10 (by decide) (by decide)).trans a2) ((e1 11 (by decide) (by decide)).trans a3) ?_ ?_) (fun k a b c => ?_) (fun u a b c => absurd c id)
  · have c : k ≠ t := c
    (try dsimp only)
    rw [mO_12] at b
    have b2 : k < P 0 0 := b
    have hpk := po_pts hI' a b2
    refine ⟨⟨a, by rw [mO_12]; omega⟩, trA_mO a (by omega) a (by omega) hpk.2 (ups_ne _ _ c).symm (fun j j0 j1 => ?_)⟩
    rcases Int.lt_or_le k t with z | z
    · exact ⟨(shf_lo _ (by omega)).symm, (shf_lo _ (by omega)).symm, (shf_lo _ (by omega)).symm⟩
    · exact ⟨(shf_hi _ (by omega)).symm, (shf_hi _ (by omega)).symm, (shf_hi _ (by omega)).symm⟩
  · rw [mO_13] at b
    exact ⟨⟨a, by rw [mO_13]; exact b⟩, stA_mO a a rfl rfl rfl⟩
  · rw [e1 12 (by decide) (by decide), a4]; rfl
  · rw [e1 13 (by decide) (by decide), a5]; rfl
  · subst c
    have e9 : pts (mO (cRP P k q)) k = P 1 k - 1 := by
      rw [mO_pts _ h0 (by omega)]
      exact ups_eq _ _ _
    refine ⟨by rw [e2, e9, ep], fun p p0 p1 => ?_⟩
    rw [e2] at p1
    obtain ⟨g1, g2, g3⟩ := rp_pt3 h0 h2 h3 p0 p1
    have hx : ∀ w : Int, (if p < q then p else p + 1) = w → (0 ≤ w ∧ w < pts M k) := fun w hw => by
      subst hw
      split <;> omega
    have hw := hx _ rfl
    obtain ⟨f1, f2, f3⟩ := (ha.2.1 k h0 h1).2 _ hw.1 hw.2
    rw [g1, g2, g3, f1, f2, f3, mO_frm P h0 (by omega) hw.1 (by omega), mO_x P h0 (by omega) hw.1 (by omega), mO_y P h0 (by omega) hw.1 (by omega), mO_frm _ h0 (by omega) p0 (by omega), mO_x _ h0 (by omega) p0 (by omega), mO_y _ h0 (by omega) p0 (by omega)]
    rw [ep] at p1
    exact ⟨(shf_pt (P 2) p0 p1 h2).symm, (shf_pt (P 3) p0 p1 h2).symm, (shf_pt (P 4) p0 p1 h2).symm⟩
/-! where a new point stands -/
theorem posI_sp {M : Int → Int} {t f : Int} : ∀ n : Nat, (∀ j : Int, 0 ≤ j → j + 1 < (n : Int) → frm M t j < frm M t (j + 1)) → (0 ≤ posI M t f n ∧ posI M t f n ≤ n) ∧ (∀ k : Int, 0 ≤ k → k < posI M t f n → frm M t k ≤ f) ∧ ∀ k : Int, posI M t f n ≤ k → k < n → f < frm M t k
  | 0, _ => ⟨⟨Int.le_refl 0, Int.le_refl 0⟩, fun k a b => absurd b (by show ¬ k < 0; omega), fun k a b => absurd b (by have : (0 : Int) ≤ k := a; show ¬ k < ((0 : Nat) : Int); omega)⟩
  | n + 1, hm => by
    have ih := posI_sp (M := M) (t := t) (f := f) n (fun j a b => hm j a (by omega))
    unfold posI
    by_cases z : f < frm M t n
    · rw [if_pos z]
      refine ⟨by omega, ih.2.1, fun k a b => ?_⟩
      by_cases e : k = n
      · subst e; exact z
      · exact ih.2.2 k a (by omega)
    · rw [if_neg z]
      refine ⟨by omega, fun k a b => ?_, fun k a b => by omega⟩
      have up : ∀ m : Nat, k + m ≤ n → frm M t k ≤ frm M t (k + m) := by
        intro m
        induction m with
        | zero => intro _; rw [show k + ((0 : Nat) : Int) = k by omega]; exact Int.le_refl _
        | succ m ih2 =>
          intro hk
          have g1 := ih2 (by omega)
          have g2 := hm (k + m) (by omega) (by omega)
          rw [show k + ((m + 1 : Nat) : Int) = k + m + 1 by omega]
          omega
      have g := up (n - k).toNat (by omega)
      rw [show k + (((n : Int) - k).toNat : Int) = n by omega] at g
      omega
theorem posF_sp {M : Int → Int} {t : Int} (hI : Inv M) (h0 : 0 ≤ t) (h1 : t < M 12) {f : Int} (hf : ¬ hasF M t f) : (0 ≤ posF M t f ∧ posF M t f ≤ pts M t) ∧ (∀ k : Int, 0 ≤ k → k < posF M t f → frm M t k < f) ∧ ∀ k : Int, posF M t f ≤ k → k < pts M t → f < frm M t k := by
  have hp := inv_pts hI h0 h1
  have g := posI_sp (M := M) (t := t) (f := f) (pts M t).toNat (fun j a b => ((hI.2.1 t h0 h1).2 j a (by omega)).2.2.2 (by omega))
  rw [Int.toNat_of_nonneg hp.1] at g
  refine ⟨g.1, fun k a b => ?_, g.2.2⟩
  have g2 := g.2.1 k a b
  have g3 : frm M t k ≠ f := fun e => hf ⟨k, a, by have := g.1; unfold posF at b; omega, e⟩
  omega
theorem posI_A {M M' : Int → Int} {t f : Int} : ∀ n : Nat, (∀ j : Int, 0 ≤ j → j < (n : Int) → frm M t j = frm M' t j) → posI M t f n = posI M' t f n
  | 0, _ => rfl
  | n + 1, h => by
    unfold posI
    rw [posI_A n (fun j a b => h j a (by omega)), h n (by omega) (by omega)]
theorem posA {M M' : Int → Int} {t : Int} (h : ag M M') (h0 : 0 ≤ t) (h1 : t < M 12) (hp : 0 ≤ pts M t) (f : Int) : posF M t f = posF M' t f := by
  unfold posF
  rw [← ptA h h0 h1]
  exact posI_A _ (fun j a b => (frA h h0 h1 a (by omega)).1)
/-! a new point -/
theorem ap_hd {M : Int → Int} {t f : Int} (x y : Int) (hI : Inv M) (h0 : 0 ≤ t) (h1 : t < M 12) (hf : ¬ hasF M t f) : (∀ k : Int, 0 ≤ k → k < 14 → tAP M t f x y k = M k) ∧ pts (tAP M t f x y) t = pts M t + 1 := by
  have hp := posF_sp hI h0 h1 hf
  have c := cel_eq t (posF M t f)
  unfold tAP
  refine ⟨fun k a b => ?_, ?_⟩
  · rw [ups_ne _ _ (by omega), ups_ne _ _ (by omega), ups_ne _ _ (by omega), ups_ne _ _ (by omega), shb_out _ (by omega)]
  · show ups _ (14 + 37 * t) _ (14 + 37 * t) = _
    rw [ups_eq]
theorem shb_in (M : Int → Int) {lo hi d j k : Int} (h : lo ≤ j) (h2 : j < hi) (e : j - d = k) : shb M lo hi d j = M k := by
  unfold shb
  rw [if_pos ⟨h, h2⟩, e]
theorem ap_pt {M : Int → Int} {t f x y p i : Int} (hI : Inv M) (h0 : 0 ≤ t) (h1 : t < M 12) (hf : ¬ hasF M t f) (p0 : 0 ≤ p) (p1 : p ≤ pts M t) (i0 : 0 ≤ i) (i1 : i ≤ 2) : tAP M t f x y (cel t p + i) = if p < posF M t f then M (cel t p + i) else if p = posF M t f then (if i = 0 then f else if i = 1 then x else y) else M (cel t (p - 1) + i) := by
  have hp := posF_sp hI h0 h1 hf
  have c1 := cel_eq t (posF M t f)
  have c2 := cel_eq t p
  have c3 := cel_eq t (p - 1)
  have c4 := cel_eq t (pts M t)
  unfold tAP
  rw [ups_ne _ _ (show cel t p + i ≠ 14 + 37 * t by omega)]
  by_cases z : p < posF M t f
  · rw [if_pos z, ups_ne _ _ (by omega), ups_ne _ _ (by omega), ups_ne _ _ (by omega), shb_out _ (by omega)]
  · rw [if_neg z]
    by_cases z2 : p = posF M t f
    · rw [if_pos z2, ← z2]
      rcases (show i = 0 ∨ i = 1 ∨ i = 2 by omega) with q | q | q <;> subst q
      · rw [if_pos rfl, ups_ne _ _ (by omega), ups_ne _ _ (by omega), Int.add_zero, ups_eq]
      · rw [if_neg (by decide), if_pos rfl, ups_ne _ _ (by omega), ups_eq]
      · rw [if_neg (by decide), if_neg (by decide), ups_eq]
    · rw [if_neg z2, ups_ne _ _ (by omega), ups_ne _ _ (by omega), ups_ne _ _ (by omega)]
      exact shb_in _ (by omega) (by omega) (by omega)
theorem ap_near {M : Int → Int} {t f : Int} (x y : Int) (hI : Inv M) (h0 : 0 ≤ t) (h1 : t < M 12) (h3 : pts M t < 12) (hf : ¬ hasF M t f) : near M (tAP M t f x y) (fun k => k) (fun u => u) (fun k => k = t) noX := by
  have h12 := inv_S12 hI
  have hp := posF_sp hI h0 h1 hf
  have c1 := cel_eq t (posF M t f)
  have c4 := cel_eq t (pts M t)
  obtain ⟨e1, e2⟩ := ap_hd x y hI h0 h1 hf
  refine ⟨fun k a b c => ?_, fun u a b _ => ?_⟩
  all_goals (try dsimp only)
  · have c : k ≠ t := c
    rw [e1 12 (by decide) (by decide)] at b
    refine ⟨⟨a, b⟩, trA_of (inv_pts hI a b).2 (fun j j0 j1 => ?_)⟩
    unfold tAP
    rw [ups_ne _ _ (by omega), ups_ne _ _ (by omega), ups_ne _ _ (by omega), ups_ne _ _ (by omega), shb_out _ (by omega)]
  · rw [e1 13 (by decide) (by decide)] at b
    refine ⟨⟨a, b⟩, ?_⟩
    unfold tAP
    refine ⟨?_, ?_, ?_⟩
    · rw [ups_ne _ _ (by omega), ups_ne _ _ (by omega), ups_ne _ _ (by omega), ups_ne _ _ (by omega), shb_out _ (by omega)]
    · rw [ups_ne _ _ (by omega), ups_ne _ _ (by omega), ups_ne _ _ (by omega), ups_ne _ _ (by omega), shb_out _ (by omega)]
    · rw [ups_ne _ _ (by omega), ups_ne _ _ (by omega), ups_ne _ _ (by omega), ups_ne _ _ (by omega), shb_out _ (by omega)]
theorem ap_pt3 {M : Int → Int} {t f x y p : Int} (hI : Inv M) (h0 : 0 ≤ t) (h1 : t < M 12) (hf : ¬ hasF M t f) (p0 : 0 ≤ p) (p1 : p ≤ pts M t) : (p < posF M t f ∧ frm (tAP M t f x y) t p = frm M t p ∧ tAP M t f x y (cel t p + 1) = M (cel t p + 1) ∧ tAP M t f x y (cel t p + 2) = M (cel t p + 2)) ∨ (p = posF M t f ∧ frm (tAP M t f x y) t p = f ∧ tAP M t f x y (cel t p + 1) = x ∧ tAP M t f x y (cel t p + 2) = y) ∨ (posF M t f < p ∧ frm (tAP M t f x y) t p = frm M t (p - 1) ∧ tAP M t f x y (cel t p + 1) = M (cel t (p - 1) + 1) ∧ tAP M t f x y (cel t p + 2) = M (cel t (p - 1) + 2)) := by
  have g0 := ap_pt (x := x) (y := y) hI h0 h1 hf p0 p1 (i := 0) (by decide) (by decide)
  have g1 := ap_pt (x := x) (y := y) hI h0 h1 hf p0 p1 (i := 1) (by decide) (by decide)
  have g2 := ap_pt (x := x) (y := y) hI h0 h1 hf p0 p1 (i := 2) (by decide) (by decide)
  rw [Int.add_zero, Int.add_zero] at g0
  unfold frm
  by_cases z : p < posF M t f
  · rw [if_pos z] at g0 g1 g2
    exact Or.inl ⟨z, g0, g1, g2⟩
  · rw [if_neg z] at g0 g1 g2
    by_cases z2 : p = posF M t f
    · rw [if_pos z2] at g0 g1 g2
      exact Or.inr (Or.inl ⟨z2, g0, g1, g2⟩)
    · rw [if_neg z2] at g0 g1 g2
      exact Or.inr (Or.inr ⟨by omega, g0, g1, g2⟩)
theorem ap_inv {M : Int → Int} {t f x y : Int} (hI : Inv M) (h0 : 0 ≤ t) (h1 : t < M 12) (h3 : pts M t < 12) (hf : ¬ hasF M t f) (hk : pointOK f x y) : Inv (tAP M t f x y) := by
  have h12 := inv_S12 hI
  have hps := posF_sp hI h0 h1 hf
  obtain ⟨e1, e2⟩ := ap_hd x y hI h0 h1 hf
  refine near_inv hI (ap_near x y hI h0 h1 h3 hf) (invS_of hI.1 (fun k a b => e1 k a (by omega)) (by rw [e1 12 (by decide) (by decide)]; omega) (by rw [e1 13 (by decide) (by decide)]; omega)) (fun k a b c => ?_) (fun u a b c => absurd c id)
  subst c
  have hp := inv_pts hI h0 h1
  unfold pointOK at hk
  refine ⟨by omega, fun p p0 p1 => ?_⟩
  rw [e2] at p1
  rw [e2]
  rcases ap_pt3 (x := x) (y := y) hI h0 h1 hf p0 (by omega) with ⟨z, g1, g2, g3⟩ | ⟨z, g1, g2, g3⟩ | ⟨z, g1, g2, g3⟩
  · obtain ⟨k1, k2, k3, k4⟩ := (hI.2.1 k h0 h1).2 p p0 (by omega)
    rw [g1, g2, g3]
    refine ⟨k1, k2, k3, fun w => ?_⟩
    rcases ap_pt3 (x := x) (y := y) hI h0 h1 hf (show 0 ≤ p + 1 by omega) (by omega) with ⟨z9, y1, _⟩ | ⟨z9, y1, _⟩ | ⟨z9, y1, _⟩
    · rw [y1]; exact k4 (by omega)
    · rw [y1]; exact hps.2.1 p p0 z
    · omega
  · rw [g1, g2, g3]
    refine ⟨hk.1, hk.2.1, hk.2.2, fun w => ?_⟩
    rcases ap_pt3 (x := x) (y := y) hI h0 h1 hf (show 0 ≤ p + 1 by omega) (by omega) with ⟨z9, y1, _⟩ | ⟨z9, y1, _⟩ | ⟨z9, y1, _⟩
    · omega
    · omega
    · rw [y1, show p + 1 - 1 = p by omega]; exact hps.2.2 p (by omega) (by omega)
  · obtain ⟨k1, k2, k3, k4⟩ := (hI.2.1 k h0 h1).2 (p - 1) (by omega) (by omega)
    rw [g1, g2, g3]
    refine ⟨k1, k2, k3, fun w => ?_⟩
    rcases ap_pt3 (x := x) (y := y) hI h0 h1 hf (show 0 ≤ p + 1 by omega) (by omega) with ⟨z9, y1, _⟩ | ⟨z9, y1, _⟩ | ⟨z9, y1, _⟩
    · omega
    · omega
    · rw [y1, show p + 1 - 1 = p - 1 + 1 by omega]; exact k4 (by omega)
def inP (P : Nat → Int → Int) (c : Nat) (t o v : Int) : Int → Int := ups (shb (P c) (12 * t + o + 1) (12 * t + P 1 t + 1) 1) (12 * t + o) v
def cAP (P : Nat → Int → Int) (t f x y : Int) : Nat → Int → Int := upr (upr (upr (upr P 1 (ups (P 1) t (P 1 t + 1))) 2 (inP P 2 t (posF (mO P) t f) f)) 3 (inP P 3 t (posF (mO P) t f) x)) 4 (inP P 4 t (posF (mO P) t f) y)
theorem inP_lt (P : Nat → Int → Int) (c : Nat) {t o p : Int} (v : Int) (h : p < o) : inP P c t o v (12 * t + p) = P c (12 * t + p) := by
  unfold inP
  rw [ups_ne _ _ (by omega), shb_out _ (by omega)]
theorem inP_eq (P : Nat → Int → Int) (c : Nat) {t o p : Int} (v : Int) (h : p = o) : inP P c t o v (12 * t + p) = v := by
  subst h
  exact ups_eq _ _ _
theorem inP_gt (P : Nat → Int → Int) (c : Nat) {t o p : Int} (v : Int) (h : o < p) (h2 : p ≤ P 1 t) : inP P c t o v (12 * t + p) = P c (12 * t + (p - 1)) := by
  unfold inP
  rw [ups_ne _ _ (by omega)]
  exact shb_in _ (by omega) (by omega) (by omega)
theorem inP_out (P : Nat → Int → Int) (c : Nat) {t o k p : Int} (v : Int) (h : k ≠ t) (p0 : 0 ≤ p) (p1 : p < 12) (o0 : 0 ≤ o) (o1 : o < 12) (h1 : P 1 t < 12) : inP P c t o v (12 * k + p) = P c (12 * k + p) := by
  unfold inP
  rw [ups_ne _ _ (by omega), shb_out _ (by omega)]
theorem ap_ag {M : Int → Int} {P : Nat → Int → Int} {t f x y : Int} (hI : Inv M) (ha : ag M (mO P)) (h0 : 0 ≤ t) (h1 : t < M 12) (h3 : pts M t < 12) (hf : ¬ hasF M t f) : ag (tAP M t f x y) (mO (cAP P t f x y)) := by
  have h12 := inv_S12 hI
  have hI' := inv_A ha hI
  have hS := po_S hI'
  obtain ⟨e1, e2⟩ := ap_hd x y hI h0 h1 hf
  obtain ⟨a1, ⟨a2, a3⟩, a4, a5⟩ := ag_hd ha
  have ep : pts M t = P 1 t := (ptA ha h0 h1).trans (mO_pts P h0 (by omega))
  have hp := inv_pts hI h0 h1
  have hps := posF_sp hI h0 h1 hf
  have eo := posA ha h0 h1 hp.1 f
  refine near_ag ha (ap_near x y hI h0 h1 h3 hf) (tau := fun k => k) (sig := fun u => u) ⟨fun k a b c => ?_, fun u a b _ => ?_⟩ (hd_mO (fun k a b => (e1 k a (by omega)).trans (a1 k a b)) ((e1 10 (by decide) (by decide)).trans a2) ((e1 11 (by decide) (by decide)).trans a3) ?_ ?_) (fun k a b c => ?_) (fun u a b c => absurd c id)
  · have c : k ≠ t := c
    (try dsimp only)
    rw [mO_12] at b
    have b2 : k < P 0 0 := b
    have hpk := po_pts hI' a b2
    refine ⟨⟨a, by rw [mO_12]; omega⟩, trA_mO a (by omega) a (by omega) hpk.2 (ups_ne _ _ c).symm (fun j j0 j1 => ?_)⟩
    exact ⟨(inP_out P 2 f c j0 j1 (by omega) (by omega) (by omega)).symm, (inP_out P 3 x c j0 j1 (by omega) (by omega) (by omega)).symm, (inP_out P 4 y c j0 j1 (by omega) (by omega) (by omega)).symm⟩
  · rw [mO_13] at b
    exact ⟨⟨a, by rw [mO_13]; exact b⟩, stA_mO a a rfl rfl rfl⟩
  · rw [e1 12 (by decide) (by decide), a4]; rfl
  · rw [e1 13 (by decide) (by decide), a5]; rfl
  · subst c
    have e9 : pts (mO (cAP P k f x y)) k = P 1 k + 1 := by
      rw [mO_pts _ h0 (by omega)]
      exact ups_eq _ _ _
    refine ⟨by rw [e2, e9, ep], fun p p0 p1 => ?_⟩
    rw [e2] at p1
    rw [mO_frm (cAP P k f x y) h0 (by omega) p0 (by omega), mO_x (cAP P k f x y) h0 (by omega) p0 (by omega), mO_y (cAP P k f x y) h0 (by omega) p0 (by omega)]
    show _ = inP P 2 k (posF (mO P) k f) f (12 * k + p) ∧ _ = inP P 3 k (posF (mO P) k f) x (12 * k + p) ∧ _ = inP P 4 k (posF (mO P) k f) y (12 * k + p)
    rw [← eo]
    rcases ap_pt3 (x := x) (y := y) hI h0 h1 hf p0 (by omega) with ⟨z, g1, g2, g3⟩ | ⟨z, g1, g2, g3⟩ | ⟨z, g1, g2, g3⟩
    · obtain ⟨f1, f2, f3⟩ := (ha.2.1 k h0 h1).2 p p0 (by omega)
      rw [g1, g2, g3, f1, f2, f3, mO_frm P h0 (by omega) p0 (by omega), mO_x P h0 (by omega) p0 (by omega), mO_y P h0 (by omega) p0 (by omega), inP_lt P 2 f z, inP_lt P 3 x z, inP_lt P 4 y z]
      exact ⟨rfl, rfl, rfl⟩
    · rw [g1, g2, g3, inP_eq P 2 f z, inP_eq P 3 x z, inP_eq P 4 y z]
      exact ⟨rfl, rfl, rfl⟩
    · obtain ⟨f1, f2, f3⟩ := (ha.2.1 k h0 h1).2 (p - 1) (by omega) (by omega)
      rw [g1, g2, g3, f1, f2, f3, mO_frm P h0 (by omega) (by omega) (by omega), mO_x P h0 (by omega) (by omega) (by omega), mO_y P h0 (by omega) (by omega) (by omega), inP_gt P 2 f z (by omega), inP_gt P 3 x z (by omega), inP_gt P 4 y z (by omega)]
      exact ⟨rfl, rfl, rfl⟩
