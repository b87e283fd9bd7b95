/-! values by their numbers; what the law's first check is made of -/
theorem cmp_self (x : Int64) : lg_cmp x x = 0 := by
  have h : ¬ x > x := fun h => Int.lt_irrefl _ (Int64.lt_iff_toInt_lt.mp h)
  unfold lg_cmp
  rw [if_neg h, if_pos rfl]
theorem kp_spec (n : Int) : (n = 4 ∧ kpN n = 4) ∨ (n ≠ 4 ∧ kpN n = n + 1) := by
  unfold kpN
  split <;> omega
theorem wh_0 (M : Int → Int) : whW M 0 = M 12 := by unfold whW whV; rw [if_pos rfl]
theorem wh_1 (M : Int → Int) : whW M 1 = M 13 := by unfold whW whV; rw [if_neg (by decide), if_pos rfl]
theorem wh_2 (M : Int → Int) : whW M 2 = M 10 := by unfold whW whV; rw [if_neg (by decide), if_neg (by decide), if_pos rfl]
theorem wh_3 (M : Int → Int) : whW M 3 = M 11 := by unfold whW whV; rw [if_neg (by decide), if_neg (by decide), if_neg (by decide), if_pos rfl]
theorem wh_4 (M : Int → Int) : whW M 4 = pcost M := by unfold whW whV; rw [if_neg (by decide), if_neg (by decide), if_neg (by decide), if_neg (by decide), if_pos rfl]
theorem wh_6 (M : Int → Int) : whW M 6 = (mat M (M 8)).2.2.1 := by unfold whW whV; rw [if_neg (by decide), if_neg (by decide), if_neg (by decide), if_neg (by decide), if_neg (by decide), if_pos rfl]
theorem wh_7 (M : Int → Int) : whW M 7 = (mat M (M 8)).2.2.2 := by unfold whW whV; rw [if_neg (by decide), if_neg (by decide), if_neg (by decide), if_neg (by decide), if_neg (by decide), if_neg (by decide), if_pos rfl]
theorem wh_8 (M : Int → Int) : whW M 8 = sumZ (missN M (mat M (M 8)).2.1) (M 13) := by unfold whW whV; rw [if_neg (by decide), if_neg (by decide), if_neg (by decide), if_neg (by decide), if_neg (by decide), if_neg (by decide), if_neg (by decide), if_pos rfl]; rfl
theorem wh_o (M : Int → Int) {w : Int} (h : w = 5 ∨ w = 9 ∨ w = 10) : whW M w = ovT M w := by
  unfold whW whV
  rcases h with h | h | h <;> subst h <;> rw [if_neg (by decide), if_neg (by decide), if_neg (by decide), if_neg (by decide), if_neg (by decide), if_neg (by decide), if_neg (by decide), if_neg (by decide)]
theorem wh_5 (M : Int → Int) : whW M 5 = sumZ (goodN M) (M 12) := by
  rw [wh_o M (Or.inl rfl)]
  exact sumZ_congr (fun k _ _ => by (try dsimp only); rw [if_neg (by decide), if_neg (by decide)])
theorem wh_9 (M : Int → Int) : whW M 9 = sumZ (pts M) (M 12) := by
  rw [wh_o M (Or.inr (Or.inl rfl))]
  exact sumZ_congr (fun k _ _ => by (try dsimp only); rw [if_pos rfl])
theorem wh_10 (M : Int → Int) : whW M 10 = sumZ (gapN M) (M 12) := by
  rw [wh_o M (Or.inr (Or.inr rfl))]
  exact sumZ_congr (fun k _ _ => by (try dsimp only); rw [if_neg (by decide), if_pos rfl])
theorem tr_0 (M SO : Int → Int) (t : Int) : trV M SO t 0 = pts M t := by unfold trV; rw [if_neg (fun h => absurd h.2.1 (by decide)), if_pos rfl]
theorem tr_z (M SO : Int → Int) {t w : Int} (h : pts M t = 0) (h1 : 0 < w) (h2 : w < 6) : trV M SO t w = -1000000000 := if_pos ⟨h, h1, h2⟩
theorem tr_1 (M SO : Int → Int) {t : Int} (h : 0 < pts M t) : trV M SO t 1 = rdT M t := by unfold trV; rw [if_neg (fun g => by have := g.1; omega), if_neg (by decide), if_pos rfl]
theorem tr_2 (M SO : Int → Int) {t : Int} (h : 0 < pts M t) : trV M SO t 2 = sprd M t := by unfold trV; rw [if_neg (fun g => by have := g.1; omega), if_neg (by decide), if_neg (by decide), if_pos rfl]
theorem tr_3 (M SO : Int → Int) {t : Int} (h : 0 < pts M t) : trV M SO t 3 = swp M t := by unfold trV; rw [if_neg (fun g => by have := g.1; omega), if_neg (by decide), if_neg (by decide), if_neg (by decide), if_pos rfl]
theorem tr_4 (M SO : Int → Int) {t : Int} (h : 0 < pts M t) : trV M SO t 4 = M 0 * fspan M t := by unfold trV; rw [if_neg (fun g => by have := g.1; omega), if_neg (by decide), if_neg (by decide), if_neg (by decide), if_neg (by decide), if_pos rfl]
theorem tr_5 (M SO : Int → Int) {t : Int} (h : 0 < pts M t) : trV M SO t 5 = misf M t := by unfold trV; rw [if_neg (fun g => by have := g.1; omega), if_neg (by decide), if_neg (by decide), if_neg (by decide), if_neg (by decide), if_neg (by decide), if_pos rfl]
theorem tr_6 (M SO : Int → Int) (t : Int) : trV M SO t 6 = goodN M t := by unfold trV; rw [if_neg (fun g => absurd g.2.2 (by decide)), if_neg (by decide), if_neg (by decide), if_neg (by decide), if_neg (by decide), if_neg (by decide), if_neg (by decide), if_pos rfl]
theorem tr_7 (M SO : Int → Int) (t : Int) : trV M SO t 7 = gapN M t := by unfold trV; rw [if_neg (fun g => absurd g.2.2 (by decide)), if_neg (by decide), if_neg (by decide), if_neg (by decide), if_neg (by decide), if_neg (by decide), if_neg (by decide), if_neg (by decide), if_pos rfl]
theorem tr_8 (M SO : Int → Int) (t : Int) : trV M SO t 8 = SO t := by unfold trV; rw [if_neg (fun g => absurd g.2.2 (by decide)), if_neg (by decide), if_neg (by decide), if_neg (by decide), if_neg (by decide), if_neg (by decide), if_neg (by decide), if_neg (by decide), if_neg (by decide)]
theorem pt_0 (M : Int → Int) (t q : Int) : ptV M t q 0 = frm M t q := by
  unfold ptV
  rw [if_neg (by decide), if_neg (by decide), if_neg (by decide), if_neg (by decide), Int.add_zero]
  rfl
theorem pt_1 (M : Int → Int) (t q : Int) : ptV M t q 1 = M (cel t q + 1) := by unfold ptV; rw [if_neg (by decide), if_neg (by decide), if_neg (by decide), if_neg (by decide)]
theorem pt_2 (M : Int → Int) (t q : Int) : ptV M t q 2 = M (cel t q + 2) := by unfold ptV; rw [if_neg (by decide), if_neg (by decide), if_neg (by decide), if_neg (by decide)]
theorem pt_3 (M : Int → Int) (t q : Int) : ptV M t q 3 = plX M t q := if_pos rfl
theorem pt_4 (M : Int → Int) (t q : Int) : ptV M t q 4 = plY M t q := by unfold ptV; rw [if_neg (by decide), if_pos rfl]
theorem pt_5 (M : Int → Int) (t q : Int) : ptV M t q 5 = rdOf M t q := by unfold ptV; rw [if_neg (by decide), if_neg (by decide), if_pos rfl]
theorem pt_6 (M : Int → Int) (t q : Int) : ptV M t q 6 = angOf M t q := by unfold ptV; rw [if_neg (by decide), if_neg (by decide), if_neg (by decide), if_pos rfl]
/-- the least, the most so far, as the law begins them -/
def lsF (f : Int → Int) (p : Int) : Int := if p ≤ 0 then 1000000 else minZ f p
def moF (f : Int → Int) (p : Int) : Int := if p ≤ 0 then -1 else maxZ f p
theorem ls_0 (f : Int → Int) : lsF f 0 = 1000000 := if_pos (by decide)
theorem mo_0 (f : Int → Int) : moF f 0 = -1 := if_pos (by decide)
theorem ls_p (f : Int → Int) {p : Int} (h : 0 < p) : lsF f p = minZ f p := if_neg (by omega)
theorem mo_p (f : Int → Int) {p : Int} (h : 0 < p) : moF f p = maxZ f p := if_neg (by omega)
theorem ls_s {f : Int → Int} {p : Int} (h : 0 ≤ p) (hb : 0 ≤ f p ∧ f p ≤ 9900) : (f p < lsF f p ∧ lsF f (p + 1) = f p) ∨ (lsF f p ≤ f p ∧ lsF f (p + 1) = lsF f p) := by
  rcases (show p = 0 ∨ 0 < p by omega) with e | e
  · subst e
    refine Or.inl ⟨by rw [ls_0]; omega, ?_⟩
    rw [ls_p f (by decide)]
    rfl
  · rw [ls_p f e, ls_p f (show 0 < p + 1 by omega), minZ_s f (by omega)]
    omega
theorem mo_s {f : Int → Int} {p : Int} (h : 0 ≤ p) (hb : 0 ≤ f p ∧ f p ≤ 9900) : (moF f p < f p ∧ moF f (p + 1) = f p) ∨ (f p ≤ moF f p ∧ moF f (p + 1) = moF f p) := by
  rcases (show p = 0 ∨ 0 < p by omega) with e | e
  · subst e
    refine Or.inl ⟨by rw [mo_0]; omega, ?_⟩
    rw [mo_p f (by decide)]
    rfl
  · rw [mo_p f e, mo_p f (show 0 < p + 1 by omega), maxZ_s f (by omega)]
    omega
theorem lm_bd {M : Int → Int} (hI : Inv M) {t : Int} (h0 : 0 ≤ t) (h1 : t < M 12) {p : Int} (p0 : 0 ≤ p) (p1 : p ≤ pts M t) : (0 ≤ lsF (rdOf M t) p ∧ lsF (rdOf M t) p ≤ 1000000) ∧ (-1 ≤ moF (rdOf M t) p ∧ moF (rdOf M t) p ≤ 9900) := by
  rcases (show p = 0 ∨ 0 < p by omega) with e | e
  · subst e
    rw [ls_0, mo_0]
    omega
  · rw [ls_p _ e, mo_p _ e]
    have := minZ_bd (f := rdOf M t) (lo := 0) (hi := 9900) (p := p) (by omega) (fun k a b => inv_rd hI h0 h1 a (by omega))
    omega
theorem minI_le {f : Int → Int} : ∀ (n : Nat) (k : Int), 0 ≤ k → k ≤ (n : Int) → minI f n ≤ f k ∧ f k ≤ maxI f n
  | 0, k, h0, h1 => by
    have e : k = 0 := by omega
    subst e
    exact ⟨Int.le_refl _, Int.le_refl _⟩
  | n + 1, k, h0, h1 => by
    show min (minI f n) (f ((n : Int) + 1)) ≤ f k ∧ f k ≤ max (maxI f n) (f ((n : Int) + 1))
    rcases (show k = (n : Int) + 1 ∨ k ≤ (n : Int) by omega) with e | e
    · subst e
      omega
    · have := minI_le (f := f) n k h0 e
      omega
theorem rdT_mm {M : Int → Int} {t : Int} (h : 0 < pts M t) : minZ (rdOf M t) (pts M t) ≤ rdT M t ∧ rdT M t ≤ maxZ (rdOf M t) (pts M t) := by
  have a := sumZ_bd (f := rdOf M t) (lo := minZ (rdOf M t) (pts M t)) (hi := maxZ (rdOf M t) (pts M t)) (p := pts M t) (by omega) (fun k k0 k1 => minI_le (pts M t - 1).toNat k k0 (by omega))
  unfold rdT
  exact div_bd h a.1 (by omega)
def tnF (M : Int → Int) (t : Int) : Int → Int := fun p => turnI (angOf M t p) (angOf M t (p + 1))
def gpF (M : Int → Int) (t : Int) : Int → Int := fun p => if M 6 < frm M t (p + 1) - frm M t p then 1 else 0
theorem swp_eq (M : Int → Int) (t : Int) : sumZ (tnF M t) (pts M t - 1) = swp M t := rfl
theorem gap_eq (M : Int → Int) (t : Int) : sumZ (gpF M t) (pts M t - 1) = gapN M t := rfl
theorem prev_s {f : Int → Int} {p : Int} (h : 0 < p) : sumZ f (p + 1 - 1) = sumZ f (p - 1) + f (p - 1) := by
  have e := sumZ_s f (p := p - 1) (by omega)
  rw [show p - 1 + 1 = p + 1 - 1 by omega] at e
  exact e
theorem prev_0 (f : Int → Int) {p : Int} (h : p = 0) : sumZ f (p + 1 - 1) = sumZ f (p - 1) := by
  subst h
  rfl
theorem turn_sp {a b : Int} (ha : 0 ≤ a ∧ a < 360000) (hb : 0 ≤ b ∧ b < 360000) : (180000 < b - a ∧ turnI a b = b - a - 360000) ∨ (b - a ≤ -180000 ∧ turnI a b = b - a + 360000) ∨ ((-180000 < b - a ∧ b - a ≤ 180000) ∧ turnI a b = b - a) := by
  unfold turnI
  split <;> omega
theorem tn_at (M : Int → Int) (t p : Int) : tnF M t (p - 1) = turnI (angOf M t (p - 1)) (angOf M t p) := by
  unfold tnF
  (try dsimp only)
  rw [show p - 1 + 1 = p by omega]
theorem gp_at (M : Int → Int) (t p : Int) : (M 6 < frm M t p - frm M t (p - 1) ∧ gpF M t (p - 1) = 1) ∨ (frm M t p - frm M t (p - 1) ≤ M 6 ∧ gpF M t (p - 1) = 0) := by
  unfold gpF
  (try dsimp only)
  rw [show p - 1 + 1 = p by omega]
  split <;> omega
theorem tn_bd {M : Int → Int} {t p : Int} (p0 : 0 ≤ p) (p1 : p ≤ 12) : (-2160000 ≤ sumZ (tnF M t) (p - 1) ∧ sumZ (tnF M t) (p - 1) ≤ 2160000) ∧ (0 ≤ sumZ (gpF M t) (p - 1) ∧ sumZ (gpF M t) (p - 1) ≤ 12) := by
  rcases (show p = 0 ∨ 0 < p by omega) with e | e
  · subst e
    have e1 : sumZ (tnF M t) (0 - 1) = 0 := rfl
    have e2 : sumZ (gpF M t) (0 - 1) = 0 := rfl
    omega
  · have a := sumZ_bd (f := tnF M t) (lo := -180000) (hi := 180000) (p := p - 1) (by omega) (fun k _ _ => by
      have := turnI_bd (angOf M t k) (angOf M t (k + 1))
      show -180000 ≤ turnI (angOf M t k) (angOf M t (k + 1)) ∧ turnI (angOf M t k) (angOf M t (k + 1)) ≤ 180000
      omega)
    have b := sumZ_bd (f := gpF M t) (lo := 0) (hi := 1) (p := p - 1) (by omega) (fun k _ _ => by
      show 0 ≤ (if M 6 < frm M t (k + 1) - frm M t k then (1 : Int) else 0) ∧ (if M 6 < frm M t (k + 1) - frm M t k then (1 : Int) else 0) ≤ 1
      split <;> omega)
    omega
theorem good_01 (M : Int → Int) (t : Int) : goodN M t = 0 ∨ goodN M t = 1 := by
  unfold goodN
  split
  · exact Or.inr rfl
  · exact Or.inl rfl
noncomputable def spF (M : Int → Int) : Int → Int := fun t => if 1 < pts M t then sprd M t else 0
theorem pcost_eq (M : Int → Int) : sumZ (spF M) (M 12) = pcost M := rfl
theorem sp_at (M : Int → Int) (t : Int) : (1 < pts M t ∧ spF M t = sprd M t) ∨ (pts M t ≤ 1 ∧ spF M t = 0) := by
  unfold spF
  (try dsimp only)
  split <;> omega
theorem tot_bd {M : Int → Int} (hI : Inv M) {t : Int} (h0 : 0 ≤ t) (h1 : t ≤ M 12) : ((0 ≤ sumZ (pts M) t ∧ sumZ (pts M) t ≤ 144) ∧ (0 ≤ sumZ (gapN M) t ∧ sumZ (gapN M) t ≤ 144)) ∧ (0 ≤ sumZ (goodN M) t ∧ sumZ (goodN M) t ≤ 12) ∧ (0 ≤ sumZ (spF M) t ∧ sumZ (spF M) t ≤ 118800) := by
  have h12 := (inv_S12 hI).1
  have a := sumZ_bd (f := pts M) (lo := 0) (hi := 12) (p := t) h0 (fun k a b => inv_pts hI a (by omega))
  have b := sumZ_bd (f := gapN M) (lo := 0) (hi := 12) (p := t) h0 (fun k a b => inv_gap (inv_pts hI a (by omega)))
  have c := sumZ_bd (f := goodN M) (lo := 0) (hi := 1) (p := t) h0 (fun k a b => by have := good_01 M k; omega)
  have d := sumZ_bd (f := spF M) (lo := 0) (hi := 9900) (p := t) h0 (fun k a b => by
    have s9 := sp_at M k
    rcases s9 with ⟨s1, s2⟩ | ⟨s1, s2⟩
    · have := inv_sprd hI a (show k < M 12 by omega) (by omega)
      omega
    · omega)
  omega
/-- the frames of a trail, as the law reads them -/
def frF (M : Int → Int) (t : Int) : Int := if pts M t = 0 then 0 else fspan M t
theorem fr_z {M : Int → Int} {t : Int} (h : pts M t = 0) : frF M t = 0 := if_pos h
theorem fr_p {M : Int → Int} {t : Int} (h : 0 < pts M t) : frF M t = fspan M t := if_neg (by omega)
theorem fspan_eq (M : Int → Int) (t : Int) : frm M t (pts M t - 1) - frm M t 0 = fspan M t := rfl
theorem misf_eq (M : Int → Int) (t : Int) : absI (swp M t - M 0 * fspan M t) = misf M t := rfl
theorem mrB_z {M : Int → Int} (hI : Inv M) : ∀ n : Nat, (n : Int) ≤ M 12 → (mrB M n = 0 ↔ sumZ (goodN M) n = 0) ∧ 0 ≤ mrB M n ∧ 0 ≤ sumZ (goodN M) n
  | 0, _ => ⟨⟨fun _ => rfl, fun _ => rfl⟩, Int.le_refl _, Int.le_refl _⟩
  | n + 1, h => by
    have ih := mrB_z hI n (by omega)
    have e1 : mrB M ((n + 1 : Nat) : Int) = mrB M n + if isGoodP M n then fspan M n else 0 := by
      show mrB M ((n : Int) + 1) = _
      exact sumZ_s _ (by omega)
    have e2 : sumZ (goodN M) ((n + 1 : Nat) : Int) = sumZ (goodN M) n + goodN M n := sumZ_s _ (p := (n : Int)) (by omega)
    rw [e1, e2]
    by_cases g : isGoodP M n
    · rw [if_pos g, goodN_1 g]
      have := g.1
      have := inv_span hI (t := (n : Int)) (by omega) (by omega) (by omega)
      omega
    · rw [if_neg g, goodN_0 g]
      omega
theorem mrt_no {M : Int → Int} (hI : Inv M) : (mrt M = -1000000000 ∧ sumZ (goodN M) (M 12) = 0) ∨ ((mrt M ≠ -1000000000 ∧ (-2147483648 ≤ mrt M ∧ mrt M ≤ 2147483647)) ∧ 0 < sumZ (goodN M) (M 12)) := by
  have h12 := (inv_S12 hI).1
  obtain ⟨n, hn⟩ : ∃ n : Nat, M 12 = (n : Int) := ⟨(M 12).toNat, (Int.toNat_of_nonneg h12.1).symm⟩
  have h := mrB_z hI n (by omega)
  have b := mr_bd hI h12.1 (Int.le_refl (M 12))
  rw [← hn] at h
  unfold mrt
  by_cases e : mrB M (M 12) = 0
  · rw [if_pos e]
    exact Or.inl ⟨rfl, h.1.mp e⟩
  · rw [if_neg e]
    have e2 : sumZ (goodN M) (M 12) ≠ 0 := fun z => e (h.1.mpr z)
    have d := div_bd (a := mrS M (M 12)) (b := mrB M (M 12)) (lo := -25920000) (hi := 25920000) (by omega) (by omega) (by omega)
    exact Or.inr ⟨⟨by omega, by omega, by omega⟩, by omega⟩
def noF (x : Int) : Int := if x = -1000000000 then 1 else 0
def zeF (x : Int) : Int := if x = 0 then 1 else 0
theorem no_sp (x : Int) : (x = -1000000000 ∧ noF x = 1) ∨ (x ≠ -1000000000 ∧ noF x = 0) := by
  unfold noF
  split <;> omega
theorem ze_sp (x : Int) : (x = 0 ∧ zeF x = 1) ∨ (x ≠ 0 ∧ zeF x = 0) := by
  unfold zeF
  split <;> omega
