/-! what a call that asks leaves of the object -/
def lkU (P Z : Nat → Int → Int) : Nat → Int → Int := upr (upr (upr (upr (upr (upr (upr (upr (upr (upr (upr (upr (upr (upr (upr (upr P 21 (Z 21)) 22 (Z 22)) 23 (Z 23)) 24 (Z 24)) 25 (Z 25)) 26 (Z 26)) 27 (Z 27)) 28 (Z 28)) 30 (Z 30)) 31 (Z 31)) 32 (Z 32)) 33 (Z 33)) 34 (Z 34)) 35 (Z 35)) 36 (Z 36)) 100 (ups (P 100) 6 1)
theorem lkU_o (P Z : Nat → Int → Int) {c : Nat} (h : c < 21 ∨ (37 ≤ c ∧ c ≠ 100)) : lkU P Z c = P c := by
  unfold lkU
  rw [upr_o _ _ (show c ≠ 100 by omega), upr_o _ _ (show c ≠ 36 by omega), upr_o _ _ (show c ≠ 35 by omega), upr_o _ _ (show c ≠ 34 by omega), upr_o _ _ (show c ≠ 33 by omega), upr_o _ _ (show c ≠ 32 by omega), upr_o _ _ (show c ≠ 31 by omega), upr_o _ _ (show c ≠ 30 by omega), upr_o _ _ (show c ≠ 28 by omega), upr_o _ _ (show c ≠ 27 by omega), upr_o _ _ (show c ≠ 26 by omega), upr_o _ _ (show c ≠ 25 by omega), upr_o _ _ (show c ≠ 24 by omega), upr_o _ _ (show c ≠ 23 by omega), upr_o _ _ (show c ≠ 22 by omega), upr_o _ _ (show c ≠ 21 by omega)]
theorem lkU_z (P Z : Nat → Int → Int) {c : Nat} (h : 21 ≤ c ∧ c ≤ 36 ∧ c ≠ 29) : lkU P Z c = Z c := by
  rcases (show c = 21 ∨ c = 22 ∨ c = 23 ∨ c = 24 ∨ c = 25 ∨ c = 26 ∨ c = 27 ∨ c = 28 ∨ c = 30 ∨ c = 31 ∨ c = 32 ∨ c = 33 ∨ c = 34 ∨ c = 35 ∨ c = 36 by omega) with rfl | rfl | rfl | rfl | rfl | rfl | rfl | rfl | rfl | rfl | rfl | rfl | rfl | rfl | rfl <;> rfl
def lkV (P Z : Nat → Int → Int) : Nat → Int → Int := upr (upr (upr (upr (upr (upr (upr (upr (upr (upr (upr (upr (upr (upr (upr (upr (upr (upr (upr (upr (upr (upr (upr P 21 (Z 21)) 22 (Z 22)) 23 (Z 23)) 24 (Z 24)) 25 (Z 25)) 26 (Z 26)) 27 (Z 27)) 28 (Z 28)) 30 (Z 30)) 31 (Z 31)) 32 (Z 32)) 33 (Z 33)) 34 (Z 34)) 35 (Z 35)) 36 (Z 36)) 40 (Z 40)) 41 (Z 41)) 42 (Z 42)) 43 (Z 43)) 44 (Z 44)) 45 (Z 45)) 46 (Z 46)) 100 (ups (P 100) 6 1)
theorem lkV_o (P Z : Nat → Int → Int) {c : Nat} (h : c < 21 ∨ (47 ≤ c ∧ c ≠ 100)) : lkV P Z c = P c := by
  unfold lkV
  rw [upr_o _ _ (show c ≠ 100 by omega), upr_o _ _ (show c ≠ 46 by omega), upr_o _ _ (show c ≠ 45 by omega), upr_o _ _ (show c ≠ 44 by omega), upr_o _ _ (show c ≠ 43 by omega), upr_o _ _ (show c ≠ 42 by omega), upr_o _ _ (show c ≠ 41 by omega), upr_o _ _ (show c ≠ 40 by omega), upr_o _ _ (show c ≠ 36 by omega), upr_o _ _ (show c ≠ 35 by omega), upr_o _ _ (show c ≠ 34 by omega), upr_o _ _ (show c ≠ 33 by omega), upr_o _ _ (show c ≠ 32 by omega), upr_o _ _ (show c ≠ 31 by omega), upr_o _ _ (show c ≠ 30 by omega), upr_o _ _ (show c ≠ 28 by omega), upr_o _ _ (show c ≠ 27 by omega), upr_o _ _ (show c ≠ 26 by omega), upr_o _ _ (show c ≠ 25 by omega), upr_o _ _ (show c ≠ 24 by omega), upr_o _ _ (show c ≠ 23 by omega), upr_o _ _ (show c ≠ 22 by omega), upr_o _ _ (show c ≠ 21 by omega)]
theorem lkV_z (P Z : Nat → Int → Int) {c : Nat} (h : 21 ≤ c ∧ c ≤ 36 ∧ c ≠ 29) : lkV P Z c = Z c := by
  rcases (show c = 21 ∨ c = 22 ∨ c = 23 ∨ c = 24 ∨ c = 25 ∨ c = 26 ∨ c = 27 ∨ c = 28 ∨ c = 30 ∨ c = 31 ∨ c = 32 ∨ c = 33 ∨ c = 34 ∨ c = 35 ∨ c = 36 by omega) with rfl | rfl | rfl | rfl | rfl | rfl | rfl | rfl | rfl | rfl | rfl | rfl | rfl | rfl | rfl <;> rfl
def mzd (P Z : Nat → Int → Int) : Prop := figOK (mO P) Z (P 0 0) ∧ maOK (mO P) (P 8 8) (Z 31) (Z 32) (Z 33) ∧ Z 30 3 = (mat (mO P) (P 8 8)).2.2.1 ∧ Z 30 4 = (mat (mO P) (P 8 8)).2.2.2
theorem lkd_of {P Q Z : Nat → Int → Int} (hz : mzd P Z) (h : ∀ c : Nat, c < 9 → Q c = P c) (h2 : ∀ c : Nat, 21 ≤ c → c ≤ 36 → c ≠ 29 → Q c = Z c) : lkd Q := by
  have em : mO Q = mO P := mO_cg (fun i hi => h i hi)
  obtain ⟨l1, l2, l3, l4⟩ := hz
  unfold lkd
  rw [em, h 0 (by decide), h 8 (by decide), h2 30 (by decide) (by decide) (by decide), h2 31 (by decide) (by decide) (by decide), h2 32 (by decide) (by decide) (by decide), h2 33 (by decide) (by decide) (by decide)]
  refine ⟨fun k k0 k1 => ?_, l2, l3, l4⟩
  have l := l1 k k0 k1
  unfold figAt at l ⊢
  rw [h2 21 (by decide) (by decide) (by decide), h2 22 (by decide) (by decide) (by decide), h2 23 (by decide) (by decide) (by decide), h2 24 (by decide) (by decide) (by decide), h2 25 (by decide) (by decide) (by decide), h2 26 (by decide) (by decide) (by decide), h2 27 (by decide) (by decide) (by decide), h2 28 (by decide) (by decide) (by decide)]
  exact l
theorem oq_lkU {P Z : Nat → Int → Int} (hz : mzd P Z) : objq P (lkU P Z) :=
  ⟨⟨fun c h => lkU_o P Z (Or.inl (by omega)), fun c a b => lkU_o P Z (Or.inr (by omega)), show ups (P 100) 6 1 7 = P 100 7 from ups_ne _ _ (by decide)⟩, Or.inr (show ups (P 100) 6 1 6 = 1 from ups_eq _ _ _), fun _ => lkd_of hz (fun c h => lkU_o P Z (Or.inl (by omega))) (fun c a b d => lkU_z P Z ⟨a, b, d⟩)⟩
theorem mx_lkU_inLk (P Z : Nat → Int → Int) : mixB inLk P (lkU P Z) = lkU P Z :=
  mixB_eq (fun i hi => by
    have hi : (rgB 9 19 i || rgB 40 99 i) = true := hi
    rcases orB hi with h | h
    · have h2 := rgB_t h
      exact lkU_o P Z (by omega)
    · have h2 := rgB_t h
      exact lkU_o P Z (by omega))
theorem mx_lkU_inDg (P Z : Nat → Int → Int) : mixB inDg P (lkU P Z) = lkU P Z :=
  mixB_eq (fun i hi => by
    have hi : (rgB 40 49 i || rgB 60 99 i) = true := hi
    rcases orB hi with h | h
    · have h2 := rgB_t h
      exact lkU_o P Z (by omega)
    · have h2 := rgB_t h
      exact lkU_o P Z (by omega))
theorem oq_lkV {P Z : Nat → Int → Int} (hz : mzd P Z) : objq P (lkV P Z) :=
  ⟨⟨fun c h => lkV_o P Z (Or.inl (by omega)), fun c a b => lkV_o P Z (Or.inr (by omega)), show ups (P 100) 6 1 7 = P 100 7 from ups_ne _ _ (by decide)⟩, Or.inr (show ups (P 100) 6 1 6 = 1 from ups_eq _ _ _), fun _ => lkd_of hz (fun c h => lkV_o P Z (Or.inl (by omega))) (fun c a b d => lkV_z P Z ⟨a, b, d⟩)⟩
theorem mx_lkV_inZz (P Z : Nat → Int → Int) : mixB inZz P (lkV P Z) = lkV P Z :=
  mixB_eq (fun i hi => by
    have hi : (rgB 9 19 i || rgB 50 99 i) = true := hi
    rcases orB hi with h | h
    · have h2 := rgB_t h
      exact lkV_o P Z (by omega)
    · have h2 := rgB_t h
      exact lkV_o P Z (by omega))
theorem mx_hs {P Q : Nat → Int → Int} (h : ∀ c : Nat, 9 ≤ c → c < 50 → Q c = P c) : mixB inHs P Q = Q :=
  mixB_eq (fun i hi => by
    have hi : rgB 9 49 i = true := hi
    have h2 := rgB_t hi
    exact h i h2.1 (by omega))
theorem mx_rn {P Q : Nat → Int → Int} (h : ∀ c : Nat, c ≠ 10 → c ≠ 12 → c ≠ 13 → c < 50 → 9 ≤ c → Q c = P c) : mixB inRn P Q = Q :=
  mixB_eq (fun i hi => by
    have hi : rgB 14 49 i = true := hi
    have h2 := rgB_t hi
    exact h i (by omega) (by omega) (by omega) (by omega) (by omega))
theorem ab_12 {P : Nat → Int → Int} {M : Int → Int} {n : Int} {K : Nat → Int → Int} (h : Ab P M n K) : M 12 = P 0 0 ∧ M 13 = P 0 1 := (ag_hd h.1.2).2.2
theorem ab_st {P : Nat → Int → Int} {M : Int → Int} {n : Int} {K : Nat → Int → Int} (h : Ab P M n K) {w : Int} (h0 : 0 ≤ w) (h1 : w < 10) : M w = P 8 w := (ag_hd h.1.2).1 w h0 h1
theorem ab_pt {P : Nat → Int → Int} {M : Int → Int} {n : Int} {K : Nat → Int → Int} (h : Ab P M n K) {t : Int} (h0 : 0 ≤ t) (h1 : t < P 0 0) : pts M t = P 1 t := by
  have e := ab_12 h
  have h12 := inv_S12 h.1.1
  exact (ptA h.1.2 h0 (by omega)).trans (mO_pts P h0 (by omega))
theorem ab_has {P : Nat → Int → Int} {M : Int → Int} {n : Int} {K : Nat → Int → Int} (h : Ab P M n K) {t : Int} (h0 : 0 ≤ t) (h1 : t < P 0 0) (f : Int) : hasF M t f ↔ hasF (mO P) t f := by
  have e := ab_12 h
  exact hasA h.1.2 h0 (by omega) f
/-- at the start -/
theorem ab_start : Ab ob0 m00 0 (fun _ => m00) := by
  have hI : Inv m00 := (inv_iff m00).mpr ⟨by unfold InvS; decide, fun t a b => absurd (show t < 0 from b) (by omega), fun u a b => absurd (show u < 0 from b) (by omega)⟩
  refine ⟨⟨hI, fun k a b => ?_, fun t a b => absurd (show t < 0 from b) (by omega), fun u a b => absurd (show u < 0 from b) (by omega)⟩, ⟨⟨rfl, by decide, by decide⟩, fun j k hk => by exfalso; omega⟩, ⟨rfl, fun k a b => ⟨show (0 : Int) ≤ 0 by decide, show (0 : Int) ≤ 127 by decide⟩, fun i a b => ⟨show (0 : Int) ≤ 0 by decide, show (0 : Int) ≤ 999999 by decide⟩⟩, rfl, Or.inl rfl, fun z => absurd (show (0 : Int) = 1 from z) (by decide)⟩
  rcases (show k = 0 ∨ k = 1 ∨ k = 2 ∨ k = 3 ∨ k = 4 ∨ k = 5 ∨ k = 6 ∨ k = 7 ∨ k = 8 ∨ k = 9 ∨ k = 10 ∨ k = 11 ∨ k = 12 ∨ k = 13 by omega) with rfl | rfl | rfl | rfl | rfl | rfl | rfl | rfl | rfl | rfl | rfl | rfl | rfl | rfl <;> decide
