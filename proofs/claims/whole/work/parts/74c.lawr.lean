/-! what a call leaves of the reference, of the object -/
theorem cmp_self (x : Int64) : lg_cmp x x = 0 := by
  have h : ¬ x > x := fun h => Int.lt_irrefl _ (Int64.lt_iff_toInt_lt.mp h)
  unfold lg_cmp
  rw [if_neg h, if_pos rfl]
theorem rq_t (R : Nat → Int → Int) (k : Int) : refq R (upr R 0 (ups (R 0) 6 k)) ∧ (upr R 0 (ups (R 0) 6 k)) 0 6 = k := by
  refine ⟨⟨⟨rfl, rfl, rfl, rfl⟩, ?_, ?_, ?_⟩, ?_⟩
  · show (ups (R 0) 6 k) 2 = R 0 2
    simp [ups]
  · show (ups (R 0) 6 k) 4 = R 0 4
    simp [ups]
  · show (ups (R 0) 6 k) 5 = R 0 5
    simp [ups]
  · show (ups (R 0) 6 k) 6 = k
    simp [ups]
theorem rq_c (R : Nat → Int → Int)  : refq R (upr (upr R 0 (ups (R 0) 6 0)) 1 (R 1)) ∧ (upr (upr R 0 (ups (R 0) 6 0)) 1 (R 1)) 0 6 = 0 := by
  refine ⟨⟨⟨rfl, rfl, rfl, rfl⟩, ?_, ?_, ?_⟩, ?_⟩
  · show (ups (R 0) 6 0) 2 = R 0 2
    simp [ups]
  · show (ups (R 0) 6 0) 4 = R 0 4
    simp [ups]
  · show (ups (R 0) 6 0) 5 = R 0 5
    simp [ups]
  · show (ups (R 0) 6 0) 6 = 0
    simp [ups]
theorem rq_l (R : Nat → Int → Int) (x y : Int) (zq zs zt : Int → Int) : refq R (upr (upr (upr (upr R 0 (ups (ups (ups (R 0) 6 0) 13 x) 14 y)) 4 (zq)) 5 (zs)) 6 (zt)) ∧ (upr (upr (upr (upr R 0 (ups (ups (ups (R 0) 6 0) 13 x) 14 y)) 4 (zq)) 5 (zs)) 6 (zt)) 0 6 = 0 := by
  refine ⟨⟨⟨rfl, rfl, rfl, rfl⟩, ?_, ?_, ?_⟩, ?_⟩
  · show (ups (ups (ups (R 0) 6 0) 13 x) 14 y) 2 = R 0 2
    simp [ups]
  · show (ups (ups (ups (R 0) 6 0) 13 x) 14 y) 4 = R 0 4
    simp [ups]
  · show (ups (ups (ups (R 0) 6 0) 13 x) 14 y) 5 = R 0 5
    simp [ups]
  · show (ups (ups (ups (R 0) 6 0) 13 x) 14 y) 6 = 0
    simp [ups]
theorem rq_z (R : Nat → Int → Int) (x y : Int) (zq zs zt : Int → Int) : refq R (upr (upr (upr (upr (upr R 0 (ups (ups (ups (R 0) 6 0) 13 x) 14 y)) 1 (R 1)) 4 (zq)) 5 (zs)) 6 (zt)) ∧ (upr (upr (upr (upr (upr R 0 (ups (ups (ups (R 0) 6 0) 13 x) 14 y)) 1 (R 1)) 4 (zq)) 5 (zs)) 6 (zt)) 0 6 = 0 := by
  refine ⟨⟨⟨rfl, rfl, rfl, rfl⟩, ?_, ?_, ?_⟩, ?_⟩
  · show (ups (ups (ups (R 0) 6 0) 13 x) 14 y) 2 = R 0 2
    simp [ups]
  · show (ups (ups (ups (R 0) 6 0) 13 x) 14 y) 4 = R 0 4
    simp [ups]
  · show (ups (ups (ups (R 0) 6 0) 13 x) 14 y) 5 = R 0 5
    simp [ups]
  · show (ups (ups (ups (R 0) 6 0) 13 x) 14 y) 6 = 0
    simp [ups]
theorem rq_d (R : Nat → Int → Int) (x y : Int) (zq zs zt : Int → Int) (zh : Int) : refq R (upr (upr (upr (upr (upr R 0 (ups (ups (ups (R 0) 6 0) 13 x) 14 y)) 4 (zq)) 5 (zs)) 6 (zt)) 8 (ups (R 8) 0 zh)) ∧ (upr (upr (upr (upr (upr R 0 (ups (ups (ups (R 0) 6 0) 13 x) 14 y)) 4 (zq)) 5 (zs)) 6 (zt)) 8 (ups (R 8) 0 zh)) 0 6 = 0 := by
  refine ⟨⟨⟨rfl, rfl, rfl, rfl⟩, ?_, ?_, ?_⟩, ?_⟩
  · show (ups (ups (ups (R 0) 6 0) 13 x) 14 y) 2 = R 0 2
    simp [ups]
  · show (ups (ups (ups (R 0) 6 0) 13 x) 14 y) 4 = R 0 4
    simp [ups]
  · show (ups (ups (ups (R 0) 6 0) 13 x) 14 y) 5 = R 0 5
    simp [ups]
  · show (ups (ups (ups (R 0) 6 0) 13 x) 14 y) 6 = 0
    simp [ups]
theorem ro_t (R : Nat → Int → Int) (M1 : Int → Int) : refo R (upr (upr (upr R 0 (ups (ups (R 0) 6 0) 2 (kpN (R 0 2)))) 1 (M1)) 2 (kpS (R 2) (R 1) (R 0 2))) M1 ∧ (upr (upr (upr R 0 (ups (ups (R 0) 6 0) 2 (kpN (R 0 2)))) 1 (M1)) 2 (kpS (R 2) (R 1) (R 0 2))) 0 6 = 0 := by
  refine ⟨⟨⟨rfl, rfl, rfl, rfl⟩, ?_, ?_, ?_⟩, ?_⟩
  · show (ups (ups (R 0) 6 0) 2 (kpN (R 0 2))) 2 = kpN (R 0 2)
    simp [ups]
  · show (ups (ups (R 0) 6 0) 2 (kpN (R 0 2))) 4 = R 0 4
    simp [ups]
  · show (ups (ups (R 0) 6 0) 2 (kpN (R 0 2))) 5 = R 0 5
    simp [ups]
  · show (ups (ups (R 0) 6 0) 2 (kpN (R 0 2))) 6 = 0
    simp [ups]
theorem ro_s (R : Nat → Int → Int) (x y z : Int) (M1 : Int → Int) : refo R (upr (upr (upr R 0 (ups (ups (ups (ups (ups (R 0) 6 0) 2 (kpN (R 0 2))) 7 x) 8 y) 9 z)) 1 (M1)) 2 (kpS (R 2) (R 1) (R 0 2))) M1 ∧ (upr (upr (upr R 0 (ups (ups (ups (ups (ups (R 0) 6 0) 2 (kpN (R 0 2))) 7 x) 8 y) 9 z)) 1 (M1)) 2 (kpS (R 2) (R 1) (R 0 2))) 0 6 = 0 := by
  refine ⟨⟨⟨rfl, rfl, rfl, rfl⟩, ?_, ?_, ?_⟩, ?_⟩
  · show (ups (ups (ups (ups (ups (R 0) 6 0) 2 (kpN (R 0 2))) 7 x) 8 y) 9 z) 2 = kpN (R 0 2)
    simp [ups]
  · show (ups (ups (ups (ups (ups (R 0) 6 0) 2 (kpN (R 0 2))) 7 x) 8 y) 9 z) 4 = R 0 4
    simp [ups]
  · show (ups (ups (ups (ups (ups (R 0) 6 0) 2 (kpN (R 0 2))) 7 x) 8 y) 9 z) 5 = R 0 5
    simp [ups]
  · show (ups (ups (ups (ups (ups (R 0) 6 0) 2 (kpN (R 0 2))) 7 x) 8 y) 9 z) 6 = 0
    simp [ups]
def lkU (P Z : Nat → Int → Int) : Nat → Int → Int := upr (upr (upr (upr (upr (upr (upr (upr (upr (upr (upr (upr (upr (upr (upr (upr P 21 (Z 21)) 22 (Z 22)) 23 (Z 23)) 24 (Z 24)) 25 (Z 25)) 26 (Z 26)) 27 (Z 27)) 28 (Z 28)) 30 (Z 30)) 31 (Z 31)) 32 (Z 32)) 33 (Z 33)) 34 (Z 34)) 35 (Z 35)) 36 (Z 36)) 100 (ups (P 100) 6 1)
theorem lkU_o (P Z : Nat → Int → Int) {c : Nat} (h : c < 21 ∨ (37 ≤ c ∧ c ≠ 100)) : lkU P Z c = P c := by
  unfold lkU
  rw [upr_o _ _ (show c ≠ 100 by omega), upr_o _ _ (show c ≠ 36 by omega), upr_o _ _ (show c ≠ 35 by omega), upr_o _ _ (show c ≠ 34 by omega), upr_o _ _ (show c ≠ 33 by omega), upr_o _ _ (show c ≠ 32 by omega), upr_o _ _ (show c ≠ 31 by omega), upr_o _ _ (show c ≠ 30 by omega), upr_o _ _ (show c ≠ 28 by omega), upr_o _ _ (show c ≠ 27 by omega), upr_o _ _ (show c ≠ 26 by omega), upr_o _ _ (show c ≠ 25 by omega), upr_o _ _ (show c ≠ 24 by omega), upr_o _ _ (show c ≠ 23 by omega), upr_o _ _ (show c ≠ 22 by omega), upr_o _ _ (show c ≠ 21 by omega)]
theorem lkU_z (P Z : Nat → Int → Int) {c : Nat} (h : 21 ≤ c ∧ c ≤ 36 ∧ c ≠ 29) : lkU P Z c = Z c := by
  rcases (show c = 21 ∨ c = 22 ∨ c = 23 ∨ c = 24 ∨ c = 25 ∨ c = 26 ∨ c = 27 ∨ c = 28 ∨ c = 30 ∨ c = 31 ∨ c = 32 ∨ c = 33 ∨ c = 34 ∨ c = 35 ∨ c = 36 by omega) with rfl | rfl | rfl | rfl | rfl | rfl | rfl | rfl | rfl | rfl | rfl | rfl | rfl | rfl | rfl <;> rfl
def lkV (P Z : Nat → Int → Int) : Nat → Int → Int := upr (upr (upr (upr (upr (upr (upr (upr (upr (upr (upr (upr (upr (upr (upr (upr (upr (upr (upr (upr (upr (upr (upr P 21 (Z 21)) 22 (Z 22)) 23 (Z 23)) 24 (Z 24)) 25 (Z 25)) 26 (Z 26)) 27 (Z 27)) 28 (Z 28)) 30 (Z 30)) 31 (Z 31)) 32 (Z 32)) 33 (Z 33)) 34 (Z 34)) 35 (Z 35)) 36 (Z 36)) 40 (Z 40)) 41 (Z 41)) 42 (Z 42)) 43 (Z 43)) 44 (Z 44)) 45 (Z 45)) 46 (Z 46)) 100 (ups (P 100) 6 1)
theorem lkV_o (P Z : Nat → Int → Int) {c : Nat} (h : c < 21 ∨ (47 ≤ c ∧ c ≠ 100)) : lkV P Z c = P c := by
  unfold lkV
  rw [upr_o _ _ (show c ≠ 100 by omega), upr_o _ _ (show c ≠ 46 by omega), upr_o _ _ (show c ≠ 45 by omega), upr_o _ _ (show c ≠ 44 by omega), upr_o _ _ (show c ≠ 43 by omega), upr_o _ _ (show c ≠ 42 by omega), upr_o _ _ (show c ≠ 41 by omega), upr_o _ _ (show c ≠ 40 by omega), upr_o _ _ (show c ≠ 36 by omega), upr_o _ _ (show c ≠ 35 by omega), upr_o _ _ (show c ≠ 34 by omega), upr_o _ _ (show c ≠ 33 by omega), upr_o _ _ (show c ≠ 32 by omega), upr_o _ _ (show c ≠ 31 by omega), upr_o _ _ (show c ≠ 30 by omega), upr_o _ _ (show c ≠ 28 by omega), upr_o _ _ (show c ≠ 27 by omega), upr_o _ _ (show c ≠ 26 by omega), upr_o _ _ (show c ≠ 25 by omega), upr_o _ _ (show c ≠ 24 by omega), upr_o _ _ (show c ≠ 23 by omega), upr_o _ _ (show c ≠ 22 by omega), upr_o _ _ (show c ≠ 21 by omega)]
theorem lkV_z (P Z : Nat → Int → Int) {c : Nat} (h : 21 ≤ c ∧ c ≤ 36 ∧ c ≠ 29) : lkV P Z c = Z c := by
  rcases (show c = 21 ∨ c = 22 ∨ c = 23 ∨ c = 24 ∨ c = 25 ∨ c = 26 ∨ c = 27 ∨ c = 28 ∨ c = 30 ∨ c = 31 ∨ c = 32 ∨ c = 33 ∨ c = 34 ∨ c = 35 ∨ c = 36 by omega) with rfl | rfl | rfl | rfl | rfl | rfl | rfl | rfl | rfl | rfl | rfl | rfl | rfl | rfl | rfl <;> rfl
def mzd (P Z : Nat → Int → Int) : Prop := figOK (mO P) Z (P 0 0) ∧ maOK (mO P) (P 8 8) (Z 31) (Z 32) (Z 33) ∧ Z 30 3 = (mat (mO P) (P 8 8)).2.2.1 ∧ Z 30 4 = (mat (mO P) (P 8 8)).2.2.2
theorem lkd_of {P Q Z : Nat → Int → Int} (hz : mzd P Z) (h : ∀ c : Nat, c < 9 → Q c = P c) (h2 : ∀ c : Nat, 21 ≤ c → c ≤ 36 → c ≠ 29 → Q c = Z c) : lkd Q := by
  have em : mO Q = mO P := mO_cg (fun i hi => h i hi)
  obtain ⟨l1, l2, l3, l4⟩ := hz
  unfold lkd
  rw [em, h 0 (by decide), h 8 (by decide), h2 30 (by decide) (by decide) (by decide), h2 31 (by decide) (by decide) (by decide), h2 32 (by decide) (by decide) (by decide), h2 33 (by decide) (by decide) (by decide)]
  refine ⟨fun k k0 k1 => ?_, l2, l3, l4⟩
  have l := l1 k k0 k1
  unfold figAt at l ⊢
  rw [h2 21 (by decide) (by decide) (by decide), h2 22 (by decide) (by decide) (by decide), h2 23 (by decide) (by decide) (by decide), h2 24 (by decide) (by decide) (by decide), h2 25 (by decide) (by decide) (by decide), h2 26 (by decide) (by decide) (by decide), h2 27 (by decide) (by decide) (by decide), h2 28 (by decide) (by decide) (by decide)]
  exact l
theorem oq_lkU {P Z : Nat → Int → Int} (hz : mzd P Z) : objq P (lkU P Z) :=
  ⟨⟨fun c h => lkU_o P Z (Or.inl (by omega)), fun c a b => lkU_o P Z (Or.inr (by omega)), show ups (P 100) 6 1 7 = P 100 7 from ups_ne _ _ (by decide)⟩, Or.inr (show ups (P 100) 6 1 6 = 1 from ups_eq _ _ _), fun _ => lkd_of hz (fun c h => lkU_o P Z (Or.inl (by omega))) (fun c a b d => lkU_z P Z ⟨a, b, d⟩)⟩
theorem mx_lkU_inLk (P Z : Nat → Int → Int) : mixB inLk P (lkU P Z) = lkU P Z :=
  mixB_eq (fun i hi => by
    have hi : (rgB 9 19 i || rgB 40 99 i) = true := hi
    rcases orB hi with h | h
    · have h2 := rgB_t h
      exact lkU_o P Z (by omega)
    · have h2 := rgB_t h
      exact lkU_o P Z (by omega))
theorem mx_lkU_inDg (P Z : Nat → Int → Int) : mixB inDg P (lkU P Z) = lkU P Z :=
  mixB_eq (fun i hi => by
    have hi : (rgB 40 49 i || rgB 60 99 i) = true := hi
    rcases orB hi with h | h
    · have h2 := rgB_t h
      exact lkU_o P Z (by omega)
    · have h2 := rgB_t h
      exact lkU_o P Z (by omega))
theorem oq_lkV {P Z : Nat → Int → Int} (hz : mzd P Z) : objq P (lkV P Z) :=
  ⟨⟨fun c h => lkV_o P Z (Or.inl (by omega)), fun c a b => lkV_o P Z (Or.inr (by omega)), show ups (P 100) 6 1 7 = P 100 7 from ups_ne _ _ (by decide)⟩, Or.inr (show ups (P 100) 6 1 6 = 1 from ups_eq _ _ _), fun _ => lkd_of hz (fun c h => lkV_o P Z (Or.inl (by omega))) (fun c a b d => lkV_z P Z ⟨a, b, d⟩)⟩
theorem mx_lkV_inZz (P Z : Nat → Int → Int) : mixB inZz P (lkV P Z) = lkV P Z :=
  mixB_eq (fun i hi => by
    have hi : (rgB 9 19 i || rgB 50 99 i) = true := hi
    rcases orB hi with h | h
    · have h2 := rgB_t h
      exact lkV_o P Z (by omega)
    · have h2 := rgB_t h
      exact lkV_o P Z (by omega))
theorem mx_hs {P Q : Nat → Int → Int} (h : ∀ c : Nat, 9 ≤ c → c < 50 → Q c = P c) : mixB inHs P Q = Q :=
  mixB_eq (fun i hi => by
    have hi : rgB 9 49 i = true := hi
    have h2 := rgB_t hi
    exact h i h2.1 (by omega))
theorem mx_rn {P Q : Nat → Int → Int} (h : ∀ c : Nat, c ≠ 10 → c ≠ 12 → c ≠ 13 → c < 50 → 9 ≤ c → Q c = P c) : mixB inRn P Q = Q :=
  mixB_eq (fun i hi => by
    have hi : rgB 14 49 i = true := hi
    have h2 := rgB_t hi
    exact h i (by omega) (by omega) (by omega) (by omega) (by omega))
theorem mx_sc {P : Nat → Int → Int} (F G : Int → Int) : mixB inSc P (upr (upr P 10 F) 11 G) = upr (upr P 10 F) 11 G :=
  mixB_eq (fun i hi => by
    have hi : (rgB 0 9 i || rgB 20 99 i) = true := hi
    rcases orB hi with h | h
    · have h2 := rgB_t h
      rw [upr_o _ _ (show i ≠ 11 by omega), upr_o _ _ (show i ≠ 10 by omega)]
    · have h2 := rgB_t h
      rw [upr_o _ _ (show i ≠ 11 by omega), upr_o _ _ (show i ≠ 10 by omega)])
theorem mx_sc1 {P : Nat → Int → Int} (F : Int → Int) : mixB inSc P (upr P 10 F) = upr P 10 F :=
  mixB_eq (fun i hi => by
    have hi : (rgB 0 9 i || rgB 20 99 i) = true := hi
    rcases orB hi with h | h
    · have h2 := rgB_t h
      rw [upr_o _ _ (show i ≠ 10 by omega)]
    · have h2 := rgB_t h
      rw [upr_o _ _ (show i ≠ 10 by omega)])
theorem oq_id {P R : Nat → Int → Int} (h : Rl P R) : objq P P := objq_rfl h
theorem rl_clear {P R R' : Nat → Int → Int} (h : Rl P R) (hR : R' 1 = R 1 ∧ R' 2 = R 2 ∧ R' 7 = R 7 ∧ R' 0 2 = R 0 2 ∧ R' 0 5 = R 0 5) (h4 : R' 0 4 = 0) (h3 : R' 3 = R 3) : Rl (upr P 10 (ups (P 10) 0 0)) R' := by
  have c2 := h.2.2.1.2.1
  have c3 := h.2.2.1.2.2.1
  refine rl_text h (fun c a b => by rw [upr_o _ _ (by omega)]) hR ⟨⟨?_, by omega, by omega⟩, ?_, fun k k0 k1 => ?_⟩
  · show (0 : Int) = _
    omega
  · show P 11 = _
    rw [h3, c2]
  · rw [h3]
    exact c3 k k0 k1
