/-! what the object has measured -/
def lkd (P : Nat → Int → Int) : Prop := figOK (mO P) P (P 0 0) ∧ maOK (mO P) (P 8 8) (P 31) (P 32) (P 33) ∧ P 30 3 = (mat (mO P) (P 8 8)).2.2.1 ∧ P 30 4 = (mat (mO P) (P 8 8)).2.2.2
theorem ups_id {F : Int → Int} {i v : Int} (h : F i = v) : ups F i v = F := by rw [← h]; exact ups_self F i
theorem look_same {P : Nat → Int → Int} (h : P 100 6 = 1) : P = upr (upr (upr (upr (upr (upr (upr (upr (upr (upr (upr (upr (upr (upr (upr (upr P 21 (P 21)) 22 (P 22)) 23 (P 23)) 24 (P 24)) 25 (P 25)) 26 (P 26)) 27 (P 27)) 28 (P 28)) 30 (P 30)) 31 (P 31)) 32 (P 32)) 33 (P 33)) 34 (P 34)) 35 (P 35)) 36 (P 36)) 100 (ups (P 100) 6 1) := by
  rw [ups_id h, upr_self, upr_self, upr_self, upr_self, upr_self, upr_self, upr_self, upr_self, upr_self, upr_self, upr_self, upr_self, upr_self, upr_self, upr_self, upr_self]
theorem fig_good {M : Int → Int} {Z : Nat → Int → Int} {t : Int} (h : figAt M Z t) (hp : 0 ≤ pts M t) : Z 28 t = goodN M t ∧ Z 26 t = gapN M t := by
  by_cases z : pts M t = 0
  · obtain ⟨_, g1, g2, g3, g4⟩ := h.2 z
    refine ⟨g4.trans (goodN_0 (fun k => by have := k.1; omega)).symm, g2.trans ?_⟩
    unfold gapN
    rw [z]
    rfl
  · have g := (h.1 (by omega)).2
    exact ⟨g.2.2.2, g.2.1⟩
theorem fig_trV {M SO : Int → Int} {Z : Nat → Int → Int} {t w : Int} (h : figAt M Z t) (hp : 0 ≤ pts M t) : (w = 0 → trV M SO t w = pts M t) ∧ (w = 1 → trV M SO t w = Z 21 t) ∧ (w = 2 → trV M SO t w = Z 22 t) ∧ (w = 3 → trV M SO t w = Z 23 t) ∧ (w = 4 → trV M SO t w = Z 24 t) ∧ (w = 5 → trV M SO t w = Z 25 t) ∧ (w = 6 → trV M SO t w = Z 28 t) ∧ (w = 7 → trV M SO t w = Z 26 t) ∧ (w = 8 → trV M SO t w = SO t) := by
  have g := fig_good h hp
  refine ⟨?_, ?_, ?_, ?_, ?_, ?_, ?_, ?_, ?_⟩ <;> intro e <;> subst e <;> unfold trV
  · rw [if_neg (by omega), if_pos rfl]
  · by_cases z : pts M t = 0
    · obtain ⟨⟨g1, g2, g3, g4⟩, g5, _⟩ := h.2 z
      rw [if_pos ⟨z, by decide, by decide⟩]; exact g1.symm
    · obtain ⟨⟨g1, g2, g3, g4⟩, g5, _⟩ := h.1 (by omega)
      rw [if_neg (fun k => z k.1), if_neg (by decide), if_pos rfl]; exact g1.symm
  · by_cases z : pts M t = 0
    · obtain ⟨⟨g1, g2, g3, g4⟩, g5, _⟩ := h.2 z
      rw [if_pos ⟨z, by decide, by decide⟩]; exact g2.symm
    · obtain ⟨⟨g1, g2, g3, g4⟩, g5, _⟩ := h.1 (by omega)
      rw [if_neg (fun k => z k.1), if_neg (by decide), if_neg (by decide), if_pos rfl]; exact g2.symm
  · by_cases z : pts M t = 0
    · obtain ⟨⟨g1, g2, g3, g4⟩, g5, _⟩ := h.2 z
      rw [if_pos ⟨z, by decide, by decide⟩]; exact g3.symm
    · obtain ⟨⟨g1, g2, g3, g4⟩, g5, _⟩ := h.1 (by omega)
      rw [if_neg (fun k => z k.1), if_neg (by decide), if_neg (by decide), if_neg (by decide), if_pos rfl]; exact g3.symm
  · by_cases z : pts M t = 0
    · obtain ⟨⟨g1, g2, g3, g4⟩, g5, _⟩ := h.2 z
      rw [if_pos ⟨z, by decide, by decide⟩]; exact g4.symm
    · obtain ⟨⟨g1, g2, g3, g4⟩, g5, _⟩ := h.1 (by omega)
      rw [if_neg (fun k => z k.1), if_neg (by decide), if_neg (by decide), if_neg (by decide), if_neg (by decide), if_pos rfl]; exact g4.symm
  · by_cases z : pts M t = 0
    · obtain ⟨⟨g1, g2, g3, g4⟩, g5, _⟩ := h.2 z
      rw [if_pos ⟨z, by decide, by decide⟩]; exact g5.symm
    · obtain ⟨⟨g1, g2, g3, g4⟩, g5, _⟩ := h.1 (by omega)
      rw [if_neg (fun k => z k.1), if_neg (by decide), if_neg (by decide), if_neg (by decide), if_neg (by decide), if_neg (by decide), if_pos rfl]; exact g5.symm
  · rw [if_neg (fun k => absurd k.2.2 (by decide)), if_neg (by decide), if_neg (by decide), if_neg (by decide), if_neg (by decide), if_neg (by decide), if_neg (by decide), if_pos rfl]; exact g.1.symm
  · rw [if_neg (fun k => absurd k.2.2 (by decide)), if_neg (by decide), if_neg (by decide), if_neg (by decide), if_neg (by decide), if_neg (by decide), if_neg (by decide), if_neg (by decide), if_pos rfl]; exact g.2.symm
  · rw [if_neg (fun k => absurd k.2.2 (by decide)), if_neg (by decide), if_neg (by decide), if_neg (by decide), if_neg (by decide), if_neg (by decide), if_neg (by decide), if_neg (by decide), if_neg (by decide)]
theorem maOK_R {M : Int → Int} {z : Int} {SO TR CO : Int → Int} (h : maOK M z SO TR CO) : matR M z SO TR := fun k a b => h.1 k a b
theorem missP_mO {P : Nat → Int → Int} {u : Int} (TR : Int → Int) (h : 0 ≤ u) : missP (mO P) TR u ↔ (TR u = -1000000000 ∧ P 8 9 ≤ P 7 u) := by
  unfold missP
  rw [mO_set P (by decide), mO_sb P h]
theorem ma_rg {P : Nat → Int → Int} {SO TR CO : Int → Int} {z : Int} (hI : Inv (mO P)) (h : maOK (mO P) z SO TR CO) {k : Int} (a : 0 ≤ k) (b : k < 12) : (-1000000000 ≤ SO k ∧ SO k ≤ 12) ∧ (-1000000000 ≤ TR k ∧ TR k ≤ 12) := by
  have g := matW_rg hI (mat_ok z hI) k a b
  rw [(h.1 k a b).1, (h.1 k a b).2]
  exact g
/-- a star's value, by what the class keeps -/
theorem ma_stW {P : Nat → Int → Int} {SO TR CO : Int → Int} {u w : Int} (hI : Inv (mO P)) (h : maOK (mO P) (P 8 8) SO TR CO) (h0 : 0 ≤ u) (h1 : u < P 0 1) : (w = 0 → stW (mO P) u w = P 5 u) ∧ (w = 1 → stW (mO P) u w = P 6 u) ∧ (w = 2 → stW (mO P) u w = P 7 u) ∧ (w = 3 → stW (mO P) u w = plR (mO P) u) ∧ (w = 4 → stW (mO P) u w = TR u) ∧ (w = 5 → stW (mO P) u w = CO u) ∧ (w = 6 → stW (mO P) u w = missN (mO P) TR u) := by
  have hS := po_S hI
  have e8 : mO P 8 = P 8 8 := mO_set P (by decide)
  have hT := (h.1 u h0 (by omega)).2
  have hC := h.2 u h0 (by omega)
  unfold stW stV
  rw [e8, ← hT]
  refine ⟨?_, ?_, ?_, ?_, ?_, ?_, ?_⟩ <;> intro e <;> subst e
  · rw [if_neg (by decide), if_neg (by decide), if_neg (by decide), if_neg (by decide), Int.add_zero]; exact mO_sr P h0
  · rw [if_neg (by decide), if_neg (by decide), if_neg (by decide), if_neg (by decide)]; exact mO_sa P h0
  · rw [if_neg (by decide), if_neg (by decide), if_neg (by decide), if_neg (by decide)]; exact mO_sb P h0
  · rw [if_pos rfl]
  · rw [if_neg (by decide), if_pos rfl]
  · rw [if_neg (by decide), if_neg (by decide), if_pos rfl]
    by_cases z : TR u = -1000000000
    · rw [if_pos z]; exact (hC.1 z).symm
    · rw [if_neg z]; exact (hC.2 z).symm
  · rw [if_neg (by decide), if_neg (by decide), if_neg (by decide), if_pos rfl]
    exact (missN_congr hT).symm
/-- a value of the whole, by what the class keeps -/
theorem ma_whW {P : Nat → Int → Int} {w : Int} (hI : Inv (mO P)) (h : lkd P) : (w = 0 → whW (mO P) w = P 0 0) ∧ (w = 1 → whW (mO P) w = P 0 1) ∧ (w = 2 → whW (mO P) w = P 0 2) ∧ (w = 3 → whW (mO P) w = P 0 3) ∧ (w = 4 → whW (mO P) w = pcost (mO P)) ∧ (w = 5 → whW (mO P) w = ovT (mO P) 5) ∧ (w = 6 → whW (mO P) w = P 30 3) ∧ (w = 7 → whW (mO P) w = P 30 4) ∧ (w = 8 → whW (mO P) w = missC (mO P) (P 32)) ∧ (w = 9 → whW (mO P) w = ovT (mO P) 9) ∧ (w = 10 → whW (mO P) w = ovT (mO P) 10) := by
  have e8 : mO P 8 = P 8 8 := mO_set P (by decide)
  have hR := maOK_R h.2.1
  have key : whV (mO P) (P 32) (P 30 3) (P 30 4) w = whW (mO P) w := by
    rw [h.2.2.1, h.2.2.2]
    have k := whV_mat (M := mO P) (SO := P 31) (TR := P 32) (w := w) hI (by rw [e8]; exact hR)
    rw [e8] at k
    exact k
  rw [← key]
  unfold whV
  refine ⟨?_, ?_, ?_, ?_, ?_, ?_, ?_, ?_, ?_, ?_, ?_⟩ <;> intro e <;> subst e
  · rw [if_pos rfl]; exact mO_12 P
  · rw [if_neg (by decide), if_pos rfl]; exact mO_13 P
  · rw [if_neg (by decide), if_neg (by decide), if_pos rfl]; exact mO_10 P
  · rw [if_neg (by decide), if_neg (by decide), if_neg (by decide), if_pos rfl]; exact mO_11 P
  · rw [if_neg (by decide), if_neg (by decide), if_neg (by decide), if_neg (by decide), if_pos rfl]
  · rw [if_neg (by decide), if_neg (by decide), if_neg (by decide), if_neg (by decide), if_neg (by decide), if_neg (by decide), if_neg (by decide), if_neg (by decide)]
  · rw [if_neg (by decide), if_neg (by decide), if_neg (by decide), if_neg (by decide), if_neg (by decide), if_pos rfl]
  · rw [if_neg (by decide), if_neg (by decide), if_neg (by decide), if_neg (by decide), if_neg (by decide), if_neg (by decide), if_pos rfl]
  · rw [if_neg (by decide), if_neg (by decide), if_neg (by decide), if_neg (by decide), if_neg (by decide), if_neg (by decide), if_neg (by decide), if_pos rfl]
  · rw [if_neg (by decide), if_neg (by decide), if_neg (by decide), if_neg (by decide), if_neg (by decide), if_neg (by decide), if_neg (by decide), if_neg (by decide)]
  · rw [if_neg (by decide), if_neg (by decide), if_neg (by decide), if_neg (by decide), if_neg (by decide), if_neg (by decide), if_neg (by decide), if_neg (by decide)]
theorem ov_5 (P : Nat → Int → Int) : ovT (mO P) 5 = sumZ (goodN (mO P)) (P 0 0) := by
  unfold ovT
  rw [mO_12]
  exact sumZ_congr (fun k _ _ => by (try dsimp only); rw [if_neg (by decide), if_neg (by decide)])
theorem ov_10 (P : Nat → Int → Int) : ovT (mO P) 10 = sumZ (gapN (mO P)) (P 0 0) := by
  unfold ovT
  rw [mO_12]
  exact sumZ_congr (fun k _ _ => by (try dsimp only); rw [if_neg (by decide), if_pos rfl])
theorem ov_9 {P : Nat → Int → Int} (h : 0 ≤ P 0 0 ∧ P 0 0 ≤ 12) : ovT (mO P) 9 = sumZ (P 1) (P 0 0) := by
  unfold ovT
  rw [mO_12]
  exact sumZ_congr (fun k a b => by (try dsimp only); rw [if_pos rfl]; exact mO_pts P a (by omega))
theorem mis_C (P : Nat → Int → Int) (TR : Int → Int) : missC (mO P) TR = sumZ (missN (mO P) TR) (P 0 1) := by unfold missC; rw [mO_13]
theorem z_mO {P : Nat → Int → Int} {t u : Int} (h0 : 0 ≤ t) (h1 : t < 12) (h2 : 0 ≤ u) : zfor (mO P) t u = (angOf (mO P) t 0 - P 6 u - P 8 0 * P 2 (12 * t + 0)) % 360000 := by
  unfold zfor
  rw [mO_sa P h2, mO_set P (by decide), mO_frm P h0 h1 (Int.le_refl 0) (by decide)]
