/-! a plate as one row, as the reference has it -/
def mO (P : Nat → Int → Int) : Int → Int := fun k =>
  if k < 10 then P 8 k else if k = 10 then P 0 2 else if k = 11 then P 0 3 else if k = 12 then P 0 0 else if k = 13 then P 0 1
  else if k < 458 then (if (k - 14) % 37 = 0 then P 1 ((k - 14) / 37) else if ((k - 14) % 37 - 1) % 3 = 0 then P 2 (12 * ((k - 14) / 37) + ((k - 14) % 37 - 1) / 3) else if ((k - 14) % 37 - 1) % 3 = 1 then P 3 (12 * ((k - 14) / 37) + ((k - 14) % 37 - 1) / 3) else P 4 (12 * ((k - 14) / 37) + ((k - 14) % 37 - 1) / 3))
  else if (k - 458) % 3 = 0 then P 5 ((k - 458) / 3) else if (k - 458) % 3 = 1 then P 6 ((k - 458) / 3) else P 7 ((k - 458) / 3)
theorem mO_set (P : Nat → Int → Int) {k : Int} (h : k < 10) : mO P k = P 8 k := by unfold mO; rw [if_pos h]
theorem mO_10 (P : Nat → Int → Int) : mO P 10 = P 0 2 := by unfold mO; rw [if_neg (by decide), if_pos rfl]
theorem mO_11 (P : Nat → Int → Int) : mO P 11 = P 0 3 := by unfold mO; rw [if_neg (by decide), if_neg (by decide), if_pos rfl]
theorem mO_12 (P : Nat → Int → Int) : mO P 12 = P 0 0 := by unfold mO; rw [if_neg (by decide), if_neg (by decide), if_neg (by decide), if_pos rfl]
theorem mO_13 (P : Nat → Int → Int) : mO P 13 = P 0 1 := by unfold mO; rw [if_neg (by decide), if_neg (by decide), if_neg (by decide), if_neg (by decide), if_pos rfl]
theorem mO_t (P : Nat → Int → Int) {k : Int} (h : 14 ≤ k) (h2 : k < 458) : mO P k = (if (k - 14) % 37 = 0 then P 1 ((k - 14) / 37) else if ((k - 14) % 37 - 1) % 3 = 0 then P 2 (12 * ((k - 14) / 37) + ((k - 14) % 37 - 1) / 3) else if ((k - 14) % 37 - 1) % 3 = 1 then P 3 (12 * ((k - 14) / 37) + ((k - 14) % 37 - 1) / 3) else P 4 (12 * ((k - 14) / 37) + ((k - 14) % 37 - 1) / 3)) := by
  unfold mO
  rw [if_neg (by omega), if_neg (by omega), if_neg (by omega), if_neg (by omega), if_neg (by omega), if_pos h2]
theorem mO_pts (P : Nat → Int → Int) {t : Int} (h : 0 ≤ t) (h2 : t < 12) : pts (mO P) t = P 1 t := by
  unfold pts
  rw [mO_t P (by omega) (by omega), if_pos (by omega)]
  congr 1
  omega
theorem mO_ix {t q w : Int} (h3 : 0 ≤ q) (h4 : q < 12) (hw : 0 ≤ w) (hw2 : w ≤ 2) : (cel t q + w - 14) / 37 = t ∧ (cel t q + w - 14) % 37 = 1 + 3 * q + w := by
  have := cel_eq t q
  omega
theorem mO_frm (P : Nat → Int → Int) {t q : Int} (h : 0 ≤ t) (h2 : t < 12) (h3 : 0 ≤ q) (h4 : q < 12) : frm (mO P) t q = P 2 (12 * t + q) := by
  have c := cel_eq t q
  obtain ⟨e1, e2⟩ := mO_ix (t := t) h3 h4 (show (0 : Int) ≤ 0 by decide) (by decide)
  rw [Int.add_zero] at e1 e2
  unfold frm
  rw [mO_t P (by omega) (by omega), e1, e2, if_neg (by omega), if_pos (by omega), show (1 + 3 * q + 0 - 1) / 3 = q by omega]
theorem mO_x (P : Nat → Int → Int) {t q : Int} (h : 0 ≤ t) (h2 : t < 12) (h3 : 0 ≤ q) (h4 : q < 12) : mO P (cel t q + 1) = P 3 (12 * t + q) := by
  have c := cel_eq t q
  obtain ⟨e1, e2⟩ := mO_ix (t := t) h3 h4 (show (0 : Int) ≤ 1 by decide) (by decide)
  rw [mO_t P (by omega) (by omega), e1, e2, if_neg (by omega), if_neg (by omega), if_pos (by omega), show (1 + 3 * q + 1 - 1) / 3 = q by omega]
theorem mO_y (P : Nat → Int → Int) {t q : Int} (h : 0 ≤ t) (h2 : t < 12) (h3 : 0 ≤ q) (h4 : q < 12) : mO P (cel t q + 2) = P 4 (12 * t + q) := by
  have c := cel_eq t q
  obtain ⟨e1, e2⟩ := mO_ix (t := t) h3 h4 (show (0 : Int) ≤ 2 by decide) (by decide)
  rw [mO_t P (by omega) (by omega), e1, e2, if_neg (by omega), if_neg (by omega), if_neg (by omega), show (1 + 3 * q + 2 - 1) / 3 = q by omega]
theorem mO_s (P : Nat → Int → Int) {k : Int} (h : 458 ≤ k) : mO P k = if (k - 458) % 3 = 0 then P 5 ((k - 458) / 3) else if (k - 458) % 3 = 1 then P 6 ((k - 458) / 3) else P 7 ((k - 458) / 3) := by
  unfold mO
  rw [if_neg (by omega), if_neg (by omega), if_neg (by omega), if_neg (by omega), if_neg (by omega), if_neg (by omega)]
theorem mO_sr (P : Nat → Int → Int) {u : Int} (h : 0 ≤ u) : mO P (458 + 3 * u) = P 5 u := by
  rw [mO_s P (by omega), if_pos (by omega)]
  congr 1
  omega
theorem mO_sa (P : Nat → Int → Int) {u : Int} (h : 0 ≤ u) : mO P (458 + 3 * u + 1) = P 6 u := by
  rw [mO_s P (by omega), if_neg (by omega), if_pos (by omega)]
  congr 1
  omega
theorem mO_sb (P : Nat → Int → Int) {u : Int} (h : 0 ≤ u) : mO P (458 + 3 * u + 2) = P 7 u := by
  rw [mO_s P (by omega), if_neg (by omega), if_neg (by omega)]
  congr 1
  omega
theorem mO_plX (P : Nat → Int → Int) {t q : Int} (h : 0 ≤ t) (h2 : t < 12) (h3 : 0 ≤ q) (h4 : q < 12) : plX (mO P) t q = P 3 (12 * t + q) - P 8 1 * P 2 (12 * t + q) / 100 := by
  unfold plX
  rw [mO_x P h h2 h3 h4, mO_frm P h h2 h3 h4, mO_set P (by decide)]
theorem mO_plY (P : Nat → Int → Int) {t q : Int} (h : 0 ≤ t) (h2 : t < 12) (h3 : 0 ≤ q) (h4 : q < 12) : plY (mO P) t q = P 4 (12 * t + q) - P 8 2 * P 2 (12 * t + q) / 100 := by
  unfold plY
  rw [mO_y P h h2 h3 h4, mO_frm P h h2 h3 h4, mO_set P (by decide)]
/-! the ranges of a plate, in its own words -/
theorem po_S {P : Nat → Int → Int} (h : Inv (mO P)) : (0 ≤ P 0 0 ∧ P 0 0 ≤ 12) ∧ (0 ≤ P 0 1 ∧ P 0 1 ≤ 12) ∧ (-2000 ≤ P 0 2 ∧ P 0 2 ≤ 6000) ∧ (-2000 ≤ P 0 3 ∧ P 0 3 ≤ 6000) := by
  have a := inv_S12 h
  have b := h.1.2.2.2.2.2.2.2.2.2.2.1
  have c := h.1.2.2.2.2.2.2.2.2.2.2.2.1
  rw [mO_12, mO_13] at a
  rw [mO_10] at b
  rw [mO_11] at c
  exact ⟨a.1, a.2, b, c⟩
theorem po_set {P : Nat → Int → Int} (h : Inv (mO P)) : (-5000 ≤ P 8 0 ∧ P 8 0 ≤ 5000) ∧ (-100 ≤ P 8 1 ∧ P 8 1 ≤ 100) ∧ (-100 ≤ P 8 2 ∧ P 8 2 ≤ 100) ∧ (0 ≤ P 8 3 ∧ P 8 3 ≤ 500) ∧ (0 ≤ P 8 4 ∧ P 8 4 ≤ 180000) ∧ (0 ≤ P 8 5 ∧ P 8 5 ≤ 5000) ∧ (1 ≤ P 8 6 ∧ P 8 6 ≤ 1000) ∧ (1 ≤ P 8 7 ∧ P 8 7 ≤ 100000) ∧ (0 ≤ P 8 8 ∧ P 8 8 ≤ 359999) ∧ (0 ≤ P 8 9 ∧ P 8 9 ≤ 9) := by
  have a := h.1
  unfold InvS at a
  rw [mO_set P (by decide : (0 : Int) < 10), mO_set P (by decide : (1 : Int) < 10), mO_set P (by decide : (2 : Int) < 10), mO_set P (by decide : (3 : Int) < 10), mO_set P (by decide : (4 : Int) < 10), mO_set P (by decide : (5 : Int) < 10), mO_set P (by decide : (6 : Int) < 10), mO_set P (by decide : (7 : Int) < 10), mO_set P (by decide : (8 : Int) < 10), mO_set P (by decide : (9 : Int) < 10)] at a
  omega
theorem po_pts {P : Nat → Int → Int} (h : Inv (mO P)) {t : Int} (h0 : 0 ≤ t) (h1 : t < P 0 0) : 0 ≤ P 1 t ∧ P 1 t ≤ 12 := by
  have a := po_S h
  have b := inv_pts h h0 (by rw [mO_12]; exact h1)
  rw [mO_pts P h0 (by omega)] at b
  exact b
theorem po_pt {P : Nat → Int → Int} (h : Inv (mO P)) {t q : Int} (h0 : 0 ≤ t) (h1 : t < P 0 0) (h2 : 0 ≤ q) (h3 : q < P 1 t) : (0 ≤ P 2 (12 * t + q) ∧ P 2 (12 * t + q) ≤ 1000) ∧ (0 ≤ P 3 (12 * t + q) ∧ P 3 (12 * t + q) ≤ 4000) ∧ (0 ≤ P 4 (12 * t + q) ∧ P 4 (12 * t + q) ≤ 4000) := by
  have a := po_S h
  have b := po_pts h h0 h1
  have c := (h.2.1 t h0 (by rw [mO_12]; exact h1)).2 q h2 (by rw [mO_pts P h0 (by omega)]; exact h3)
  rw [mO_frm P h0 (by omega) h2 (by omega), mO_x P h0 (by omega) h2 (by omega), mO_y P h0 (by omega) h2 (by omega)] at c
  exact ⟨c.1, c.2.1, c.2.2.1⟩
theorem po_star {P : Nat → Int → Int} (h : Inv (mO P)) {u : Int} (h0 : 0 ≤ u) (h1 : u < P 0 1) : (1 ≤ P 5 u ∧ P 5 u ≤ 100000) ∧ (0 ≤ P 6 u ∧ P 6 u ≤ 359999) ∧ (0 ≤ P 7 u ∧ P 7 u ≤ 9) := by
  have c := h.2.2 u h0 (by rw [mO_13]; exact h1)
  rw [mO_sr P h0, mO_sa P h0, mO_sb P h0] at c
  exact c
/-- a place with some drift -/
def dplX (P : Nat → Int → Int) (k u : Int) : Int := P 3 k - u * P 2 k / 100
def dplY (P : Nat → Int → Int) (k v : Int) : Int := P 4 k - v * P 2 k / 100
theorem dpl_bd {P : Nat → Int → Int} (h : Inv (mO P)) {t q u : Int} (h0 : 0 ≤ t) (h1 : t < P 0 0) (h2 : 0 ≤ q) (h3 : q < P 1 t) (hu : -100 ≤ u ∧ u ≤ 100) : (-100000 ≤ u * P 2 (12 * t + q) ∧ u * P 2 (12 * t + q) ≤ 100000) ∧ (-1000 ≤ dplX P (12 * t + q) u ∧ dplX P (12 * t + q) u ≤ 5000) ∧ (-1000 ≤ dplY P (12 * t + q) u ∧ dplY P (12 * t + q) u ≤ 5000) := by
  have a := po_pt h h0 h1 h2 h3
  have b := mul_bd (a := 100) (b := 1000) hu a.1
  unfold dplX dplY
  generalize u * P 2 (12 * t + q) = w at b
  omega
theorem dpl_X (P : Nat → Int → Int) (x y v : Int) {t q u : Int} (h : 0 ≤ t) (h2 : t < 12) (h3 : 0 ≤ q) (h4 : q < 12) : plX (tPo (tDr (mO P) u v) x y) t q = dplX P (12 * t + q) u := by
  have c := cel_eq t q
  unfold plX frm dplX
  rw [tPo_ne _ _ _ (by omega) (by omega), tDr_e _ _ _ (by omega) (by omega), mO_x P h h2 h3 h4, tPo_ne _ _ _ (show (1 : Int) ≠ 10 by decide) (by decide), tDr_1, tPo_ne _ _ _ (by omega) (by omega), tDr_e _ _ _ (by omega) (by omega)]
  rw [show mO P (cel t q) = P 2 (12 * t + q) from mO_frm P h h2 h3 h4]
theorem dpl_Y (P : Nat → Int → Int) (x y u : Int) {t q v : Int} (h : 0 ≤ t) (h2 : t < 12) (h3 : 0 ≤ q) (h4 : q < 12) : plY (tPo (tDr (mO P) u v) x y) t q = dplY P (12 * t + q) v := by
  have c := cel_eq t q
  unfold plY frm dplY
  rw [tPo_ne _ _ _ (by omega) (by omega), tDr_e _ _ _ (by omega) (by omega), mO_y P h h2 h3 h4, tPo_ne _ _ _ (show (2 : Int) ≠ 10 by decide) (by decide), tDr_2, tPo_ne _ _ _ (by omega) (by omega), tDr_e _ _ _ (by omega) (by omega)]
  rw [show mO P (cel t q) = P 2 (12 * t + q) from mO_frm P h h2 h3 h4]
/-! spreads by squares -/
def sqA (P : Nat → Int → Int) (t x y u v q : Int) : Int := (dplX P (12 * t + q) u - x) * (dplX P (12 * t + q) u - x) + (dplY P (12 * t + q) v - y) * (dplY P (12 * t + q) v - y)
theorem minI_rt {f : Int → Int} : ∀ n : Nat, (∀ k : Int, 0 ≤ k → k ≤ (n : Int) → 0 ≤ f k) → minI (fun k => rt (f k)) n = rt (minI f n) ∧ maxI (fun k => rt (f k)) n = rt (maxI f n) ∧ 0 ≤ minI f n ∧ 0 ≤ maxI f n
  | 0, h => ⟨rfl, rfl, h 0 (by omega) (by omega), h 0 (by omega) (by omega)⟩
  | n + 1, h => by
    obtain ⟨h1, h2, h3, h4⟩ := minI_rt n (fun k a b => h k a (by omega))
    have hf := h ((n : Int) + 1) (by omega) (by omega)
    have key : ∀ a b : Int, 0 ≤ a → 0 ≤ b → min (rt a) (rt b) = rt (min a b) ∧ max (rt a) (rt b) = rt (max a b) := by
      intro a b ha hb
      rcases Int.le_total a b with z | z
      · have := rt_mono ha z
        rw [Int.min_eq_left z, Int.max_eq_right z]
        omega
      · have := rt_mono hb z
        rw [Int.min_eq_right z, Int.max_eq_left z]
        omega
    have k1 := key (minI f n) (f ((n : Int) + 1)) h3 hf
    have k2 := key (maxI f n) (f ((n : Int) + 1)) h4 hf
    refine ⟨?_, ?_, ?_, ?_⟩
    · show min (minI (fun k => rt (f k)) n) (rt (f ((n : Int) + 1))) = rt (min (minI f n) (f ((n : Int) + 1)))
      rw [h1]; exact k1.1
    · show max (maxI (fun k => rt (f k)) n) (rt (f ((n : Int) + 1))) = rt (max (maxI f n) (f ((n : Int) + 1)))
      rw [h2]; exact k2.2
    · show 0 ≤ min (minI f n) (f ((n : Int) + 1))
      omega
    · show 0 ≤ max (maxI f n) (f ((n : Int) + 1))
      omega
theorem minI_congr {f g : Int → Int} : ∀ n : Nat, (∀ k : Int, 0 ≤ k → k ≤ (n : Int) → f k = g k) → minI f n = minI g n ∧ maxI f n = maxI g n
  | 0, h => ⟨h 0 (by omega) (by omega), h 0 (by omega) (by omega)⟩
  | n + 1, h => by
    obtain ⟨h1, h2⟩ := minI_congr n (fun k a b => h k a (by omega))
    have hf := h ((n : Int) + 1) (by omega) (by omega)
    refine ⟨?_, ?_⟩
    · show min (minI f n) (f ((n : Int) + 1)) = min (minI g n) (g ((n : Int) + 1))
      rw [h1, hf]
    · show max (maxI f n) (f ((n : Int) + 1)) = max (maxI g n) (g ((n : Int) + 1))
      rw [h2, hf]
theorem sqA_bd {P : Nat → Int → Int} (h : Inv (mO P)) {t q x y u v : Int} (h0 : 0 ≤ t) (h1 : t < P 0 0) (h2 : 0 ≤ q) (h3 : q < P 1 t) (hu : -100 ≤ u ∧ u ≤ 100) (hv : -100 ≤ v ∧ v ≤ 100) (hp : poleOK x y) : 0 ≤ sqA P t x y u v q ∧ sqA P t x y u v q ≤ 98000000 := by
  have a := dpl_bd h h0 h1 h2 h3 hu
  have b := dpl_bd h h0 h1 h2 h3 hv
  unfold poleOK at hp
  have c := sum_sq (x := dplX P (12 * t + q) u - x) (y := dplY P (12 * t + q) v - y) (by omega) (by omega)
  unfold sqA
  omega
theorem rd_sqA (P : Nat → Int → Int) {t q : Int} (x y u v : Int) (h : 0 ≤ t) (h2 : t < 12) (h3 : 0 ≤ q) (h4 : q < 12) : rdOf (tPo (tDr (mO P) u v) x y) t q = rt (sqA P t x y u v q) := by
  unfold rdOf sqA
  rw [dpl_X P x y v h h2 h3 h4, dpl_Y P x y u h h2 h3 h4, tPo_10, tPo_11]
theorem spr_sqA {P : Nat → Int → Int} (h : Inv (mO P)) {t x y u v : Int} (h0 : 0 ≤ t) (h1 : t < P 0 0) (h3 : 0 < P 1 t) (hu : -100 ≤ u ∧ u ≤ 100) (hv : -100 ≤ v ∧ v ≤ 100) (hp : poleOK x y) : sprd (tPo (tDr (mO P) u v) x y) t = rt (maxZ (sqA P t x y u v) (P 1 t)) - rt (minZ (sqA P t x y u v) (P 1 t)) := by
  have hS := po_S h
  have hpt := po_pts h h0 h1
  have e1 : pts (tPo (tDr (mO P) u v) x y) t = P 1 t := by
    show tPo (tDr (mO P) u v) x y (14 + 37 * t) = P 1 t
    rw [tPo_ne _ _ _ (by omega) (by omega), tDr_e _ _ _ (by omega) (by omega)]
    exact mO_pts P h0 (by omega)
  have c := minI_congr (f := rdOf (tPo (tDr (mO P) u v) x y) t) (g := fun q => rt (sqA P t x y u v q)) (P 1 t - 1).toNat (fun k a b => rd_sqA P x y u v h0 (by omega) a (by omega))
  have d := minI_rt (f := sqA P t x y u v) (P 1 t - 1).toNat (fun k a b => (sqA_bd h h0 h1 a (by omega) hu hv hp).1)
  unfold sprd maxZ minZ
  rw [e1, c.1, c.2, d.1, d.2.1]
