/-! values by the matches -/
theorem trV_congr {M SO SO' : Int → Int} {t w : Int} (h : SO t = SO' t) : trV M SO t w = trV M SO' t w := by
  unfold trV
  rw [h]
theorem TRok_mat {M SO TR : Int → Int} {z : Int} (hI : Inv M) (h : matR M z SO TR) : TRok TR := fun k a b => by
  rw [(h k a b).2]
  have h1 := (mat_ok z hI).2.1 k a b
  have h12 := inv_S12 hI
  omega
theorem missN_congr {M TR TR' : Int → Int} {u : Int} (h : TR u = TR' u) : missN M TR u = missN M TR' u := by
  unfold missN missP
  rw [h]
noncomputable def stW (M : Int → Int) (u w : Int) : Int := stV M (mat M (M 8)).2.1 (cstK M (M 8)) u w
theorem stV_mat {M SO TR CO : Int → Int} {u w : Int} (hI : Inv M) (h : matR M (M 8) SO TR) (hc : cstOK M (M 8) CO) (h0 : 0 ≤ u) (h1 : u < M 13) : stV M TR CO u w = stW M u w := by
  have h12 := inv_S12 hI
  have ht := (h u h0 (by omega)).2
  have key : (if TR u = -1000000000 then -1000000000 else CO (12 * TR u + u)) = (if (mat M (M 8)).2.1 u = -1000000000 then -1000000000 else cstK M (M 8) (12 * (mat M (M 8)).2.1 u + u)) := by
    rw [← ht]
    by_cases e : TR u = -1000000000
    · rw [if_pos e, if_pos e]
    · rw [if_neg e, if_neg e]
      have w := (mat_ok (M 8) hI).2.1 u h0 (by omega)
      rw [← ht] at w
      have e1 : (12 * TR u + u) / 12 = TR u := by omega
      have e2 : (12 * TR u + u) % 12 = u := by omega
      exact hc _ (by omega) (by omega) (by rw [e2]; exact h1) (by rw [e1]; omega)
  unfold stW stV
  rw [key, missN_congr (TR' := (mat M (M 8)).2.1) ht, ht]
noncomputable def whW (M : Int → Int) (w : Int) : Int := whV M (mat M (M 8)).2.1 (mat M (M 8)).2.2.1 (mat M (M 8)).2.2.2 w
theorem whV_mat {M SO TR : Int → Int} {w : Int} (hI : Inv M) (h : matR M (M 8) SO TR) : whV M TR (mat M (M 8)).2.2.1 (mat M (M 8)).2.2.2 w = whW M w := by
  have h12 := inv_S12 hI
  unfold whW whV missC
  rw [sumZ_congr (f := missN M TR) (g := missN M (mat M (M 8)).2.1) (fun k a b => missN_congr (h k a (by omega)).2)]
/-- the place of the one with a number among those that f marks with 1 -/
def msI (f : Int → Int) : Nat → Int → Int → Int
  | 0, _, _ => -1000000000
  | n + 1, s, left => if f s = 1 ∧ left = 0 then s else msI f n (s + 1) (left - f s)
theorem msI_s {f : Int → Int} {s left m : Int} (h : s < m) : msI f (m - s).toNat s left = if f s = 1 ∧ left = 0 then s else msI f (m - (s + 1)).toNat (s + 1) (left - f s) := by
  obtain ⟨n, hn⟩ : ∃ n : Nat, (m - s).toNat = n + 1 := ⟨(m - s).toNat - 1, by omega⟩
  rw [hn, show (m - (s + 1)).toNat = n by omega]
  rfl
theorem msI_0 {f : Int → Int} {s left m : Int} (h : m ≤ s) : msI f (m - s).toNat s left = -1000000000 := by
  rw [show (m - s).toNat = 0 by omega]
  rfl
theorem msI_congr {f g : Int → Int} : ∀ (n : Nat) (s left : Int), (∀ k : Int, s ≤ k → k < s + n → f k = g k) → msI f n s left = msI g n s left
  | 0, _, _, _ => rfl
  | n + 1, s, left, h => by
    unfold msI
    rw [h s (by omega) (by omega), msI_congr n (s + 1) (left - g s) (fun k a b => h k (by omega) (by omega))]
noncomputable def misF (M : Int → Int) (idx : Int) : Int := msI (missN M (mat M (M 8)).2.1) (M 13).toNat 0 idx
theorem missN_01 (M TR : Int → Int) (u : Int) : missN M TR u = 0 ∨ missN M TR u = 1 := by
  unfold missN
  split
  · exact Or.inr rfl
  · exact Or.inl rfl
theorem inv_mono {M : Int → Int} (h : Inv M) {t : Int} (h0 : 0 ≤ t) (h1 : t < M 12) {p : Int} (hp : 0 ≤ p) : ∀ n : Nat, p + n < pts M t → frm M t p + n ≤ frm M t (p + n)
  | 0, _ => by rw [show p + ((0 : Nat) : Int) = p by omega]; omega
  | n + 1, hq => by
    have ih := inv_mono h h0 h1 hp n (by omega)
    have s := ((h.2.1 t h0 h1).2 (p + n) (by omega) (by omega)).2.2.2 (by omega)
    have e : p + ((n + 1 : Nat) : Int) = p + n + 1 := by omega
    rw [e]
    omega
theorem inv_span {M : Int → Int} (h : Inv M) {t : Int} (h0 : 0 ≤ t) (h1 : t < M 12) (h2 : 0 < pts M t) : pts M t - 1 ≤ fspan M t ∧ fspan M t ≤ 1000 := by
  have a := inv_mono h h0 h1 (p := 0) (by omega) (pts M t - 1).toNat (by omega)
  have b := inv_fspan h h0 h1 h2
  have e : (0 : Int) + ((pts M t - 1).toNat : Int) = pts M t - 1 := by omega
  rw [e] at a
  unfold fspan at b ⊢
  omega
noncomputable def mrS (M : Int → Int) (n : Int) : Int := sumZ (fun t => if isGoodP M t then swp M t else 0) n
noncomputable def mrB (M : Int → Int) (n : Int) : Int := sumZ (fun t => if isGoodP M t then fspan M t else 0) n
noncomputable def mrt (M : Int → Int) : Int := if mrB M (M 12) = 0 then -1000000000 else mrS M (M 12) / mrB M (M 12)
theorem mr_bd {M : Int → Int} (h : Inv M) {n : Int} (h0 : 0 ≤ n) (h1 : n ≤ M 12) : (-25920000 ≤ mrS M n ∧ mrS M n ≤ 25920000) ∧ (0 ≤ mrB M n ∧ mrB M n ≤ 12000) := by
  have h12 := (inv_S12 h).1
  have a := sumZ_bd (f := fun t => if isGoodP M t then swp M t else 0) (lo := -2160000) (hi := 2160000) (p := n) h0 (fun k a b => by
    (try dsimp only)
    split
    · next z => exact inv_swp2 h a (by omega) (by have := z.1; omega)
    · omega)
  have b := sumZ_bd (f := fun t => if isGoodP M t then fspan M t else 0) (lo := 0) (hi := 1000) (p := n) h0 (fun k a b => by
    (try dsimp only)
    split
    · next z => have := inv_span h a (by omega) (by have := z.1; omega); have := z.1; omega
    · omega)
  unfold mrS mrB
  omega
noncomputable def scS (M : Int → Int) (n : Int) : Int := sumZ (fun t => if (mat M (M 8)).1 t = -1000000000 then 0 else rdT M t) n
noncomputable def scB (M : Int → Int) (n : Int) : Int := sumZ (fun t => if (mat M (M 8)).1 t = -1000000000 then 0 else M (458 + 3 * (mat M (M 8)).1 t)) n
noncomputable def msc (M : Int → Int) : Int := if scB M (M 12) = 0 then -1000000000 else 1000 * scS M (M 12) / scB M (M 12)
theorem sc_bd {M : Int → Int} (h : Inv M) {n : Int} (h0 : 0 ≤ n) (h1 : n ≤ M 12) : (0 ≤ scS M n ∧ scS M n ≤ 118800) ∧ (0 ≤ scB M n ∧ scB M n ≤ 1200000) := by
  have h12 := (inv_S12 h).1
  have hm := mat_ok (M 8) h
  have a := sumZ_bd (f := fun t => if (mat M (M 8)).1 t = -1000000000 then 0 else rdT M t) (lo := 0) (hi := 9900) (p := n) h0 (fun k a b => by
    (try dsimp only)
    split
    · omega
    · next z => exact inv_rdT h a (by omega) (hm.2.2.1 k a (by omega) z).2.1)
  have b := sumZ_bd (f := fun t => if (mat M (M 8)).1 t = -1000000000 then 0 else M (458 + 3 * (mat M (M 8)).1 t)) (lo := 0) (hi := 100000) (p := n) h0 (fun k a b => by
    (try dsimp only)
    split
    · omega
    · next z =>
      have w := hm.1 k a (by omega)
      have c := (h.2.2 ((mat M (M 8)).1 k) (by omega) (by omega)).1
      omega)
  unfold scS scB
  omega
/-! what the matches are of -/
theorem mat_congr {M M' : Int → Int} {z : Int} (h12 : M 12 = M' 12) (h13 : M 13 = M' 13) (h5 : M 5 = M' 5) (hp : ∀ t : Int, 0 ≤ t → t < M 12 → pts M t = pts M' t) (hc : ∀ t u : Int, 0 ≤ t → t < M 12 → 0 ≤ u → u < M 13 → 0 < pts M t → cstZ M z t u = cstZ M' z t u) : mat M z = mat M' z := by
  have e1 : ∀ (SO TR : Int → Int), cnd M z SO TR = cnd M' z SO TR := by
    intro SO TR
    funext k
    refine propext ⟨fun h => ?_, fun h => ?_⟩
    · obtain ⟨g1, g2, g3, g4, g5, g6⟩ := h
      have q := hp (k / 12) (by omega) (by omega)
      exact ⟨by rw [← h12]; exact g1, by rw [← h13]; exact g2, by rw [← q]; exact g3, g4, g5, by rw [← hc (k / 12) (k % 12) (by omega) (by omega) (by omega) g2 g3, ← h5]; exact g6⟩
    · obtain ⟨g1, g2, g3, g4, g5, g6⟩ := h
      rw [← h12] at g1
      rw [← h13] at g2
      have q := hp (k / 12) (by omega) (by omega)
      rw [← q] at g3
      exact ⟨g1, g2, g3, g4, g5, by rw [hc (k / 12) (k % 12) (by omega) (by omega) (by omega) g2 g3, h5]; exact g6⟩
  have e0 : ∀ (SO TR : Int → Int) (k : Int), cnd M z SO TR k → cstK M z k = cstK M' z k := fun SO TR k h => hc (k / 12) (k % 12) (by have := h.1; omega) (by have := h.1; omega) (by omega) h.2.1 h.2.2.1
  have e2 : ∀ (SO TR : Int → Int), bst M z SO TR = bst M' z SO TR := by
    intro SO TR
    funext k
    refine propext ⟨fun h => ⟨by rw [← e1]; exact h.1, fun j hj => ?_⟩, fun h => ⟨by rw [e1]; exact h.1, fun j hj => ?_⟩⟩
    · rw [← e1] at hj
      rw [← e0 SO TR k h.1, ← e0 SO TR j hj]
      exact h.2 j hj
    · have hk := h.1
      rw [← e1] at hk
      rw [e0 SO TR k hk, e0 SO TR j hj]
      exact h.2 j (by rw [← e1]; exact hj)
  have e3 : ∀ (SO TR : Int → Int), pick M z SO TR = pick M' z SO TR := by
    intro SO TR
    unfold pick
    rw [e2]
  have e4 : ∀ S, matN M z S = matN M' z S := by
    intro S
    unfold matN
    rw [← e3]
    by_cases q : pick M z S.1 S.2.1 = -1000000000
    · rw [if_pos q, if_pos q]
    · rw [if_neg q, if_neg q]
      rcases pick_cases M z S.1 S.2.1 with ⟨h, _⟩ | h
      · exact absurd h q
      · rw [e0 S.1 S.2.1 _ h.1]
  have e5 : ∀ n, matS M z n = matS M' z n := by
    intro n
    induction n with
    | zero => rfl
    | succ n ih => show matN M z (matS M z n) = matN M' z (matS M' z n); rw [ih, e4]
  exact e5 12
theorem inv_u8 {M : Int → Int} (h : Inv M) {z : Int} (hz : 0 ≤ z ∧ z ≤ 359999) : Inv (ups M 8 z) := by
  have e : ∀ k : Int, k ≠ 8 → ups M 8 z k = M k := fun k hk => ups_ne _ _ hk
  obtain ⟨hs, ht, hc⟩ := h
  refine ⟨?_, ?_, ?_⟩
  · unfold InvS at hs ⊢
    rw [e 0 (by decide), e 1 (by decide), e 2 (by decide), e 3 (by decide), e 4 (by decide), e 5 (by decide), e 6 (by decide), e 7 (by decide), e 9 (by decide), e 10 (by decide), e 11 (by decide), e 12 (by decide), e 13 (by decide), ups_eq]
    omega
  · intro t h0 h1
    rw [e 12 (by decide)] at h1
    have g := ht t h0 h1
    have ep : pts (ups M 8 z) t = pts M t := e _ (by omega)
    rw [ep]
    refine ⟨g.1, fun p p0 p1 => ?_⟩
    have g2 := g.2 p p0 p1
    have c1 := cel_eq t p
    have c2 := cel_eq t (p + 1)
    have f1 : frm (ups M 8 z) t p = frm M t p := e _ (by omega)
    have f2 : frm (ups M 8 z) t (p + 1) = frm M t (p + 1) := e _ (by omega)
    rw [f1, f2, e _ (show cel t p + 1 ≠ 8 by omega), e _ (show cel t p + 2 ≠ 8 by omega)]
    exact g2
  · intro u h0 h1
    rw [e 13 (by decide)] at h1
    rw [e _ (show 458 + 3 * u ≠ 8 by omega), e _ (show 458 + 3 * u + 1 ≠ 8 by omega), e _ (show 458 + 3 * u + 2 ≠ 8 by omega)]
    exact hc u h0 h1
theorem u8_ne (M : Int → Int) (z : Int) {k : Int} (h : k ≠ 8) : ups M 8 z k = M k := ups_ne M z h
theorem u8_pts (M : Int → Int) (z t : Int) (h : 0 ≤ t) : pts (ups M 8 z) t = pts M t := ups_ne M z (by omega)
theorem u8_frm (M : Int → Int) (z : Int) {t q : Int} (h : 0 ≤ t) (h2 : 0 ≤ q) : frm (ups M 8 z) t q = frm M t q := ups_ne M z (by have := cel_eq t q; omega)
theorem u8_plX (M : Int → Int) (z : Int) {t q : Int} (h : 0 ≤ t) (h2 : 0 ≤ q) : plX (ups M 8 z) t q = plX M t q := by
  have := cel_eq t q
  unfold plX
  rw [u8_frm M z h h2, u8_ne M z (by omega), u8_ne M z (show (1 : Int) ≠ 8 by decide)]
theorem u8_plY (M : Int → Int) (z : Int) {t q : Int} (h : 0 ≤ t) (h2 : 0 ≤ q) : plY (ups M 8 z) t q = plY M t q := by
  have := cel_eq t q
  unfold plY
  rw [u8_frm M z h h2, u8_ne M z (by omega), u8_ne M z (show (2 : Int) ≠ 8 by decide)]
theorem u8_ang (M : Int → Int) (z : Int) {t q : Int} (h : 0 ≤ t) (h2 : 0 ≤ q) : angOf (ups M 8 z) t q = angOf M t q := by
  unfold angOf
  rw [u8_plX M z h h2, u8_plY M z h h2, u8_ne M z (show (10 : Int) ≠ 8 by decide), u8_ne M z (show (11 : Int) ≠ 8 by decide)]
theorem u8_rdT (M : Int → Int) (z : Int) {t : Int} (h : 0 ≤ t) : rdT (ups M 8 z) t = rdT M t := by
  unfold rdT
  rw [u8_pts M z t h]
  rw [sumZ_congr (f := rdOf (ups M 8 z) t) (g := rdOf M t) (fun k a _ => by
    unfold rdOf
    rw [u8_plX M z h a, u8_plY M z h a, u8_ne M z (show (10 : Int) ≠ 8 by decide), u8_ne M z (show (11 : Int) ≠ 8 by decide)])]
theorem u8_cst (M : Int → Int) (y z : Int) {t u : Int} (h : 0 ≤ t) (h2 : 0 ≤ u) : cstZ (ups M 8 y) z t u = cstZ M z t u := by
  unfold cstZ stAng plR
  rw [u8_rdT M y h, u8_ang M y h (Int.le_refl 0), u8_frm M y h (Int.le_refl 0), u8_ne M y (by omega), u8_ne M y (show (7 : Int) ≠ 8 by decide), u8_ne M y (show 458 + 3 * u + 1 ≠ 8 by omega), u8_ne M y (show (0 : Int) ≠ 8 by decide)]
theorem u8_mat (M : Int → Int) (y z : Int) : mat (ups M 8 y) z = mat M z :=
  mat_congr (u8_ne M y (by decide)) (u8_ne M y (by decide)) (u8_ne M y (by decide)) (fun t h _ => u8_pts M y t h) (fun t u a _ c _ _ => u8_cst M y z a c)
theorem u8_zfor (M : Int → Int) (y : Int) {t u : Int} (h : 0 ≤ t) (h2 : 0 ≤ u) : zfor (ups M 8 y) t u = zfor M t u := by
  unfold zfor
  rw [u8_ang M y h (Int.le_refl 0), u8_frm M y h (Int.le_refl 0), u8_ne M y (show 458 + 3 * u + 1 ≠ 8 by omega), u8_ne M y (show (0 : Int) ≠ 8 by decide)]
theorem zfor_bd (M : Int → Int) (t u : Int) : 0 ≤ zfor M t u ∧ zfor M t u ≤ 359999 := by unfold zfor; omega
/-- the best zero: one more zero looked at -/
noncomputable def bzN (M : Int → Int) (z : Int) (B : Int × Int × Int) : Int × Int × Int :=
  if B.1 = -1000000000 ∨ (mat M z).2.2.1 > B.2.1 ∨ ((mat M z).2.2.1 = B.2.1 ∧ ((mat M z).2.2.2 < B.2.2 ∨ ((mat M z).2.2.2 = B.2.2 ∧ z < B.1))) then (z, (mat M z).2.2.1, (mat M z).2.2.2) else B
noncomputable def bzI (M : Int → Int) : Nat → Int × Int × Int
  | 0 => (-1000000000, 0, 0)
  | n + 1 => if pts M ((n : Int) / M 13) = 0 then bzI M n else bzN M (zfor M ((n : Int) / M 13) ((n : Int) % M 13)) (bzI M n)
noncomputable def bzF (M : Int → Int) : Int := (bzI M (M 13 * M 12).toNat).1
theorem bzI_s (M : Int → Int) {k : Int} (h : 0 ≤ k) : bzI M (k + 1).toNat = if pts M (k / M 13) = 0 then bzI M k.toNat else bzN M (zfor M (k / M 13) (k % M 13)) (bzI M k.toNat) := by
  obtain ⟨n, rfl⟩ : ∃ n : Nat, k = (n : Int) := ⟨k.toNat, (Int.toNat_of_nonneg h).symm⟩
  rw [show ((n : Int) + 1).toNat = n + 1 by omega, show ((n : Int)).toNat = n by omega]
  rfl
/-- the drift -/
def tDr (M : Int → Int) (u v : Int) : Int → Int := ups (ups M 1 u) 2 v
theorem tDr_e (M : Int → Int) (u v : Int) {k : Int} (h : k ≠ 1) (h2 : k ≠ 2) : tDr M u v k = M k := by unfold tDr; rw [ups_ne _ _ h2, ups_ne _ _ h]
theorem tDr_1 (M : Int → Int) (u v : Int) : tDr M u v 1 = u := by unfold tDr; rw [ups_ne _ _ (by decide), ups_eq]
theorem tDr_2 (M : Int → Int) (u v : Int) : tDr M u v 2 = v := by unfold tDr; rw [ups_eq]
theorem tDr_id (M : Int → Int) : tDr M (M 1) (M 2) = M := by
  unfold tDr
  rw [ups_self, ups_self]
theorem tDr_t (M : Int → Int) (u v x y : Int) : ups (ups (tDr M u v) 1 x) 2 y = tDr M x y := by
  funext k
  unfold tDr ups
  (repeat' split) <;> first | rfl | omega
theorem inv_tDr {M : Int → Int} (h : Inv M) {u v : Int} (hu : -100 ≤ u ∧ u ≤ 100) (hv : -100 ≤ v ∧ v ≤ 100) : Inv (tDr M u v) := by
  have e : ∀ k : Int, k ≠ 1 → k ≠ 2 → tDr M u v k = M k := fun k hk hk2 => tDr_e M u v hk hk2
  obtain ⟨hs, ht, hc⟩ := h
  refine ⟨?_, ?_, ?_⟩
  · unfold InvS at hs ⊢
    rw [e 0 (by decide) (by decide), tDr_1, tDr_2, e 3 (by decide) (by decide), e 4 (by decide) (by decide), e 5 (by decide) (by decide), e 6 (by decide) (by decide), e 7 (by decide) (by decide), e 8 (by decide) (by decide), e 9 (by decide) (by decide), e 10 (by decide) (by decide), e 11 (by decide) (by decide), e 12 (by decide) (by decide), e 13 (by decide) (by decide)]
    omega
  · intro t h0 h1
    rw [e 12 (by decide) (by decide)] at h1
    have g := ht t h0 h1
    have ep : pts (tDr M u v) t = pts M t := e _ (by omega) (by omega)
    rw [ep]
    refine ⟨g.1, fun p p0 p1 => ?_⟩
    have g2 := g.2 p p0 p1
    have c1 := cel_eq t p
    have c2 := cel_eq t (p + 1)
    have f1 : frm (tDr M u v) t p = frm M t p := e _ (by omega) (by omega)
    have f2 : frm (tDr M u v) t (p + 1) = frm M t (p + 1) := e _ (by omega) (by omega)
    rw [f1, f2, e _ (show cel t p + 1 ≠ 1 by omega) (by omega), e _ (show cel t p + 2 ≠ 1 by omega) (by omega)]
    exact g2
  · intro w h0 h1
    rw [e 13 (by decide) (by decide)] at h1
    rw [e _ (show 458 + 3 * w ≠ 1 by omega) (by omega), e _ (show 458 + 3 * w + 1 ≠ 1 by omega) (by omega), e _ (show 458 + 3 * w + 2 ≠ 1 by omega) (by omega)]
    exact hc w h0 h1
def bdU (M : Int → Int) (q k : Int) : Int := M 1 - q + k / (2 * q + 1)
def bdV (M : Int → Int) (q k : Int) : Int := M 2 - q + k % (2 * q + 1)
noncomputable def bdI (M : Int → Int) (q : Int) : Nat → Int × Int
  | 0 => (-1000000000, 0)
  | n + 1 => if ((-100 ≤ bdU M q n ∧ bdU M q n ≤ 100) ∧ -100 ≤ bdV M q n ∧ bdV M q n ≤ 100) ∧ ((bdI M q n).1 = -1000000000 ∨ pcost (tDr M (bdU M q n) (bdV M q n)) < (bdI M q n).2) then (1000 * (bdU M q n + 100) + bdV M q n + 100, pcost (tDr M (bdU M q n) (bdV M q n))) else bdI M q n
noncomputable def bdF (M : Int → Int) (q : Int) : Int := (bdI M q ((2 * q + 1) * (2 * q + 1)).toNat).1
theorem bdI_y {M : Int → Int} {q k b c : Int} (h : 0 ≤ k) (hb : bdI M q k.toNat = (b, c)) (h1 : (-100 ≤ bdU M q k ∧ bdU M q k ≤ 100) ∧ -100 ≤ bdV M q k ∧ bdV M q k ≤ 100) (h2 : b = -1000000000 ∨ pcost (tDr M (bdU M q k) (bdV M q k)) < c) : bdI M q (k + 1).toNat = (1000 * (bdU M q k + 100) + bdV M q k + 100, pcost (tDr M (bdU M q k) (bdV M q k))) := by
  obtain ⟨n, rfl⟩ : ∃ n : Nat, k = (n : Int) := ⟨k.toNat, (Int.toNat_of_nonneg h).symm⟩
  rw [show ((n : Int)).toNat = n by omega] at hb
  rw [show ((n : Int) + 1).toNat = n + 1 by omega]
  unfold bdI
  rw [hb, if_pos ⟨h1, h2⟩]
theorem bdI_n {M : Int → Int} {q k b c : Int} (h : 0 ≤ k) (hb : bdI M q k.toNat = (b, c)) (h1 : ¬ (((-100 ≤ bdU M q k ∧ bdU M q k ≤ 100) ∧ -100 ≤ bdV M q k ∧ bdV M q k ≤ 100) ∧ (b = -1000000000 ∨ pcost (tDr M (bdU M q k) (bdV M q k)) < c))) : bdI M q (k + 1).toNat = (b, c) := by
  obtain ⟨n, rfl⟩ : ∃ n : Nat, k = (n : Int) := ⟨k.toNat, (Int.toNat_of_nonneg h).symm⟩
  rw [show ((n : Int)).toNat = n by omega] at hb
  rw [show ((n : Int) + 1).toNat = n + 1 by omega]
  unfold bdI
  rw [hb, if_neg h1]
theorem matS_bd {M : Int → Int} (z : Int) (hI : Inv M) : ∀ n : Nat, (0 ≤ (matS M z n).2.2.1 ∧ (matS M z n).2.2.1 ≤ n) ∧ (0 ≤ (matS M z n).2.2.2 ∧ (matS M z n).2.2.2 ≤ 10100000 * (n : Int))
  | 0 => ⟨⟨Int.le_refl 0, Int.le_refl 0⟩, ⟨Int.le_refl 0, Int.le_refl 0⟩⟩
  | n + 1 => by
    have ih := matS_bd z hI n
    show (0 ≤ (matN M z (matS M z n)).2.2.1 ∧ (matN M z (matS M z n)).2.2.1 ≤ ((n + 1 : Nat) : Int)) ∧ (0 ≤ (matN M z (matS M z n)).2.2.2 ∧ (matN M z (matS M z n)).2.2.2 ≤ 10100000 * ((n + 1 : Nat) : Int))
    unfold matN
    by_cases q : pick M z (matS M z n).1 (matS M z n).2.1 = -1000000000
    · rw [if_pos q]
      omega
    · rw [if_neg q]
      obtain ⟨h1, h2, h3⟩ := pick_ok hI q
      have b := cstK_bd (z := z) hI h1.1.1 h1.1.2 h1.2.1 h1.2.2.1
      show (0 ≤ (matS M z n).2.2.1 + 1 ∧ (matS M z n).2.2.1 + 1 ≤ ((n + 1 : Nat) : Int)) ∧ (0 ≤ (matS M z n).2.2.2 + cstK M z (pick M z (matS M z n).1 (matS M z n).2.1) ∧ (matS M z n).2.2.2 + cstK M z (pick M z (matS M z n).1 (matS M z n).2.1) ≤ 10100000 * ((n + 1 : Nat) : Int))
      omega
theorem mat_bd {M : Int → Int} (z : Int) (hI : Inv M) : (0 ≤ (mat M z).2.2.1 ∧ (mat M z).2.2.1 ≤ 12) ∧ (0 ≤ (mat M z).2.2.2 ∧ (mat M z).2.2.2 ≤ 121200000) := by
  have h := matS_bd z hI 12
  unfold mat
  omega
theorem bz_pos {k x y : Int} (h0 : 0 ≤ k) (hx : 0 ≤ x) (h : k < x * y) : 0 < x ∧ (0 ≤ k / x ∧ k / x < y) ∧ (0 ≤ k % x ∧ k % x < x) := by
  have hp : 0 < x := by
    rcases Int.lt_or_le 0 x with z | z
    · exact z
    · have e : x = 0 := by omega
      rw [e, Int.zero_mul] at h
      omega
  refine ⟨hp, ⟨Int.ediv_nonneg h0 hx, Int.ediv_lt_of_lt_mul hp (by rw [Int.mul_comm]; exact h)⟩, Int.emod_nonneg _ (by omega), Int.emod_lt_of_pos _ hp⟩
