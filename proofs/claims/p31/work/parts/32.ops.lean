/-! a plate made of another: what of it stands where -/
def near (M F : Int → Int) (tau sig : Int → Int) (X Y : Int → Prop) : Prop := (∀ t : Int, 0 ≤ t → t < F 12 → ¬ X t → (0 ≤ tau t ∧ tau t < M 12) ∧ trA M F (tau t) t) ∧ ∀ u : Int, 0 ≤ u → u < F 13 → ¬ Y u → (0 ≤ sig u ∧ sig u < M 13) ∧ stA2 M F (sig u) u
theorem near_inv {M F tau sig : Int → Int} {X Y : Int → Prop} (hI : Inv M) (h : near M F tau sig X Y) (hs : InvS F) (hx : ∀ t : Int, 0 ≤ t → t < F 12 → X t → tOK F t) (hy : ∀ u : Int, 0 ≤ u → u < F 13 → Y u → sOK F u) : Inv F :=
  (inv_iff F).mpr ⟨hs, fun t a b => by
    by_cases z : X t
    · exact hx t a b z
    · obtain ⟨g, g2⟩ := h.1 t a b z
      exact tOK_A g2 (hI.2.1 _ g.1 g.2), fun u a b => by
    by_cases z : Y u
    · exact hy u a b z
    · obtain ⟨g, g2⟩ := h.2 u a b z
      exact sOK_A g2 (hI.2.2 _ g.1 g.2)⟩
theorem near_ag {M M' F F' tau sig : Int → Int} {X Y : Int → Prop} (ha : ag M M') (h : near M F tau sig X Y) (h' : near M' F' tau sig X Y) (hh : ∀ k : Int, 0 ≤ k → k < 14 → F k = F' k) (hx : ∀ t : Int, 0 ≤ t → t < F 12 → X t → trA F F' t t) (hy : ∀ u : Int, 0 ≤ u → u < F 13 → Y u → stA2 F F' u u) : ag F F' := by
  have e12 := hh 12 (by decide) (by decide)
  have e13 := hh 13 (by decide) (by decide)
  refine ⟨hh, fun t a b => ?_, fun u a b => ?_⟩
  · by_cases z : X t
    · exact hx t a b z
    · obtain ⟨g, g2⟩ := h.1 t a b z
      obtain ⟨_, g3⟩ := h'.1 t a (by rw [← e12]; exact b) z
      exact trA_trans (trA_symm g2) (trA_trans (ha.2.1 _ g.1 g.2) g3)
  · by_cases z : Y u
    · exact hy u a b z
    · obtain ⟨g, g2⟩ := h.2 u a b z
      obtain ⟨_, g3⟩ := h'.2 u a (by rw [← e13]; exact b) z
      exact stA2_trans (stA2_symm g2) (stA2_trans (ha.2.2 _ g.1 g.2) g3)
theorem trA_of {M F : Int → Int} {s9 t : Int} (hp : pts M s9 ≤ 12) (h : ∀ j : Int, 0 ≤ j → j < 37 → M (14 + 37 * s9 + j) = F (14 + 37 * t + j)) : trA M F s9 t := by
  have e : pts M s9 = pts F t := by
    have g := h 0 (by decide) (by decide)
    rw [Int.add_zero, Int.add_zero] at g
    exact g
  refine ⟨e, fun q a b => ?_⟩
  have c1 := cel_eq s9 q
  have c2 := cel_eq t q
  have g0 := h (1 + 3 * q) (by omega) (by omega)
  have g1 := h (2 + 3 * q) (by omega) (by omega)
  have g2 := h (3 + 3 * q) (by omega) (by omega)
  unfold frm
  rw [show cel s9 q = 14 + 37 * s9 + (1 + 3 * q) by omega, show cel t q = 14 + 37 * t + (1 + 3 * q) by omega, show 14 + 37 * s9 + (1 + 3 * q) + 1 = 14 + 37 * s9 + (2 + 3 * q) by omega, show 14 + 37 * s9 + (1 + 3 * q) + 2 = 14 + 37 * s9 + (3 + 3 * q) by omega, show 14 + 37 * t + (1 + 3 * q) + 1 = 14 + 37 * t + (2 + 3 * q) by omega, show 14 + 37 * t + (1 + 3 * q) + 2 = 14 + 37 * t + (3 + 3 * q) by omega]
  exact ⟨g0, g1, g2⟩
theorem trA_mO {P Q : Nat → Int → Int} {s9 t : Int} (a0 : 0 ≤ s9) (a1 : s9 < 12) (b0 : 0 ≤ t) (b1 : t < 12) (hp : P 1 s9 ≤ 12) (h : P 1 s9 = Q 1 t) (h2 : ∀ q : Int, 0 ≤ q → q < 12 → P 2 (12 * s9 + q) = Q 2 (12 * t + q) ∧ P 3 (12 * s9 + q) = Q 3 (12 * t + q) ∧ P 4 (12 * s9 + q) = Q 4 (12 * t + q)) : trA (mO P) (mO Q) s9 t := by
  refine ⟨by rw [mO_pts P a0 a1, mO_pts Q b0 b1]; exact h, fun q c d => ?_⟩
  rw [mO_pts P a0 a1] at d
  have e : q < 12 := by omega
  rw [mO_frm P a0 a1 c e, mO_frm Q b0 b1 c e, mO_x P a0 a1 c e, mO_x Q b0 b1 c e, mO_y P a0 a1 c e, mO_y Q b0 b1 c e]
  exact h2 q c e
theorem stA_mO {P Q : Nat → Int → Int} {s9 u : Int} (a0 : 0 ≤ s9) (b0 : 0 ≤ u) (h5 : P 5 s9 = Q 5 u) (h6 : P 6 s9 = Q 6 u) (h7 : P 7 s9 = Q 7 u) : stA2 (mO P) (mO Q) s9 u := by
  refine ⟨?_, ?_, ?_⟩
  · rw [mO_sr P a0, mO_sr Q b0]; exact h5
  · rw [mO_sa P a0, mO_sa Q b0]; exact h6
  · rw [mO_sb P a0, mO_sb Q b0]; exact h7
theorem hd_mO {F : Int → Int} {Q : Nat → Int → Int} (h : ∀ k : Int, 0 ≤ k → k < 10 → F k = Q 8 k) (h10 : F 10 = Q 0 2) (h11 : F 11 = Q 0 3) (h12 : F 12 = Q 0 0) (h13 : F 13 = Q 0 1) : ∀ k : Int, 0 ≤ k → k < 14 → F k = mO Q k := fun k a b => by
  by_cases z : k < 10
  · rw [mO_set Q z]; exact h k a z
  · rcases (show k = 10 ∨ k = 11 ∨ k = 12 ∨ k = 13 by omega) with q | q | q | q <;> subst q
    · rw [mO_10]; exact h10
    · rw [mO_11]; exact h11
    · rw [mO_12]; exact h12
    · rw [mO_13]; exact h13
theorem ag_hd {M : Int → Int} {P : Nat → Int → Int} (h : ag M (mO P)) : (∀ k : Int, 0 ≤ k → k < 10 → M k = P 8 k) ∧ (M 10 = P 0 2 ∧ M 11 = P 0 3) ∧ M 12 = P 0 0 ∧ M 13 = P 0 1 := by
  refine ⟨fun k a b => ?_, ⟨?_, ?_⟩, ?_, ?_⟩
  · rw [← mO_set P b]; exact h.1 k a (by omega)
  · rw [← mO_10 P]; exact h.1 10 (by decide) (by decide)
  · rw [← mO_11 P]; exact h.1 11 (by decide) (by decide)
  · rw [← mO_12 P]; exact h.1 12 (by decide) (by decide)
  · rw [← mO_13 P]; exact h.1 13 (by decide) (by decide)
theorem invS_of {M F : Int → Int} (h : InvS M) (e : ∀ k : Int, 0 ≤ k → k < 12 → F k = M k) (h12 : 0 ≤ F 12 ∧ F 12 ≤ 12) (h13 : 0 ≤ F 13 ∧ F 13 ≤ 12) : InvS F := by
  unfold InvS at h ⊢
  rw [e 0 (by decide) (by decide), e 1 (by decide) (by decide), e 2 (by decide) (by decide), e 3 (by decide) (by decide), e 4 (by decide) (by decide), e 5 (by decide) (by decide), e 6 (by decide) (by decide), e 7 (by decide) (by decide), e 8 (by decide) (by decide), e 9 (by decide) (by decide), e 10 (by decide) (by decide), e 11 (by decide) (by decide)]
  omega
abbrev noX : Int → Prop := fun _ => False
/-! a new trail -/
theorem at_hd (M : Int → Int) (h : 0 ≤ M 12) : (∀ k : Int, 0 ≤ k → k < 14 → k ≠ 12 → tAT M k = M k) ∧ tAT M 12 = M 12 + 1 := by
  unfold tAT
  refine ⟨fun k a b c => ?_, ups_eq _ _ _⟩
  rw [ups_ne _ _ c, ups_ne _ _ (by omega)]
theorem at_near {M : Int → Int} (hI : Inv M) (hlt : M 12 < 12) : near M (tAT M) (fun t => t) (fun u => u) (fun t => t = M 12) noX := by
  have h12 := inv_S12 hI
  obtain ⟨e1, e2⟩ := at_hd M h12.1.1
  refine ⟨fun t a b c => ?_, fun u a b _ => ?_⟩
  · have c : t ≠ M 12 := c
    (try dsimp only)
    rw [e2] at b
    refine ⟨⟨a, by omega⟩, trA_of (inv_pts hI a (by omega)).2 (fun j j0 j1 => ?_)⟩
    unfold tAT
    rw [ups_ne _ _ (by omega), ups_ne _ _ (by omega)]
  · rw [e1 13 (by decide) (by decide) (by decide)] at b
    refine ⟨⟨a, b⟩, ?_⟩
    unfold stA2 tAT
    rw [ups_ne _ _ (show 458 + 3 * u ≠ 12 by omega), ups_ne _ _ (show 458 + 3 * u ≠ 14 + 37 * M 12 by omega), ups_ne _ _ (show 458 + 3 * u + 1 ≠ 12 by omega), ups_ne _ _ (show 458 + 3 * u + 1 ≠ 14 + 37 * M 12 by omega), ups_ne _ _ (show 458 + 3 * u + 2 ≠ 12 by omega), ups_ne _ _ (show 458 + 3 * u + 2 ≠ 14 + 37 * M 12 by omega)]
    exact ⟨rfl, rfl, rfl⟩
theorem at_pts (M : Int → Int) (h : 0 ≤ M 12) : pts (tAT M) (M 12) = 0 := by
  unfold pts tAT
  rw [ups_ne _ _ (by omega), ups_eq]
theorem at_inv {M : Int → Int} (hI : Inv M) (h : M 12 < 12) : Inv (tAT M) := by
  have h12 := inv_S12 hI
  obtain ⟨e1, e2⟩ := at_hd M h12.1.1
  refine near_inv hI (at_near hI h) (invS_of hI.1 (fun k a b => e1 k a (by omega) (by omega)) (by omega) (by rw [e1 13 (by decide) (by decide) (by decide)]; omega)) (fun t a b c => ?_) (fun u a b c => absurd c id)
  subst c
  have e := at_pts M h12.1.1
  exact ⟨by omega, fun p g1 g2 => by omega⟩
def cAT (P : Nat → Int → Int) : Nat → Int → Int := upr (upr P 0 (ups (P 0) 0 (P 0 0 + 1))) 1 (ups (P 1) (P 0 0) 0)
theorem at_ag {M : Int → Int} {P : Nat → Int → Int} (hI : Inv M) (ha : ag M (mO P)) (h : M 12 < 12) : ag (tAT M) (mO (cAT P)) := by
  have h12 := inv_S12 hI
  have hI' := inv_A ha hI
  have hS := po_S hI'
  obtain ⟨e1, e2⟩ := at_hd M h12.1.1
  obtain ⟨a1, ⟨a2, a3⟩, a4, a5⟩ := ag_hd ha
  refine near_ag ha (at_near hI h) (tau := fun t => t) (sig := fun u => u) ⟨fun t a b c => ?_, fun u a b _ => ?_⟩ (hd_mO (fun k a b => (e1 k a (by omega) (by omega)).trans (a1 k a b)) ((e1 10 (by decide) (by decide) (by decide)).trans a2) ((e1 11 (by decide) (by decide) (by decide)).trans a3) ?_ ?_) (fun t a b c => ?_) (fun u a b c => absurd c id)
  · have c : t ≠ M 12 := c
    (try dsimp only)
    rw [mO_12] at b
    have b2 : t < P 0 0 + 1 := b
    have hp := po_pts hI' a (show t < P 0 0 by omega)
    refine ⟨⟨a, by rw [mO_12]; omega⟩, trA_mO a (by omega) a (by omega) hp.2 (ups_ne _ _ (by omega)).symm (fun q _ _ => ⟨rfl, rfl, rfl⟩)⟩
  · rw [mO_13] at b
    exact ⟨⟨a, by rw [mO_13]; exact b⟩, stA_mO a a rfl rfl rfl⟩
  · rw [e2, a4]; rfl
  · rw [e1 13 (by decide) (by decide) (by decide), a5]; rfl
  · subst c
    have e := at_pts M h12.1.1
    have e9 : pts (mO (cAT P)) (M 12) = 0 := by
      rw [mO_pts _ h12.1.1 h, a4]
      exact ups_eq _ _ _
    exact ⟨by rw [e, e9], fun q g1 g2 => by omega⟩
/-! a trail out -/
theorem rt_hd {M : Int → Int} {t : Int} (h0 : 0 ≤ t) : (∀ k : Int, 0 ≤ k → k < 14 → k ≠ 12 → tRT M t k = M k) ∧ tRT M t 12 = M 12 - 1 := by
  unfold tRT
  refine ⟨fun k a b c => ?_, ?_⟩
  · rw [shf_lo _ (by omega), ups_ne _ _ c]
  · rw [shf_lo _ (by omega), ups_eq]
theorem rt_near {M : Int → Int} {t : Int} (hI : Inv M) (h0 : 0 ≤ t) (h1 : t < M 12) : near M (tRT M t) (fun k => if k < t then k else k + 1) (fun u => u) noX noX := by
  have h12 := inv_S12 hI
  obtain ⟨e1, e2⟩ := rt_hd (M := M) h0
  refine ⟨fun k a b _ => ?_, fun u a b _ => ?_⟩
  · rw [e2] at b
    by_cases z : k < t
    · (try dsimp only)
      rw [if_pos z]
      refine ⟨⟨a, by omega⟩, trA_of (inv_pts hI a (by omega)).2 (fun j j0 j1 => ?_)⟩
      unfold tRT
      rw [shf_lo _ (by omega), ups_ne _ _ (by omega)]
    · (try dsimp only)
      rw [if_neg z]
      refine ⟨⟨by omega, by omega⟩, trA_of (inv_pts hI (show 0 ≤ k + 1 by omega) (by omega)).2 (fun j j0 j1 => ?_)⟩
      unfold tRT shf
      rw [if_pos (by omega), ups_ne _ _ (by omega)]
      congr 1
      omega
  · rw [e1 13 (by decide) (by decide) (by decide)] at b
    refine ⟨⟨a, b⟩, ?_⟩
    unfold stA2 tRT shf
    rw [if_neg (by omega), if_neg (by omega), if_neg (by omega), ups_ne _ _ (show 458 + 3 * u ≠ 12 by omega), ups_ne _ _ (show 458 + 3 * u + 1 ≠ 12 by omega), ups_ne _ _ (show 458 + 3 * u + 2 ≠ 12 by omega)]
    exact ⟨rfl, rfl, rfl⟩
theorem rt_inv {M : Int → Int} {t : Int} (hI : Inv M) (h0 : 0 ≤ t) (h1 : t < M 12) : Inv (tRT M t) := by
  have h12 := inv_S12 hI
  obtain ⟨e1, e2⟩ := rt_hd (M := M) h0
  exact near_inv hI (rt_near hI h0 h1) (invS_of hI.1 (fun k a b => e1 k a (by omega) (by omega)) (by omega) (by rw [e1 13 (by decide) (by decide) (by decide)]; omega)) (fun t a b c => absurd c id) (fun u a b c => absurd c id)
def cRT (P : Nat → Int → Int) (t : Int) : Nat → Int → Int := upr (upr (upr (upr (upr P 0 (ups (P 0) 0 (P 0 0 - 1))) 1 (shf (P 1) t (P 0 0 - 1) 1)) 2 (shf (P 2) (12 * t + 0) (12 * P 0 0 + 0 - 12) 12)) 3 (shf (P 3) (12 * t + 0) (12 * P 0 0 + 0 - 12) 12)) 4 (shf (P 4) (12 * t + 0) (12 * P 0 0 + 0 - 12) 12)
theorem shf_in (M : Int → Int) {lo hi d j k : Int} (h : lo ≤ j) (h2 : j < hi) (e : j + d = k) : shf M lo hi d j = M k := by
  unfold shf
  rw [if_pos ⟨h, h2⟩, e]
theorem shf_hi (M : Int → Int) {lo hi d j : Int} (h : hi ≤ j) : shf M lo hi d j = M j := by
  unfold shf
  rw [if_neg (by omega)]
theorem rt_ag {M : Int → Int} {P : Nat → Int → Int} {t : Int} (hI : Inv M) (ha : ag M (mO P)) (h0 : 0 ≤ t) (h1 : t < M 12) : ag (tRT M t) (mO (cRT P t)) := by
  have h12 := inv_S12 hI
  have hI' := inv_A ha hI
  have hS := po_S hI'
  obtain ⟨e1, e2⟩ := rt_hd (M := M) h0
  obtain ⟨a1, ⟨a2, a3⟩, a4, a5⟩ := ag_hd ha
  refine near_ag ha (rt_near hI h0 h1) (tau := fun k => if k < t then k else k + 1) (sig := fun u => u) ⟨fun k a b c => ?_, fun u a b _ => ?_⟩ (hd_mO (fun k a b => (e1 k a (by omega) (by omega)).trans (a1 k a b)) ((e1 10 (by decide) (by decide) (by decide)).trans a2) ((e1 11 (by decide) (by decide) (by decide)).trans a3) ?_ ?_) (fun t a b c => absurd c id) (fun u a b c => absurd c id)
  · rw [mO_12] at b
    have b2 : k < P 0 0 - 1 := b
    by_cases z : k < t
    · (try dsimp only)
      rw [if_pos z]
      have hp := po_pts hI' a (show k < P 0 0 by omega)
      refine ⟨⟨a, by rw [mO_12]; omega⟩, trA_mO a (by omega) a (by omega) hp.2 (shf_lo _ z).symm (fun q _ _ => ⟨(shf_lo _ (by omega)).symm, (shf_lo _ (by omega)).symm, (shf_lo _ (by omega)).symm⟩)⟩
    · (try dsimp only)
      rw [if_neg z]
      have hp := po_pts hI' (show 0 ≤ k + 1 by omega) (show k + 1 < P 0 0 by omega)
      refine ⟨⟨by omega, by rw [mO_12]; omega⟩, trA_mO (by omega) (by omega) a (by omega) hp.2 (shf_in _ (by omega) (by omega) rfl).symm (fun q _ _ => ⟨(shf_in _ (by omega) (by omega) (by omega)).symm, (shf_in _ (by omega) (by omega) (by omega)).symm, (shf_in _ (by omega) (by omega) (by omega)).symm⟩)⟩
  · rw [mO_13] at b
    exact ⟨⟨a, by rw [mO_13]; exact b⟩, stA_mO a a rfl rfl rfl⟩
  · rw [e2, a4]; rfl
  · rw [e1 13 (by decide) (by decide) (by decide), a5]; rfl
/-! a star out -/
theorem rs_hd {M : Int → Int} {u : Int} (h0 : 0 ≤ u) : (∀ k : Int, 0 ≤ k → k < 13 → tRS M u k = M k) ∧ tRS M u 13 = M 13 - 1 := by
  unfold tRS
  refine ⟨fun k a b => ?_, ?_⟩
  · rw [shf_lo _ (by omega), ups_ne _ _ (by omega)]
  · rw [shf_lo _ (by omega), ups_eq]
theorem rs_near {M : Int → Int} {u : Int} (hI : Inv M) (h0 : 0 ≤ u) (h1 : u < M 13) : near M (tRS M u) (fun t => t) (fun k => if k < u then k else k + 1) noX noX := by
  have h12 := inv_S12 hI
  obtain ⟨e1, e2⟩ := rs_hd (M := M) h0
  refine ⟨fun t a b _ => ?_, fun k a b _ => ?_⟩
  · rw [e1 12 (by decide) (by decide)] at b
    refine ⟨⟨a, b⟩, trA_of (inv_pts hI a b).2 (fun j j0 j1 => ?_)⟩
    unfold tRS
    rw [shf_lo _ (by omega), ups_ne _ _ (by omega)]
  · rw [e2] at b
    by_cases z : k < u
    · (try dsimp only)
      rw [if_pos z]
      refine ⟨⟨a, by omega⟩, ?_⟩
      unfold stA2 tRS
      rw [shf_lo _ (by omega), shf_lo _ (by omega), shf_lo _ (by omega), ups_ne _ _ (show 458 + 3 * k ≠ 13 by omega), ups_ne _ _ (show 458 + 3 * k + 1 ≠ 13 by omega), ups_ne _ _ (show 458 + 3 * k + 2 ≠ 13 by omega)]
      exact ⟨rfl, rfl, rfl⟩
    · (try dsimp only)
      rw [if_neg z]
      refine ⟨⟨by omega, by omega⟩, ?_⟩
      unfold stA2 tRS
      rw [shf_in _ (j := 458 + 3 * k) (k := 458 + 3 * (k + 1)) (by omega) (by omega) (by omega), shf_in _ (j := 458 + 3 * k + 1) (k := 458 + 3 * (k + 1) + 1) (by omega) (by omega) (by omega), shf_in _ (j := 458 + 3 * k + 2) (k := 458 + 3 * (k + 1) + 2) (by omega) (by omega) (by omega), ups_ne _ _ (show 458 + 3 * (k + 1) ≠ 13 by omega), ups_ne _ _ (show 458 + 3 * (k + 1) + 1 ≠ 13 by omega), ups_ne _ _ (show 458 + 3 * (k + 1) + 2 ≠ 13 by omega)]
      exact ⟨rfl, rfl, rfl⟩
theorem rs_inv {M : Int → Int} {u : Int} (hI : Inv M) (h0 : 0 ≤ u) (h1 : u < M 13) : Inv (tRS M u) := by
  have h12 := inv_S12 hI
  obtain ⟨e1, e2⟩ := rs_hd (M := M) h0
  exact near_inv hI (rs_near hI h0 h1) (invS_of hI.1 (fun k a b => e1 k a (by omega)) (by rw [e1 12 (by decide) (by decide)]; omega) (by omega)) (fun t a b c => absurd c id) (fun u a b c => absurd c id)
def cRS (P : Nat → Int → Int) (u : Int) : Nat → Int → Int := upr (upr (upr (upr P 0 (ups (P 0) 1 (P 0 1 - 1))) 5 (shf (P 5) u (P 0 1 - 1) 1)) 6 (shf (P 6) u (P 0 1 - 1) 1)) 7 (shf (P 7) u (P 0 1 - 1) 1)
theorem rs_ag {M : Int → Int} {P : Nat → Int → Int} {u : Int} (hI : Inv M) (ha : ag M (mO P)) (h0 : 0 ≤ u) (h1 : u < M 13) : ag (tRS M u) (mO (cRS P u)) := by
  have h12 := inv_S12 hI
  have hI' := inv_A ha hI
  have hS := po_S hI'
  obtain ⟨e1, e2⟩ := rs_hd (M := M) h0
  obtain ⟨a1, ⟨a2, a3⟩, a4, a5⟩ := ag_hd ha
  refine near_ag ha (rs_near hI h0 h1) (tau := fun t => t) (sig := fun k => if k < u then k else k + 1) ⟨fun t a b c => ?_, fun k a b _ => ?_⟩ (hd_mO (fun k a b => (e1 k a (by omega)).trans (a1 k a b)) ((e1 10 (by decide) (by decide)).trans a2) ((e1 11 (by decide) (by decide)).trans a3) ?_ ?_) (fun t a b c => absurd c id) (fun u a b c => absurd c id)
  · rw [mO_12] at b
    have b2 : t < P 0 0 := b
    have hp := po_pts hI' a b2
    (try dsimp only)
    exact ⟨⟨a, by rw [mO_12]; omega⟩, trA_mO a (by omega) a (by omega) hp.2 rfl (fun q _ _ => ⟨rfl, rfl, rfl⟩)⟩
  · rw [mO_13] at b
    have b2 : k < P 0 1 - 1 := b
    by_cases z : k < u
    · (try dsimp only)
      rw [if_pos z]
      exact ⟨⟨a, by rw [mO_13]; omega⟩, stA_mO a a (shf_lo _ z).symm (shf_lo _ z).symm (shf_lo _ z).symm⟩
    · (try dsimp only)
      rw [if_neg z]
      exact ⟨⟨by omega, by rw [mO_13]; omega⟩, stA_mO (by omega) a (shf_in _ (by omega) (by omega) rfl).symm (shf_in _ (by omega) (by omega) rfl).symm (shf_in _ (by omega) (by omega) rfl).symm⟩
  · rw [e1 12 (by decide) (by decide), a4]; rfl
  · rw [e2, a5]; rfl
/-! a new star -/
theorem as_hd {M : Int → Int} (x y z : Int) (h0 : 0 ≤ M 13) : (∀ k : Int, 0 ≤ k → k < 13 → tAS M x y z k = M k) ∧ tAS M x y z 13 = M 13 + 1 := by
  unfold tAS
  refine ⟨fun k a b => ?_, ups_eq _ _ _⟩
  rw [ups_ne _ _ (by omega), ups_ne _ _ (by omega), ups_ne _ _ (by omega), ups_ne _ _ (by omega)]
theorem as_new {M : Int → Int} (x y z : Int) (h0 : 0 ≤ M 13) : tAS M x y z (458 + 3 * M 13) = x ∧ tAS M x y z (458 + 3 * M 13 + 1) = y ∧ tAS M x y z (458 + 3 * M 13 + 2) = z := by
  unfold tAS
  refine ⟨?_, ?_, ?_⟩
  · rw [ups_ne _ _ (by omega), ups_ne _ _ (by omega), ups_ne _ _ (by omega), ups_eq]
  · rw [ups_ne _ _ (by omega), ups_ne _ _ (by omega), ups_eq]
  · rw [ups_ne _ _ (by omega), ups_eq]
theorem as_near {M : Int → Int} (x y z : Int) (hI : Inv M) : near M (tAS M x y z) (fun t => t) (fun k => k) noX (fun u => u = M 13) := by
  have h12 := inv_S12 hI
  obtain ⟨e1, e2⟩ := as_hd x y z h12.2.1
  refine ⟨fun t a b _ => ?_, fun k a b c => ?_⟩
  all_goals (try dsimp only)
  · rw [e1 12 (by decide) (by decide)] at b
    refine ⟨⟨a, b⟩, trA_of (inv_pts hI a b).2 (fun j j0 j1 => ?_)⟩
    unfold tAS
    rw [ups_ne _ _ (by omega), ups_ne _ _ (by omega), ups_ne _ _ (by omega), ups_ne _ _ (by omega)]
  · have c : k ≠ M 13 := c
    rw [e2] at b
    refine ⟨⟨a, by omega⟩, ?_⟩
    unfold tAS
    refine ⟨?_, ?_, ?_⟩
    · rw [ups_ne _ _ (by omega), ups_ne _ _ (by omega), ups_ne _ _ (by omega), ups_ne _ _ (by omega)]
    · rw [ups_ne _ _ (by omega), ups_ne _ _ (by omega), ups_ne _ _ (by omega), ups_ne _ _ (by omega)]
    · rw [ups_ne _ _ (by omega), ups_ne _ _ (by omega), ups_ne _ _ (by omega), ups_ne _ _ (by omega)]
theorem as_inv {M : Int → Int} {x y z : Int} (hI : Inv M) (h : starOK x y z) (h1 : M 13 < 12) : Inv (tAS M x y z) := by
  have h12 := inv_S12 hI
  obtain ⟨e1, e2⟩ := as_hd x y z h12.2.1
  obtain ⟨n1, n2, n3⟩ := as_new x y z h12.2.1
  refine near_inv hI (as_near x y z hI) (invS_of hI.1 (fun k a b => e1 k a (by omega)) (by rw [e1 12 (by decide) (by decide)]; omega) (by omega)) (fun t a b c => absurd c id) (fun u a b c => ?_)
  subst c
  unfold sOK
  rw [n1, n2, n3]
  unfold starOK at h
  omega
def cAS (P : Nat → Int → Int) (x y z : Int) : Nat → Int → Int := upr (upr (upr (upr P 0 (ups (P 0) 1 (P 0 1 + 1))) 5 (ups (P 5) (P 0 1) x)) 6 (ups (P 6) (P 0 1) y)) 7 (ups (P 7) (P 0 1) z)
theorem as_ag {M : Int → Int} {P : Nat → Int → Int} {x y z : Int} (hI : Inv M) (ha : ag M (mO P)) : ag (tAS M x y z) (mO (cAS P x y z)) := by
  have h12 := inv_S12 hI
  have hI' := inv_A ha hI
  have hS := po_S hI'
  obtain ⟨e1, e2⟩ := as_hd x y z h12.2.1
  obtain ⟨n1, n2, n3⟩ := as_new x y z h12.2.1
  obtain ⟨a1, ⟨a2, a3⟩, a4, a5⟩ := ag_hd ha
  refine near_ag ha (as_near x y z hI) (tau := fun t => t) (sig := fun k => k) ⟨fun t a b c => ?_, fun k a b c => ?_⟩ (hd_mO (fun k a b => (e1 k a (by omega)).trans (a1 k a b)) ((e1 10 (by decide) (by decide)).trans a2) ((e1 11 (by decide) (by decide)).trans a3) ?_ ?_) (fun t a b c => absurd c id) (fun u a b c => ?_)
  · rw [mO_12] at b
    have b2 : t < P 0 0 := b
    have hp := po_pts hI' a b2
    (try dsimp only)
    exact ⟨⟨a, by rw [mO_12]; omega⟩, trA_mO a (by omega) a (by omega) hp.2 rfl (fun q _ _ => ⟨rfl, rfl, rfl⟩)⟩
  · rw [mO_13] at b
    have b2 : k < P 0 1 + 1 := b
    have c : k ≠ M 13 := c
    (try dsimp only)
    exact ⟨⟨a, by rw [mO_13]; omega⟩, stA_mO a a (ups_ne _ _ (by omega)).symm (ups_ne _ _ (by omega)).symm (ups_ne _ _ (by omega)).symm⟩
  · rw [e1 12 (by decide) (by decide), a4]; rfl
  · rw [e2, a5]; rfl
  · subst c
    unfold stA2
    rw [n1, n2, n3, mO_sr _ a, mO_sa _ a, mO_sb _ a, a5]
    exact ⟨(ups_eq _ _ _).symm, (ups_eq _ _ _).symm, (ups_eq _ _ _).symm⟩
