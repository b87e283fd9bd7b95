/-! settings, the pole, the drift -/
theorem lo_near {M F : Int → Int} (hI : Inv M) (e : ∀ k : Int, 12 ≤ k → F k = M k) : near M F (fun t => t) (fun u => u) noX noX := by
  refine ⟨fun t a b _ => ?_, fun u a b _ => ?_⟩
  all_goals (try dsimp only)
  · rw [e 12 (by decide)] at b
    exact ⟨⟨a, b⟩, trA_of (inv_pts hI a b).2 (fun j j0 j1 => (e _ (by omega)).symm)⟩
  · rw [e 13 (by decide)] at b
    exact ⟨⟨a, b⟩, (e _ (by omega)).symm, (e _ (by omega)).symm, (e _ (by omega)).symm⟩
theorem lo_ag {M M' F F' : Int → Int} (hI : Inv M) (ha : ag M M') (e : ∀ k : Int, 12 ≤ k → F k = M k) (e' : ∀ k : Int, 12 ≤ k → F' k = M' k) (h : ∀ k : Int, 0 ≤ k → k < 12 → F k = F' k) : ag F F' :=
  near_ag ha (lo_near hI e) (lo_near (inv_A ha hI) e') (fun k a b => by
    by_cases z : k < 12
    · exact h k a z
    · rw [e k (by omega), e' k (by omega)]
      exact ha.1 k a b) (fun t a b c => absurd c id) (fun t a b c => absurd c id)
theorem st_inv {M : Int → Int} {w v : Int} (hI : Inv M) (h : setOK w v) : Inv (ups M w v) := by
  unfold setOK at h
  have lm := lm_tab w
  refine near_inv hI (lo_near hI (fun k a => ups_ne _ _ (by omega))) ?_ (fun t a b c => absurd c id) (fun t a b c => absurd c id)
  have hs := hI.1
  unfold InvS at hs ⊢
  rw [ups_ne M v (show (10 : Int) ≠ w by omega), ups_ne M v (show (11 : Int) ≠ w by omega), ups_ne M v (show (12 : Int) ≠ w by omega), ups_ne M v (show (13 : Int) ≠ w by omega)]
  unfold ups
  (repeat' split) <;> omega
theorem st_ag {M M' : Int → Int} {w : Int} (v : Int) (hI : Inv M) (ha : ag M M') (h : w < 12) : ag (ups M w v) (ups M' w v) :=
  lo_ag hI ha (fun k a => ups_ne _ _ (by omega)) (fun k a => ups_ne _ _ (by omega)) (fun k a b => by
    unfold ups
    split
    · rfl
    · exact ha.1 k a (by omega))
theorem po_ag {M M' : Int → Int} (x y : Int) (hI : Inv M) (ha : ag M M') : ag (tPo M x y) (tPo M' x y) :=
  lo_ag hI ha (fun k a => tPo_ne M x y (by omega) (by omega)) (fun k a => tPo_ne M' x y (by omega) (by omega)) (fun k a b => by
    unfold tPo ups
    (repeat' split) <;> first | rfl | exact ha.1 k a (by omega))
theorem dr_ag {M M' : Int → Int} (x y : Int) (hI : Inv M) (ha : ag M M') : ag (tDr M x y) (tDr M' x y) :=
  lo_ag hI ha (fun k a => tDr_e M x y (by omega) (by omega)) (fun k a => tDr_e M' x y (by omega) (by omega)) (fun k a b => by
    unfold tDr ups
    (repeat' split) <;> first | rfl | exact ha.1 k a (by omega))
theorem mO_ups (P : Nat → Int → Int) {w : Int} (v : Int) (h : w < 10) : mO (upr P 8 (ups (P 8) w v)) = ups (mO P) w v := by
  funext k
  by_cases z : k = w
  · subst z
    rw [mO_set _ h, ups_eq]
    exact ups_eq _ _ _
  · rw [ups_ne _ _ z]
    unfold mO
    by_cases y : k < 10
    · rw [if_pos y, if_pos y]
      exact ups_ne _ _ z
    · rw [if_neg y, if_neg y]
      rfl
/-! the searches on alike plates -/
theorem lkA {M M' : Int → Int} (hI : Inv M) (ha : ag M M') (s9 x0 y0 : Int) : ∀ n : Nat, lkR M s9 x0 y0 n = lkR M' s9 x0 y0 n
  | 0 => rfl
  | n + 1 => by
    have e10 := ha.1 10 (by decide) (by decide)
    have e11 := ha.1 11 (by decide) (by decide)
    have e1 : nbOK M s9 n ↔ nbOK M' s9 n := by unfold nbOK; rw [e10, e11]
    have e2 : nbC M s9 n = nbC M' s9 n := by
      unfold nbC
      rw [e10, e11]
      exact pcA (po_ag _ _ hI ha)
    unfold lkR
    rw [← lkA hI ha s9 x0 y0 n, ← e2, ← e10, ← e11]
    by_cases z : nbOK M s9 n ∧ ((lkR M s9 x0 y0 n).2.2 = -1000000000 ∨ nbC M s9 n < (lkR M s9 x0 y0 n).2.2)
    · rw [if_pos z, if_pos ⟨e1.mp z.1, z.2⟩]
    · rw [if_neg z, if_neg (fun y => z ⟨e1.mpr y.1, y.2⟩)]
theorem srA : ∀ (f : Nat) (M M' : Int → Int) (s9 : Int), Inv M → ag M M' → (ag (srF f M s9).1 (srF f M' s9).1 ∧ Inv (srF f M s9).1) ∧ (srF f M s9).2 = (srF f M' s9).2
  | 0, M, M', s9, hI, ha => ⟨⟨ha, hI⟩, rfl⟩
  | f + 1, M, M', s9, hI, ha => by
    have e1 : lkc M s9 = lkc M' s9 := lkA hI ha s9 0 0 9
    have e2 : lkOK M s9 ↔ lkOK M' s9 := by unfold lkOK; rw [e1, pcA ha]
    rw [srF_s, srF_s]
    by_cases z : s9 ≤ 0
    · rw [if_pos z, if_pos z]
      exact ⟨⟨ha, hI⟩, rfl⟩
    · rw [if_neg z, if_neg z]
      by_cases y : lkOK M s9
      · rw [if_pos y, if_pos (e2.mp y), ← e1]
        have q := lkOK_of (M := M) (s := s9) (x0 := 0) (y0 := 0) (a := (lkc M s9).1) (b := (lkc M s9).2.1) (c := (lkc M s9).2.2) rfl
        rcases q with ⟨_, q⟩ | ⟨_, q2, q3, _⟩
        · exact absurd y q
        · have g := srA f (tPo M (lkc M s9).1 (lkc M s9).2.1) (tPo M' (lkc M s9).1 (lkc M s9).2.1) s9 (inv_tPo hI q2) (po_ag _ _ hI ha)
          exact ⟨g.1, by show (srF f _ s9).2 + 1 = (srF f _ s9).2 + 1; rw [g.2]⟩
      · rw [if_neg y, if_neg (fun q => y (e2.mpr q))]
        exact srA f M M' (s9 / 2) hI ha
theorem srchA {M M' : Int → Int} (s9 : Int) (hI : Inv M) (ha : ag M M') : (ag (srch M s9).1 (srch M' s9).1 ∧ Inv (srch M s9).1) ∧ (srch M s9).2 = (srch M' s9).2 := srA 200000 M M' s9 hI ha
theorem bdA {M M' : Int → Int} (hI : Inv M) (ha : ag M M') (q : Int) : ∀ n : Nat, bdI M q n = bdI M' q n
  | 0 => rfl
  | n + 1 => by
    have eu : bdU M q n = bdU M' q n := by unfold bdU; rw [ha.1 1 (by decide) (by decide)]
    have ev : bdV M q n = bdV M' q n := by unfold bdV; rw [ha.1 2 (by decide) (by decide)]
    unfold bdI
    rw [← bdA hI ha q n, ← eu, ← ev, pcA (dr_ag (bdU M q n) (bdV M q n) hI ha)]
theorem bdFA {M M' : Int → Int} (q : Int) (hI : Inv M) (ha : ag M M') : bdF M q = bdF M' q := by unfold bdF; rw [bdA hI ha]
theorem bzA {M M' : Int → Int} (hI : Inv M) (ha : ag M M') : ∀ n : Nat, (n : Int) ≤ M 13 * M 12 → bzI M n = bzI M' n
  | 0, _ => rfl
  | n + 1, hn => by
    have h12 := inv_S12 hI
    have hb := bz_pos (k := (n : Int)) (x := M 13) (y := M 12) (by omega) h12.2.1 (by omega)
    have ih := bzA hI ha n (by omega)
    have e := ag_12 ha
    unfold bzI
    rw [← e.2, ← ptA ha hb.2.1.1 hb.2.1.2, ← ih]
    by_cases z : pts M ((n : Int) / M 13) = 0
    · rw [if_pos z, if_pos z]
    · rw [if_neg z, if_neg z]
      have hp := inv_pts hI hb.2.1.1 hb.2.1.2
      have ez : zfor M ((n : Int) / M 13) ((n : Int) % M 13) = zfor M' ((n : Int) / M 13) ((n : Int) % M 13) := by
        unfold zfor
        rw [(rdA ha hb.2.1.1 hb.2.1.2 (Int.le_refl 0) (by omega)).2, (frA ha hb.2.1.1 hb.2.1.2 (Int.le_refl 0) (by omega)).1, (ha.2.2 _ hb.2.2.1 hb.2.2.2).2.1, ha.1 0 (by decide) (by decide)]
      unfold bzN
      rw [ez, matA ha]
theorem bzFA {M M' : Int → Int} (hI : Inv M) (ha : ag M M') : bzF M = bzF M' := by
  have h12 := inv_S12 hI
  have hn : 0 ≤ M 13 * M 12 := Int.mul_nonneg h12.2.1 h12.1.1
  unfold bzF
  rw [← (ag_12 ha).1, ← (ag_12 ha).2, bzA hI ha _ (by omega)]
theorem mrtA {M M' : Int → Int} (hI : Inv M) (ha : ag M M') : mrt M = mrt M' := by
  have e1 : mrS M (M 12) = mrS M' (M 12) := by
    unfold mrS
    exact sumZ_congr (fun t a b => by
      (try dsimp only)
      by_cases z : isGoodP M t
      · rw [if_pos z, if_pos ((gdA ha a b).mp z), swpA ha a b]
      · rw [if_neg z, if_neg (fun y => z ((gdA ha a b).mpr y))])
  have e2 : mrB M (M 12) = mrB M' (M 12) := by
    unfold mrB
    exact sumZ_congr (fun t a b => by
      (try dsimp only)
      by_cases z : isGoodP M t
      · rw [if_pos z, if_pos ((gdA ha a b).mp z), fspA ha a b (by have := z.1; omega)]
      · rw [if_neg z, if_neg (fun y => z ((gdA ha a b).mpr y))])
  unfold mrt
  rw [← (ag_12 ha).1, e1, e2]
theorem mscA {M M' : Int → Int} (hI : Inv M) (ha : ag M M') : msc M = msc M' := by
  have h12 := inv_S12 hI
  have hm := mat_ok (M 8) hI
  have e8 := ha.1 8 (by decide) (by decide)
  have e1 : scS M (M 12) = scS M' (M 12) := by
    unfold scS
    exact sumZ_congr (fun t a b => by
      (try dsimp only)
      rw [← e8, ← matA ha, rdTA ha a b])
  have e2 : scB M (M 12) = scB M' (M 12) := by
    unfold scB
    exact sumZ_congr (fun t a b => by
      (try dsimp only)
      rw [← e8, ← matA ha]
      by_cases z : (mat M (M 8)).1 t = -1000000000
      · rw [if_pos z, if_pos z]
      · rw [if_neg z, if_neg z]
        have w := hm.1 t a (by omega)
        exact (ha.2.2 _ (by omega) (by omega)).1)
  unfold msc
  rw [← (ag_12 ha).1, e1, e2]
theorem missA {M M' : Int → Int} (ha : ag M M') {u : Int} (TR : Int → Int) (h0 : 0 ≤ u) (h1 : u < M 13) : missN M TR u = missN M' TR u := by
  unfold missN missP
  rw [ha.1 9 (by decide) (by decide), (ha.2.2 u h0 h1).2.2]
theorem misFA {M M' : Int → Int} (idx : Int) (hI : Inv M) (ha : ag M M') : misF M idx = misF M' idx := by
  have h12 := inv_S12 hI
  unfold misF
  rw [← ha.1 8 (by decide) (by decide), ← matA ha, ← (ag_12 ha).2]
  exact msI_congr _ _ _ (fun k a b => missA ha _ a (by omega))
theorem ovA {M M' : Int → Int} (w : Int) (ha : ag M M') : ovT M w = ovT M' w := by
  unfold ovT
  rw [← (ag_12 ha).1]
  exact sumZ_congr (fun t a b => by
    (try dsimp only)
    rw [ptA ha a b, gapA ha a b, gdNA ha a b])
theorem whA {M M' : Int → Int} (w : Int) (ha : ag M M') : whW M w = whW M' w := by
  have e : missC M (mat M (M 8)).2.1 = missC M' (mat M (M 8)).2.1 := by
    unfold missC
    rw [← (ag_12 ha).2]
    exact sumZ_congr (fun u a b => missA ha _ a b)
  unfold whW whV
  rw [← ha.1 8 (by decide) (by decide), ← matA ha, ← e, ← ovA w ha, ← pcA ha, ← (ag_12 ha).1, ← (ag_12 ha).2, ← ha.1 10 (by decide) (by decide), ← ha.1 11 (by decide) (by decide)]
/-! commands on alike plates -/
theorem ftA {M M' : Int → Int} {k : Int} (A : Int → Int) (ha : ag M M') (hk : 0 ≤ k ∧ k ≤ 6) : ftV M k A = ftV M' k A := by
  have e1 : ftP M (A 0) (A 1) (A 2) (A 3) = ftP M' (A 0) (A 1) (A 2) (A 3) := by
    have e12 := (ag_12 ha).1
    by_cases z : 0 ≤ A 0 ∧ A 0 < M 12
    · have ep := ptA ha z.1 z.2
      have eh := hasA ha z.1 z.2 (A 1)
      by_cases y : pointOK (A 1) (A 2) (A 3)
      · by_cases w : pts M (A 0) = 12 ∨ hasF M (A 0) (A 1)
        · rw [ftP_3 ⟨⟨z, y⟩, w⟩, ftP_3 ⟨⟨by rw [← e12]; exact z, y⟩, by rw [← ep]; rcases w with q | q; exact Or.inl q; exact Or.inr (eh.mp q)⟩]
        · unfold ftP
          rw [if_pos z, if_pos y, if_neg w, if_pos (by rw [← e12]; exact z), if_pos y, if_neg (fun q => w (by rcases q with q | q; exact Or.inl (ep.trans q); exact Or.inr (eh.mpr q)))]
      · rw [ftP_2 ⟨z, y⟩, ftP_2 ⟨by rw [← e12]; exact z, y⟩]
    · rw [ftP_1 z, ftP_1 (by rw [← e12]; exact z)]
  have e2 : ftS M (A 0) (A 1) (A 2) = ftS M' (A 0) (A 1) (A 2) := by unfold ftS; rw [(ag_12 ha).2]
  unfold ftV
  rw [e1, e2, (ag_12 ha).1]
theorem ft_y {c : Prop} (h : okV c = 0) : c := by
  by_cases z : c
  · exact z
  · rw [okV_n z] at h
    exact absurd h (by decide)
theorem ftP_y {M : Int → Int} {t f x y : Int} (hp : pts M t ≤ 12) (h : ftP M t f x y = 0) : ((0 ≤ t ∧ t < M 12) ∧ pointOK f x y) ∧ (pts M t < 12 ∧ ¬ hasF M t f) := by
  by_cases z : 0 ≤ t ∧ t < M 12
  · by_cases y9 : pointOK f x y
    · by_cases w : pts M t = 12 ∨ hasF M t f
      · rw [ftP_3 ⟨⟨z, y9⟩, w⟩] at h
        exact absurd h (by decide)
      · exact ⟨⟨z, y9⟩, by have : pts M t ≠ 12 := fun q => w (Or.inl q); omega, fun q => w (Or.inr q)⟩
    · rw [ftP_2 ⟨z, y9⟩] at h
      exact absurd h (by decide)
  · rw [ftP_1 z] at h
    exact absurd h (by decide)
theorem ftS_y {M : Int → Int} {x y z : Int} (hI : Inv M) (h : ftS M x y z = 0) : starOK x y z ∧ M 13 < 12 := by
  have h12 := inv_S12 hI
  by_cases w : starOK x y z
  · by_cases q : M 13 = 12
    · rw [ftS_3 ⟨w, q⟩] at h
      exact absurd h (by decide)
    · exact ⟨w, by omega⟩
  · rw [ftS_2 w] at h
    exact absurd h (by decide)
theorem ef_inv {M : Int → Int} {k : Int} {A : Int → Int} (hI : Inv M) (hk : 0 ≤ k ∧ k ≤ 6) (h : ftV M k A = 0) : Inv (efM M k A) := by
  have h12 := inv_S12 hI
  rcases ftV_01 M A hk with ⟨_, e, g⟩ | ⟨_, e, g⟩ | ⟨_, e, g⟩ | ⟨_, e, g⟩ | ⟨_, e, g⟩ | ⟨_, e, g⟩ | ⟨_, e, g⟩ <;> rw [e] at h <;> rw [g]
  · refine at_inv hI ?_
    by_cases z : M 12 = 12
    · rw [if_pos z] at h
      exact absurd h (by decide)
    · omega
  · by_cases z : 0 ≤ A 0 ∧ A 0 < M 12
    · have q := ftP_y (inv_pts hI z.1 z.2).2 h
      exact ap_inv hI z.1 z.2 q.2.1 q.2.2 q.1.2
    · rw [ftP_1 z] at h
      exact absurd h (by decide)
  · have q := ftS_y hI h
    exact as_inv hI q.1 q.2
  · exact inv_tPo hI (ft_y h)
  · exact st_inv hI (ft_y h)
  · exact st_inv hI (ft_y h)
  · exact (srchA (A 0) hI (ag_refl M)).1.2
