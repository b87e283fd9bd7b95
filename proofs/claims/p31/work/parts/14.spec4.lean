/-! matches -/
def cnd (M : Int → Int) (z : Int) (SO TR : Int → Int) (k : Int) : Prop := (0 ≤ k ∧ k < 12 * M 12) ∧ k % 12 < M 13 ∧ 0 < pts M (k / 12) ∧ SO (k / 12) = -1000000000 ∧ TR (k % 12) = -1000000000 ∧ cstZ M z (k / 12) (k % 12) ≤ M 5
noncomputable def cstK (M : Int → Int) (z k : Int) : Int := cstZ M z (k / 12) (k % 12)
def bst (M : Int → Int) (z : Int) (SO TR : Int → Int) (k : Int) : Prop := cnd M z SO TR k ∧ ∀ j : Int, cnd M z SO TR j → cstK M z k < cstK M z j ∨ (cstK M z k = cstK M z j ∧ k ≤ j)
noncomputable def pick (M : Int → Int) (z : Int) (SO TR : Int → Int) : Int := @dite _ (∃ k, bst M z SO TR k) (Classical.propDecidable _) (fun h => Classical.choose h) (fun _ => -1000000000)
theorem pick_some {M : Int → Int} {z : Int} {SO TR : Int → Int} {k : Int} (h : bst M z SO TR k) : pick M z SO TR = k := by
  have hx : ∃ k, bst M z SO TR k := ⟨k, h⟩
  have e : pick M z SO TR = Classical.choose hx := dif_pos hx
  have hc := Classical.choose_spec hx
  have a := hc.2 k h.1
  have b := h.2 _ hc.1
  rw [e]
  omega
theorem pick_none {M : Int → Int} {z : Int} {SO TR : Int → Int} (h : ∀ k, ¬ cnd M z SO TR k) : pick M z SO TR = -1000000000 := dif_neg (fun ⟨k, hk⟩ => h k hk.1)
theorem cnd_congr {M : Int → Int} {z : Int} {SO TR SO' TR' : Int → Int} (h12 : M 12 ≤ 12) (hs : ∀ k : Int, 0 ≤ k → k < 12 → SO k = SO' k) (ht : ∀ k : Int, 0 ≤ k → k < 12 → TR k = TR' k) (k : Int) (h : cnd M z SO TR k) : cnd M z SO' TR' k := by
  obtain ⟨h1, h2, h3, h4, h5, h6⟩ := h
  exact ⟨h1, h2, h3, by rw [← hs _ (by omega) (by omega)]; exact h4, by rw [← ht _ (by omega) (by omega)]; exact h5, h6⟩
theorem pick_congr {M : Int → Int} {z : Int} {SO TR SO' TR' : Int → Int} (h12 : M 12 ≤ 12) (hs : ∀ k : Int, 0 ≤ k → k < 12 → SO k = SO' k) (ht : ∀ k : Int, 0 ≤ k → k < 12 → TR k = TR' k) : pick M z SO TR = pick M z SO' TR' := by
  have e : cnd M z SO TR = cnd M z SO' TR' := by
    funext k
    exact propext ⟨cnd_congr h12 hs ht k, cnd_congr h12 (fun k a b => (hs k a b).symm) (fun k a b => (ht k a b).symm) k⟩
  have e2 : bst M z SO TR = bst M z SO' TR' := by
    funext k
    unfold bst
    rw [e]
  unfold pick
  rw [e2]
/-- the least pair among those below k -/
def bto (M : Int → Int) (z : Int) (SO TR : Int → Int) (k b : Int) : Prop := (b = -1000000000 ∧ ∀ j : Int, j < k → ¬ cnd M z SO TR j) ∨ ((0 ≤ b ∧ b < k) ∧ cnd M z SO TR b ∧ ∀ j : Int, j < k → cnd M z SO TR j → cstK M z b < cstK M z j ∨ (cstK M z b = cstK M z j ∧ b ≤ j))
theorem bto_0 (M : Int → Int) (z : Int) (SO TR : Int → Int) : bto M z SO TR 0 (-1000000000) := Or.inl ⟨rfl, fun j hj h => by have := h.1.1; omega⟩
theorem bto_no {M : Int → Int} {z : Int} {SO TR : Int → Int} {k b : Int} (h : bto M z SO TR k b) (hn : ¬ cnd M z SO TR k) : bto M z SO TR (k + 1) b := by
  rcases h with ⟨h1, h2⟩ | ⟨h1, h2, h3⟩
  · refine Or.inl ⟨h1, fun j hj hc => ?_⟩
    by_cases e : j = k
    · subst e; exact hn hc
    · exact h2 j (by omega) hc
  · refine Or.inr ⟨by omega, h2, fun j hj hc => ?_⟩
    by_cases e : j = k
    · subst e; exact absurd hc hn
    · exact h3 j (by omega) hc
theorem bto_new {M : Int → Int} {z : Int} {SO TR : Int → Int} {k b : Int} (h : bto M z SO TR k b) (hk : cnd M z SO TR k) (hb : b = -1000000000 ∨ cstK M z k < cstK M z b) : bto M z SO TR (k + 1) k := by
  have hk0 := hk.1.1
  rcases h with ⟨h1, h2⟩ | ⟨h1, h2, h3⟩
  · refine Or.inr ⟨by omega, hk, fun j hj hc => ?_⟩
    by_cases e : j = k
    · subst e; exact Or.inr ⟨rfl, Int.le_refl _⟩
    · exact absurd hc (h2 j (by omega))
  · refine Or.inr ⟨by omega, hk, fun j hj hc => ?_⟩
    by_cases e : j = k
    · subst e; exact Or.inr ⟨rfl, Int.le_refl _⟩
    · have := h3 j (by omega) hc
      omega
theorem bto_old {M : Int → Int} {z : Int} {SO TR : Int → Int} {k b : Int} (h : bto M z SO TR k b) (hb : b ≠ -1000000000) (hc2 : cstK M z b ≤ cstK M z k) : bto M z SO TR (k + 1) b := by
  rcases h with ⟨h1, h2⟩ | ⟨h1, h2, h3⟩
  · exact absurd h1 hb
  · refine Or.inr ⟨by omega, h2, fun j hj hc => ?_⟩
    by_cases e : j = k
    · subst e; omega
    · exact h3 j (by omega) hc
theorem bto_end {M : Int → Int} {z : Int} {SO TR : Int → Int} {k b : Int} (h : bto M z SO TR k b) (hk : 12 * M 12 ≤ k) : pick M z SO TR = b ∧ (b ≠ -1000000000 → cnd M z SO TR b) := by
  rcases h with ⟨h1, h2⟩ | ⟨h1, h2, h3⟩
  · exact ⟨by rw [h1]; exact pick_none (fun j hc => h2 j (by have := hc.1.2; omega) hc), fun z => absurd h1 z⟩
  · exact ⟨pick_some ⟨h2, fun j hc => h3 j (by have := hc.1.2; omega) hc⟩, fun _ => h2⟩
theorem bto_pr {M : Int → Int} {z : Int} {SO TR : Int → Int} {k b : Int} (h : bto M z SO TR k b) (hk : 0 ≤ k) : (b = -1000000000) ∨ (0 ≤ b ∧ b < k) := by
  rcases h with ⟨h1, h2⟩ | ⟨h1, h2, h3⟩
  · exact Or.inl h1
  · exact Or.inr h1
theorem pick_cases (M : Int → Int) (z : Int) (SO TR : Int → Int) : (pick M z SO TR = -1000000000 ∧ ∀ k, ¬ bst M z SO TR k) ∨ bst M z SO TR (pick M z SO TR) := by
  by_cases h : ∃ k, bst M z SO TR k
  · obtain ⟨k, hk⟩ := h
    rw [pick_some hk]
    exact Or.inr hk
  · exact Or.inl ⟨dif_neg h, fun k hk => h ⟨k, hk⟩⟩
noncomputable def matN (M : Int → Int) (z : Int) (S : (Int → Int) × (Int → Int) × Int × Int) : (Int → Int) × (Int → Int) × Int × Int :=
  if pick M z S.1 S.2.1 = -1000000000 then S else (ups S.1 (pick M z S.1 S.2.1 / 12) (pick M z S.1 S.2.1 % 12), ups S.2.1 (pick M z S.1 S.2.1 % 12) (pick M z S.1 S.2.1 / 12), S.2.2.1 + 1, S.2.2.2 + cstK M z (pick M z S.1 S.2.1))
noncomputable def matS (M : Int → Int) (z : Int) : Nat → (Int → Int) × (Int → Int) × Int × Int
  | 0 => (fun _ => -1000000000, fun _ => -1000000000, 0, 0)
  | n + 1 => matN M z (matS M z n)
noncomputable def mat (M : Int → Int) (z : Int) : (Int → Int) × (Int → Int) × Int × Int := matS M z 12
theorem matS_stop {M : Int → Int} {z : Int} {n : Nat} (h : pick M z (matS M z n).1 (matS M z n).2.1 = -1000000000) : ∀ i : Nat, matS M z (n + i) = matS M z n
  | 0 => rfl
  | i + 1 => by
    have ih := matS_stop h i
    show matN M z (matS M z (n + i)) = matS M z n
    rw [ih]
    unfold matN
    rw [if_pos h]
theorem mat_of {M : Int → Int} {z : Int} {n : Nat} (hn : n ≤ 12) (h : pick M z (matS M z n).1 (matS M z n).2.1 = -1000000000) : mat M z = matS M z n := by
  have e := matS_stop h (12 - n)
  rw [show n + (12 - n) = 12 by omega] at e
  exact e
theorem matS_go {M : Int → Int} {z : Int} {n : Nat} {b : Int} (hb : pick M z (matS M z n).1 (matS M z n).2.1 = b) (h : b ≠ -1000000000) : matS M z (n + 1) = (ups (matS M z n).1 (b / 12) (b % 12), ups (matS M z n).2.1 (b % 12) (b / 12), (matS M z n).2.2.1 + 1, (matS M z n).2.2.2 + cstK M z b) := by
  show matN M z (matS M z n) = _
  unfold matN
  rw [hb, if_neg h]
/-- how many of the first n places of a row are taken -/
def tkn (f : Int → Int) (n : Int) : Int := sumZ (fun k => if f k = -1000000000 then 0 else 1) n
theorem sumI_upd {f g : Int → Int} {i : Int} (h : ∀ k : Int, k ≠ i → f k = g k) : ∀ n : Nat, sumI f n - sumI g n = if 0 ≤ i ∧ i < (n : Int) then f i - g i else 0
  | 0 => by
    rw [if_neg (by omega)]
    rfl
  | n + 1 => by
    have ih := sumI_upd h n
    show sumI f n + f n - (sumI g n + g n) = _
    by_cases e : (n : Int) = i
    · rw [if_neg (by omega)] at ih
      rw [if_pos (by omega)]
      rw [e]
      omega
    · have hh := h n e
      by_cases q : 0 ≤ i ∧ i < (n : Int)
      · rw [if_pos q] at ih
        rw [if_pos (by omega)]
        omega
      · rw [if_neg q] at ih
        rw [if_neg (by omega)]
        omega
theorem tkn_ups {f : Int → Int} {n i v : Int} (h0 : 0 ≤ i) (h1 : i < n) (hf : f i = -1000000000) (hv : v ≠ -1000000000) : tkn (ups f i v) n = tkn f n + 1 := by
  have h := sumI_upd (f := fun k => if ups f i v k = -1000000000 then (0 : Int) else 1) (g := fun k => if f k = -1000000000 then (0 : Int) else 1) (i := i) (fun k hk => by (try dsimp only); rw [ups_ne _ _ hk]) n.toNat
  rw [if_pos (by omega)] at h
  (try dsimp only at h)
  rw [ups_eq, if_neg hv, if_pos hf] at h
  unfold tkn sumZ
  omega
theorem tkn_bd (f : Int → Int) {n : Int} (h : 0 ≤ n) : 0 ≤ tkn f n ∧ tkn f n ≤ n := by
  have a := sumZ_bd (f := fun k => if f k = -1000000000 then (0 : Int) else 1) (lo := 0) (hi := 1) (p := n) h (fun k _ _ => by (try dsimp only); split <;> omega)
  unfold tkn
  omega
theorem tkn_full {f : Int → Int} : ∀ n : Nat, tkn f (n : Int) = (n : Int) → ∀ k : Int, 0 ≤ k → k < (n : Int) → f k ≠ -1000000000
  | 0, _, k, h0, h1 => by omega
  | n + 1, h, k, h0, h1 => by
    have e : tkn f ((n + 1 : Nat) : Int) = tkn f (n : Int) + (if f n = -1000000000 then 0 else 1) := by
      have := sumZ_s (fun k => if f k = -1000000000 then (0 : Int) else 1) (p := (n : Int)) (by omega)
      unfold tkn
      rw [show ((n + 1 : Nat) : Int) = (n : Int) + 1 by omega, this]
    have b := tkn_bd f (n := (n : Int)) (by omega)
    rw [e] at h
    by_cases z : f n = -1000000000
    · rw [if_pos z] at h
      omega
    · rw [if_neg z] at h
      by_cases q : k = (n : Int)
      · rw [q]; exact z
      · exact tkn_full n (by omega) k h0 (by omega)
/-- what holds of the matches after n rounds -/
def matW (M : Int → Int) (S : (Int → Int) × (Int → Int) × Int × Int) : Prop :=
  (∀ k : Int, 0 ≤ k → k < 12 → S.1 k = -1000000000 ∨ (0 ≤ S.1 k ∧ S.1 k < M 13)) ∧ (∀ k : Int, 0 ≤ k → k < 12 → S.2.1 k = -1000000000 ∨ (0 ≤ S.2.1 k ∧ S.2.1 k < M 12 ∧ 0 < pts M (S.2.1 k))) ∧ (∀ k : Int, 0 ≤ k → k < 12 → S.1 k ≠ -1000000000 → k < M 12 ∧ 0 < pts M k ∧ S.2.1 (S.1 k) = k) ∧ (∀ k : Int, 0 ≤ k → k < 12 → S.2.1 k ≠ -1000000000 → k < M 13 ∧ S.1 (S.2.1 k) = k)
theorem matW_0 (M : Int → Int) (z : Int) : matW M (matS M z 0) := ⟨fun k _ _ => Or.inl rfl, fun k _ _ => Or.inl rfl, fun k _ _ h => absurd rfl h, fun k _ _ h => absurd rfl h⟩
theorem pick_ok {M : Int → Int} {z : Int} {SO TR : Int → Int} (hI : Inv M) (h : pick M z SO TR ≠ -1000000000) : cnd M z SO TR (pick M z SO TR) ∧ ((0 ≤ pick M z SO TR / 12 ∧ pick M z SO TR / 12 < M 12) ∧ 0 ≤ pick M z SO TR % 12 ∧ pick M z SO TR % 12 < M 13) := by
  rcases pick_cases M z SO TR with ⟨h1, _⟩ | h1
  · exact absurd h1 h
  · have a := h1.1.1
    have b := h1.1.2.1
    exact ⟨h1.1, by omega, by omega, b⟩
theorem matW_s {M : Int → Int} {z : Int} {S : (Int → Int) × (Int → Int) × Int × Int} (hI : Inv M) (h : matW M S) : matW M (matN M z S) := by
  unfold matN
  by_cases e : pick M z S.1 S.2.1 = -1000000000
  · rw [if_pos e]; exact h
  · rw [if_neg e]
    obtain ⟨hc, ht, hu⟩ := pick_ok hI e
    generalize pick M z S.1 S.2.1 = b at hc ht hu e
    obtain ⟨_, _, hp, hs1, ht1, _⟩ := hc
    generalize hq : b / 12 = q at ht hp hs1
    generalize hr : b % 12 = r at hu ht1
    obtain ⟨w1, w2, w3, w4⟩ := h
    have h12 := inv_S12 hI
    refine ⟨fun k k0 k1 => ?_, fun k k0 k1 => ?_, fun k k0 k1 hk => ?_, fun k k0 k1 hk => ?_⟩
    · show ups S.1 q r k = _ ∨ (0 ≤ ups S.1 q r k ∧ ups S.1 q r k < M 13)
      by_cases z1 : k = q
      · rw [z1, ups_eq]; exact Or.inr hu
      · rw [ups_ne _ _ z1]; exact w1 k k0 k1
    · show ups S.2.1 r q k = _ ∨ (0 ≤ ups S.2.1 r q k ∧ ups S.2.1 r q k < M 12 ∧ 0 < pts M (ups S.2.1 r q k))
      by_cases z1 : k = r
      · rw [z1, ups_eq]; exact Or.inr ⟨ht.1, ht.2, hp⟩
      · rw [ups_ne _ _ z1]; exact w2 k k0 k1
    · show k < M 12 ∧ 0 < pts M k ∧ ups S.2.1 r q (ups S.1 q r k) = k
      by_cases z1 : k = q
      · rw [z1, ups_eq, ups_eq]; exact ⟨ht.2, hp, rfl⟩
      · have hk2 : S.1 k ≠ -1000000000 := by rw [← ups_ne S.1 r z1]; exact hk
        obtain ⟨a1, a2, a3⟩ := w3 k k0 k1 hk2
        rw [ups_ne _ _ z1]
        have z2 : S.1 k ≠ r := fun z2 => by rw [z2, ht1] at a3; omega
        rw [ups_ne _ _ z2]
        exact ⟨a1, a2, a3⟩
    · show k < M 13 ∧ ups S.1 q r (ups S.2.1 r q k) = k
      by_cases z1 : k = r
      · rw [z1, ups_eq, ups_eq]; exact ⟨hu.2, rfl⟩
      · have hk2 : S.2.1 k ≠ -1000000000 := by rw [← ups_ne S.2.1 q z1]; exact hk
        obtain ⟨a1, a3⟩ := w4 k k0 k1 hk2
        rw [ups_ne _ _ z1]
        have z2 : S.2.1 k ≠ q := fun z2 => by rw [z2, hs1] at a3; omega
        rw [ups_ne _ _ z2]
        exact ⟨a1, a3⟩
theorem matS_ok {M : Int → Int} (z : Int) (hI : Inv M) : ∀ n : Nat, matW M (matS M z n)
  | 0 => matW_0 M z
  | n + 1 => matW_s hI (matS_ok z hI n)
theorem mat_ok {M : Int → Int} (z : Int) (hI : Inv M) : matW M (mat M z) := matS_ok z hI 12
theorem tkn_0 (n : Int) : tkn (fun _ => -1000000000) n = 0 := by
  have h : ∀ k : Nat, sumI (fun _ => if (-1000000000 : Int) = -1000000000 then (0 : Int) else 1) k = 0 := by
    intro k
    induction k with
    | zero => rfl
    | succ k ih => show sumI _ k + _ = 0; rw [ih]; rfl
  exact h n.toNat
/-- costs of pairs, as a row -/
def cstOK (M : Int → Int) (z : Int) (C : Int → Int) : Prop := ∀ k : Int, 0 ≤ k → k < 12 * M 12 → k % 12 < M 13 → 0 < pts M (k / 12) → C k = cstK M z k
def matR (M : Int → Int) (z : Int) (SO TR : Int → Int) : Prop := ∀ k : Int, 0 ≤ k → k < 12 → SO k = (mat M z).1 k ∧ TR k = (mat M z).2.1 k
theorem cstK_bd {M : Int → Int} {z k : Int} (hI : Inv M) (h0 : 0 ≤ k) (h1 : k < 12 * M 12) (h2 : k % 12 < M 13) (h3 : 0 < pts M (k / 12)) : 0 ≤ cstK M z k ∧ cstK M z k ≤ 10100000 := (inv_cst hI z (show 0 ≤ k / 12 by omega) (by omega) h3 (by omega) h2).2.2
