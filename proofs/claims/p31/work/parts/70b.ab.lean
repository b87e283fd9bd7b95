/-! the object's state in words: the plate M, n saved ones (K 0 the latest), nothing typed, no stop -/
def csF (M : Int → Int) (K : Nat → Int → Int) : Nat → Int → Int
  | 0 => M
  | j + 1 => K j
def Ab (P : Nat → Int → Int) (M : Int → Int) (n : Int) (K : Nat → Int → Int) : Prop :=
  (Inv M ∧ ag M (mO P)) ∧
  ((P 50 1 = n ∧ 0 ≤ n ∧ n ≤ 4) ∧ ∀ j k : Nat, (j : Int) + (k : Int) + 1 = n → ag (K j) (mO (pgR P k)) ∧ Inv (K j)) ∧
  (P 10 0 = 0 ∧ (∀ k : Int, 0 ≤ k → k < 150 → 0 ≤ P 11 k ∧ P 11 k ≤ 127) ∧ nOK (P 13)) ∧
  (P 100 7 = 0 ∧ (P 100 6 = 0 ∨ P 100 6 = 1) ∧ (P 100 6 = 1 → lkd P))
theorem Ab.inv {P : Nat → Int → Int} {M : Int → Int} {n : Int} {K : Nat → Int → Int} (h : Ab P M n K) : Inv (mO P) := inv_A h.1.2 h.1.1
/-- what the object keeps in a call that only asks -/
def objq (P P' : Nat → Int → Int) : Prop := ((∀ c : Nat, c < 20 → P' c = P c) ∧ (∀ c : Nat, 50 ≤ c → c < 100 → P' c = P c) ∧ P' 100 7 = P 100 7) ∧ (P' 100 6 = 0 ∨ P' 100 6 = 1) ∧ (P' 100 6 = 1 → lkd P')
theorem oq_id {P : Nat → Int → Int} {M : Int → Int} {n : Int} {K : Nat → Int → Int} (h : Ab P M n K) : objq P P := ⟨⟨fun _ _ => rfl, fun _ _ _ => rfl, rfl⟩, h.2.2.2.2⟩
theorem ab_q {P P' : Nat → Int → Int} {M : Int → Int} {n : Int} {K : Nat → Int → Int} (h : Ab P M n K) (hP : objq P P') : Ab P' M n K := by
  obtain ⟨⟨a1, a2⟩, ⟨b1, b2⟩, ⟨c1, c2, c3⟩, d1, d2⟩ := h
  obtain ⟨⟨p1, p2, p3⟩, p4⟩ := hP
  have em : mO P' = mO P := mO_cg (fun i hi => p1 i (by omega))
  have ep : ∀ k : Nat, k < 4 → mO (pgR P' k) = mO (pgR P k) := fun k hk => mO_cg (fun i hi => p2 (i + (60 + 10 * k)) (by omega) (by omega))
  refine ⟨⟨a1, by rw [em]; exact a2⟩, ⟨?_, fun j k hk => ?_⟩, ⟨?_, ?_, ?_⟩, ?_, p4⟩
  · rw [p2 50 (by decide) (by decide)]; exact b1
  · rw [ep k (by omega)]; exact b2 j k hk
  · rw [p1 10 (by decide)]; exact c1
  · rw [p1 11 (by decide)]; exact c2
  · rw [p1 13 (by decide)]; exact c3
  · rw [p3]; exact d1
/-- the saved states after one more is saved -/
theorem ab_pages {P Q : Nat → Int → Int} {M : Int → Int} {n : Int} {K : Nat → Int → Int} (h : Ab P M n K) (hk : kept2 P Q) : (Q 50 1 = kpN n ∧ 0 ≤ kpN n ∧ kpN n ≤ 4) ∧ ∀ j k : Nat, (j : Int) + (k : Int) + 1 = kpN n → ag (csF M K j) (mO (pgR Q k)) ∧ Inv (csF M K j) := by
  obtain ⟨⟨a1, a2⟩, ⟨b1, b2⟩, -⟩ := h
  obtain ⟨k1, k2, k3⟩ := hk
  rw [b1.1] at k1 k2 k3
  have hn := b1.2
  have hkp : (n = 4 ∧ kpN n = 4) ∨ (n < 4 ∧ kpN n = n + 1) := by unfold kpN; split <;> omega
  refine ⟨⟨k1, by omega, by omega⟩, fun j k hk => ?_⟩
  match j, hk with
  | 0, hk => exact ⟨ag_trans a2 (k3 k (by omega)), a1⟩
  | i + 1, hk =>
    show ag (K i) _ ∧ Inv (K i)
    rw [k2 k (by omega)]
    rcases hkp with ⟨e4, e5⟩ | ⟨e4, e5⟩
    · rw [if_pos e4]; exact b2 i (k + 1) (by omega)
    · rw [if_neg (by omega)]; exact b2 i k (by omega)
theorem ab_op {P Q : Nat → Int → Int} {M M1 M' : Int → Int} {n : Int} {K : Nat → Int → Int} (h : Ab P M n K) (ho : opd P Q M') (ha : ag M1 M') (hI : Inv M1) : Ab Q M1 (kpN n) (csF M K) := by
  have hp := ab_pages h ho.2.1
  obtain ⟨-, -, ⟨c1, c2, c3⟩, d1, d2⟩ := h
  obtain ⟨o1, o2, o3, o4⟩ := ho
  refine ⟨⟨hI, by rw [o4]; exact ha⟩, hp, ⟨?_, ?_, ?_⟩, ?_, ?_, ?_⟩
  · rw [o3 10 (by decide) (by decide)]; exact c1
  · rw [o3 11 (by decide) (by decide)]; exact c2
  · rw [o3 13 (by decide) (by decide)]; exact c3
  · rw [o1]; exact d1
  · rw [o1]; exact Or.inl rfl
  · rw [o1]
    intro z
    exact absurd (show (0 : Int) = 1 from z) (by decide)
/-- the last state comes back -/
theorem ab_undo {P Q : Nat → Int → Int} {M : Int → Int} {n : Int} {K : Nat → Int → Int} {m9 : Nat} (h : Ab P M n K) (hn : n = (m9 : Int) + 1) (o1 : Q 100 = ups (P 100) 6 0) (hb : backO P Q m9) : Ab Q (K 0) (n - 1) (fun j => K (j + 1)) := by
  obtain ⟨-, ⟨b1, b2⟩, ⟨c1, c2, c3⟩, d1, d2⟩ := h
  obtain ⟨q1, q2, q3, q4⟩ := hb
  have hp := b2 0 m9 (by omega)
  refine ⟨⟨hp.2, ag_trans hp.1 q4⟩, ⟨⟨by rw [q2]; omega, by omega, by omega⟩, fun j k hk => ?_⟩, ⟨?_, ?_, ?_⟩, ?_, ?_, ?_⟩
  · rw [q3 k (by omega)]; exact b2 (j + 1) k (by omega)
  · rw [q1 10 (by decide) (by decide)]; exact c1
  · rw [q1 11 (by decide) (by decide)]; exact c2
  · rw [q1 13 (by decide) (by decide)]; exact c3
  · rw [o1]; exact d1
  · rw [o1]; exact Or.inl rfl
  · rw [o1]
    intro z
    exact absurd (show (0 : Int) = 1 from z) (by decide)
/-- an empty text is run -/
theorem ab_run {P Q : Nat → Int → Int} {M : Int → Int} {n r : Int} {K : Nat → Int → Int} (h : Ab P M n K) (hc : rcP P Q r) : Ab Q M (kpN n) (csF M K) ∧ r = 0 := by
  have h10 := h.2.2.1.1
  have hs : ¬ skp (P 11) (P 10 0) 0 < P 10 0 := by
    have := (skp_bd (P 11) (n := P 10 0) (q := 0) (by omega)).2.1
    have := (skp_bd (P 11) (n := P 10 0) (q := 0) (by omega)).1
    omega
  obtain ⟨⟨e1, e2, e3⟩, hc⟩ := hc
  have er : rcR P = (0, 0, mO P) := by
    unfold rcR rcF
    show rcN (P 11) (P 10 0) (149 + 1) (skp (P 11) (P 10 0) 0) (mO P) (fun _ => 0) 0 = _
    unfold rcN
    rw [if_neg (fun z => hs z.1)]
  rcases hc with ⟨x, p1, -⟩ | ⟨-, p2, p3, p4, p5, p6⟩
  · rw [prsF_end hs] at p1
    exact absurd (Prod.mk.inj p1).1 (by decide)
  · rw [er] at p2 p3 p5
    have hp := ab_pages h p6
    obtain ⟨⟨a1, a2⟩, -, ⟨c1, c2, c3⟩, d1, d2⟩ := h
    refine ⟨⟨⟨a1, ag_trans a2 p5⟩, hp, ⟨?_, ?_, e3⟩, p3, Or.inl p4, ?_⟩, p2⟩
    · rw [e2]; exact c1
    · rw [e1 11 (by decide) (by decide) (by decide) (by decide) (by decide)]; exact c2
    · rw [p4]
      intro z
      exact absurd z (by decide)
/-- the price of a trail and a star: none of a trail without points -/
noncomputable def prF (M : Int → Int) (t u : Int) : Int := if pts M t = 0 then -1000000000 else cstZ M (M 8) t u
