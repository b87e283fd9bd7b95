/-! the object and the reference side by side -/
def Rl (P R : Nat → Int → Int) : Prop :=
  (Inv (R 1) ∧ ag (R 1) (mO P)) ∧
  ((P 50 1 = R 0 2 ∧ 0 ≤ R 0 2 ∧ R 0 2 ≤ 4) ∧ ∀ k : Nat, (k : Int) < R 0 2 → ag (page (R 2) k) (mO (pgR P k)) ∧ Inv (page (R 2) k)) ∧
  ((P 10 0 = R 0 4 ∧ 0 ≤ R 0 4 ∧ R 0 4 ≤ 150) ∧ P 11 = R 3 ∧ (∀ k : Int, 0 ≤ k → k < 150 → 0 ≤ R 3 k ∧ R 3 k ≤ 127) ∧ nOK (P 13) ∧ nmOK (R 7)) ∧
  ((P 100 7 = R 0 5 ∧ 0 ≤ R 0 5 ∧ R 0 5 ≤ 3) ∧ (P 100 6 = 0 ∨ P 100 6 = 1) ∧ (P 100 6 = 1 → lkd P))
theorem Rl.inv {P R : Nat → Int → Int} (h : Rl P R) : Inv (mO P) := inv_A h.1.2 h.1.1
/-- what the reference keeps in a call that only asks -/
def refq (R R' : Nat → Int → Int) : Prop := (R' 1 = R 1 ∧ R' 2 = R 2 ∧ R' 3 = R 3 ∧ R' 7 = R 7) ∧ R' 0 2 = R 0 2 ∧ R' 0 4 = R 0 4 ∧ R' 0 5 = R 0 5
/-- what the object keeps in a call that only asks -/
def objq (P P' : Nat → Int → Int) : Prop := ((∀ c : Nat, c < 20 → P' c = P c) ∧ (∀ c : Nat, 50 ≤ c → c < 100 → P' c = P c) ∧ P' 100 7 = P 100 7) ∧ (P' 100 6 = 0 ∨ P' 100 6 = 1) ∧ (P' 100 6 = 1 → lkd P')
theorem objq_rfl {P R : Nat → Int → Int} (h : Rl P R) : objq P P := ⟨⟨fun _ _ => rfl, fun _ _ _ => rfl, rfl⟩, h.2.2.2.2⟩
theorem rl_q {P R P' R' : Nat → Int → Int} (h : Rl P R) (hR : refq R R') (hP : objq P P') : Rl P' R' := by
  obtain ⟨⟨a1, a2⟩, ⟨b1, b2⟩, ⟨c1, c2, c3, c4, c5⟩, d1, d2⟩ := h
  obtain ⟨⟨r1, r2, r3, r7⟩, s2, s4, s5⟩ := hR
  obtain ⟨⟨p1, p2, p3⟩, p4⟩ := hP
  have em : mO P' = mO P := mO_cg (fun i hi => p1 i (by omega))
  have ep : ∀ k : Nat, k < 4 → mO (pgR P' k) = mO (pgR P k) := fun k hk => mO_cg (fun i hi => p2 (i + (60 + 10 * k)) (by omega) (by omega))
  refine ⟨⟨by rw [r1]; exact a1, by rw [r1, em]; exact a2⟩, ⟨?_, fun k hk => ?_⟩, ⟨?_, ?_, ?_, ?_, ?_⟩, ?_, p4⟩
  · rw [s2, p2 50 (by decide) (by decide)]; exact b1
  · rw [s2] at hk
    rw [r2, ep k (by omega)]
    exact b2 k hk
  · rw [s4, p1 10 (by decide)]; exact c1
  · rw [p1 11 (by decide), r3]; exact c2
  · rw [r3]; exact c3
  · rw [p1 13 (by decide)]; exact c4
  · rw [r7]; exact c5
  · rw [s5, p3]; exact d1
/-- the kept states after one more is kept -/
theorem rl_pages {P R Q : Nat → Int → Int} {S' : Int → Int} (h : Rl P R) (hS : S' = kpS (R 2) (R 1) (R 0 2)) (hk2 : kept2 P Q) : (Q 50 1 = kpN (R 0 2) ∧ 0 ≤ kpN (R 0 2) ∧ kpN (R 0 2) ≤ 4) ∧ ∀ k : Nat, (k : Int) < kpN (R 0 2) → ag (page S' k) (mO (pgR Q k)) ∧ Inv (page S' k) := by
  obtain ⟨⟨a1, a2⟩, ⟨b1, b2⟩, -⟩ := h
  obtain ⟨k1, k2, k3⟩ := hk2
  rw [b1.1] at k1 k2 k3
  have hn := b1.2
  have hkp : 0 ≤ kpN (R 0 2) ∧ kpN (R 0 2) ≤ 4 := by unfold kpN; split <;> omega
  refine ⟨⟨k1, hkp⟩, fun k hk => ?_⟩
  subst hS
  by_cases z : (k : Int) = kpN (R 0 2) - 1
  · have e : ag (R 1) (page (kpS (R 2) (R 1) (R 0 2)) k) := by
      rw [z]
      exact ag_eq a1 (fun j j0 j1 => (kp_new hn j0 j1).symm)
    exact ⟨ag_trans (ag_symm e) (ag_trans a2 (k3 k z)), inv_A e a1⟩
  · rw [k2 k (by omega)]
    by_cases n4 : R 0 2 = 4
    · rw [if_pos n4]
      have hk3 : (k : Int) < 3 := by rw [n4] at hk z; unfold kpN at hk z; rw [if_pos rfl] at hk z; omega
      have hb := b2 (k + 1) (by omega)
      have e : ag (page (R 2) ((k + 1 : Nat) : Int)) (page (kpS (R 2) (R 1) (R 0 2)) k) := ag_eq hb.2 (fun j j0 j1 => by
        rw [n4, kp_old4 (by omega) hk3 j0 j1]
        rfl)
      exact ⟨ag_trans (ag_symm e) hb.1, inv_A e hb.2⟩
    · rw [if_neg n4]
      have hk3 : (k : Int) < R 0 2 := by unfold kpN at hk z; rw [if_neg n4] at hk z; omega
      have hb := b2 k hk3
      have e : ag (page (R 2) k) (page (kpS (R 2) (R 1) (R 0 2)) k) := ag_eq hb.2 (fun j j0 j1 => (kp_old ⟨hn.1, by omega⟩ (by omega) hk3 j0 j1).symm)
      exact ⟨ag_trans (ag_symm e) hb.1, inv_A e hb.2⟩
/-- what the reference leaves of a call that changes the plate -/
def refo (R R' : Nat → Int → Int) (M1 : Int → Int) : Prop := (R' 1 = M1 ∧ R' 2 = kpS (R 2) (R 1) (R 0 2) ∧ R' 3 = R 3 ∧ R' 7 = R 7) ∧ R' 0 2 = kpN (R 0 2) ∧ R' 0 4 = R 0 4 ∧ R' 0 5 = R 0 5
theorem rl_op {P R Q R' : Nat → Int → Int} {M1 M' : Int → Int} (h : Rl P R) (ho : opd P Q M') (hR : refo R R' M1) (ha : ag M1 M') (hI : Inv M1) : Rl Q R' := by
  have hp := rl_pages h rfl ho.2.1
  obtain ⟨⟨a1, a2⟩, ⟨b1, b2⟩, ⟨c1, c2, c3, c4, c5⟩, d1, d2⟩ := h
  obtain ⟨⟨r1, r2, r3, r7⟩, s2, s4, s5⟩ := hR
  obtain ⟨o1, o2, o3, o4⟩ := ho
  refine ⟨⟨by rw [r1]; exact hI, by rw [r1, o4]; exact ha⟩, ⟨?_, fun k hk => ?_⟩, ⟨?_, ?_, ?_, ?_, ?_⟩, ?_, ?_, ?_⟩
  · rw [s2]; exact hp.1
  · rw [s2] at hk
    rw [r2]
    exact hp.2 k hk
  · rw [s4, o3 10 (by decide) (by decide)]; exact c1
  · rw [o3 11 (by decide) (by decide), r3]; exact c2
  · rw [r3]; exact c3
  · rw [o3 13 (by decide) (by decide)]; exact c4
  · rw [r7]; exact c5
  · rw [s5, o1]; exact d1
  · rw [o1]; exact Or.inl rfl
  · rw [o1]
    intro z
    exact absurd (show (0 : Int) = 1 from z) (by decide)
/-- the last state comes back -/
theorem rl_undo {P R Q R' : Nat → Int → Int} {n : Nat} (h : Rl P R) (hn : R 0 2 = (n : Int) + 1) (o1 : Q 100 = ups (P 100) 6 0) (hb : backO P Q n) (hR : (R' 1 = cpyI (R 1) (page (R 2) (R 0 2 - 1)) 0 494 ∧ R' 2 = R 2 ∧ R' 3 = R 3 ∧ R' 7 = R 7) ∧ R' 0 2 = R 0 2 - 1 ∧ R' 0 4 = R 0 4 ∧ R' 0 5 = R 0 5) : Rl Q R' := by
  obtain ⟨⟨a1, a2⟩, ⟨b1, b2⟩, ⟨c1, c2, c3, c4, c5⟩, d1, d2⟩ := h
  obtain ⟨⟨r1, r2, r3, r7⟩, s2, s4, s5⟩ := hR
  obtain ⟨q1, q2, q3, q4⟩ := hb
  have hp := b2 n (by omega)
  have e : ag (page (R 2) (n : Int)) (R' 1) := ag_eq hp.2 (fun j j0 j1 => by
    rw [r1, show R 0 2 - 1 = (n : Int) by omega]
    exact cpyI_in _ _ j0 j1)
  refine ⟨⟨inv_A e hp.2, ag_trans (ag_symm e) (ag_trans hp.1 q4)⟩, ⟨?_, fun k hk => ?_⟩, ⟨?_, ?_, ?_, ?_, ?_⟩, ?_, ?_, ?_⟩
  · rw [s2, q2]; omega
  · rw [s2] at hk
    rw [r2, q3 k (by omega)]
    exact b2 k (by omega)
  · rw [s4, q1 10 (by decide) (by decide)]; exact c1
  · rw [q1 11 (by decide) (by decide), r3]; exact c2
  · rw [r3]; exact c3
  · rw [q1 13 (by decide) (by decide)]; exact c4
  · rw [r7]; exact c5
  · rw [s5, o1]; exact d1
  · rw [o1]; exact Or.inl rfl
  · rw [o1]
    intro z
    exact absurd (show (0 : Int) = 1 from z) (by decide)
theorem lkd_cg {P Q : Nat → Int → Int} (h : ∀ c : Nat, c < 9 → Q c = P c) (h2 : ∀ c : Nat, 20 ≤ c → c < 40 → Q c = P c) (hl : lkd P) : lkd Q := by
  have em : mO Q = mO P := mO_cg (fun i hi => h i hi)
  obtain ⟨l1, l2, l3, l4⟩ := hl
  unfold lkd
  rw [em, h 0 (by decide), h 8 (by decide), h2 30 (by decide) (by decide), h2 31 (by decide) (by decide), h2 32 (by decide) (by decide), h2 33 (by decide) (by decide)]
  refine ⟨fun k k0 k1 => ?_, l2, l3, l4⟩
  have l := l1 k k0 k1
  unfold figAt at l ⊢
  rw [h2 21 (by decide) (by decide), h2 22 (by decide) (by decide), h2 23 (by decide) (by decide), h2 24 (by decide) (by decide), h2 25 (by decide) (by decide), h2 26 (by decide) (by decide), h2 27 (by decide) (by decide), h2 28 (by decide) (by decide)]
  exact l
/-- one byte more, or none -/
theorem rl_text {P R Q R' : Nat → Int → Int} (h : Rl P R) (hq : ∀ c : Nat, c ≠ 10 → c ≠ 11 → Q c = P c) (hR : R' 1 = R 1 ∧ R' 2 = R 2 ∧ R' 7 = R 7 ∧ R' 0 2 = R 0 2 ∧ R' 0 5 = R 0 5) (ht : (Q 10 0 = R' 0 4 ∧ 0 ≤ R' 0 4 ∧ R' 0 4 ≤ 150) ∧ Q 11 = R' 3 ∧ ∀ k : Int, 0 ≤ k → k < 150 → 0 ≤ R' 3 k ∧ R' 3 k ≤ 127) : Rl Q R' := by
  obtain ⟨⟨a1, a2⟩, ⟨b1, b2⟩, ⟨c1, c2, c3, c4, c5⟩, d1, d2, d3⟩ := h
  obtain ⟨r1, r2, r7, s2, s5⟩ := hR
  have em : mO Q = mO P := mO_cg (fun i hi => hq i (by omega) (by omega))
  have ep : ∀ k : Nat, mO (pgR Q k) = mO (pgR P k) := fun k => mO_cg (fun i hi => hq (i + (60 + 10 * k)) (by omega) (by omega))
  refine ⟨⟨by rw [r1]; exact a1, by rw [r1, em]; exact a2⟩, ⟨?_, fun k hk => ?_⟩, ⟨ht.1, ht.2.1, ht.2.2, ?_, ?_⟩, ?_, ?_, ?_⟩
  · rw [s2, hq 50 (by decide) (by decide)]; exact b1
  · rw [s2] at hk
    rw [r2, ep]
    exact b2 k hk
  · rw [hq 13 (by decide) (by decide)]; exact c4
  · rw [r7]; exact c5
  · rw [s5, hq 100 (by decide) (by decide)]; exact d1
  · rw [hq 100 (by decide) (by decide)]; exact d2
  · rw [hq 100 (by decide) (by decide)]
    exact fun z => lkd_cg (fun c hc => hq c (by omega) (by omega)) (fun c hc hc2 => hq c (by omega) (by omega)) (d3 z)
theorem rl_type {P R R' : Nat → Int → Int} {v : Int} (h : Rl P R) (hv : 0 ≤ v ∧ v ≤ 127) (hlt : R 0 4 < 150) (hR : R' 1 = R 1 ∧ R' 2 = R 2 ∧ R' 7 = R 7 ∧ R' 0 2 = R 0 2 ∧ R' 0 5 = R 0 5) (h4 : R' 0 4 = R 0 4 + 1) (h3 : R' 3 = ups (R 3) (R 0 4) v) : Rl (upr (upr P 10 (ups (P 10) 0 (P 10 0 + 1))) 11 (ups (P 11) (P 10 0) v)) R' := by
  have c1 := h.2.2.1.1
  have c2 := h.2.2.1.2.1
  have c3 := h.2.2.1.2.2.1
  refine rl_text h (fun c a b => by rw [upr_o _ _ (by omega), upr_o _ _ (by omega)]) hR ⟨⟨?_, by omega, by omega⟩, ?_, fun k k0 k1 => ?_⟩
  · show P 10 0 + 1 = _
    omega
  · show ups (P 11) (P 10 0) v = _
    rw [h3, c2, c1.1]
  · rw [h3]
    unfold ups
    split
    · exact hv
    · exact c3 k k0 k1
theorem rcN_rg (T : Int → Int) {n : Int} : ∀ (f : Nat) (q : Int) (M A : Int → Int) (c : Int), q ≤ n → 0 ≤ (rcN T n f q M A c).1 ∧ (rcN T n f q M A c).1 ≤ 3
  | 0, _, _, _, _, _ => ⟨Int.le_refl _, by show (0 : Int) ≤ 3; decide⟩
  | f + 1, q, M, A, c, hq => by
    unfold rcN
    have b := (prsC_bd T A hq).1
    by_cases z : q < n ∧ (prsC T n q A).1 = 1
    · rw [if_pos z]
      have b2 : (q < (prsC T n q A).2.1 ∧ (prsC T n q A).2.1 ≤ n) ∧ 0 ≤ (prsC T n q A).2.2.1 ∧ (prsC T n q A).2.2.1 ≤ 6 := by
        rcases b with b | b
        · have := z.2; omega
        · exact ⟨⟨b.2.1, b.2.2.1⟩, b.2.2.2⟩
      by_cases y : ftV M (prsC T n q A).2.2.1 (prsC T n q A).2.2.2 = 0
      · rw [if_pos y]
        exact rcN_rg T f _ _ _ _ (skp_le (T := T) b2.1.2).2
      · rw [if_neg y]
        exact ftV_rg M _ b2.2
    · rw [if_neg z]
      exact ⟨Int.le_refl _, by show (0 : Int) ≤ 3; decide⟩
