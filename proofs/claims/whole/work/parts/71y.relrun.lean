/-- what the reference leaves of runCommands -/
def refr (R R' : Nat → Int → Int) (r9 : Int) : Prop :=
  (∃ x : Int, prsF (R 3) (R 0 4) (skp (R 3) (R 0 4) 0) = (0, x) ∧ r9 = -10 - x ∧ (R' 1 = R 1 ∧ R' 2 = R 2 ∧ R' 3 = R 3 ∧ nmOK (R' 7)) ∧ R' 0 2 = R 0 2 ∧ R' 0 4 = R 0 4 ∧ R' 0 5 = R 0 5) ∨
  (∃ (A0 : Int → Int) (x : Int), prsF (R 3) (R 0 4) (skp (R 3) (R 0 4) 0) = (1, x) ∧ r9 = (rcF (R 3) (R 0 4) (skp (R 3) (R 0 4) 0) (R 1) A0 0).2.1 ∧ (R' 1 = (rcF (R 3) (R 0 4) (skp (R 3) (R 0 4) 0) (R 1) A0 0).2.2 ∧ R' 2 = kpS (R 2) (R 1) (R 0 2) ∧ R' 3 = R 3 ∧ nmOK (R' 7)) ∧ R' 0 2 = kpN (R 0 2) ∧ R' 0 4 = R 0 4 ∧ R' 0 5 = (rcF (R 3) (R 0 4) (skp (R 3) (R 0 4) 0) (R 1) A0 0).1)
theorem rl_run {P R Q R' : Nat → Int → Int} {r r9 : Int} (h : Rl P R) (hc : rcP P Q r) (hr : refr R R' r9) : Rl Q R' ∧ r = r9 := by
  have hpages := fun hk2 => rl_pages (Q := Q) h rfl hk2
  obtain ⟨⟨a1, a2⟩, ⟨b1, b2⟩, ⟨c1, c2, c3, c4, c5⟩, d1, d2, d3⟩ := h
  obtain ⟨⟨e1, e2, e3⟩, hc⟩ := hc
  have hpr : prsF (P 11) (P 10 0) (skp (P 11) (P 10 0) 0) = prsF (R 3) (R 0 4) (skp (R 3) (R 0 4) 0) := by rw [c2, c1.1]
  rw [hpr] at hc
  have e11 : Q 11 = P 11 := e1 11 (by decide) (by decide) (by decide) (by decide) (by decide)
  rcases hc with ⟨x, p1, p2, p3, p4, p5⟩ | ⟨⟨x, p1⟩, p2, p3, p4, p5, p6⟩
  · rcases hr with ⟨x9, g1, g2, ⟨r1, r2, r3, r7⟩, s2, s4, s5⟩ | ⟨A0, x9, g1, -⟩
    · have ex : x = x9 := by
        rw [p1] at g1
        exact (Prod.mk.inj g1).2
      subst ex
      have em : mO Q = mO P := mO_cg (fun i hi => p4 i hi)
      have ep : ∀ k : Nat, k < 4 → mO (pgR Q k) = mO (pgR P k) := fun k hk => mO_cg (fun i hi => p5 (i + (60 + 10 * k)) (by omega) (by omega))
      refine ⟨⟨⟨by rw [r1]; exact a1, by rw [r1, em]; exact a2⟩, ⟨?_, fun k hk => ?_⟩, ⟨?_, ?_, ?_, e3, r7⟩, ?_, ?_, ?_⟩, p2.trans g2.symm⟩
      · rw [s2, p5 50 (by decide) (by decide)]; exact b1
      · rw [s2] at hk
        rw [r2, ep k (by omega)]
        exact b2 k hk
      · rw [s4, e2]; exact c1
      · rw [r3, e11]; exact c2
      · rw [r3]; exact c3
      · rw [s5, p3]; exact d1
      · rw [p3]; exact d2
      · rw [p3]
        exact fun z => lkd_cg p4 (fun c hc hc2 => e1 c (by omega) (by omega) (by omega) (by omega) (by omega)) (d3 z)
    · rw [p1] at g1
      exact absurd (Prod.mk.inj g1).1 (by decide)
  · rcases hr with ⟨x9, g1, -⟩ | ⟨A0, x9, g1, g2, ⟨r1, r2, r3, r7⟩, s2, s4, s5⟩
    · rw [p1] at g1
      exact absurd (Prod.mk.inj g1).1 (by decide)
    · have hs : skp (R 3) (R 0 4) 0 ≤ R 0 4 := (skp_le c1.2.1).2
      have ha := rcA (T := R 3) (n := R 0 4) 150 (skp (R 3) (R 0 4) 0) (R 1) (mO P) A0 (fun _ => 0) 0 hs a1 a2
      have hrc : rcR P = rcN (R 3) (R 0 4) 150 (skp (R 3) (R 0 4) 0) (mO P) (fun _ => 0) 0 := by
        unfold rcR
        rw [c2, c1.1]
        rfl
      have hrg := rcN_rg (R 3) (n := R 0 4) 150 (skp (R 3) (R 0 4) 0) (R 1) A0 0 hs
      have hp := hpages p6
      rw [hrc] at p2 p3 p5
      unfold rcF at g2 r1 s5
      refine ⟨⟨⟨by rw [r1]; exact ha.2.2, by rw [r1]; exact ag_trans ha.2.1 p5⟩, ⟨?_, fun k hk => ?_⟩, ⟨?_, ?_, ?_, e3, r7⟩, ?_, ?_, ?_⟩, ?_⟩
      · rw [s2]; exact hp.1
      · rw [s2] at hk
        rw [r2]
        exact hp.2 k hk
      · rw [s4, e2]; exact c1
      · rw [r3, e11]; exact c2
      · rw [r3]; exact c3
      · rw [s5]
        exact ⟨p3.trans ha.1.1.symm, hrg⟩
      · exact Or.inl p4
      · rw [p4]
        intro z
        exact absurd (show (0 : Int) = 1 from z) (by decide)
      · rw [p2, g2]
        exact ha.1.2.symm
/-- at the start -/
theorem rl_start : Rl ob0 rf0 := by
  have hI : Inv m00 := (inv_iff m00).mpr ⟨by unfold InvS; decide, fun t a b => absurd (show t < 0 from b) (by omega), fun u a b => absurd (show u < 0 from b) (by omega)⟩
  refine ⟨⟨hI, fun k a b => ?_, fun t a b => absurd (show t < 0 from b) (by omega), fun u a b => absurd (show u < 0 from b) (by omega)⟩, ⟨⟨rfl, by decide, by decide⟩, fun k hk => absurd (show (k : Int) < 0 from hk) (by omega)⟩, ⟨⟨rfl, by decide, by decide⟩, rfl, fun k a b => ⟨show (0 : Int) ≤ 0 by decide, show (0 : Int) ≤ 127 by decide⟩, fun i a b => ⟨show (0 : Int) ≤ 0 by decide, show (0 : Int) ≤ 999999 by decide⟩, fun k a b => ⟨show (0 : Int) ≤ 0 by decide, show (0 : Int) ≤ 999999 by decide⟩⟩, ⟨rfl, by decide, by decide⟩, Or.inl rfl, fun z => absurd (show (0 : Int) = 1 from z) (by decide)⟩
  rcases (show k = 0 ∨ k = 1 ∨ k = 2 ∨ k = 3 ∨ k = 4 ∨ k = 5 ∨ k = 6 ∨ k = 7 ∨ k = 8 ∨ k = 9 ∨ k = 10 ∨ k = 11 ∨ k = 12 ∨ k = 13 by omega) with rfl | rfl | rfl | rfl | rfl | rfl | rfl | rfl | rfl | rfl | rfl | rfl | rfl | rfl <;> decide
