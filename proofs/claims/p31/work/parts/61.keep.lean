/-! a state is kept, then the plate is changed -/
def kept2 (P Q : Nat → Int → Int) : Prop := Q 50 1 = kpN (P 50 1) ∧ (∀ k : Nat, (k : Int) < kpN (P 50 1) - 1 → mO (pgR Q k) = mO (pgR P (if P 50 1 = 4 then k + 1 else k))) ∧ ∀ k : Nat, (k : Int) = kpN (P 50 1) - 1 → ag (mO P) (mO (pgR Q k))
theorem kept2_up {P Q Q' : Nat → Int → Int} (hn : 0 ≤ P 50 1 ∧ P 50 1 ≤ 4) (h : ∀ c : Nat, 50 ≤ c → c < 100 → Q' c = Q c) (hk : kept2 P Q) : kept2 P Q' := by
  have e4 : kpN (P 50 1) ≤ 4 := by unfold kpN; split <;> omega
  have key : ∀ k : Nat, k < 4 → mO (pgR Q' k) = mO (pgR Q k) := fun k hk4 => mO_cg (fun i hi => h (i + (60 + 10 * k)) (by omega) (by omega))
  refine ⟨by rw [h 50 (by decide) (by decide)]; exact hk.1, fun k a => ?_, fun k a => ?_⟩
  · rw [key k (by omega)]; exact hk.2.1 k a
  · rw [key k (by omega)]; exact hk.2.2 k a
theorem keep9 {P Q : Nat → Int → Int} (h : ∀ c : Nat, c < 50 → Q c = P c) : Q = upr (upr (upr (upr (upr (upr (upr (upr (upr Q 0 (P 0)) 1 (P 1)) 2 (P 2)) 3 (P 3)) 4 (P 4)) 5 (P 5)) 6 (P 6)) 7 (P 7)) 8 (P 8) := by
  have e := upr9 Q Q (fun _ _ => rfl)
  rw [h 0 (by decide), h 1 (by decide), h 2 (by decide), h 3 (by decide), h 4 (by decide), h 5 (by decide), h 6 (by decide), h 7 (by decide), h 8 (by decide)] at e
  exact e
def opd (P Q : Nat → Int → Int) (M' : Int → Int) : Prop := Q 100 = ups (P 100) 6 0 ∧ kept2 P Q ∧ (∀ c : Nat, 9 ≤ c → c < 50 → Q c = P c) ∧ mO Q = M'
theorem opd_of {P Q Q' : Nat → Int → Int} {M' : Int → Int} (hn : 0 ≤ P 50 1 ∧ P 50 1 ≤ 4) (hq : ∀ c : Nat, c < 50 → Q c = P c) (h100 : Q 100 = ups (P 100) 6 0) (hk : kept2 P Q) (hu : ∀ c : Nat, 9 ≤ c → Q' c = Q c) (hm : mO Q' = M') : opd P Q' M' :=
  ⟨(hu 100 (by decide)).trans h100, kept2_up hn (fun c a _ => hu c (by omega)) hk, fun c a b => (hu c a).trans (hq c b), hm⟩
set_option maxHeartbeats 4000000 in
set_option maxRecDepth 100000 in
theorem c_X2_save (l : Launch) (D : va_G) (cy : Nat → ClassId) (sz : Nat) (a : Nat → Nat) (P : Nat → Int → Int) (hI : Inv (mO P)) (hn : 0 ≤ P 50 1 ∧ P 50 1 ≤ 4) : Met l yX2_save wsX2_save { frames := 3, cells := 0, slots := 0, locals := 64 } (mPre (GG D cy) D (hsplW cy a P) sz [.ref (a 50), .ref (a 0)]) (kQv D (hsplW cy a P) sz (fun u9 : (Nat → Nat) × (Nat → Int → Int) => hsplW cy (pgm a u9.1) u9.2) (fun u9 => (kept P u9.2))) 0 0 (va_A (hsplW cy a P) sz) := by
  rcases (show P 50 1 = 0 ∨ P 50 1 = 1 ∨ P 50 1 = 2 ∨ P 50 1 = 3 ∨ P 50 1 = 4 by omega) with h | h | h | h | h
  · exact c_X2_save_0 l D cy sz a P hI h
  · exact c_X2_save_1 l D cy sz a P hI h
  · exact c_X2_save_2 l D cy sz a P hI h
  · exact c_X2_save_3 l D cy sz a P hI h
  · exact c_X2_save_4 l D cy sz a P hI h
def backN (P Q : Nat → Int → Int) (n : Int) : Prop := ((∀ c : Nat, 9 ≤ c → c < 50 → Q c = P c) ∧ ∀ c : Nat, 100 ≤ c → Q c = P c) ∧ Q 50 1 = n ∧ (∀ k : Nat, k < 4 → mO (pgR Q k) = mO (pgR P k)) ∧ ∀ k : Nat, (k : Int) = n → ag (mO (pgR P k)) (mO Q)
theorem backN_of {P Q : Nat → Int → Int} {n : Nat} {z : Int} (hz : z = (n : Int)) (h : back P Q n) : backN P Q z := by
  subst hz
  exact ⟨h.1, h.2.1, h.2.2.1, fun k hk => by have e : k = n := by omega
                                             rw [e]; exact h.2.2.2⟩
def backO (P Q : Nat → Int → Int) (n : Nat) : Prop := (∀ c : Nat, 9 ≤ c → c < 50 → Q c = P c) ∧ Q 50 1 = (n : Int) ∧ (∀ k : Nat, k < 4 → mO (pgR Q k) = mO (pgR P k)) ∧ ag (mO (pgR P n)) (mO Q)
theorem backO_of {P P0 Q Q' : Nat → Int → Int} {n : Nat} (h : back P0 Q n) (hp : ∀ c : Nat, c < 100 → P0 c = P c) (hu : ∀ c : Nat, c < 100 → Q' c = Q c) (hn : n < 4) : backO P Q' n := by
  have e1 : ∀ k : Nat, k < 4 → mO (pgR P0 k) = mO (pgR P k) := fun k hk => mO_cg (fun i hi => hp (i + (60 + 10 * k)) (by omega))
  have e2 : ∀ k : Nat, k < 4 → mO (pgR Q' k) = mO (pgR Q k) := fun k hk => mO_cg (fun i hi => hu (i + (60 + 10 * k)) (by omega))
  refine ⟨fun c a b => ?_, by rw [hu 50 (by decide)]; exact h.2.1, fun k hk => ?_, ?_⟩
  · rw [hu c (by omega), ← hp c (by omega)]; exact h.1.1 c a b
  · rw [e2 k hk, ← e1 k hk]; exact h.2.2.1 k hk
  · rw [← e1 n hn, show mO Q' = mO Q from mO_cg (fun i hi => hu i (by omega))]; exact h.2.2.2
