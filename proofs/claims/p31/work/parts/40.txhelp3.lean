/-! commands carried out one after another -/
theorem ftP_y2 {M : Int → Int} {t f x y : Int} (hI : Inv M) (h : ftP M t f x y = 0) : ((0 ≤ t ∧ t < M 12) ∧ pointOK f x y) ∧ (pts M t < 12 ∧ ¬ hasF M t f) := by
  by_cases z : 0 ≤ t ∧ t < M 12
  · exact ftP_y (inv_pts hI z.1 z.2).2 h
  · rw [ftP_1 z] at h
    exact absurd h (by decide)
noncomputable def rcN (T : Int → Int) (n : Int) : Nat → Int → (Int → Int) → (Int → Int) → Int → Int × Int × (Int → Int)
  | 0, _, M, _, c => (0, c, M)
  | f + 1, q, M, A, c =>
    if q < n ∧ (prsC T n q A).1 = 1 then
      (if ftV M (prsC T n q A).2.2.1 (prsC T n q A).2.2.2 = 0 then rcN T n f (skp T n (prsC T n q A).2.1) (efM M (prsC T n q A).2.2.1 (prsC T n q A).2.2.2) (prsC T n q A).2.2.2 (c + 1)
       else (ftV M (prsC T n q A).2.2.1 (prsC T n q A).2.2.2, c, M))
    else (0, c, M)
theorem rcN_same {T : Int → Int} {n : Int} : ∀ (f g : Nat) (q : Int) (M A : Int → Int) (c : Int), q ≤ n → n - q ≤ f → n - q ≤ g → rcN T n f q M A c = rcN T n g q M A c
  | 0, 0, _, _, _, _, _, _, _ => rfl
  | 0, g + 1, q, M, A, c, h, hf, hg => by
    unfold rcN
    rw [if_neg (fun z => by have := z.1; omega)]
  | f + 1, 0, q, M, A, c, h, hf, hg => by
    unfold rcN
    rw [if_neg (fun z => by have := z.1; omega)]
  | f + 1, g + 1, q, M, A, c, h, hf, hg => by
    unfold rcN
    by_cases z : q < n ∧ (prsC T n q A).1 = 1
    · rw [if_pos z, if_pos z]
      by_cases y : ftV M (prsC T n q A).2.2.1 (prsC T n q A).2.2.2 = 0
      · rw [if_pos y, if_pos y]
        have b := (prsC_bd T A h).1
        have b2 : q < (prsC T n q A).2.1 ∧ (prsC T n q A).2.1 ≤ n := by
          rcases b with b | b
          · have := z.2; omega
          · exact ⟨b.2.1, b.2.2.1⟩
        have s := skp_le (T := T) b2.2
        exact rcN_same f g _ _ _ _ s.2 (by omega) (by omega)
      · rw [if_neg y, if_neg y]
    · rw [if_neg z, if_neg z]
noncomputable def rcF (T : Int → Int) (n q : Int) (M A : Int → Int) (c : Int) : Int × Int × (Int → Int) := rcN T n 150 q M A c
theorem rcF_end {T : Int → Int} {n q : Int} {M A : Int → Int} {c : Int} (h : ¬ q < n) : rcF T n q M A c = (0, c, M) := by
  show rcN T n (149 + 1) q M A c = _
  unfold rcN
  rw [if_neg (fun z => h z.1)]
theorem rcF_no {T : Int → Int} {n q x k : Int} {M A B : Int → Int} {c : Int} (h : q < n) (e : prsC T n q A = (1, x, k, B)) (hv : ¬ ftV M k B = 0) : rcF T n q M A c = (ftV M k B, c, M) := by
  show rcN T n (149 + 1) q M A c = _
  unfold rcN
  rw [e, if_pos ⟨h, rfl⟩, if_neg hv]
theorem rcF_go {T : Int → Int} {n q x k : Int} {M A B : Int → Int} {c : Int} (h0 : 0 ≤ q) (hn : n ≤ 150) (h : q < n) (e : prsC T n q A = (1, x, k, B)) (hv : ftV M k B = 0) : rcF T n q M A c = rcF T n (skp T n x) (efM M k B) B (c + 1) := by
  have b := prsC_b1 (Int.le_of_lt h) e
  have s := skp_le (T := T) b.2.1
  have g : rcF T n q M A c = rcN T n 149 (skp T n x) (efM M k B) B (c + 1) := by
    show rcN T n (149 + 1) q M A c = _
    rw [show rcN T n (149 + 1) q M A c = if q < n ∧ (prsC T n q A).1 = 1 then
      (if ftV M (prsC T n q A).2.2.1 (prsC T n q A).2.2.2 = 0 then rcN T n 149 (skp T n (prsC T n q A).2.1) (efM M (prsC T n q A).2.2.1 (prsC T n q A).2.2.2) (prsC T n q A).2.2.2 (c + 1)
       else (ftV M (prsC T n q A).2.2.1 (prsC T n q A).2.2.2, c, M)) else (0, c, M) from rfl, e, if_pos ⟨h, rfl⟩, if_pos hv]
  rw [g]
  exact rcN_same 149 150 _ _ _ _ s.2 (by omega) (by omega)
theorem ftV_rg (M A : Int → Int) {k : Int} (hk : 0 ≤ k ∧ k ≤ 6) : 0 ≤ ftV M k A ∧ ftV M k A ≤ 3 := by
  have ok : ∀ c : Prop, 0 ≤ okV c ∧ okV c ≤ 3 := fun c => by
    unfold okV
    split <;> omega
  rcases ftV_01 M A hk with ⟨_, e, _⟩ | ⟨_, e, _⟩ | ⟨_, e, _⟩ | ⟨_, e, _⟩ | ⟨_, e, _⟩ | ⟨_, e, _⟩ | ⟨_, e, _⟩ <;> rw [e]
  · split <;> omega
  · unfold ftP
    (repeat' split) <;> omega
  · unfold ftS
    (repeat' split) <;> omega
  · exact ok _
  · exact ok _
  · exact ok _
  · exact ok _
