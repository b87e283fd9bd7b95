/-! steps of words and numbers -/
theorem dg_y {T : Int → Int} {n o q v : Int} (h : q < o + 6) (h2 : q < n) (h3 : 48 ≤ T q ∧ T q ≤ 57) : dgI T n (o + 6 - q).toNat q v = dgI T n (o + 6 - (q + 1)).toNat (q + 1) (10 * v + T q - 48) := by
  obtain ⟨f, hf⟩ : ∃ f : Nat, (o + 6 - q).toNat = f + 1 := ⟨(o + 6 - q).toNat - 1, by omega⟩
  rw [hf, show (o + 6 - (q + 1)).toNat = f by omega]
  unfold dgI
  rw [if_pos ⟨h2, h3⟩]
  cases f <;> rfl
theorem dg_n {T : Int → Int} {n o q v : Int} (h0 : q ≤ o + 6) (h : ¬ (q < o + 6 ∧ q < n ∧ 48 ≤ T q ∧ T q ≤ 57)) : dgI T n (o + 6 - q).toNat q v = (q, v) := by
  by_cases z : q < o + 6
  · obtain ⟨f, hf⟩ : ∃ f : Nat, (o + 6 - q).toNat = f + 1 := ⟨(o + 6 - q).toNat - 1, by omega⟩
    rw [hf]
    unfold dgI
    rw [if_neg (fun y => h ⟨z, y⟩)]
  · rw [show (o + 6 - q).toNat = 0 by omega]
    rfl
theorem dg_0 (T : Int → Int) (n o : Int) : dgI T n (o + 6 - o).toNat o 0 = dgF T n o := by
  rw [show (o + 6 - o).toNat = 6 by omega]
  rfl
theorem wn_y {T : Int → Int} {o q : Int} (h : o ≤ q) : wnI T o (q + 1 - o).toNat = if q - o < 7 then wnI T o (q - o).toNat * 27 + T q - 96 else -1 := by
  obtain ⟨f, hf⟩ : ∃ f : Nat, (q - o).toNat = f := ⟨_, rfl⟩
  rw [hf, show (q + 1 - o).toNat = f + 1 by omega]
  show (if f < 7 then wnI T o f * 27 + T (o + f) - 96 else -1) = _
  rw [show o + (f : Int) = q by omega]
  by_cases z : f < 7
  · rw [if_pos z, if_pos (by omega)]
  · rw [if_neg z, if_neg (by omega)]
theorem wn_bd {T : Int → Int} {o q : Int} (h : o ≤ q) (hl : ∀ k : Int, o ≤ k → k < q → 97 ≤ T k ∧ T k ≤ 122) : -1 ≤ wnI T o (q - o).toNat ∧ wnI T o (q - o).toNat ≤ 12000000000 := wnI_bd _ (fun i a => hl _ (by omega) (by omega))
theorem wk_y {T : Int → Int} {o q : Int} (h : o ≤ q) (hl : ∀ k : Int, o ≤ k → k < q → 97 ≤ T k ∧ T k ≤ 122) (h6 : q - o ≤ 6) : cmdN (wnI T o (q - o).toNat) = kindW T o q := by
  rw [← kind_num h hl]
  unfold wcI
  rw [if_neg (by omega)]
theorem wk_n {T : Int → Int} {o q : Int} (h : o ≤ q) (hl : ∀ k : Int, o ≤ k → k < q → 97 ≤ T k ∧ T k ≤ 122) (h6 : ¬ q - o ≤ 6) : kindW T o q = -1000000000 := by
  rw [← kind_num h hl]
  unfold wcI
  rw [if_pos (by omega)]
/-! commands by their numbers -/
theorem fv_0 {M A : Int → Int} {k : Int} (h : k = 0) : ftV M k A = (if M 12 = 12 then 3 else 0) ∧ efM M k A = tAT M := by subst h; exact ⟨rfl, rfl⟩
theorem fv_1 {M A : Int → Int} {k : Int} (h : k = 1) : ftV M k A = ftP M (A 0) (A 1) (A 2) (A 3) ∧ efM M k A = tAP M (A 0) (A 1) (A 2) (A 3) := by subst h; exact ⟨rfl, rfl⟩
theorem fv_2 {M A : Int → Int} {k : Int} (h : k = 2) : ftV M k A = ftS M (A 0) (A 1) (A 2) ∧ efM M k A = tAS M (A 0) (A 1) (A 2) := by subst h; exact ⟨rfl, rfl⟩
theorem fv_3 {M A : Int → Int} {k : Int} (h : k = 3) : ftV M k A = okV (poleOK (A 0) (A 1)) ∧ efM M k A = tPo M (A 0) (A 1) := by subst h; exact ⟨rfl, rfl⟩
theorem fv_4 {M A : Int → Int} {k : Int} (h : k = 4) : ftV M k A = okV (setOK (A 0) (A 1)) ∧ efM M k A = ups M (A 0) (A 1) := by subst h; exact ⟨rfl, rfl⟩
theorem fv_5 {M A : Int → Int} {k : Int} (h : k = 5) : ftV M k A = okV (setOK 0 (-(A 0))) ∧ efM M k A = ups M 0 (-(A 0)) := by subst h; exact ⟨rfl, rfl⟩
theorem fv_6 {M A : Int → Int} {k : Int} (h : k = 6) : ftV M k A = okV (1 ≤ A 0 ∧ A 0 ≤ 512) ∧ efM M k A = (srch M (A 0)).1 := by subst h; exact ⟨rfl, rfl⟩
theorem ft0_y {M : Int → Int} (hI : Inv M) (h : (if M 12 = 12 then (3 : Int) else 0) = 0) : M 12 < 12 := by
  have h12 := inv_S12 hI
  by_cases z : M 12 = 12
  · rw [if_pos z] at h
    exact absurd h (by decide)
  · omega
theorem skp_le {T : Int → Int} {n q : Int} (h : q ≤ n) : q ≤ skp T n q ∧ skp T n q ≤ n := ⟨(skp_bd T h).1, (skp_bd T h).2.1⟩
