/-! the kept states, page by page -/
theorem kp_new {S M : Int → Int} {n k : Int} (hn : 0 ≤ n ∧ n ≤ 4) (k0 : 0 ≤ k) (k1 : k < 494) : page (kpS S M n) (kpN n - 1) k = M k := by
  unfold page kpS kpN
  by_cases z : n = 4
  · rw [if_pos z, if_pos z]
    unfold cpyI
    rw [if_pos (by omega)]
    congr 1
    omega
  · rw [if_neg z, if_neg z]
    unfold cpyI
    rw [if_pos (by omega)]
    congr 1
    omega
theorem kp_old {S M : Int → Int} {n c k : Int} (hn : 0 ≤ n ∧ n < 4) (c0 : 0 ≤ c) (c1 : c < n) (k0 : 0 ≤ k) (k1 : k < 494) : page (kpS S M n) c k = page S c k := by
  unfold page kpS
  rw [if_neg (by omega)]
  unfold cpyI
  rw [if_neg (by omega)]
theorem kp_old4 {S M : Int → Int} {c k : Int} (c0 : 0 ≤ c) (c1 : c < 3) (k0 : 0 ≤ k) (k1 : k < 494) : page (kpS S M 4) c k = page S (c + 1) k := by
  unfold page kpS
  rw [if_pos rfl]
  unfold cpyI
  rw [if_neg (by omega)]
  exact shf_in _ (by omega) (by omega) (by omega)
theorem ag_eq {M F : Int → Int} (hI : Inv M) (h : ∀ k : Int, 0 ≤ k → k < 494 → M k = F k) : ag M F := by
  have h12 := inv_S12 hI
  refine ⟨fun k a b => h k a (by omega), fun t a b => ?_, fun u a b => ⟨h _ (by omega) (by omega), h _ (by omega) (by omega), h _ (by omega) (by omega)⟩⟩
  exact trA_of (inv_pts hI a b).2 (fun j j0 j1 => h _ (by omega) (by omega))
