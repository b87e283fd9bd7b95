/-! the class's script: numbers of its commands, and that they are the text's -/
theorem wd_byt : ∀ k : Nat, k < 7 → (wdL (k : Int)).length ≤ 10 ∧ ∀ j : Nat, j < 10 → 0 ≤ (wdL (k : Int)).getD j 0 ∧ (wdL (k : Int)).getD j 0 ≤ 127 := by decide +kernel
theorem wd_ok (k : Nat) (hk : k < 7) : (wdL (k : Int)).length ≤ 10 ∧ ∀ i : Int, 0 ≤ i → i < ((wdL (k : Int)).length : Int) → 0 ≤ listI (wdL (k : Int)) i ∧ listI (wdL (k : Int)) i ≤ 127 := by
  have h := wd_byt k hk
  exact ⟨h.1, fun i a b => h.2 i.toNat (by omega)⟩
def nmC (N : Int → Int) (c : Int) : Int → Int := fun j => N (c * 4 + j)
theorem nmC_ups (N : Int → Int) (c i v : Int) : nmC (ups N (c * 4 + i) v) c = ups (nmC N c) i v := by
  funext j
  show (if c * 4 + j = c * 4 + i then v else N (c * 4 + j)) = if j = i then v else N (c * 4 + j)
  by_cases e : j = i
  · rw [if_pos e, if_pos (by omega)]
  · rw [if_neg e, if_neg (by omega)]
def nOK (N : Int → Int) : Prop := ∀ i : Int, 0 ≤ i → i < 600 → 0 ≤ N i ∧ N i ≤ 999999
theorem nOK_ups {N : Int → Int} {i v : Int} (h : nOK N) (hv : 0 ≤ v ∧ v ≤ 999999) : nOK (ups N i v) := fun j a b => by
  by_cases e : j = i
  · rw [e, ups_eq]; exact hv
  · rw [ups_ne _ _ e]; exact h j a b
theorem nOK_C {N : Int → Int} (h : nOK N) {c : Int} (h0 : 0 ≤ c) (h1 : c < 150) : nmOK (nmC N c) := fun k a b => h _ (by omega) (by omega)
theorem nb_many {k : Int} (h : 0 ≤ k ∧ k ≤ 6) : numbersI k = manyF k := by
  have key : ∀ n : Nat, n < 7 → numbersI (n : Int) = manyF (n : Int) := by decide +kernel
  have e := key k.toNat (by omega)
  rw [Int.toNat_of_nonneg h.1] at e
  exact e
/-- a number of more than six digits: reading stops at the seventh -/
theorem rd_long {T : Int → Int} {n m i q q0 W9 k dq dv : Int} {A B : Int → Int} (hi : i < m) (hm : m = manyF k) (hs : ¬ skp T n q = q) (hd : dgF T n (skp T n q) = (dq, dv)) (hn : ¬ dq = skp T n q) (hg : dq < n ∧ 48 ≤ T dq ∧ T dq ≤ 57)
    (hp : prsN T n (m - i).toNat q B i = prsN T n m.toNat W9 A 0) (hk : kindW T q0 (wre T n q0) = k) (hw : wre T n q0 = W9) (hk1 : k ≠ -1000000000) : prsC T n q0 A = (0, dq, k, ups B i dv) := by
  have e1 := prsN_c (m := m) (k := i) (A := B) hi hs hd hn
  have e2 : skp T n dq = dq := skp_n (fun h9 => by omega)
  rw [hm] at hp e1
  by_cases z : i + 1 < manyF k
  · have e3 := prsN_a (m := manyF k) (k := i + 1) (A := ups B i dv) z e2
    exact prsC_1 hk hw hk1 (hp.symm.trans (e1.trans e3))
  · have e3 : prsN T n (manyF k - (i + 1)).toNat dq (ups B i dv) (i + 1) = (1, dq, ups B i dv) := by
      rw [show (manyF k - (i + 1)).toNat = 0 by omega]; rfl
    have e4 := prsC_3 hk hw hk1 (hp.symm.trans (e1.trans e3)) (fun h9 => by rw [e2] at h9; omega)
    rw [e2] at e4
    exact e4
/-- the commands that were read, each from its place in the text -/
def cmOK (T : Int → Int) (n : Int) (Pl K N : Int → Int) (c : Int) : Prop := ∀ i : Int, 0 ≤ i → i < c → ((0 ≤ Pl i ∧ Pl i < n) ∧ 0 ≤ K i ∧ K i ≤ 6) ∧ ∃ (x : Int) (B : Int → Int), prsC T n (Pl i) (fun _ => 0) = (1, x, K i, B) ∧ Pl (i + 1) = skp T n x ∧ ∀ j : Int, 0 ≤ j → j < manyF (K i) → B j = nmC N i j
theorem cmOK_0 (T : Int → Int) (n : Int) (Pl K N : Int → Int) : cmOK T n Pl K N 0 := fun i a b => by omega
theorem cmOK_s {T : Int → Int} {n c q x k : Int} {Pl K N N' : Int → Int} (h : cmOK T n Pl K N c) (hc : 0 ≤ c) (hP : Pl c = q) (hq : 0 ≤ q ∧ q < n) (e : prsC T n q (nmC N c) = (1, x, k, nmC N' c)) (hf : ∀ i : Int, 0 ≤ i → i < c * 4 → N' i = N i) : cmOK T n (ups Pl (c + 1) (skp T n x)) (ups K c k) N' (c + 1) := by
  have hb := prsC_b1 (Int.le_of_lt hq.2) e
  intro i a b
  by_cases z : i = c
  · subst z
    obtain ⟨B', e', hB⟩ := prsC_un (fun _ => 0) (Int.le_of_lt hq.2) e
    rw [ups_ne _ _ (show i ≠ i + 1 by omega), ups_eq, ups_eq, hP]
    exact ⟨⟨hq, by omega⟩, x, B', e', rfl, fun j j0 j1 => (hB j j0 j1).symm⟩
  · obtain ⟨g1, y, B, g2, g3, g4⟩ := h i a (by omega)
    rw [ups_ne _ _ (show i ≠ c + 1 by omega), ups_ne _ _ z, ups_ne _ _ (show i + 1 ≠ c + 1 by omega)]
    refine ⟨g1, y, B, g2, g3, fun j j0 j1 => ?_⟩
    rw [g4 j j0 j1]
    have := manyF_rg (K i)
    exact (hf _ (by omega) (by omega)).symm
/-- all of it -/
def cmAll (T : Int → Int) (n : Int) (K N : Int → Int) (c : Int) : Prop := ∃ Pl : Int → Int, Pl 0 = skp T n 0 ∧ cmOK T n Pl K N c ∧ (0 ≤ Pl c ∧ Pl c ≤ n) ∧ ¬ Pl c < n
/-- a command at its place, whatever numbers stood there before -/
theorem cmOK_at {T : Int → Int} {n c i : Int} {Pl K N : Int → Int} (h : cmOK T n Pl K N c) (h0 : 0 ≤ i) (h1 : i < c) (A : Int → Int) : ∃ (x : Int) (B : Int → Int), prsC T n (Pl i) A = (1, x, K i, B) ∧ Pl (i + 1) = skp T n x ∧ ∀ M : Int → Int, ftV M (K i) B = ftV M (K i) (nmC N i) ∧ efM M (K i) B = efM M (K i) (nmC N i) := by
  obtain ⟨g1, x, B, g2, g3, g4⟩ := h i h0 h1
  obtain ⟨B', e', hB⟩ := prsC_un A (Int.le_of_lt g1.1.2) g2
  exact ⟨x, B', e', g3, fun M => fe_cong M g1.2 (fun j a b => (hB j a b).symm.trans (g4 j a b))⟩
theorem upr_o (R : Nat → Int → Int) (f : Int → Int) {c d : Nat} (h : d ≠ c) : upr R c f d = R d := by
  have e : Nat.beq d c = false := by
    cases h9 : Nat.beq d c with
    | false => rfl
    | true => exact absurd (Nat.eq_of_beq_eq_true h9) h
  unfold upr
  rw [e]
  rfl
theorem upr9 (P Q : Nat → Int → Int) (h : ∀ c : Nat, 9 ≤ c → Q c = P c) : Q = upr (upr (upr (upr (upr (upr (upr (upr (upr P 0 (Q 0)) 1 (Q 1)) 2 (Q 2)) 3 (Q 3)) 4 (Q 4)) 5 (Q 5)) 6 (Q 6)) 7 (Q 7)) 8 (Q 8) := by
  funext c
  by_cases z : 9 ≤ c
  · rw [upr_o _ _ (by omega), upr_o _ _ (by omega), upr_o _ _ (by omega), upr_o _ _ (by omega), upr_o _ _ (by omega), upr_o _ _ (by omega), upr_o _ _ (by omega), upr_o _ _ (by omega), upr_o _ _ (by omega)]
    exact h c z
  · rcases (show c = 0 ∨ c = 1 ∨ c = 2 ∨ c = 3 ∨ c = 4 ∨ c = 5 ∨ c = 6 ∨ c = 7 ∨ c = 8 by omega) with e | e | e | e | e | e | e | e | e <;> subst e <;> rfl
/-! what the class asks ahead of a command is what the reference asks -/
theorem fc_1 {P : Nat → Int → Int} {t f x y : Int} (h : ¬ (0 ≤ t ∧ t < P 0 0)) : ftP (mO P) t f x y = 1 := ftP_1 (by rw [mO_12]; exact h)
theorem fc_2 {P : Nat → Int → Int} {t f x y : Int} (h : (0 ≤ t ∧ t < P 0 0) ∧ ¬ pointOK f x y) : ftP (mO P) t f x y = 2 := ftP_2 (by rw [mO_12]; exact h)
theorem fc_3 {P : Nat → Int → Int} (hI : Inv (mO P)) {t f x y : Int} (h : ((0 ≤ t ∧ t < P 0 0) ∧ pointOK f x y) ∧ (P 1 t = 12 ∨ hasF (mO P) t f)) : ftP (mO P) t f x y = 3 := ftP_3 (by
  have hS := po_S hI
  rw [mO_12, mO_pts P h.1.1.1 (by omega)]; exact h)
theorem fc_0 {P : Nat → Int → Int} (hI : Inv (mO P)) {t f x y : Int} (h : ((0 ≤ t ∧ t < P 0 0) ∧ pointOK f x y) ∧ (P 1 t < 12 ∧ ¬ hasF (mO P) t f)) : ftP (mO P) t f x y = 0 := ftP_0 (by
  have hS := po_S hI
  rw [mO_12, mO_pts P h.1.1.1 (by omega)]; exact h)
theorem gc_0 {P : Nat → Int → Int} {x y z : Int} (h : starOK x y z ∧ P 0 1 < 12) : ftS (mO P) x y z = 0 := ftS_0 (by rw [mO_13]; exact h)
theorem gc_3 {P : Nat → Int → Int} {x y z : Int} (h : starOK x y z ∧ P 0 1 = 12) : ftS (mO P) x y z = 3 := ftS_3 (by rw [mO_13]; exact h)
theorem nmC_k (N : Int → Int) (c : Int) : nmC N c 0 = N (c * 4) ∧ nmC N c 1 = N (c * 4 + 1) ∧ nmC N c 2 = N (c * 4 + 2) ∧ nmC N c 3 = N (c * 4 + 3) := ⟨by show N (c * 4 + 0) = _; rw [Int.add_zero], rfl, rfl, rfl⟩
