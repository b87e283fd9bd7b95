/-! more of rows, compares of longs, exclusive or -/
theorem shf_lo (M : Int → Int) {lo hi d j : Int} (h : j < lo) : shf M lo hi d j = M j := by
  unfold shf
  rw [if_neg (by omega)]
theorem shb_out (M : Int → Int) {lo hi d j : Int} (h : j < lo ∨ hi ≤ j) : shb M lo hi d j = M j := by
  unfold shb
  rw [if_neg (by omega)]
theorem shb_0 (M : Int → Int) {lo hi : Int} (d : Int) (h : hi ≤ lo) : shb M lo hi d = M := by
  funext j
  exact shb_out M (by omega)
theorem shb_s3 (M : Int → Int) {c d hi : Int} (hd : d + 3 = c) (hc : c + 3 ≤ hi) :
    shb M c hi 3 = ups (ups (ups (shb M (c + 3) hi 3) (c + 0) (shb M (c + 3) hi 3 (d + 0))) (c + 1) (ups (shb M (c + 3) hi 3) (c + 0) (shb M (c + 3) hi 3 (d + 0)) (d + 1))) (c + 2) (ups (ups (shb M (c + 3) hi 3) (c + 0) (shb M (c + 3) hi 3 (d + 0))) (c + 1) (ups (shb M (c + 3) hi 3) (c + 0) (shb M (c + 3) hi 3 (d + 0)) (d + 1)) (d + 2)) := by
  rw [ups_ne _ _ (show d + 1 ≠ c + 0 by omega), ups_ne _ _ (show d + 2 ≠ c + 1 by omega), ups_ne _ _ (show d + 2 ≠ c + 0 by omega), shb_out M (show d + 0 < c + 3 ∨ hi ≤ d + 0 by omega), shb_out M (show d + 1 < c + 3 ∨ hi ≤ d + 1 by omega), shb_out M (show d + 2 < c + 3 ∨ hi ≤ d + 2 by omega)]
  funext j
  by_cases e2 : j = c + 2
  · subst e2
    rw [ups_eq]
    unfold shb
    rw [if_pos (by omega)]
    congr 1
    omega
  · rw [ups_ne _ _ e2]
    by_cases e1 : j = c + 1
    · subst e1
      rw [ups_eq]
      unfold shb
      rw [if_pos (by omega)]
      congr 1
      omega
    · rw [ups_ne _ _ e1]
      by_cases e0 : j = c + 0
      · subst e0
        rw [ups_eq]
        unfold shb
        rw [if_pos (by omega)]
        congr 1
        omega
      · rw [ups_ne _ _ e0]
        unfold shb
        by_cases z : c ≤ j ∧ j < hi
        · rw [if_pos z, if_pos (by omega)]
        · rw [if_neg z, if_neg (by omega)]
theorem ups_self (f : Int → Int) (i : Int) : ups f i (f i) = f := by
  funext j
  unfold ups
  split
  · next h => rw [h]
  · rfl
theorem ups_ups (f : Int → Int) (i x y : Int) : ups (ups f i x) i y = ups f i y := by
  funext j
  unfold ups
  split <;> rfl
theorem upr_of {u : Nat → Int → Int} {c : Nat} {f : Int → Int} (h : u c = f) : upr u c f = u := by rw [← h]; exact upr_self u c
def cmpL (x y : Int) : Int := if y < x then 1 else if x = y then 0 else -1
theorem cmpL_spec (x y : Int) : (y < x ∧ cmpL x y = 1) ∨ (x = y ∧ cmpL x y = 0) ∨ (x < y ∧ cmpL x y = -1) := by
  unfold cmpL
  split
  · omega
  · split <;> omega
theorem lI_lt {a b : Int} (ha : -9223372036854775808 ≤ a ∧ a ≤ 9223372036854775807) (hb : -9223372036854775808 ≤ b ∧ b ≤ 9223372036854775807) : lI a < lI b ↔ a < b := by
  rw [Int64.lt_iff_toInt_lt, lI_toInt ha, lI_toInt hb]
theorem lI_eq {a b : Int} (ha : -9223372036854775808 ≤ a ∧ a ≤ 9223372036854775807) (hb : -9223372036854775808 ≤ b ∧ b ≤ 9223372036854775807) : lI a = lI b ↔ a = b :=
  ⟨fun h => by rw [← lI_toInt ha, ← lI_toInt hb, h], fun h => by rw [h]⟩
theorem cmpL_eq {x y : Int} (hx : -9223372036854775808 ≤ x ∧ x ≤ 9223372036854775807) (hy : -9223372036854775808 ≤ y ∧ y ≤ 9223372036854775807) : lg_cmp (lI x) (lI y) = iI (cmpL x y) := by
  unfold lg_cmp cmpL
  by_cases h1 : y < x
  · rw [if_pos ((lI_lt hy hx).mpr h1), if_pos h1]; rfl
  · rw [if_neg (fun h => h1 ((lI_lt hy hx).mp h)), if_neg h1]
    by_cases h2 : x = y
    · rw [if_pos ((lI_eq hx hy).mpr h2), if_pos h2]; rfl
    · rw [if_neg (fun h => h2 ((lI_eq hx hy).mp h)), if_neg h2]; rfl
def xorI (a b : Int) : Int := (iI a ^^^ iI b).toInt
theorem msb_i (x : Int32) : x.toBitVec.msb = decide (x.toInt < 0) := BitVec.msb_eq_toInt
theorem xorI_spec {a b : Int} (ha : -2147483648 ≤ a ∧ a ≤ 2147483647) (hb : -2147483648 ≤ b ∧ b ≤ 2147483647) : (-2147483648 ≤ xorI a b ∧ xorI a b ≤ 2147483647) ∧ (xorI a b < 0 ↔ ((a < 0 ∧ 0 ≤ b) ∨ (0 ≤ a ∧ b < 0))) := by
  refine ⟨iI_rng _, ?_⟩
  have h : (iI a ^^^ iI b).toBitVec.msb = ((iI a).toBitVec.msb ^^ (iI b).toBitVec.msb) := by rw [Int32.toBitVec_xor]; exact BitVec.msb_xor
  rw [msb_i, msb_i, msb_i, iI_toInt ha, iI_toInt hb] at h
  unfold xorI
  by_cases h1 : a < 0 <;> by_cases h2 : b < 0 <;> simp [h1, h2] at h ⊢ <;> omega
section KX
variable {p : Program} {l : Launch} {e : Env} {R : Room} {s : State} {m : MethodId} {args : Array Value} {below : List Frame} {meth : Method} {c : Code} {H : Heap} {locs : List Loc} {cells slots : Nat} {Q : State → Prop}
variable {cc : ByteArray} {pc : Nat} {ls : Array Slot} {rest : List Value}
theorem k_lcmp (hexec : p.tables.exec = Jvm.exec) (hb : c.code = cc) {x y : Int} (hdg : decode cc pc = .ok (.lcmp, 1)) (hx : -9223372036854775808 ≤ x ∧ x ≤ 9223372036854775807) (hy : -9223372036854775808 ≤ y ∧ y ≤ 9223372036854775807) (k : W p l e R s m args below meth c H locs cells slots Q (F0 m (pc + 1) ls (.int (iI (cmpL x y)) :: rest))) : W p l e R s m args below meth c H locs cells slots Q (F0 m pc ls (.long (lI y) :: .long (lI x) :: rest)) := W.lcmp hexec hb hdg (by rw [cmpL_eq hx hy]; exact k)
theorem k_ixor (hexec : p.tables.exec = Jvm.exec) (hb : c.code = cc) {x y : Int} (hdg : decode cc pc = .ok (.ixor, 1)) (k : W p l e R s m args below meth c H locs cells slots Q (F0 m (pc + 1) ls (.int (iI (xorI x y)) :: rest))) : W p l e R s m args below meth c H locs cells slots Q (F0 m pc ls (.int (iI y) :: .int (iI x) :: rest)) := lv_ixor hexec hb hdg (by rw [show iI x ^^^ iI y = iI (xorI x y) from iI_of _]; exact k)
end KX
/-! places of a new point -/
theorem posI_zero (M : Int → Int) (t f : Int) {p : Int} (h : p = 0) : posI M t f p.toNat = p := by subst h; rfl
theorem posI_step {M : Int → Int} {t f p : Int} (h : 0 < p) (hf : f < frm M t (p - 1)) : posI M t f p.toNat = posI M t f (p - 1).toNat := by
  obtain ⟨n, rfl⟩ : ∃ n : Nat, p = (n : Int) + 1 := ⟨(p - 1).toNat, by omega⟩
  have e1 : ((n : Int) + 1).toNat = n + 1 := by omega
  have e2 : ((n : Int) + 1 - 1).toNat = n := by omega
  have e3 : (n : Int) + 1 - 1 = n := by omega
  rw [e3] at hf
  rw [e1, e2]
  conv => lhs; unfold posI
  rw [if_pos hf]
theorem posI_stop {M : Int → Int} {t f p : Int} (h : 0 < p) (hf : ¬ f < frm M t (p - 1)) : posI M t f p.toNat = p := by
  obtain ⟨n, rfl⟩ : ∃ n : Nat, p = (n : Int) + 1 := ⟨(p - 1).toNat, by omega⟩
  have e1 : ((n : Int) + 1).toNat = n + 1 := by omega
  have e3 : (n : Int) + 1 - 1 = n := by omega
  rw [e3] at hf
  rw [e1]
  conv => lhs; unfold posI
  rw [if_neg hf]
/-! search -/
theorem inv_pcost {M : Int → Int} (h : Inv M) : 0 ≤ pcost M ∧ pcost M ≤ 118800 := by
  have h12 := (inv_S12 h).1
  have a := sumZ_bd (f := fun t => if 1 < pts M t then sprd M t else 0) (lo := 0) (hi := 9900) (p := M 12) h12.1 (fun k k0 k1 => by
    (try dsimp only)
    split
    · next z => exact inv_sprd h k0 k1 (by omega)
    · omega)
  unfold pcost
  omega
def nbX (px s k : Int) : Int := px + (k % 3 - 1) * s
def nbY (py s k : Int) : Int := py + (k / 3 - 1) * s
def nbOK (M : Int → Int) (s k : Int) : Prop := k ≠ 4 ∧ poleOK (nbX (M 10) s k) (nbY (M 11) s k)
noncomputable def nbC (M : Int → Int) (s k : Int) : Int := pcost (tPo M (nbX (M 10) s k) (nbY (M 11) s k))
noncomputable def lkR (M : Int → Int) (s x0 y0 : Int) : Nat → Int × Int × Int
  | 0 => (x0, y0, -1000000000)
  | n + 1 => @ite _ (nbOK M s n ∧ ((lkR M s x0 y0 n).2.2 = -1000000000 ∨ nbC M s n < (lkR M s x0 y0 n).2.2)) (Classical.propDecidable _) (nbX (M 10) s n, nbY (M 11) s n, nbC M s n) (lkR M s x0 y0 n)
theorem lkR_y {M : Int → Int} {s x0 y0 k a b c : Int} (hk : 0 ≤ k) (h : lkR M s x0 y0 k.toNat = (a, b, c)) (h1 : nbOK M s k) (h2 : c = -1000000000 ∨ nbC M s k < c) : lkR M s x0 y0 (k + 1).toNat = (nbX (M 10) s k, nbY (M 11) s k, nbC M s k) := by
  have e : (k + 1).toNat = k.toNat + 1 := by omega
  have e2 : ((k.toNat : Nat) : Int) = k := by omega
  rw [e]
  unfold lkR
  rw [h, e2, if_pos ⟨h1, h2⟩]
theorem lkR_n {M : Int → Int} {s x0 y0 k a b c : Int} (hk : 0 ≤ k) (h : lkR M s x0 y0 k.toNat = (a, b, c)) (h1 : ¬ (nbOK M s k ∧ (c = -1000000000 ∨ nbC M s k < c))) : lkR M s x0 y0 (k + 1).toNat = (a, b, c) := by
  have e : (k + 1).toNat = k.toNat + 1 := by omega
  have e2 : ((k.toNat : Nat) : Int) = k := by omega
  rw [e]
  unfold lkR
  rw [h, e2, if_neg h1]
theorem lkR_ok {M : Int → Int} {s x0 y0 : Int} (x1 y1 : Int) : ∀ n : Nat, ((lkR M s x0 y0 n).2.2 = -1000000000 ∧ (lkR M s x1 y1 n).2.2 = -1000000000) ∨ (lkR M s x0 y0 n = lkR M s x1 y1 n ∧ poleOK (lkR M s x0 y0 n).1 (lkR M s x0 y0 n).2.1 ∧ (lkR M s x0 y0 n).2.2 = pcost (tPo M (lkR M s x0 y0 n).1 (lkR M s x0 y0 n).2.1))
  | 0 => Or.inl ⟨rfl, rfl⟩
  | n + 1 => by
    have ih := lkR_ok (M := M) (s := s) (x0 := x0) (y0 := y0) x1 y1 n
    unfold lkR
    by_cases hp : nbOK M s n ∧ ((lkR M s x0 y0 n).2.2 = -1000000000 ∨ nbC M s n < (lkR M s x0 y0 n).2.2)
    · have hp1 : nbOK M s n ∧ ((lkR M s x1 y1 n).2.2 = -1000000000 ∨ nbC M s n < (lkR M s x1 y1 n).2.2) := by
        rcases ih with ⟨_, i2⟩ | ⟨i1, _⟩
        · exact ⟨hp.1, Or.inl i2⟩
        · rw [← i1]; exact hp
      rw [if_pos hp, if_pos hp1]
      exact Or.inr ⟨rfl, hp.1.2, rfl⟩
    · have hp1 : ¬ (nbOK M s n ∧ ((lkR M s x1 y1 n).2.2 = -1000000000 ∨ nbC M s n < (lkR M s x1 y1 n).2.2)) := by
        rcases ih with ⟨i1, i2⟩ | ⟨i1, _⟩
        · intro h; exact hp ⟨h.1, Or.inl i1⟩
        · rw [← i1]; exact hp
      rw [if_neg hp, if_neg hp1]
      exact ih
noncomputable def lkc (M : Int → Int) (s : Int) : Int × Int × Int := lkR M s 0 0 9
def lkOK (M : Int → Int) (s : Int) : Prop := (lkc M s).2.2 ≠ -1000000000 ∧ (lkc M s).2.2 < pcost M
theorem lkOK_of {M : Int → Int} {s x0 y0 a b c : Int} (h : lkR M s x0 y0 9 = (a, b, c)) : (c = -1000000000 ∧ ¬ lkOK M s) ∨ (lkc M s = (a, b, c) ∧ poleOK a b ∧ c = pcost (tPo M a b) ∧ (lkOK M s ↔ c < pcost M ∧ c ≠ -1000000000)) := by
  have g := lkR_ok (M := M) (s := s) (x0 := x0) (y0 := y0) 0 0 9
  rw [h] at g
  unfold lkOK lkc
  rcases g with ⟨g1, g2⟩ | ⟨g1, g2, g3⟩
  · exact Or.inl ⟨g1, fun z => z.1 g2⟩
  · rw [← g1]
    exact Or.inr ⟨rfl, g2, g3, ⟨fun z => ⟨z.2, z.1⟩, fun z => ⟨z.2, z.1⟩⟩⟩
noncomputable def srF : Nat → (Int → Int) → Int → (Int → Int) × Int
  | 0, M, _ => (M, 0)
  | f + 1, M, s => @ite _ (s ≤ 0) (Classical.propDecidable _) (M, 0) (@ite _ (lkOK M s) (Classical.propDecidable _) ((srF f (tPo M (lkc M s).1 (lkc M s).2.1) s).1, (srF f (tPo M (lkc M s).1 (lkc M s).2.1) s).2 + 1) (srF f M (s / 2)))
theorem srF_s (f : Nat) (M : Int → Int) (s : Int) : srF (f + 1) M s = @ite _ (s ≤ 0) (Classical.propDecidable _) (M, 0) (@ite _ (lkOK M s) (Classical.propDecidable _) ((srF f (tPo M (lkc M s).1 (lkc M s).2.1) s).1, (srF f (tPo M (lkc M s).1 (lkc M s).2.1) s).2 + 1) (srF f M (s / 2))) := rfl
theorem srF_same : ∀ (f g : Nat) (M : Int → Int) (s : Int), Inv M → pcost M + s < f → pcost M + s < g → srF f M s = srF g M s
  | 0, g, M, s, hI, hf, hg => by
    have h := (inv_pcost hI).1
    cases g with
    | zero => rfl
    | succ g => rw [srF_s, if_pos (by omega)]; rfl
  | f + 1, 0, M, s, hI, hf, hg => by
    have h := (inv_pcost hI).1
    rw [srF_s, if_pos (by omega)]
    rfl
  | f + 1, g + 1, M, s, hI, hf, hg => by
    have h := (inv_pcost hI).1
    rw [srF_s, srF_s]
    by_cases z : s ≤ 0
    · rw [if_pos z, if_pos z]
    · rw [if_neg z, if_neg z]
      by_cases y : lkOK M s
      · rw [if_pos y, if_pos y]
        have q := lkOK_of (M := M) (s := s) (x0 := 0) (y0 := 0) (a := (lkc M s).1) (b := (lkc M s).2.1) (c := (lkc M s).2.2) rfl
        rcases q with ⟨_, q⟩ | ⟨_, q2, q3, _⟩
        · exact absurd y q
        · have hI2 := inv_tPo hI q2
          have hc := y.2
          rw [srF_same f g _ s hI2 (by omega) (by omega)]
      · rw [if_neg y, if_neg y]
        exact srF_same f g M (s / 2) hI (by omega) (by omega)
noncomputable def srch (M : Int → Int) (s : Int) : (Int → Int) × Int := srF 200000 M s
theorem srch_0 {M : Int → Int} {s : Int} (h : s ≤ 0) : srch M s = (M, 0) := by
  show srF (199999 + 1) M s = (M, 0)
  rw [srF_s, if_pos h]
theorem srch_n {M : Int → Int} {s : Int} (hI : Inv M) (h : 0 < s) (h2 : s ≤ 512) (y : ¬ lkOK M s) : srch M s = srch M (s / 2) := by
  have hp := inv_pcost hI
  have e : srch M s = srF 199999 M (s / 2) := by
    show srF (199999 + 1) M s = _
    rw [srF_s, if_neg (by omega), if_neg y]
  rw [e]
  exact srF_same 199999 200000 M (s / 2) hI (by omega) (by omega)
theorem srch_y {M : Int → Int} {s a b c : Int} (hI : Inv M) (h : 0 < s) (h2 : s ≤ 512) (hk : lkc M s = (a, b, c)) (y : lkOK M s) : srch M s = ((srch (tPo M a b) s).1, (srch (tPo M a b) s).2 + 1) := by
  have hp := inv_pcost hI
  have q := lkOK_of (M := M) (s := s) (x0 := 0) (y0 := 0) (a := a) (b := b) (c := c) hk
  rcases q with ⟨_, q⟩ | ⟨_, q2, q3, _⟩
  · exact absurd y q
  · have hI2 := inv_tPo hI q2
    have hp2 := inv_pcost hI2
    have e : srch M s = ((srF 199999 (tPo M (lkc M s).1 (lkc M s).2.1) s).1, (srF 199999 (tPo M (lkc M s).1 (lkc M s).2.1) s).2 + 1) := by
      show srF (199999 + 1) M s = _
      rw [srF_s, if_neg (by omega), if_pos y]
    rw [e, hk]
    rw [srF_same 199999 200000 (tPo M a b) s hI2 (by omega) (by omega)]
    rfl
theorem lk_row (F : Int → Int) (a b c x y z : Int) : ups (ups (ups (ups (ups (ups F 7 a) 8 b) 9 c) 7 x) 8 y) 9 z = ups (ups (ups F 7 x) 8 y) 9 z := by
  funext k
  unfold ups
  (repeat' split) <;> first | rfl | omega
theorem lk_row0 (F : Int → Int) (c : Int) : ups F 9 c = ups (ups (ups F 7 (F 7)) 8 (F 8)) 9 c := by
  rw [ups_self, ups_self]
theorem inv_back {M G : Int → Int} {x y : Int} (h : G = tPo M x y) : tPo G (M 10) (M 11) = M := by rw [h]; exact tPo_back M x y
theorem tPo_10 (M : Int → Int) (x y : Int) : tPo M x y 10 = x := by unfold tPo; rw [ups_ne _ _ (by decide), ups_eq]
theorem tPo_11 (M : Int → Int) (x y : Int) : tPo M x y 11 = y := by unfold tPo; rw [ups_eq]
theorem tPo_ne (M : Int → Int) (x y : Int) {k : Int} (h : k ≠ 10) (h2 : k ≠ 11) : tPo M x y k = M k := by unfold tPo; rw [ups_ne _ _ h2, ups_ne _ _ h]
section KY
variable {p : Program} {l : Launch} {e : Env} {R : Room} {s : State} {m : MethodId} {args : Array Value} {below : List Frame} {meth : Method} {c : Code} {H : Heap} {locs : List Loc} {cells slots : Nat} {Q : State → Prop}
variable {pc : Nat} {ls : Array Slot} {rest : List Value}
theorem k_eqI {v w : Int} (h : v = w) (k : W p l e R s m args below meth c H locs cells slots Q (F0 m pc ls (.int (iI w) :: rest))) : W p l e R s m args below meth c H locs cells slots Q (F0 m pc ls (.int (iI v) :: rest)) := by rw [h]; exact k
end KY
