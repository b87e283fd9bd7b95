/-! the least of the places around, as the class looks for it -/
def lkr (M : Int → Int) (s hr k ls9 x y : Int) : Prop := (((lkR M s 0 0 k.toNat).2.2 = -1000000000 ∨ hr ≤ (lkR M s 0 0 k.toNat).2.2) ∧ ls9 = hr) ∨ ((lkR M s 0 0 k.toNat).2.2 ≠ -1000000000 ∧ (lkR M s 0 0 k.toNat).2.2 < hr ∧ lkR M s 0 0 k.toNat = (x, y, ls9))
theorem lkr_0 (M : Int → Int) (s hr x y : Int) : lkr M s hr 0 hr x y := Or.inl ⟨Or.inl rfl, rfl⟩
theorem lkr_y {M : Int → Int} {s hr k ls9 x y : Int} (hk : 0 ≤ k) (h : lkr M s hr k ls9 x y) (ho : nbOK M s k) (hc : 0 ≤ nbC M s k) (hl : nbC M s k < ls9) : lkr M s hr (k + 1) (nbC M s k) (nbX (M 10) s k) (nbY (M 11) s k) := by
  have key : lkR M s 0 0 (k + 1).toNat = (nbX (M 10) s k, nbY (M 11) s k, nbC M s k) := by
    refine lkR_y (a := (lkR M s 0 0 k.toNat).1) (b := (lkR M s 0 0 k.toNat).2.1) (c := (lkR M s 0 0 k.toNat).2.2) hk rfl ho ?_
    rcases h with ⟨h1, h2⟩ | ⟨h1, h2, h3⟩
    · omega
    · rw [h3]
      exact Or.inr hl
  refine Or.inr ?_
  rw [key]
  refine ⟨?_, ?_, rfl⟩
  · show nbC M s k ≠ -1000000000
    omega
  · show nbC M s k < hr
    rcases h with ⟨h1, h2⟩ | ⟨h1, h2, h3⟩
    · omega
    · rw [h3] at h2
      have h4 : ls9 < hr := h2
      omega
theorem lkr_n {M : Int → Int} {s hr k ls9 x y : Int} (hk : 0 ≤ k) (h : lkr M s hr k ls9 x y) (hl : nbOK M s k → ls9 ≤ nbC M s k) : lkr M s hr (k + 1) ls9 x y := by
  by_cases ho : nbOK M s k ∧ ((lkR M s 0 0 k.toNat).2.2 = -1000000000 ∨ nbC M s k < (lkR M s 0 0 k.toNat).2.2)
  · have key := lkR_y (a := (lkR M s 0 0 k.toNat).1) (b := (lkR M s 0 0 k.toNat).2.1) (c := (lkR M s 0 0 k.toNat).2.2) hk rfl ho.1 ho.2
    have hl2 := hl ho.1
    rcases h with ⟨h1, h2⟩ | ⟨h1, h2, h3⟩
    · refine Or.inl ⟨Or.inr ?_, h2⟩
      rw [key]
      show hr ≤ nbC M s k
      omega
    · exfalso
      have h4 := ho.2
      rw [h3] at h4 h1
      have h5 : ls9 = -1000000000 ∨ nbC M s k < ls9 := h4
      have h6 : ls9 ≠ -1000000000 := h1
      omega
  · have key := lkR_n (a := (lkR M s 0 0 k.toNat).1) (b := (lkR M s 0 0 k.toNat).2.1) (c := (lkR M s 0 0 k.toNat).2.2) hk rfl ho
    unfold lkr
    rw [key]
    exact h
theorem lkr_end {M : Int → Int} {s ls9 x y : Int} (h : lkr M s (pcost M) 9 ls9 x y) : (ls9 = pcost M ∧ ¬ lkOK M s) ∨ (ls9 < pcost M ∧ lkc M s = (x, y, ls9) ∧ poleOK x y ∧ ls9 = pcost (tPo M x y) ∧ lkOK M s) := by
  have e : (9 : Int).toNat = 9 := rfl
  unfold lkr at h
  rw [e] at h
  rcases h with ⟨h1, h2⟩ | ⟨h1, h2, h3⟩
  · refine Or.inl ⟨h2, fun z => ?_⟩
    unfold lkOK lkc at z
    omega
  · have hk : lkc M s = (x, y, ls9) := h3
    have q := lkOK_of (M := M) (s := s) h3
    rw [h3] at h1 h2
    have h4 : ls9 ≠ -1000000000 := h1
    have h5 : ls9 < pcost M := h2
    rcases q with ⟨q1, _⟩ | ⟨_, q2, q3, q4⟩
    · exact absurd q1 h4
    · exact Or.inr ⟨h5, hk, q2, q3, q4.mpr ⟨h5, h4⟩⟩
theorem tDr_tPo (M : Int → Int) (x y u v : Int) : tDr (tPo M x y) u v = tPo (tDr M u v) x y := by
  funext k
  unfold tDr tPo ups
  (repeat' split) <;> first | rfl | omega
theorem seek_c (P : Nat → Int → Int) (X Y q k : Int) : pcost (tPo (tDr (mO (upr P 0 (ups (ups (P 0) 2 X) 3 Y))) (P 8 1) (P 8 2)) (X + (k % 3 - 1) * q) (Y + (k / 3 - 1) * q)) = nbC (tPo (mO P) X Y) q k := by
  unfold nbC nbX nbY
  rw [tPo_10, tPo_11, mO_pole, tDr_tPo, tDr_mO]
theorem pole_id (P : Nat → Int → Int) : tPo (mO P) (P 0 2) (P 0 3) = mO P := by
  have h := tPo_id (mO P)
  rw [mO_10, mO_11] at h
  exact h
theorem pole_row (F : Int → Int) (X Y x y : Int) : ups (ups (ups (ups F 2 X) 3 Y) 2 x) 3 y = ups (ups F 2 x) 3 y := by
  funext k
  unfold ups
  (repeat' split) <;> first | rfl | omega
theorem pole_row0 (F : Int → Int) : ups (ups F 2 (F 2)) 3 (F 3) = F := by rw [ups_self, ups_self]
/-! copies -/
def ar2W (n : Nat) (cy : Nat → ClassId) (b : Nat → Nat) (F : Nat → Int → Int) : va_W := [(b 0, .inl (cy 0, n, .inl (aI (F 0)))), (b 10, .inl (cy 0, n, .inl (aI (F 10))))]
theorem aI_cpy (f g : Int → Int) (n : Nat) : va_cpy (aI f) (aI g) 0 0 n = aI (cpyI g f 0 (n : Int)) := by
  funext j
  unfold va_cpy aI cpyI
  by_cases h : (0 ≤ j ∧ j < 0 + n)
  · rw [if_pos h, if_pos (by omega)]
    congr 2
    omega
  · rw [if_neg h, if_neg (by omega)]
section KCPY
variable {p : Program} {l : Launch} {e : Env} {R : Room} {s : State} {m : MethodId} {args : Array Value} {below : List Frame} {meth : Method} {c : Code} {H : Heap} {locs : List Loc} {cells slots : Nat} {Q : State → Prop}
variable {pc : Nat} {ls : Array Slot} {rest : List Value} {D : va_G} {cl : List vw_C} {A : Nat → Prop} {tys : List (ClassId × FieldType)} {H0 : Heap}
theorem k_copyRow {cc : ByteArray} (hexec : p.tables.exec = Jvm.exec) (hb : c.code = cc) (hml : c.maxLocals = ls.size) {own : String} {index : Nat} (hown : s.vm.findClass own = some m.cls) (hlink : (Cond.methodLink own index arraycopyName).before args s = true) (hnat : (Cond.native arraycopyName).before args s = true) (hstat : (Cond.static arraycopyName).before args s = true) (hini : (Cond.initialized "java/lang/System").before args s = true)
    {cy : Nat → ClassId} {b : Nat → Nat} {F : Nat → Int → Int} {n : Nat} (hK : va_K D cl (tysA cy) s) (hP : va_P D cl (ar2W n cy b F) H) (hD : va_D A (ar2W n cy b F)) (hS : va_S A H0 H locs) (hn : (n : Int) ≤ 1000)
    (hframes : 1 ≤ R.frames) (hlocals : (rest.map fun v => v.category).sum + (nativeFrameWords "java/lang/System" "arraycopy" 5 + 11) ≤ R.locals) (hdg : decode cc pc = .ok (.invokestatic index, 3))
    (kk : ∀ (H1 : Heap) (locs1 : List Loc), va_P D cl (ar2W n cy b (upr F 10 (cpyI (F 10) (F 0) 0 (n : Int)))) H1 → va_D A (ar2W n cy b (upr F 10 (cpyI (F 10) (F 0) 0 (n : Int)))) → va_S A H0 H1 locs1 → W p l e R s m args below meth c H1 locs1 cells slots Q (F0 m (pc + 3) ls rest)) : W p l e R s m args below meth c H locs cells slots Q (F0 m pc ls (.int (iI (n : Int)) :: .int (iI 0) :: .ref (b 10) :: .int (iI 0) :: .ref (b 0) :: rest)) := by
  have h0 : (iI 0).toNatClampNeg = 0 := by decide
  have hn1 : (iI (n : Int)).toNatClampNeg = n := by rw [iI_cl (by omega) (by omega)]; omega
  have hz : ¬ iI 0 < 0 := by decide
  have hnn : ¬ iI (n : Int) < 0 := fun h => by have := (iI_lt (a := (n : Int)) (b := 0) (by omega) (by omega)).mp h; omega
  refine va_copyi hexec hb hml hown hlink hnat hstat hini hK hP hD hS 0 1 0 0 (a0 := b 0) (a := b 10) (c0 := cy 0) (c1 := cy 0) (n0 := n) (n1 := n) (f := aI (F 0)) (g := aI (F 10)) (ty := .int) rfl rfl rfl rfl rfl hz hz hnn (by rw [h0, hn1]; omega) (by rw [h0, hn1]; omega) (fun i _ => rfl) hframes hlocals hdg (fun H1 locs1 g1 g2 g3 => ?_)
  rw [h0, hn1, aI_cpy] at g1 g2
  exact kk H1 locs1 g1 g2 g3
end KCPY
/-- two plates: P 0 .. the one that is written, P 10 .. the one that is read -/
def pl2W (cy : Nat → ClassId) (a : Nat → Nat) (P : Nat → Int → Int) : va_W := plW cy a P ++ plW cy (fun i => a (i + 10)) (fun i => P (i + 10))
