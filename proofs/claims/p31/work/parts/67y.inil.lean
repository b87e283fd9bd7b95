/-! new objects and arrays, and the calls of their first methods -/
/-- a row of ints outside the world, told to the last cell: its class, its length -/
def tcA (cA : ClassId) (t N : Nat) (f : Int → Int) (A : Nat → Prop) (H : Heap) : Prop := ∃ cell : Cell, H[t]? = some cell ∧ cell.cls = cA ∧ (∀ k, cell.vm ≠ .statics k) ∧ cell.vm ≠ .unknown ∧ cell.slots.size = N ∧ (∀ j : Nat, j < N → cell.slots[j]? = some (.int (aI f j))) ∧ ¬ A t
theorem tcA.lt {cA : ClassId} {t N : Nat} {f : Int → Int} {A : Nat → Prop} {H : Heap} (h : tcA cA t N f A H) : t < H.size := by
  obtain ⟨cell, h1, -⟩ := h
  exact (Array.getElem?_eq_some_iff.mp h1).1
theorem tcA.kept {cA : ClassId} {t N : Nat} {f : Int → Int} {A : Nat → Prop} {H H1 : Heap} (h : tcA cA t N f A H) (hq : ∀ a : Nat, a < H.size → ¬ A a → H1[a]? = H[a]?) : tcA cA t N f A H1 := by
  have hl := h.lt
  obtain ⟨cell, h1, h2, h3, h4, h5, h6, h7⟩ := h
  exact ⟨cell, (hq t hl h7).trans h1, h2, h3, h4, h5, h6, h7⟩
theorem tcA.narrow {cA : ClassId} {t N : Nat} {f : Int → Int} {A B : Nat → Prop} {H : Heap} (h : tcA cA t N f A H) (hAB : ∀ q, B q → A q) : tcA cA t N f B H := by
  obtain ⟨cell, h1, h2, h3, h4, h5, h6, h7⟩ := h
  exact ⟨cell, h1, h2, h3, h4, h5, h6, fun h => h7 (hAB _ h)⟩
def atC (cy : Nat → ClassId) (A : Nat → Prop) (U : State) (H : Heap) : Prop := ∃ t : Nat, va_Z RX4 "AT_FIRST" "[I" (.ref t) A U H ∧ tcA (cy 0) t 10 atFirst A H
def GI (D : va_G) (cy : Nat → ClassId) (A : Nat → Prop) (U : State) (H : Heap) : Prop := GG D cy A U H ∧ va_Nw (.castable "[I" "java/lang/Cloneable") U ∧ va_AO RX4 U ∧ atC cy A U H
theorem GI_ok (D : va_G) (cy : Nat → ClassId) : kGok (GI D cy) := by
  refine ⟨fun A U H H1 hq h => ?_, fun A s U H hW h => ?_, fun A s U H hv h => ?_, fun A B U H hAB h => ?_⟩
  · obtain ⟨h1, h2, h3, t, h4, h5⟩ := h
    exact ⟨(GG_ok D cy).1 _ _ _ _ hq h1, h2, h3, t, h4.kept hq, h5.kept hq⟩
  · obtain ⟨h1, h2, h3, t, h4, h5⟩ := h
    exact ⟨(GG_ok D cy).2.1 _ _ _ _ hW h1, va_Nw.warmC hW h2, va_AO.moved hW.alike h3, t, va_Z.moved hW.alike h4, h5⟩
  · obtain ⟨h1, h2, h3, t, h4, h5⟩ := h
    exact ⟨(GG_ok D cy).2.2.1 _ _ _ _ hv h1, va_Nw.same rfl hv h2, va_AO.moved (alike_eq hv) h3, t, va_Z.moved (alike_eq hv) h4, h5⟩
  · obtain ⟨h1, h2, h3, t, h4, h5⟩ := h
    exact ⟨(GG_ok D cy).2.2.2 _ _ _ _ hAB h1, h2, h3, t, h4.narrow hAB, h5.narrow hAB⟩
theorem nm_int {D : va_G} {cy : Nat → ClassId} {s : State} (hK : va_K D vwCl (tysA cy) s) : s.vm.findClass "[I" = some (cy 0) := by
  have h : s.vm.findClass ("[" ++ (FieldType.int).toString) = some (cy 0) := (hK.2 0 _ rfl).2
  have e : ("[" ++ (FieldType.int).toString) = "[I" := by decide +kernel
  rw [e] at h
  exact h
theorem ra_int {U : State} {c1 c2 : ClassId} (h1 : va_RA U c1 .int) (h2 : va_RA U c2 .int) : c1 = c2 := Option.some.inj (Eq.trans (Eq.symm h1) h2)
theorem ra_byte {U : State} {c1 c2 : ClassId} (h1 : va_RA U c1 .byte) (h2 : va_RA U c2 .byte) : c1 = c2 := Option.some.inj (Eq.trans (Eq.symm h1) h2)
theorem ra_bool {U : State} {c1 c2 : ClassId} (h1 : va_RA U c1 .boolean) (h2 : va_RA U c2 .boolean) : c1 = c2 := Option.some.inj (Eq.trans (Eq.symm h1) h2)
theorem ra_long {U : State} {c1 c2 : ClassId} (h1 : va_RA U c1 .long) (h2 : va_RA U c2 .long) : c1 = c2 := Option.some.inj (Eq.trans (Eq.symm h1) h2)
theorem ra_obj {U : State} {C : String} {c1 c2 : ClassId} (h1 : va_RA U c1 (.object C)) (h2 : va_RA U c2 (.object C)) : c1 = c2 := by
  obtain ⟨_, _, _, _, _, e1⟩ := h1
  obtain ⟨_, _, _, _, _, e2⟩ := h2
  exact Option.some.inj (e1.symm.trans e2)
theorem aI_zero : (fun j => Value.int (aI (fun _ => 0) j)) = fun _ => Value.int 0 := by
  funext j
  show Value.int (iI 0) = Value.int 0
  rfl
section KINI
variable {p : Program} {l : Launch} {e : Env} {R : Room} {s : State} {m : MethodId} {args : Array Value} {below : List Frame} {meth : Method} {c : Code} {H : Heap} {locs : List Loc} {cells slots : Nat} {Q : State → Prop}
variable {cc : ByteArray} {pc : Nat} {ls : Array Slot} {rest : List Value} {D : va_G} {cy : Nat → ClassId} {ws : va_W} {A : Nat → Prop} {H0 : Heap}
/-- a new array of ints, bytes or booleans: all zero -/
theorem k_newT (hexec : p.tables.exec = Jvm.exec) (hb : c.code = cc) {atype : ArrayType} {ty : FieldType} (hty : newarray.typeOf atype = ty) (harr : (Cond.arrayClass ty).before args s = true) (hdef : defaultValue ty = .int 0) (k : Nat) (hk : (tysA cy)[k]? = some (cy k, ty)) (hRA : ∀ c1 c2, va_RA s c1 ty → va_RA s c2 ty → c1 = c2) (hK : va_K D vwCl (tysA cy) s) (hP : va_P D vwCl ws H) (hD : va_D A ws) (hS : va_S A H0 H locs) (hA : ∀ q, H0.size ≤ q → A q)
    {n : Int} {N : Nat} (hn : n = (N : Int)) (hN : N < 2 ^ 31) (hbytes : N * componentBytes ty ≤ 536870912) (hcells : cells + 1 ≤ R.cells) (hslots : slots + N ≤ R.slots) (hdg : decode cc pc = .ok (.newarray atype, 2))
    (kk : ∀ (q : Nat) (H1 : Heap), va_P D vwCl (ws ++ [(q, .inl (cy k, N, .inl (aI (fun _ => 0))))]) H1 → va_D A (ws ++ [(q, .inl (cy k, N, .inl (aI (fun _ => 0))))]) → va_S A H0 H1 locs →
      W p l e R s m args below meth c H1 locs (cells + 1) (slots + N) Q (F0 m (pc + 2) ls (.ref q :: rest))) : W p l e R s m args below meth c H locs cells slots Q (F0 m pc ls (.int (iI n) :: rest)) := by
  subst hty
  subst hn
  rw [← iI_nat]
  refine va_newa hexec hb harr rfl hK hP hD hS hA (a0 := (N, .inl (aI (fun _ => 0)))) (fun cA => ?_) (nI_pos hN) (nI_clamp hN) hbytes hcells hslots hdg (fun q cA H1 hK1 hP1 hD1 hS1 => ?_)
  · show arrV cA N (fun j => Value.int (aI (fun _ => 0) j)) = _
    rw [aI_zero, hdef]
  · have e : cA = cy k := hRA _ _ (hK1.2 4 _ rfl).2 (hK.2 k _ hk).2
    subst e
    exact kk q H1 hP1 hD1 hS1
/-- a new array of plates: all null -/
theorem k_newP (hexec : p.tables.exec = Jvm.exec) (hb : c.code = cc) {own : String} {index : Nat} (hown : s.vm.findClass own = some m.cls) (hclink : (Cond.classLink own index RX4).before args s = true) (hover : va_AO RX4 s) (hK : va_K D vwCl (tysA cy) s) (hP : va_P D vwCl ws H) (hD : va_D A ws) (hS : va_S A H0 H locs) (hA : ∀ q, H0.size ≤ q → A q)
    {n : Int} {N : Nat} (hn : n = (N : Int)) (hN : N < 2 ^ 31) (hbytes : N * 4 ≤ 536870912) (hcells : cells + 1 ≤ R.cells) (hslots : slots + N ≤ R.slots) (hdg : decode cc pc = .ok (.anewarray index, 3))
    (kk : ∀ (q : Nat) (H1 : Heap), va_P D vwCl (ws ++ [(q, .inl (cy 3, N, .inr (.inr (.inr (.inr (fun _ => none))))))]) H1 → va_D A (ws ++ [(q, .inl (cy 3, N, .inr (.inr (.inr (.inr (fun _ => none))))))]) → va_S A H0 H1 locs →
      W p l e R s m args below meth c H1 locs (cells + 1) (slots + N) Q (F0 m (pc + 3) ls (.ref q :: rest))) : W p l e R s m args below meth c H locs cells slots Q (F0 m pc ls (.int (iI n) :: rest)) := by
  subst hn
  rw [← iI_nat]
  refine va_newq hexec hb hown hclink hover hK hP hD hS hA (nI_pos hN) (nI_clamp hN) hbytes hcells hslots hdg (fun q cA H1 hK1 hP1 hD1 hS1 => ?_)
  have e : cA = cy 3 := ra_obj (hK1.2 4 _ rfl).2 (hK.2 3 _ rfl).2
  subst e
  exact kk q H1 hP1 hD1 hS1
/-- a copy of a row of ints that stands outside the world -/
theorem k_cloneT (hexec : p.tables.exec = Jvm.exec) (hb : c.code = cc) (hml : c.maxLocals = ls.size) {own : String} {index : Nat} (hown : s.vm.findClass own = some m.cls)
    (hlink : (Cond.methodLink own index ⟨"[I", "clone", "()Ljava/lang/Object;"⟩).before args s = true) (hsame : (Cond.sameMethod "[I" "java/lang/Object" "clone" "()Ljava/lang/Object;").before args s = true)
    (hnat : (Cond.native ⟨"java/lang/Object", "clone", "()Ljava/lang/Object;"⟩).before args s = true) (hinst : (Cond.instanceMethod ⟨"java/lang/Object", "clone", "()Ljava/lang/Object;"⟩).before args s = true)
    (hsel : (Cond.selects "[I" ⟨"[I", "clone", "()Ljava/lang/Object;"⟩ ⟨"java/lang/Object", "clone", "()Ljava/lang/Object;"⟩).before args s = true) (hcl : va_Nw (.castable "[I" "java/lang/Cloneable") s)
    (hK : va_K D vwCl (tysA cy) s) (hP : va_P D vwCl ws H) (hD : va_D A ws) (hS : va_S A H0 H locs) (hA : ∀ q, H0.size ≤ q → A q) {t N : Nat} {f : Int → Int} (hT : tcA (cy 0) t N f A H0)
    (hframes : 1 ≤ R.frames) (hlocals : (rest.map fun v => v.category).sum + 14 ≤ R.locals) (hcells : cells + 1 ≤ R.cells) (hslots : slots + N ≤ R.slots) (hdg : decode cc pc = .ok (.invokevirtual index, 3))
    (kk : ∀ (q : Nat) (H1 : Heap), va_P D vwCl (ws ++ [(q, .inl (cy 0, N, .inl (aI f)))]) H1 → va_D A (ws ++ [(q, .inl (cy 0, N, .inl (aI f)))]) → va_S A H0 H1 locs →
      W p l e R s m args below meth c H1 locs (cells + 1) (slots + N) Q (F0 m (pc + 3) ls (.ref q :: rest))) : W p l e R s m args below meth c H locs cells slots Q (F0 m pc ls (.ref t :: rest)) := by
  have hT2 := hT.kept (H1 := H) (fun q h1 h2 => hS.2.1 q h1 h2)
  obtain ⟨cell, e1, e2, e3, e4, e5, e6, -⟩ := hT2
  obtain ⟨c0, t0', f1, f2, f3⟩ := Cond.castable_spec (va_Nw.use (A := args) rfl hcl)
  have hnm := nm_int hK
  cases hnm.symm.trans f1
  have hcellE : ({ cls := cell.cls, slots := cell.slots } : Cell) = vp_cell (cy 0) (N, .inl (aI f)) := by
    have hs : cell.slots = (arrV (cy 0) N (fun j => .int (aI f j))).slots := by
      apply Array.ext_getElem?
      intro j
      by_cases hj : j < N
      · rw [e6 j hj, arrV_read _ _ hj]
      · rw [Array.getElem?_eq_none (by omega), Array.getElem?_eq_none (by rw [arrV_size]; omega)]
    rw [hs, e2]
    rfl
  intro T hT X
  have hcellT : T.heap[t]? = some cell := by rw [hT]; exact e1
  obtain ⟨-, kA, hkA, comp, hkind⟩ := State.isArrayOf_alike X.warmed.alike ((hK.2 0 _ rfl).1 0 (fun _ => .null))
  obtain ⟨-, kS, hkS, compS, hkindS⟩ := (hK.2 0 _ rfl).1 0 (fun _ => .null)
  obtain ⟨vm', X', st⟩ := X.cloneArray hexec hown hlink hsame hnat hinst hsel (a := t) (cell := cell) hcellT e3 e4 (by rw [e2]; exact hnm) f2 (by rw [e2]; exact f3)
    (fun i v hv => by
      rw [e2]
      have hk' : T.vm.classes[cy 0]? = some kA := hkA
      have hi : i < N := by rw [← e5]; exact (Array.getElem?_eq_some_iff.mp hv).1
      rw [e6 i hi] at hv
      cases hv
      simp [State.fitsSlot, State.slotType?, hk', hkind]
      rfl)
    (g := F0 m pc ls (.ref t :: rest)) rfl (by rw [hml]) rfl (by rw [hb]; exact hdg) hframes (by show 2 * 0 + _ + 14 ≤ _; omega) hcells (by rw [e5]; exact hslots) (hloader := by rw [e2]; exact Vm.clonesLoader_of_array hkS hkindS)
  rw [hcellE, e5] at X'
  generalize hH1 : H.push (vp_cell (cy 0) (N, .inl (aI f))) = H1
  have z1 : H1.size = H.size + 1 := by rw [← hH1, Array.size_push]
  have q1 : H1[H.size]? = some (vp_cell (cy 0) (N, .inl (aI f))) := by rw [← hH1, Array.getElem?_push_size]
  have o1 : ∀ q : Nat, q < H.size → H1[q]? = H[q]? := fun q hq => by rw [← hH1, Array.getElem?_push, if_neg (Nat.ne_of_lt hq)]
  have hk : ∀ (k : Nat) (y : Nat × va_E), ws[k]? = some y → H1[y.1]? = H[y.1]? := fun k y hy => o1 y.1 ((hP k y hy).lt)
  obtain ⟨t9, b1, b2⟩ := kk H.size H1 ((hP.kept hk).app (fun k y hy => by
      have hz : k < 1 := (List.getElem?_eq_some_iff.mp hy).1
      rw [show k = 0 by omega] at hy
      cases hy
      exact q1)) (hD.push hP rfl (hA _ hS.1)) ⟨Nat.le_trans hS.1 (by omega), fun y h1 h2 => (o1 y (Nat.lt_of_lt_of_le h1 hS.1)).trans (hS.2.1 y h1 h2), hS.2.2⟩
    ((T.setVm vm').pushCell (vp_cell (cy 0) (N, .inl (aI f)))) (by rw [← hH1, ← hT]; rfl) X'
  refine ⟨t9, st t9 ?_, b2⟩
  rw [hcellE, hT]
  exact b1
variable {wsC : va_W} {y : MethodName} {bytes : ByteArray} {maxL nL index : Nat} {wsy : List Cond} {rm : Room} {Ts : List Cond} {own : String} {b : Addr} {G : (Nat → Prop) → State → Heap → Prop} {Qc : Array Value → State → Outcome → State → Prop} {A0 : Nat → Prop} {mc ms : Nat}
/-- the run of a first method on a new object -/
theorem k_runI (S : CallFix p m c cc nL s args Ts own) (hM : Met l y wsy rm (mPre G D wsC H.size [.ref b]) Qc mc ms (va_A wsC H.size)) (cw : CallB R s args own index y bytes maxL none wsy rm mc ms 0 ∧ y.name = "<init>" ∧ (Cond.instanceMethod y).before args s = true)
    (hGok : kGok G) (hG : G A0 s H0) (hS : va_S A0 H0 H locs) (hF : ∀ q, va_A wsC H.size q → A0 q) (hP : va_P D vwCl wsC H) (hD : va_D A0 wsC) (hsize : ls.size = nL) (hW : (rest.map fun v => v.category).sum ≤ 8) (hcs : cells + mc ≤ R.cells ∧ slots + ms ≤ R.slots) (hdg : decode cc pc = .ok (.invokespecial index, 3)) :
    va_Run p l e R s m args below meth c H locs cells slots mc ms (F0 m pc ls (.ref b :: rest)) rest (Qc ([Value.ref b] : List Value).toArray) (va_A wsC H.size) :=
  va_runI (As := []) S hM cw ⟨mPre_blind hGok, fun U hU hW => ⟨rfl, by rw [hU], by rw [hU]; exact hGok.2.1 _ s U H hW (hGok.2.2.2 _ _ _ _ hF (hGok.1 _ _ _ _ hS.2.1 hG)), by rw [hU]; exact hP, hD.weaken (fun _ _ _ _ => trivial)⟩⟩ rfl rfl hsize rfl (lv_room hW) hdg hcs
end KINI
/-! what the first methods leave -/
def pl0 : Nat → Int → Int := fun i => cond (Nat.beq i 0) (listI [0, 0, 2000, 2000]) (cond (Nat.beq i 8) atFirst (fun _ => 0))
def pg0 (i : Nat) : Nat := cond (Nat.ble 90 i) (i - 90) (cond (Nat.ble 80 i) (i - 80) (cond (Nat.ble 70 i) (i - 70) (cond (Nat.ble 60 i) (i - 60) i)))
def ob0 : Nat → Int → Int := fun i => cond (Nat.ble i 8) (pl0 i) (cond (Nat.ble i 59) (fun _ => 0) (cond (Nat.ble 100 i) (fun _ => 0) (pl0 (pg0 i))))
def zr0 : Nat → Int → Int := fun _ _ => 0
