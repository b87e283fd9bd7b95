/-! a contract of the law's, told of the object's state; its call -/
def CKs (l : Launch) (D : va_G) (cy : Nat → ClassId) (y : MethodName) (wsy : List Cond) (rm : Room) (o : Nat) (As : List Value) (M : Int → Int) (n : Int) (K : Nat → Int → Int) (post : Int → (Int → Int) → Int → (Nat → Int → Int) → Prop) (mc ms : Nat) : Prop :=
  ∀ (a : Nat → Nat) (P : Nat → Int → Int) (sz : Nat), a 100 = o → Ab P M n K → Met l y wsy rm (mPre (GX D cy) D (ow cy a P) sz (.ref o :: As)) (kQi D (ow cy a P) sz (fun u : (Nat → Nat) × (Nat → Int → Int) => ow cy u.1 u.2) (fun r u => u.1 100 = o ∧ ∃ (M' : Int → Int) (n' : Int) (K' : Nat → Int → Int), Ab u.2 M' n' K' ∧ post r M' n' K')) mc ms (va_A (ow cy a P) sz)
/-- the object stands at o -/
def OW (D : va_G) (cy : Nat → ClassId) (A0 : Nat → Prop) (H0 : Heap) (o : Nat) (M : Int → Int) (n : Int) (K : Nat → Int → Int) (H : Heap) (locs : List Loc) : Prop :=
  ∃ (a : Nat → Nat) (P : Nat → Int → Int), a 100 = o ∧ Ab P M n K ∧ va_P D vwCl (ow cy a P) H ∧ va_D A0 (ow cy a P) ∧ va_S A0 H0 H locs
theorem OW.inv {D : va_G} {cy : Nat → ClassId} {A0 : Nat → Prop} {H0 : Heap} {o : Nat} {M : Int → Int} {n : Int} {K : Nat → Int → Int} {H : Heap} {locs : List Loc} (h : OW D cy A0 H0 o M n K H locs) : Inv M := by
  obtain ⟨a, P, -, hA, -⟩ := h
  exact hA.1.1
theorem OW.nn {D : va_G} {cy : Nat → ClassId} {A0 : Nat → Prop} {H0 : Heap} {o : Nat} {M : Int → Int} {n : Int} {K : Nat → Int → Int} {H : Heap} {locs : List Loc} (h : OW D cy A0 H0 o M n K H locs) : 0 ≤ n ∧ n ≤ 4 := by
  obtain ⟨a, P, -, hA, -⟩ := h
  exact hA.2.1.1.2
theorem OW.s {D : va_G} {cy : Nat → ClassId} {A0 : Nat → Prop} {H0 : Heap} {o : Nat} {M : Int → Int} {n : Int} {K : Nat → Int → Int} {H : Heap} {locs : List Loc} (h : OW D cy A0 H0 o M n K H locs) : va_S A0 H0 H locs := by
  obtain ⟨a, P, -, -, -, -, hS⟩ := h
  exact hS
section QC
variable {p : Program} {l : Launch} {e : Env} {R9 : Room} {s : State} {m : MethodId} {args : Array Value} {below : List Frame} {meth : Method} {c : Code} {H : Heap} {locs : List Loc} {cells slots : Nat} {Q : State → Prop}
variable {pc : Nat} {ls : Array Slot} {rest st0 : List Value} {A0 : Nat → Prop} {mc ms : Nat} {D : va_G} {cy : Nat → ClassId}
variable {y : MethodName} {bytes cc : ByteArray} {maxL nL index : Nat} {ret9 : Option FieldType} {wsy ws' : List Cond} {rm : Room} {Ts : List Cond} {own : String} {As : List Value} {hh : List (Nat × Nat × Nat × Nat)}
variable {o : Nat} {M : Int → Int} {n : Int} {K : Nat → Int → Int} {post : Int → (Int → Int) → Int → (Nat → Int → Int) → Prop}
/-- a helper of the law's (it has an exception table) -/
theorem q_call (S9 : CallFix p m c cc nL s args Ts own) (hGX : GX D cy A0 s s.heap) (hA : ∀ q, s.heap.size ≤ q → A0 q) (hK : CKs l D cy y wsy rm o As M n K post mc ms) (hT : GoodIn Ts (va_wsS own index y wsy)) (hw : wsy = Cond.codeWith y bytes maxL ret9 hh :: ws') (hrm : rm.cells = mc ∧ rm.slots = ms) (n9 : Nat) (hn9 : (Value.ref o :: As).length = n9)
    (hd : y.cls ≠ "java/lang/invoke/MethodHandle" ∧ y.cls ≠ "java/lang/invoke/VarHandle" ∧ (parseMethodDescriptor y.desc).map (fun d => d.parameters.length) = some n9) (hR : rm.frames + 1 ≤ R9.frames ∧ 8 + (maxL + 11) + rm.locals ≤ R9.locals)
    (hW : OW D cy A0 s.heap o M n K H locs) (hsize : ls.size = nL) (hstack : st0 = (Value.ref o :: As).reverse ++ rest) (hWr : (rest.map fun v => v.category).sum ≤ 8) (hcs : cells + mc ≤ R9.cells ∧ slots + ms ≤ R9.slots) (hdg : decode cc pc = .ok (.invokestatic index, 3))
    (kk : ∀ (r : Int) (M' : Int → Int) (n' : Int) (K' : Nat → Int → Int) (H1 : Heap) (locs1 : List Loc), post r M' n' K' → OW D cy A0 s.heap o M' n' K' H1 locs1 → W p l e R9 s m args below meth c H1 locs1 (cells + mc) (slots + ms) Q (F0 m (pc + 3) ls (.int (iI r) :: rest))) : W p l e R9 s m args below meth c H locs cells slots Q (F0 m pc ls st0) := by
  obtain ⟨a, P, ha, hAb, hP, hD, hS⟩ := hW
  have hF := k_free hD hS hA
  refine k_mui (k_runSW S9 (hK a P H.size ha hAb) hT hw hrm n9 hn9 hd hR (GX_ok D cy) hGX hS hF hP hD hsize hstack hWr hcs hdg) hF hS (fun r u H1 locs1 hp hP1 hD1 hS1 _ => ?_)
  obtain ⟨h1, M', n', K', h2, h3⟩ := hp
  exact kk r M' n' K' H1 locs1 h3 ⟨u.1, u.2, h1, h2, hP1, hD1.weaken (fun k q _ h => hF q.1 h), hS1⟩
theorem q_call0 (S9 : CallFix p m c cc nL s args Ts own) (hGX : GX D cy A0 s s.heap) (hA : ∀ q, s.heap.size ≤ q → A0 q) (hK : CKs l D cy y wsy rm o As M n K post 0 0) (hT : GoodIn Ts (va_wsS own index y wsy)) (hw : wsy = Cond.codeWith y bytes maxL ret9 hh :: ws') (hrm : rm.cells = 0 ∧ rm.slots = 0) (n9 : Nat) (hn9 : (Value.ref o :: As).length = n9)
    (hd : y.cls ≠ "java/lang/invoke/MethodHandle" ∧ y.cls ≠ "java/lang/invoke/VarHandle" ∧ (parseMethodDescriptor y.desc).map (fun d => d.parameters.length) = some n9) (hR : rm.frames + 1 ≤ R9.frames ∧ 8 + (maxL + 11) + rm.locals ≤ R9.locals)
    (hW : OW D cy A0 s.heap o M n K H locs) (hsize : ls.size = nL) (hstack : st0 = (Value.ref o :: As).reverse ++ rest) (hWr : (rest.map fun v => v.category).sum ≤ 8) (hcs : cells ≤ R9.cells ∧ slots ≤ R9.slots) (hdg : decode cc pc = .ok (.invokestatic index, 3))
    (kk : ∀ (r : Int) (M' : Int → Int) (n' : Int) (K' : Nat → Int → Int) (H1 : Heap) (locs1 : List Loc), post r M' n' K' → OW D cy A0 s.heap o M' n' K' H1 locs1 → W p l e R9 s m args below meth c H1 locs1 cells slots Q (F0 m (pc + 3) ls (.int (iI r) :: rest))) : W p l e R9 s m args below meth c H locs cells slots Q (F0 m pc ls st0) :=
  q_call S9 hGX hA hK hT hw hrm n9 hn9 hd hR hW hsize hstack hWr hcs hdg kk
theorem q_call1 (S9 : CallFix p m c cc nL s args Ts own) (hGX : GX D cy A0 s s.heap) (hA : ∀ q, s.heap.size ≤ q → A0 q) (hK : CKs l D cy y wsy rm o As M n K post 1 6) (hT : GoodIn Ts (va_wsS own index y wsy)) (hw : wsy = Cond.codeWith y bytes maxL ret9 hh :: ws') (hrm : rm.cells = 1 ∧ rm.slots = 6) (n9 : Nat) (hn9 : (Value.ref o :: As).length = n9)
    (hd : y.cls ≠ "java/lang/invoke/MethodHandle" ∧ y.cls ≠ "java/lang/invoke/VarHandle" ∧ (parseMethodDescriptor y.desc).map (fun d => d.parameters.length) = some n9) (hR : rm.frames + 1 ≤ R9.frames ∧ 8 + (maxL + 11) + rm.locals ≤ R9.locals)
    (hW : OW D cy A0 s.heap o M n K H locs) (hsize : ls.size = nL) (hstack : st0 = (Value.ref o :: As).reverse ++ rest) (hWr : (rest.map fun v => v.category).sum ≤ 8) (hcs : cells + 1 ≤ R9.cells ∧ slots + 6 ≤ R9.slots) (hdg : decode cc pc = .ok (.invokestatic index, 3))
    (kk : ∀ (r : Int) (M' : Int → Int) (n' : Int) (K' : Nat → Int → Int) (H1 : Heap) (locs1 : List Loc), post r M' n' K' → OW D cy A0 s.heap o M' n' K' H1 locs1 → W p l e R9 s m args below meth c H1 locs1 (cells + 1) (slots + 6) Q (F0 m (pc + 3) ls (.int (iI r) :: rest))) : W p l e R9 s m args below meth c H locs cells slots Q (F0 m pc ls st0) :=
  q_call S9 hGX hA hK hT hw hrm n9 hn9 hd hR hW hsize hstack hWr hcs hdg kk
theorem ck_ans {x y9 : Int} {M1 : Int → Int} {n1 : Int} {K1 : Nat → Int → Int} (h : CKs l D cy y wsy rm o As M n K (fun r M' n' K' => x = r ∧ M1 = M' ∧ n1 = n' ∧ K1 = K') mc ms) (e : x = y9) : CKs l D cy y wsy rm o As M n K (fun r M' n' K' => y9 = r ∧ M1 = M' ∧ n1 = n' ∧ K1 = K') mc ms := by
  subst e
  exact h
/-- one without -/
theorem q_calls (S9 : CallFix p m c cc nL s args Ts own) (hGX : GX D cy A0 s s.heap) (hA : ∀ q, s.heap.size ≤ q → A0 q) (hK : CKs l D cy y wsy rm o As M n K post mc ms) (hT : GoodIn Ts (va_wsS own index y wsy)) (hw : wsy = Cond.code y bytes maxL ret9 :: ws') (hrm : rm.cells = mc ∧ rm.slots = ms) (n9 : Nat) (hn9 : (Value.ref o :: As).length = n9)
    (hd : y.cls ≠ "java/lang/invoke/MethodHandle" ∧ y.cls ≠ "java/lang/invoke/VarHandle" ∧ (parseMethodDescriptor y.desc).map (fun d => d.parameters.length) = some n9) (hR : rm.frames + 1 ≤ R9.frames ∧ 8 + (maxL + 11) + rm.locals ≤ R9.locals)
    (hW : OW D cy A0 s.heap o M n K H locs) (hsize : ls.size = nL) (hstack : st0 = (Value.ref o :: As).reverse ++ rest) (hWr : (rest.map fun v => v.category).sum ≤ 8) (hcs : cells + mc ≤ R9.cells ∧ slots + ms ≤ R9.slots) (hdg : decode cc pc = .ok (.invokestatic index, 3))
    (kk : ∀ (r : Int) (M' : Int → Int) (n' : Int) (K' : Nat → Int → Int) (H1 : Heap) (locs1 : List Loc), post r M' n' K' → OW D cy A0 s.heap o M' n' K' H1 locs1 → W p l e R9 s m args below meth c H1 locs1 (cells + mc) (slots + ms) Q (F0 m (pc + 3) ls (.int (iI r) :: rest))) : W p l e R9 s m args below meth c H locs cells slots Q (F0 m pc ls st0) := by
  obtain ⟨a, P, ha, hAb, hP, hD, hS⟩ := hW
  have hF := k_free hD hS hA
  refine k_mui (k_runS S9 (hK a P H.size ha hAb) hT hw hrm n9 hn9 hd hR (GX_ok D cy) hGX hS hF hP hD hsize hstack hWr hcs hdg) hF hS (fun r u H1 locs1 hp hP1 hD1 hS1 _ => ?_)
  obtain ⟨h1, M', n', K', h2, h3⟩ := hp
  exact kk r M' n' K' H1 locs1 h3 ⟨u.1, u.2, h1, h2, hP1, hD1.weaken (fun k q _ h => hF q.1 h), hS1⟩
/-- the object is the receiver -/
theorem ow_recv {a : Nat → Nat} {P : Nat → Int → Int} (hK : va_K D vwCl (tysA cy) s) (hP : va_P D vwCl (ow cy a P) H) : ∃ cell : Cell, H[a 100]? = some cell ∧ cell.vm.isStatics = false ∧ s.vm.findClass RX6 = some cell.cls := va_recv hK hP (ci := 5) (q0 := 0) rfl rfl
theorem qv_meanRate (S9 : CallFix p m c cc nL s args Ts own) (hGX : GX D cy A0 s s.heap) (hA : ∀ q, s.heap.size ≤ q → A0 q) (hT : GoodIn Ts (wsV own index RX6 yX6_meanRate wsX6_meanRate)) (hR : 6 + 1 ≤ R9.frames ∧ 8 + (4 + 11) + 148 ≤ R9.locals) (hW : OW D cy A0 s.heap o M n K H locs) (hsize : ls.size = nL) (hWr : (rest.map fun v => v.category).sum ≤ 8) (hcs : cells ≤ R9.cells ∧ slots ≤ R9.slots) (hdg : decode cc pc = .ok (.invokevirtual index, 3))
    (kk : ∀ (H1 : Heap) (locs1 : List Loc), OW D cy A0 s.heap o M n K H1 locs1 → W p l e R9 s m args below meth c H1 locs1 cells slots Q (F0 m (pc + 3) ls (.int (iI (mrt M)) :: rest))) : W p l e R9 s m args below meth c H locs cells slots Q (F0 m pc ls (.ref o :: rest)) := by
  obtain ⟨a, P, ha, hAb, hP, hD, hS⟩ := hW
  subst ha
  have hI := hAb.inv
  have hIr := hAb.1.1
  have hag := hAb.1.2
  have h50 := hAb.2.1.1
  have hsv : 0 ≤ P 50 1 ∧ P 50 1 ≤ 4 := ⟨by omega, by omega⟩
  have hl0 := hAb.2.2.2.2.1
  have hl1 := hAb.2.2.2.2.2
  have h10 := hAb.2.2.1.1
  have h107 := hAb.2.2.2.1
  have htl9 : 0 ≤ P 10 0 ∧ P 10 0 ≤ 150 := ⟨by omega, by omega⟩
  have hst9 : 0 ≤ P 100 7 ∧ P 100 7 ≤ 3 := ⟨by omega, by omega⟩
  refine zl_virt (As := []) (rest := rest) (pb_lk (cy := cy) (a := a) (P := P)) S9 (c_X6_meanRate l D cy H.size a P hI hl0 hl1) hT rfl ⟨rfl, rfl⟩ 0 rfl (by decide +kernel) hR (GG_ok D cy) hGX.1.1 hA hP hD hS (ow_recv hGX.1.1.1 hP) hsize rfl hWr hcs hdg (fun r U9 H locs hpost hP hD hS => ?_)
  obtain ⟨zZ, hz, hv2, hu⟩ := hpost
  have hu : U9 = lkU P zZ := hu
  have hoq : objq P (lkU P zZ) := oq_lkU hz
  have hv : r = mrt M := hv2.trans ((mrtA hIr hag).symm)
  subst hv
  have hP : va_P D vwCl (ow cy a (mixB inLk P U9)) H := hP
  have hD : va_D A0 (ow cy a (mixB inLk P U9)) := hD
  rw [hu, mx_lkU_inLk] at hP hD
  exact kk H locs ⟨a, lkU P zZ, rfl, ab_q hAb hoq, hP, hD, hS⟩
theorem qv_meanScale (S9 : CallFix p m c cc nL s args Ts own) (hGX : GX D cy A0 s s.heap) (hA : ∀ q, s.heap.size ≤ q → A0 q) (hT : GoodIn Ts (wsV own index RX6 yX6_meanScale wsX6_meanScale)) (hR : 6 + 1 ≤ R9.frames ∧ 8 + (5 + 11) + 148 ≤ R9.locals) (hW : OW D cy A0 s.heap o M n K H locs) (hsize : ls.size = nL) (hWr : (rest.map fun v => v.category).sum ≤ 8) (hcs : cells ≤ R9.cells ∧ slots ≤ R9.slots) (hdg : decode cc pc = .ok (.invokevirtual index, 3))
    (kk : ∀ (H1 : Heap) (locs1 : List Loc), OW D cy A0 s.heap o M n K H1 locs1 → W p l e R9 s m args below meth c H1 locs1 cells slots Q (F0 m (pc + 3) ls (.int (iI (msc M)) :: rest))) : W p l e R9 s m args below meth c H locs cells slots Q (F0 m pc ls (.ref o :: rest)) := by
  obtain ⟨a, P, ha, hAb, hP, hD, hS⟩ := hW
  subst ha
  have hI := hAb.inv
  have hIr := hAb.1.1
  have hag := hAb.1.2
  have h50 := hAb.2.1.1
  have hsv : 0 ≤ P 50 1 ∧ P 50 1 ≤ 4 := ⟨by omega, by omega⟩
  have hl0 := hAb.2.2.2.2.1
  have hl1 := hAb.2.2.2.2.2
  have h10 := hAb.2.2.1.1
  have h107 := hAb.2.2.2.1
  have htl9 : 0 ≤ P 10 0 ∧ P 10 0 ≤ 150 := ⟨by omega, by omega⟩
  have hst9 : 0 ≤ P 100 7 ∧ P 100 7 ≤ 3 := ⟨by omega, by omega⟩
  refine zl_virt (As := []) (rest := rest) (pb_lk (cy := cy) (a := a) (P := P)) S9 (c_X6_meanScale l D cy H.size a P hI hl0 hl1) hT rfl ⟨rfl, rfl⟩ 0 rfl (by decide +kernel) hR (GG_ok D cy) hGX.1.1 hA hP hD hS (ow_recv hGX.1.1.1 hP) hsize rfl hWr hcs hdg (fun r U9 H locs hpost hP hD hS => ?_)
  obtain ⟨zZ, hz, hv2, hu⟩ := hpost
  have hu : U9 = lkU P zZ := hu
  have hoq : objq P (lkU P zZ) := oq_lkU hz
  have hv : r = msc M := hv2.trans ((mscA hIr hag).symm)
  subst hv
  have hP : va_P D vwCl (ow cy a (mixB inLk P U9)) H := hP
  have hD : va_D A0 (ow cy a (mixB inLk P U9)) := hD
  rw [hu, mx_lkU_inLk] at hP hD
  exact kk H locs ⟨a, lkU P zZ, rfl, ab_q hAb hoq, hP, hD, hS⟩
theorem qv_bestZero (S9 : CallFix p m c cc nL s args Ts own) (hGX : GX D cy A0 s s.heap) (hA : ∀ q, s.heap.size ≤ q → A0 q) (hT : GoodIn Ts (wsV own index RX6 yX6_bestZero wsX6_bestZero)) (hR : 6 + 1 ≤ R9.frames ∧ 8 + (8 + 11) + 148 ≤ R9.locals) (hW : OW D cy A0 s.heap o M n K H locs) (hsize : ls.size = nL) (hWr : (rest.map fun v => v.category).sum ≤ 8) (hcs : cells ≤ R9.cells ∧ slots ≤ R9.slots) (hdg : decode cc pc = .ok (.invokevirtual index, 3))
    (kk : ∀ (H1 : Heap) (locs1 : List Loc), OW D cy A0 s.heap o M n K H1 locs1 → W p l e R9 s m args below meth c H1 locs1 cells slots Q (F0 m (pc + 3) ls (.int (iI (bzF M)) :: rest))) : W p l e R9 s m args below meth c H locs cells slots Q (F0 m pc ls (.ref o :: rest)) := by
  obtain ⟨a, P, ha, hAb, hP, hD, hS⟩ := hW
  subst ha
  have hI := hAb.inv
  have hIr := hAb.1.1
  have hag := hAb.1.2
  have h50 := hAb.2.1.1
  have hsv : 0 ≤ P 50 1 ∧ P 50 1 ≤ 4 := ⟨by omega, by omega⟩
  have hl0 := hAb.2.2.2.2.1
  have hl1 := hAb.2.2.2.2.2
  have h10 := hAb.2.2.1.1
  have h107 := hAb.2.2.2.1
  have htl9 : 0 ≤ P 10 0 ∧ P 10 0 ≤ 150 := ⟨by omega, by omega⟩
  have hst9 : 0 ≤ P 100 7 ∧ P 100 7 ≤ 3 := ⟨by omega, by omega⟩
  refine zl_virt (As := []) (rest := rest) (pb_zz (cy := cy) (a := a) (P := P)) S9 (c_X6_bestZero l D cy H.size a P hI hl0 hl1) hT rfl ⟨rfl, rfl⟩ 0 rfl (by decide +kernel) hR (GG_ok D cy) hGX.1.1 hA hP hD hS (ow_recv hGX.1.1.1 hP) hsize rfl hWr hcs hdg (fun r U9 H locs hpost hP hD hS => ?_)
  obtain ⟨zZ, hz, hv2, hu⟩ := hpost
  have hu : U9 = lkV P zZ := hu
  have hoq : objq P (lkV P zZ) := oq_lkV hz
  have hv : r = bzF M := hv2.trans ((bzFA hIr hag).symm)
  subst hv
  have hP : va_P D vwCl (ow cy a (mixB inZz P U9)) H := hP
  have hD : va_D A0 (ow cy a (mixB inZz P U9)) := hD
  rw [hu, mx_lkV_inZz] at hP hD
  exact kk H locs ⟨a, lkV P zZ, rfl, ab_q hAb hoq, hP, hD, hS⟩
theorem qv_digest (S9 : CallFix p m c cc nL s args Ts own) (hGX : GX D cy A0 s s.heap) (hA : ∀ q, s.heap.size ≤ q → A0 q) (hT : GoodIn Ts (wsV own index RX6 yX6_digest wsX6_digest)) (hR : 6 + 1 ≤ R9.frames ∧ 8 + (5 + 11) + 148 ≤ R9.locals) (hW : OW D cy A0 s.heap o M n K H locs) (hsize : ls.size = nL) (hWr : (rest.map fun v => v.category).sum ≤ 8) (hcs : cells ≤ R9.cells ∧ slots ≤ R9.slots) (hdg : decode cc pc = .ok (.invokevirtual index, 3))
    (kk : ∀ (H1 : Heap) (locs1 : List Loc), OW D cy A0 s.heap o M n K H1 locs1 → W p l e R9 s m args below meth c H1 locs1 cells slots Q (F0 m (pc + 3) ls (.long (lI (dgH M n 0 0)) :: rest))) : W p l e R9 s m args below meth c H locs cells slots Q (F0 m pc ls (.ref o :: rest)) := by
  obtain ⟨a, P, ha, hAb, hP, hD, hS⟩ := hW
  subst ha
  have hI := hAb.inv
  have hIr := hAb.1.1
  have hag := hAb.1.2
  have h50 := hAb.2.1.1
  have hsv : 0 ≤ P 50 1 ∧ P 50 1 ≤ 4 := ⟨by omega, by omega⟩
  have hl0 := hAb.2.2.2.2.1
  have hl1 := hAb.2.2.2.2.2
  have h10 := hAb.2.2.1.1
  have h107 := hAb.2.2.2.1
  have htl9 : 0 ≤ P 10 0 ∧ P 10 0 ≤ 150 := ⟨by omega, by omega⟩
  have hst9 : 0 ≤ P 100 7 ∧ P 100 7 ≤ 3 := ⟨by omega, by omega⟩
  refine zl_virl (As := []) (rest := rest) (pb_dg (cy := cy) (a := a) (P := P)) S9 (c_X6_digest l D cy H.size a P hI hl0 hl1 hsv htl9 hst9) hT rfl ⟨rfl, rfl⟩ 0 rfl (by decide +kernel) hR (GG_ok D cy) hGX.1.1 hA hP hD hS (ow_recv hGX.1.1.1 hP) hsize rfl hWr hcs hdg (fun r U9 H locs hpost hP hD hS => ?_)
  obtain ⟨zZ, hz, hv2, hu⟩ := hpost
  have hu : U9 = lkU P zZ := hu
  have hoq : objq P (lkU P zZ) := oq_lkU hz
  have hv : r = dgH M n 0 0 := hv2.trans (by rw [dgA _ _ _ hIr hag, h50.1, h10, h107])
  subst hv
  have hP : va_P D vwCl (ow cy a (mixB inDg P U9)) H := hP
  have hD : va_D A0 (ow cy a (mixB inDg P U9)) := hD
  rw [hu, mx_lkU_inDg] at hP hD
  exact kk H locs ⟨a, lkU P zZ, rfl, ab_q hAb hoq, hP, hD, hS⟩
theorem qv_runCommands (S9 : CallFix p m c cc nL s args Ts own) (hGX : GX D cy A0 s s.heap) (hA : ∀ q, s.heap.size ≤ q → A0 q) (hT : GoodIn Ts (wsV own index RX6 yX6_runCommands wsX6_runCommands)) (hR : 8 + 1 ≤ R9.frames ∧ 8 + (3 + 11) + 178 ≤ R9.locals) (hW : OW D cy A0 s.heap o M n K H locs) (hsize : ls.size = nL) (hWr : (rest.map fun v => v.category).sum ≤ 8) (hcs : cells ≤ R9.cells ∧ slots ≤ R9.slots) (hdg : decode cc pc = .ok (.invokevirtual index, 3))
    (kk : ∀ (H1 : Heap) (locs1 : List Loc), OW D cy A0 s.heap o M (kpN n) (csF M K) H1 locs1 → W p l e R9 s m args below meth c H1 locs1 cells slots Q (F0 m (pc + 3) ls (.int (iI 0) :: rest))) : W p l e R9 s m args below meth c H locs cells slots Q (F0 m pc ls (.ref o :: rest)) := by
  obtain ⟨a, P, ha, hAb, hP, hD, hS⟩ := hW
  subst ha
  have hI := hAb.inv
  have hIr := hAb.1.1
  have hag := hAb.1.2
  have h50 := hAb.2.1.1
  have hsv : 0 ≤ P 50 1 ∧ P 50 1 ≤ 4 := ⟨by omega, by omega⟩
  have hl0 := hAb.2.2.2.2.1
  have hl1 := hAb.2.2.2.2.2
  have h10 := hAb.2.2.1.1
  have h107 := hAb.2.2.2.1
  have htl9 : 0 ≤ P 10 0 ∧ P 10 0 ≤ 150 := ⟨by omega, by omega⟩
  have hst9 : 0 ≤ P 100 7 ∧ P 100 7 ≤ 3 := ⟨by omega, by omega⟩
  refine zl_virt (As := []) (rest := rest) (pb_rn (cy := cy) (a := a) (P := P)) S9 (c_X6_runCommands l D cy H.size a P hI hsv htl9 hAb.2.2.1.2.1 hAb.2.2.1.2.2) hT rfl ⟨rfl, rfl⟩ 0 rfl (by decide +kernel) hR (GS_ok D cy) hGX.1 hA hP hD hS (ow_recv hGX.1.1.1 hP) hsize rfl hWr hcs hdg (fun r U9 H locs hpost hP hD hS => ?_)
  have hrc : rcP P U9.2 r := hpost
  have hP : va_P D vwCl (ow cy (pgm a U9.1) (mixB inRn P U9.2)) H := hP
  have hD : va_D A0 (ow cy (pgm a U9.1) (mixB inRn P U9.2)) := hD
  rw [mx_rn hrc.1.1] at hP hD
  obtain ⟨hAb2, hv⟩ := ab_run hAb hrc
  subst hv
  exact kk H locs ⟨pgm a U9.1, U9.2, rfl, hAb2, hP, hD, hS⟩
end QC
/-- where a method of the law's ends -/
def MQk (below : List Frame) (D : va_G) (cy : Nat → ClassId) (W0 : va_W) (sz : Nat) (o : Nat) (post : Int → (Int → Int) → Int → (Nat → Int → Int) → Prop) (av : Array Value) (s : State) (mc ms : Nat) : State → Prop := MQ below (kQi D W0 sz (fun u : (Nat → Nat) × (Nat → Int → Int) => ow cy u.1 u.2) (fun r u => u.1 100 = o ∧ ∃ (M' : Int → Int) (n' : Int) (K' : Nat → Int → Int), Ab u.2 M' n' K' ∧ post r M' n' K')) av s mc ms (va_A W0 sz)
theorem ck_start {l : Launch} {D : va_G} {cy : Nat → ClassId} {y : MethodName} {wsy ws' : List Cond} {rm : Room} {o : Nat} {As : List Value} {M : Int → Int} {n : Int} {K : Nat → Int → Int} {post : Int → (Int → Int) → Int → (Nat → Int → Int) → Prop} {mc ms : Nat} {cc : ByteArray} {maxL : Nat} {ret : Option FieldType} (hy : plainName y.cls = true) (hw : wsy = Cond.code y cc maxL ret :: ws') (hlen : (lg_sl (.ref o :: As)).length ≤ maxL)
    (body : ∀ (p : Program) (e : Env) (s : State) (m : MethodId) (below : List Frame) (meth : Method) (c : Code) (A0 : Nat → Prop) (Q : State → Prop), p.tables.exec = Jvm.exec → c.code = cc → meth.sig.returnType = ret → meth.locks = false → c.maxLocals = maxL → (∀ w ∈ wsy, w.before (Value.ref o :: As).toArray s = true) → s.vm.findClass y.cls = some m.cls → (∀ q : Nat, s.heap.size ≤ q → A0 q) → GX D cy A0 s s.heap →
      (∀ (r : Int) (M' : Int → Int) (n' : Int) (K' : Nat → Int → Int) (H : Heap) (locs : List Loc) (cells slots pc : Nat) (ls : Array Slot), post r M' n' K' → OW D cy A0 s.heap o M' n' K' H locs → cells ≤ mc ∧ slots ≤ ms → (ret = some .int ∨ (ret = some .boolean ∧ (r = 0 ∨ r = 1))) → decode cc pc = .ok (.ireturn, 1) → W p l e rm s m (Value.ref o :: As).toArray below meth c H locs cells slots Q (F0 m pc ls [.int (iI r)])) →
      ∀ (H : Heap) (ls : Array Slot), OW D cy A0 s.heap o M n K H [] → lv_has ls maxL (lv_args 0 (.ref o :: As)) → W p l e rm s m (Value.ref o :: As).toArray below meth c H [] 0 0 Q (F0 m 0 ls [])) :
    CKs l D cy y wsy rm o As M n K post mc ms := by
  intro a P sz ha hAb
  refine kM_start (cc := cc) (maxL := maxL) (ret := ret) hy hw hlen ?_
  intro p e s m below meth c hx hb hr hlocks hml hts hown hsz hA hG hP hD hS hin ls hl
  refine body p e s m below meth c (va_A (ow cy a P) sz) _ hx hb hr hlocks hml hts hown hA hG ?_ s.heap ls ⟨a, P, ha, hAb, hP, hD, hS⟩ hl
  intro r M' n' K' H locs cells slots pc ls hp hW hcs hret hdg
  obtain ⟨a', P', ha', hAb', hP', hD', hS'⟩ := hW
  refine W.widen hcs.1 hcs.2 ?_
  rcases hret with hret | ⟨hret, h01⟩
  · exact W.iret (v := iI r) hx hb (hr.trans hret) (fun t9 ht _ => ⟨⟨iI r, (a', P'), rfl, ⟨r, rfl, ha', M', n', K', hAb', hp⟩, by rw [ht]; exact hP', hD'⟩, hS'.F ht⟩) hS'.2.2 hdg hlocks
  · exact W.zret (v := iI r) hx hb (hr.trans hret) (bool_nar h01) (fun t9 ht _ => ⟨⟨iI r, (a', P'), rfl, ⟨r, rfl, ha', M', n', K', hAb', hp⟩, by rw [ht]; exact hP', hD'⟩, hS'.F ht⟩) hS'.2.2 hdg hlocks
