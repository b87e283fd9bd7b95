/-! the law's calls, put back into its world -/
def mixB (f : Nat → Bool) (P Q : Nat → Int → Int) : Nat → Int → Int := fun i => cond (f i) (P i) (Q i)
theorem mixB_eq {f : Nat → Bool} {P Q : Nat → Int → Int} (h : ∀ i : Nat, f i = true → Q i = P i) : mixB f P Q = Q := by
  funext i
  unfold mixB
  cases hf : f i with
  | false => rfl
  | true => exact (h i hf).symm
def rgB (lo hi : Nat) (i : Nat) : Bool := Nat.ble lo i && Nat.ble i hi
theorem rgB_t {lo hi i : Nat} (h : rgB lo hi i = true) : lo ≤ i ∧ i ≤ hi := by
  unfold rgB at h
  have h2 := (Bool.and_eq_true _ _).mp h
  exact ⟨Nat.le_of_ble_eq_true h2.1, Nat.le_of_ble_eq_true h2.2⟩
def inHs : Nat → Bool := fun i => rgB 9 49 i
def inLk : Nat → Bool := fun i => rgB 9 19 i || rgB 40 99 i
def inZz : Nat → Bool := fun i => rgB 9 19 i || rgB 50 99 i
def inDg : Nat → Bool := fun i => rgB 40 49 i || rgB 60 99 i
def inRn : Nat → Bool := fun i => rgB 14 49 i
def inSc : Nat → Bool := fun i => rgB 0 9 i || rgB 20 99 i
theorem orB {x y : Bool} (h : (x || y) = true) : x = true ∨ y = true := (Bool.or_eq_true x y).mp h
theorem fm_of {f : Nat → Option (Nat × va_E)} : ∀ (l : List Nat) (w : va_W), l.map f = w.map some → l.filterMap f = w
  | [], [], _ => rfl
  | [], _ :: _, h => by cases h
  | _ :: _, [], h => by cases h
  | i :: l, x :: w, h => by
    have h1 : f i = some x := (List.cons.inj h).1
    have h2 := fm_of l w (List.cons.inj h).2
    exact (List.filterMap_cons_some h1).trans (by rw [h2])
/-- what a call on a part of a world leaves of the whole -/
def putB (ws wc : va_W) (S : Type) (wf nw : S → va_W) (isC : List Nat) (js : List (Option Nat)) : Prop :=
  (isC.map (fun i => ws[i]?) = wc.map some) ∧ va_nd isC = true ∧ (∀ u : S, k_sel ws (wf u) 0 js = (nw u).map some) ∧ k_jok isC 0 js = true ∧ (js.filterMap (fun x => x)).Nodup
section ZLA
variable {p : Program} {l : Launch} {e : Env} {R9 : Room} {s : State} {m : MethodId} {args : Array Value} {below : List Frame} {meth : Method} {c : Code} {H : Heap} {locs : List Loc} {cells slots : Nat} {Q : State → Prop}
variable {pc : Nat} {ls : Array Slot} {rest st0 : List Value} {A0 : Nat → Prop} {H0 : Heap} {mc ms : Nat} {D : va_G} {a9 : Array Value}
variable {y : MethodName} {bytes cc : ByteArray} {maxL nL index : Nat} {ret9 : Option FieldType} {wsy ws' : List Cond} {rm : Room} {Ts : List Cond} {own C : String} {As : List Value} {bo : Addr} {G : (Nat → Prop) → State → Heap → Prop} {hh : List (Nat × Nat × Nat × Nat)}
variable {S : Type} {ws wc : va_W} {wf nw : S → va_W} {post : Int → S → Prop} {isC : List Nat} {js : List (Option Nat)}
theorem zl_mui (B : putB ws wc S wf nw isC js) (hr : va_Run p l e R9 s m args below meth c H locs cells slots mc ms (F0 m pc ls st0) rest (kQi D wc H.size wf post a9) (va_A wc H.size)) (hF : ∀ q, va_A wc H.size q → A0 q) (hP : va_P D vwCl ws H) (hD : va_D A0 ws) (hS : va_S A0 H0 H locs)
    (kk : ∀ (r : Int) (u : S) (H1 : Heap) (locs1 : List Loc), post r u → va_P D vwCl (nw u) H1 → va_D A0 (nw u) → va_S A0 H0 H1 locs1 → W p l e R9 s m args below meth c H1 locs1 (cells + mc) (slots + ms) Q (F0 m (pc + 3) ls (.int (iI r) :: rest))) : W p l e R9 s m args below meth c H locs cells slots Q (F0 m pc ls st0) :=
  k_mui hr hF hS (fun r u H1 locs1 hp hP1 hD1 hS1 hk => kk r u H1 locs1 hp (k_join hP hD isC js B.1 hk hP1 (B.2.2.1 u) B.2.2.2.1) (k_joinD hP hD isC js B.1 hF hD1 (B.2.2.1 u) B.2.2.2.1 B.2.2.2.2) hS1)
theorem zl_mul (B : putB ws wc S wf nw isC js) (hr : va_Run p l e R9 s m args below meth c H locs cells slots mc ms (F0 m pc ls st0) rest (kQl D wc H.size wf post a9) (va_A wc H.size)) (hF : ∀ q, va_A wc H.size q → A0 q) (hP : va_P D vwCl ws H) (hD : va_D A0 ws) (hS : va_S A0 H0 H locs)
    (kk : ∀ (r : Int) (u : S) (H1 : Heap) (locs1 : List Loc), post r u → va_P D vwCl (nw u) H1 → va_D A0 (nw u) → va_S A0 H0 H1 locs1 → W p l e R9 s m args below meth c H1 locs1 (cells + mc) (slots + ms) Q (F0 m (pc + 3) ls (.long (lI r) :: rest))) : W p l e R9 s m args below meth c H locs cells slots Q (F0 m pc ls st0) :=
  k_mul hr hF hS (fun r u H1 locs1 hp hP1 hD1 hS1 hk => kk r u H1 locs1 hp (k_join hP hD isC js B.1 hk hP1 (B.2.2.1 u) B.2.2.2.1) (k_joinD hP hD isC js B.1 hF hD1 (B.2.2.1 u) B.2.2.2.1 B.2.2.2.2) hS1)
/-- one of the law's own helpers, on a part of the world -/
theorem zl_stat (B : putB ws wc S wf nw isC js) (S9 : CallFix p m c cc nL s args Ts own) (hM : Met l y wsy rm (mPre G D wc H.size As) (kQi D wc H.size wf post) mc ms (va_A wc H.size)) (hT : GoodIn Ts (va_wsS own index y wsy)) (hw : wsy = Cond.codeWith y bytes maxL ret9 hh :: ws') (hrm : rm.cells = mc ∧ rm.slots = ms) (n9 : Nat) (hn9 : As.length = n9)
    (hd : y.cls ≠ "java/lang/invoke/MethodHandle" ∧ y.cls ≠ "java/lang/invoke/VarHandle" ∧ (parseMethodDescriptor y.desc).map (fun d => d.parameters.length) = some n9) (hR : rm.frames + 1 ≤ R9.frames ∧ 8 + (maxL + 11) + rm.locals ≤ R9.locals)
    (hGok : kGok G) (hG : G A0 s H0) (hA : ∀ q, H0.size ≤ q → A0 q) (hP : va_P D vwCl ws H) (hD : va_D A0 ws) (hS : va_S A0 H0 H locs) (hsize : ls.size = nL) (hstack : st0 = As.reverse ++ rest) (hW : (rest.map fun v => v.category).sum ≤ 8) (hcs : cells + mc ≤ R9.cells ∧ slots + ms ≤ R9.slots) (hdg : decode cc pc = .ok (.invokestatic index, 3))
    (kk : ∀ (r : Int) (u : S) (H1 : Heap) (locs1 : List Loc), post r u → va_P D vwCl (nw u) H1 → va_D A0 (nw u) → va_S A0 H0 H1 locs1 → W p l e R9 s m args below meth c H1 locs1 (cells + mc) (slots + ms) Q (F0 m (pc + 3) ls (.int (iI r) :: rest))) : W p l e R9 s m args below meth c H locs cells slots Q (F0 m pc ls st0) :=
  have hF := va_free (wc := wc) hD hS hA isC B.1
  zl_mui B (k_runSW S9 hM hT hw hrm n9 hn9 hd hR hGok hG hS hF (hP.sub isC (fm_of isC wc B.1)) (hD.sub isC B.2.1 B.1) hsize hstack hW hcs hdg) hF hP hD hS kk
/-- a method of an object, on a part of the world -/
theorem zl_virt (B : putB ws wc S wf nw isC js) (S9 : CallFix p m c cc nL s args Ts own) (hM : Met l y wsy rm (mPre G D wc H.size (.ref bo :: As)) (kQi D wc H.size wf post) mc ms (va_A wc H.size)) (hT : GoodIn Ts (wsV own index C y wsy)) (hw : wsy = Cond.code y bytes maxL ret9 :: ws') (hrm : rm.cells = mc ∧ rm.slots = ms) (n9 : Nat) (hn9 : As.length = n9)
    (hd : y.cls = C ∧ y.cls ≠ "java/lang/invoke/MethodHandle" ∧ y.cls ≠ "java/lang/invoke/VarHandle" ∧ (parseMethodDescriptor y.desc).map (fun d => d.parameters.length) = some n9) (hR : rm.frames + 1 ≤ R9.frames ∧ 8 + (maxL + 11) + rm.locals ≤ R9.locals)
    (hGok : kGok G) (hG : G A0 s H0) (hA : ∀ q, H0.size ≤ q → A0 q) (hP : va_P D vwCl ws H) (hD : va_D A0 ws) (hS : va_S A0 H0 H locs) (hrecv : ∃ cell : Cell, H[bo]? = some cell ∧ cell.vm.isStatics = false ∧ s.vm.findClass C = some cell.cls) (hsize : ls.size = nL) (hstack : st0 = As.reverse ++ .ref bo :: rest) (hW : (rest.map fun v => v.category).sum ≤ 8) (hcs : cells + mc ≤ R9.cells ∧ slots + ms ≤ R9.slots) (hdg : decode cc pc = .ok (.invokevirtual index, 3))
    (kk : ∀ (r : Int) (u : S) (H1 : Heap) (locs1 : List Loc), post r u → va_P D vwCl (nw u) H1 → va_D A0 (nw u) → va_S A0 H0 H1 locs1 → W p l e R9 s m args below meth c H1 locs1 (cells + mc) (slots + ms) Q (F0 m (pc + 3) ls (.int (iI r) :: rest))) : W p l e R9 s m args below meth c H locs cells slots Q (F0 m pc ls st0) :=
  have hF := va_free (wc := wc) hD hS hA isC B.1
  zl_mui B (k_runV S9 hM hT hw hrm n9 hn9 hd hR hGok hG hS hF (hP.sub isC (fm_of isC wc B.1)) (hD.sub isC B.2.1 B.1) hrecv hsize hstack hW hcs hdg) hF hP hD hS kk
theorem zl_virl (B : putB ws wc S wf nw isC js) (S9 : CallFix p m c cc nL s args Ts own) (hM : Met l y wsy rm (mPre G D wc H.size (.ref bo :: As)) (kQl D wc H.size wf post) mc ms (va_A wc H.size)) (hT : GoodIn Ts (wsV own index C y wsy)) (hw : wsy = Cond.code y bytes maxL ret9 :: ws') (hrm : rm.cells = mc ∧ rm.slots = ms) (n9 : Nat) (hn9 : As.length = n9)
    (hd : y.cls = C ∧ y.cls ≠ "java/lang/invoke/MethodHandle" ∧ y.cls ≠ "java/lang/invoke/VarHandle" ∧ (parseMethodDescriptor y.desc).map (fun d => d.parameters.length) = some n9) (hR : rm.frames + 1 ≤ R9.frames ∧ 8 + (maxL + 11) + rm.locals ≤ R9.locals)
    (hGok : kGok G) (hG : G A0 s H0) (hA : ∀ q, H0.size ≤ q → A0 q) (hP : va_P D vwCl ws H) (hD : va_D A0 ws) (hS : va_S A0 H0 H locs) (hrecv : ∃ cell : Cell, H[bo]? = some cell ∧ cell.vm.isStatics = false ∧ s.vm.findClass C = some cell.cls) (hsize : ls.size = nL) (hstack : st0 = As.reverse ++ .ref bo :: rest) (hW : (rest.map fun v => v.category).sum ≤ 8) (hcs : cells + mc ≤ R9.cells ∧ slots + ms ≤ R9.slots) (hdg : decode cc pc = .ok (.invokevirtual index, 3))
    (kk : ∀ (r : Int) (u : S) (H1 : Heap) (locs1 : List Loc), post r u → va_P D vwCl (nw u) H1 → va_D A0 (nw u) → va_S A0 H0 H1 locs1 → W p l e R9 s m args below meth c H1 locs1 (cells + mc) (slots + ms) Q (F0 m (pc + 3) ls (.long (lI r) :: rest))) : W p l e R9 s m args below meth c H locs cells slots Q (F0 m pc ls st0) :=
  have hF := va_free (wc := wc) hD hS hA isC B.1
  zl_mul B (k_runV S9 hM hT hw hrm n9 hn9 hd hR hGok hG hS hF (hP.sub isC (fm_of isC wc B.1)) (hD.sub isC B.2.1 B.1) hrecv hsize hstack hW hcs hdg) hF hP hD hS kk
end ZLA
