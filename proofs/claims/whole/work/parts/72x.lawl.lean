/-! the law's world, its calls, what the relation says of single places -/
def lawW (cy : Nat → ClassId) (a a2 : Nat → Nat) (o : Nat) (f : Nat → Int64) (P R : Nat → Int → Int) : va_W := ouW cy o f (fullW cy a P ++ rfW cy a2 R)
section LAWL
variable {p : Program} {l : Launch} {e : Env} {R : Room} {s : State} {m : MethodId} {args : Array Value} {below : List Frame} {meth : Method} {c : Code} {H : Heap} {locs : List Loc} {cells slots : Nat} {Q : State → Prop}
variable {pc : Nat} {ls : Array Slot} {rest st0 : List Value} {A0 : Nat → Prop} {H0 : Heap} {mc ms : Nat} {D : va_G} {wsC : va_W}
variable {y : MethodName} {bytes cc : ByteArray} {maxL nL index : Nat} {ret : Option FieldType} {wsy ws' : List Cond} {rm : Room} {Ts : List Cond} {own : String} {As : List Value} {G : (Nat → Prop) → State → Heap → Prop} {Qc : Array Value → State → Outcome → State → Prop} {hh : List (Nat × Nat × Nat × Nat)}
/-- the run of a static method with an exception table that writes its world -/
theorem k_runSW (S : CallFix p m c cc nL s args Ts own) (hM : Met l y wsy rm (mPre G D wsC H.size As) Qc mc ms (va_A wsC H.size)) (hT : GoodIn Ts (va_wsS own index y wsy)) (hw : wsy = Cond.codeWith y bytes maxL ret hh :: ws') (hrm : rm.cells = mc ∧ rm.slots = ms) (n9 : Nat) (hn9 : As.length = n9)
    (hd : y.cls ≠ "java/lang/invoke/MethodHandle" ∧ y.cls ≠ "java/lang/invoke/VarHandle" ∧ (parseMethodDescriptor y.desc).map (fun d => d.parameters.length) = some n9) (hR : rm.frames + 1 ≤ R.frames ∧ 8 + (maxL + 11) + rm.locals ≤ R.locals)
    (hGok : kGok G) (hG : G A0 s H0) (hS : va_S A0 H0 H locs) (hF : ∀ q, va_A wsC H.size q → A0 q) (hP : va_P D vwCl wsC H) (hD : va_D A0 wsC) (hsize : ls.size = nL) (hstack : st0 = As.reverse ++ rest) (hW : (rest.map fun v => v.category).sum ≤ 8) (hcs : cells + mc ≤ R.cells ∧ slots + ms ≤ R.slots) (hdg : decode cc pc = .ok (.invokestatic index, 3)) :
    va_Run p l e R s m args below meth c H locs cells slots mc ms (F0 m pc ls st0) rest (Qc As.toArray) (va_A wsC H.size) :=
  vx_runSW S hM (vx_cwSW n9 S.2.2.2.2 hT hw hrm.1 hrm.2 hd hR) ⟨mPre_blind hGok, fun U hU hW => ⟨rfl, by rw [hU], by rw [hU]; exact hGok.2.1 _ s U H hW (hGok.2.2.2 _ _ _ _ hF (hGok.1 _ _ _ _ hS.2.1 hG)), by rw [hU]; exact hP, hD.weaken (fun _ _ _ _ => trivial)⟩⟩ rfl hn9 hsize hstack (lv_room hW) hdg hcs
end LAWL
theorem rl_12 {P R : Nat → Int → Int} (h : Rl P R) : R 1 12 = P 0 0 ∧ R 1 13 = P 0 1 := (ag_hd h.1.2).2.2
theorem rl_st {P R : Nat → Int → Int} (h : Rl P R) {w : Int} (h0 : 0 ≤ w) (h1 : w < 10) : R 1 w = P 8 w := (ag_hd h.1.2).1 w h0 h1
theorem rl_pt {P R : Nat → Int → Int} (h : Rl P R) {t : Int} (h0 : 0 ≤ t) (h1 : t < P 0 0) : pts (R 1) t = P 1 t := by
  have e := rl_12 h
  have h12 := inv_S12 h.1.1
  exact (ptA h.1.2 h0 (by omega)).trans (mO_pts P h0 (by omega))
theorem rl_has {P R : Nat → Int → Int} (h : Rl P R) {t : Int} (h0 : 0 ≤ t) (h1 : t < P 0 0) (f : Int) : hasF (R 1) t f ↔ hasF (mO P) t f := by
  have e := rl_12 h
  exact hasA h.1.2 h0 (by omega) f
