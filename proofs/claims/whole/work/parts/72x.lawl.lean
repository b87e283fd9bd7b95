/-! the law's world, its calls, what the relation says of single places -/
def lawW (cy : Nat → ClassId) (a a2 : Nat → Nat) (o : Nat) (f : Nat → Int64) (P R : Nat → Int → Int) : va_W := [
  (o, .inl (cy 4, 1, .inr (.inl f))),
  (a 100, .inr (5, [.ref (a 0), .ref (a 50), .ref (a 10), .ref (a 20), .ref (a 30), .ref (a 40), .int (iI (P 100 6)), .int (iI (P 100 7))])),
  (a 50, .inr (1, [.ref (a 51), .int (iI (P 50 1))])),
  (a 51, .inl (cy 3, 4, .inr (.inr (.inr (.inr (q4 (a 60) (a 70) (a 80) (a 90))))))),
  (a 60, .inr (3, [.int (iI (P 60 0)), .int (iI (P 60 1)), .int (iI (P 60 2)), .int (iI (P 60 3)), .ref (a 61), .ref (a 62), .ref (a 63), .ref (a 64), .ref (a 65), .ref (a 66), .ref (a 67), .ref (a 68)])),
  (a 61, .inl (cy 0, 12, .inl (aI (P 61)))),
  (a 62, .inl (cy 0, 144, .inl (aI (P 62)))),
  (a 63, .inl (cy 0, 144, .inl (aI (P 63)))),
  (a 64, .inl (cy 0, 144, .inl (aI (P 64)))),
  (a 65, .inl (cy 0, 12, .inl (aI (P 65)))),
  (a 66, .inl (cy 0, 12, .inl (aI (P 66)))),
  (a 67, .inl (cy 0, 12, .inl (aI (P 67)))),
  (a 68, .inl (cy 0, 10, .inl (aI (P 68)))),
  (a 70, .inr (3, [.int (iI (P 70 0)), .int (iI (P 70 1)), .int (iI (P 70 2)), .int (iI (P 70 3)), .ref (a 71), .ref (a 72), .ref (a 73), .ref (a 74), .ref (a 75), .ref (a 76), .ref (a 77), .ref (a 78)])),
  (a 71, .inl (cy 0, 12, .inl (aI (P 71)))),
  (a 72, .inl (cy 0, 144, .inl (aI (P 72)))),
  (a 73, .inl (cy 0, 144, .inl (aI (P 73)))),
  (a 74, .inl (cy 0, 144, .inl (aI (P 74)))),
  (a 75, .inl (cy 0, 12, .inl (aI (P 75)))),
  (a 76, .inl (cy 0, 12, .inl (aI (P 76)))),
  (a 77, .inl (cy 0, 12, .inl (aI (P 77)))),
  (a 78, .inl (cy 0, 10, .inl (aI (P 78)))),
  (a 80, .inr (3, [.int (iI (P 80 0)), .int (iI (P 80 1)), .int (iI (P 80 2)), .int (iI (P 80 3)), .ref (a 81), .ref (a 82), .ref (a 83), .ref (a 84), .ref (a 85), .ref (a 86), .ref (a 87), .ref (a 88)])),
  (a 81, .inl (cy 0, 12, .inl (aI (P 81)))),
  (a 82, .inl (cy 0, 144, .inl (aI (P 82)))),
  (a 83, .inl (cy 0, 144, .inl (aI (P 83)))),
  (a 84, .inl (cy 0, 144, .inl (aI (P 84)))),
  (a 85, .inl (cy 0, 12, .inl (aI (P 85)))),
  (a 86, .inl (cy 0, 12, .inl (aI (P 86)))),
  (a 87, .inl (cy 0, 12, .inl (aI (P 87)))),
  (a 88, .inl (cy 0, 10, .inl (aI (P 88)))),
  (a 90, .inr (3, [.int (iI (P 90 0)), .int (iI (P 90 1)), .int (iI (P 90 2)), .int (iI (P 90 3)), .ref (a 91), .ref (a 92), .ref (a 93), .ref (a 94), .ref (a 95), .ref (a 96), .ref (a 97), .ref (a 98)])),
  (a 91, .inl (cy 0, 12, .inl (aI (P 91)))),
  (a 92, .inl (cy 0, 144, .inl (aI (P 92)))),
  (a 93, .inl (cy 0, 144, .inl (aI (P 93)))),
  (a 94, .inl (cy 0, 144, .inl (aI (P 94)))),
  (a 95, .inl (cy 0, 12, .inl (aI (P 95)))),
  (a 96, .inl (cy 0, 12, .inl (aI (P 96)))),
  (a 97, .inl (cy 0, 12, .inl (aI (P 97)))),
  (a 98, .inl (cy 0, 10, .inl (aI (P 98)))),
  (a 0, .inr (3, [.int (iI (P 0 0)), .int (iI (P 0 1)), .int (iI (P 0 2)), .int (iI (P 0 3)), .ref (a 1), .ref (a 2), .ref (a 3), .ref (a 4), .ref (a 5), .ref (a 6), .ref (a 7), .ref (a 8)])),
  (a 1, .inl (cy 0, 12, .inl (aI (P 1)))),
  (a 2, .inl (cy 0, 144, .inl (aI (P 2)))),
  (a 3, .inl (cy 0, 144, .inl (aI (P 3)))),
  (a 4, .inl (cy 0, 144, .inl (aI (P 4)))),
  (a 5, .inl (cy 0, 12, .inl (aI (P 5)))),
  (a 6, .inl (cy 0, 12, .inl (aI (P 6)))),
  (a 7, .inl (cy 0, 12, .inl (aI (P 7)))),
  (a 8, .inl (cy 0, 10, .inl (aI (P 8)))),
  (a 10, .inr (4, [.int (iI (P 10 0)), .int (iI (P 10 1)), .ref (a 11), .ref (a 12), .ref (a 13), .int (iI (P 10 5))])),
  (a 11, .inl (cy 1, 150, .inl (aI (P 11)))),
  (a 12, .inl (cy 0, 150, .inl (aI (P 12)))),
  (a 13, .inl (cy 0, 600, .inl (aI (P 13)))),
  (a 20, .inr (0, [.ref (a 21), .ref (a 22), .ref (a 23), .ref (a 24), .ref (a 25), .ref (a 26), .ref (a 27), .ref (a 28)])),
  (a 21, .inl (cy 0, 12, .inl (aI (P 21)))),
  (a 22, .inl (cy 0, 12, .inl (aI (P 22)))),
  (a 23, .inl (cy 0, 12, .inl (aI (P 23)))),
  (a 24, .inl (cy 0, 12, .inl (aI (P 24)))),
  (a 25, .inl (cy 0, 12, .inl (aI (P 25)))),
  (a 26, .inl (cy 0, 12, .inl (aI (P 26)))),
  (a 27, .inl (cy 0, 12, .inl (aI (P 27)))),
  (a 28, .inl (cy 2, 12, .inl (aI (P 28)))),
  (a 30, .inr (2, [.ref (a 31), .ref (a 32), .ref (a 33), .int (iI (P 30 3)), .int (iI (P 30 4)), .ref (a 34), .ref (a 35), .ref (a 36), .int (iI (P 30 8))])),
  (a 31, .inl (cy 0, 12, .inl (aI (P 31)))),
  (a 32, .inl (cy 0, 12, .inl (aI (P 32)))),
  (a 33, .inl (cy 0, 12, .inl (aI (P 33)))),
  (a 34, .inl (cy 0, 144, .inl (aI (P 34)))),
  (a 35, .inl (cy 0, 144, .inl (aI (P 35)))),
  (a 36, .inl (cy 0, 144, .inl (aI (P 36)))),
  (a 40, .inr (2, [.ref (a 41), .ref (a 42), .ref (a 43), .int (iI (P 40 3)), .int (iI (P 40 4)), .ref (a 44), .ref (a 45), .ref (a 46), .int (iI (P 40 8))])),
  (a 41, .inl (cy 0, 12, .inl (aI (P 41)))),
  (a 42, .inl (cy 0, 12, .inl (aI (P 42)))),
  (a 43, .inl (cy 0, 12, .inl (aI (P 43)))),
  (a 44, .inl (cy 0, 144, .inl (aI (P 44)))),
  (a 45, .inl (cy 0, 144, .inl (aI (P 45)))),
  (a 46, .inl (cy 0, 144, .inl (aI (P 46)))),
  (a2 0, .inr (6, [.ref (a2 1), .ref (a2 2), .int (iI (R 0 2)), .ref (a2 3), .int (iI (R 0 4)), .int (iI (R 0 5)), .int (iI (R 0 6)), .int (iI (R 0 7)), .int (iI (R 0 8)), .int (iI (R 0 9)), .ref (a2 4), .ref (a2 5), .ref (a2 6), .int (iI (R 0 13)), .int (iI (R 0 14)), .int (iI (R 0 15)), .int (iI (R 0 16)), .ref (a2 7), .long (lI (R 8 0))])),
  (a2 1, .inl (cy 0, 494, .inl (aI (R 1)))),
  (a2 2, .inl (cy 0, 1976, .inl (aI (R 2)))),
  (a2 3, .inl (cy 0, 150, .inl (aI (R 3)))),
  (a2 4, .inl (cy 0, 144, .inl (aI (R 4)))),
  (a2 5, .inl (cy 0, 12, .inl (aI (R 5)))),
  (a2 6, .inl (cy 0, 12, .inl (aI (R 6)))),
  (a2 7, .inl (cy 0, 4, .inl (aI (R 7))))]
set_option maxRecDepth 100000 in
theorem lawW_eq (cy : Nat → ClassId) (a a2 : Nat → Nat) (o : Nat) (f : Nat → Int64) (P R : Nat → Int → Int) : lawW cy a a2 o f P R = ouW cy o f (fullW cy a P ++ rfW cy a2 R) := rfl
section LAWL
variable {p : Program} {l : Launch} {e : Env} {R : Room} {s : State} {m : MethodId} {args : Array Value} {below : List Frame} {meth : Method} {c : Code} {H : Heap} {locs : List Loc} {cells slots : Nat} {Q : State → Prop}
variable {pc : Nat} {ls : Array Slot} {rest st0 : List Value} {A0 : Nat → Prop} {H0 : Heap} {mc ms : Nat} {D : va_G} {wsC : va_W}
variable {y : MethodName} {bytes cc : ByteArray} {maxL nL index : Nat} {ret : Option FieldType} {wsy ws' : List Cond} {rm : Room} {Ts : List Cond} {own : String} {As : List Value} {G : (Nat → Prop) → State → Heap → Prop} {Qc : Array Value → State → Outcome → State → Prop} {hh : List (Nat × Nat × Nat × Nat)}
/-- the run of a static method with an exception table that writes its world -/
theorem k_runSW (S : CallFix p m c cc nL s args Ts own) (hM : Met l y wsy rm (mPre G D wsC H.size As) Qc mc ms (va_A wsC H.size)) (hT : GoodIn Ts (va_wsS own index y wsy)) (hw : wsy = Cond.codeWith y bytes maxL ret hh :: ws') (hrm : rm.cells = mc ∧ rm.slots = ms) (n9 : Nat) (hn9 : As.length = n9)
    (hd : y.cls ≠ "java/lang/invoke/MethodHandle" ∧ y.cls ≠ "java/lang/invoke/VarHandle" ∧ (parseMethodDescriptor y.desc).map (fun d => d.parameters.length) = some n9) (hR : rm.frames + 1 ≤ R.frames ∧ 8 + (maxL + 11) + rm.locals ≤ R.locals)
    (hGok : kGok G) (hG : G A0 s H0) (hS : va_S A0 H0 H locs) (hF : ∀ q, va_A wsC H.size q → A0 q) (hP : va_P D vwCl wsC H) (hD : va_D A0 wsC) (hsize : ls.size = nL) (hstack : st0 = As.reverse ++ rest) (hW : (rest.map fun v => v.category).sum ≤ 8) (hcs : cells + mc ≤ R.cells ∧ slots + ms ≤ R.slots) (hdg : decode cc pc = .ok (.invokestatic index, 3)) :
    va_Run p l e R s m args below meth c H locs cells slots mc ms (F0 m pc ls st0) rest (Qc As.toArray) (va_A wsC H.size) :=
  vx_runSW S hM (vx_cwSW n9 S.2.2.2.2 hT hw hrm.1 hrm.2 hd hR) ⟨mPre_blind hGok, fun U hU hW => ⟨rfl, by rw [hU], by rw [hU]; exact hGok.2.1 _ s U H hW (hGok.2.2.2 _ _ _ _ hF (hGok.1 _ _ _ _ hS.2.1 hG)), by rw [hU]; exact hP, hD.weaken (fun _ _ _ _ => trivial)⟩⟩ rfl hn9 hsize hstack (lv_room hW) hdg hcs
end LAWL
theorem rl_12 {P R : Nat → Int → Int} (h : Rl P R) : R 1 12 = P 0 0 ∧ R 1 13 = P 0 1 := (ag_hd h.1.2).2.2
theorem rl_st {P R : Nat → Int → Int} (h : Rl P R) {w : Int} (h0 : 0 ≤ w) (h1 : w < 10) : R 1 w = P 8 w := (ag_hd h.1.2).1 w h0 h1
theorem rl_pt {P R : Nat → Int → Int} (h : Rl P R) {t : Int} (h0 : 0 ≤ t) (h1 : t < P 0 0) : pts (R 1) t = P 1 t := by
  have e := rl_12 h
  have h12 := inv_S12 h.1.1
  exact (ptA h.1.2 h0 (by omega)).trans (mO_pts P h0 (by omega))
theorem rl_has {P R : Nat → Int → Int} (h : Rl P R) {t : Int} (h0 : 0 ≤ t) (h1 : t < P 0 0) (f : Int) : hasF (R 1) t f ↔ hasF (mO P) t f := by
  have e := rl_12 h
  exact hasA h.1.2 h0 (by omega) f
