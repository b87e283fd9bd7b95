/-! the two first objects and the row of answers -/
def fulX (cy : Nat → ClassId) (a : Nat → Nat) (P : Nat → Int → Int) : va_W := [
  (a 100, .inr (5, [.ref (a 0), .ref (a 50), .ref (a 10), .ref (a 20), .ref (a 30), .ref (a 40), .int (iI (P 100 6)), .int (iI (P 100 7))])),
  (a 50, .inr (1, [.ref (a 51), .int (iI (P 50 1))])),
  (a 51, .inl (cy 3, 4, .inr (.inr (.inr (.inr (q4 (a 60) (a 70) (a 80) (a 90))))))),
  (a 60, .inr (3, [.int (iI (P 60 0)), .int (iI (P 60 1)), .int (iI (P 60 2)), .int (iI (P 60 3)), .ref (a 61), .ref (a 62), .ref (a 63), .ref (a 64), .ref (a 65), .ref (a 66), .ref (a 67), .ref (a 68)])),
  (a 61, .inl (cy 0, 12, .inl (aI (P 61)))),
  (a 62, .inl (cy 0, 144, .inl (aI (P 62)))),
  (a 63, .inl (cy 0, 144, .inl (aI (P 63)))),
  (a 64, .inl (cy 0, 144, .inl (aI (P 64)))),
  (a 65, .inl (cy 0, 12, .inl (aI (P 65)))),
  (a 66, .inl (cy 0, 12, .inl (aI (P 66)))),
  (a 67, .inl (cy 0, 12, .inl (aI (P 67)))),
  (a 68, .inl (cy 0, 10, .inl (aI (P 68)))),
  (a 70, .inr (3, [.int (iI (P 70 0)), .int (iI (P 70 1)), .int (iI (P 70 2)), .int (iI (P 70 3)), .ref (a 71), .ref (a 72), .ref (a 73), .ref (a 74), .ref (a 75), .ref (a 76), .ref (a 77), .ref (a 78)])),
  (a 71, .inl (cy 0, 12, .inl (aI (P 71)))),
  (a 72, .inl (cy 0, 144, .inl (aI (P 72)))),
  (a 73, .inl (cy 0, 144, .inl (aI (P 73)))),
  (a 74, .inl (cy 0, 144, .inl (aI (P 74)))),
  (a 75, .inl (cy 0, 12, .inl (aI (P 75)))),
  (a 76, .inl (cy 0, 12, .inl (aI (P 76)))),
  (a 77, .inl (cy 0, 12, .inl (aI (P 77)))),
  (a 78, .inl (cy 0, 10, .inl (aI (P 78)))),
  (a 80, .inr (3, [.int (iI (P 80 0)), .int (iI (P 80 1)), .int (iI (P 80 2)), .int (iI (P 80 3)), .ref (a 81), .ref (a 82), .ref (a 83), .ref (a 84), .ref (a 85), .ref (a 86), .ref (a 87), .ref (a 88)])),
  (a 81, .inl (cy 0, 12, .inl (aI (P 81)))),
  (a 82, .inl (cy 0, 144, .inl (aI (P 82)))),
  (a 83, .inl (cy 0, 144, .inl (aI (P 83)))),
  (a 84, .inl (cy 0, 144, .inl (aI (P 84)))),
  (a 85, .inl (cy 0, 12, .inl (aI (P 85)))),
  (a 86, .inl (cy 0, 12, .inl (aI (P 86)))),
  (a 87, .inl (cy 0, 12, .inl (aI (P 87)))),
  (a 88, .inl (cy 0, 10, .inl (aI (P 88)))),
  (a 90, .inr (3, [.int (iI (P 90 0)), .int (iI (P 90 1)), .int (iI (P 90 2)), .int (iI (P 90 3)), .ref (a 91), .ref (a 92), .ref (a 93), .ref (a 94), .ref (a 95), .ref (a 96), .ref (a 97), .ref (a 98)])),
  (a 91, .inl (cy 0, 12, .inl (aI (P 91)))),
  (a 92, .inl (cy 0, 144, .inl (aI (P 92)))),
  (a 93, .inl (cy 0, 144, .inl (aI (P 93)))),
  (a 94, .inl (cy 0, 144, .inl (aI (P 94)))),
  (a 95, .inl (cy 0, 12, .inl (aI (P 95)))),
  (a 96, .inl (cy 0, 12, .inl (aI (P 96)))),
  (a 97, .inl (cy 0, 12, .inl (aI (P 97)))),
  (a 98, .inl (cy 0, 10, .inl (aI (P 98)))),
  (a 0, .inr (3, [.int (iI (P 0 0)), .int (iI (P 0 1)), .int (iI (P 0 2)), .int (iI (P 0 3)), .ref (a 1), .ref (a 2), .ref (a 3), .ref (a 4), .ref (a 5), .ref (a 6), .ref (a 7), .ref (a 8)])),
  (a 1, .inl (cy 0, 12, .inl (aI (P 1)))),
  (a 2, .inl (cy 0, 144, .inl (aI (P 2)))),
  (a 3, .inl (cy 0, 144, .inl (aI (P 3)))),
  (a 4, .inl (cy 0, 144, .inl (aI (P 4)))),
  (a 5, .inl (cy 0, 12, .inl (aI (P 5)))),
  (a 6, .inl (cy 0, 12, .inl (aI (P 6)))),
  (a 7, .inl (cy 0, 12, .inl (aI (P 7)))),
  (a 8, .inl (cy 0, 10, .inl (aI (P 8)))),
  (a 10, .inr (4, [.int (iI (P 10 0)), .int (iI (P 10 1)), .ref (a 11), .ref (a 12), .ref (a 13), .int (iI (P 10 5))])),
  (a 11, .inl (cy 1, 150, .inl (aI (P 11)))),
  (a 12, .inl (cy 0, 150, .inl (aI (P 12)))),
  (a 13, .inl (cy 0, 600, .inl (aI (P 13)))),
  (a 20, .inr (0, [.ref (a 21), .ref (a 22), .ref (a 23), .ref (a 24), .ref (a 25), .ref (a 26), .ref (a 27), .ref (a 28)])),
  (a 21, .inl (cy 0, 12, .inl (aI (P 21)))),
  (a 22, .inl (cy 0, 12, .inl (aI (P 22)))),
  (a 23, .inl (cy 0, 12, .inl (aI (P 23)))),
  (a 24, .inl (cy 0, 12, .inl (aI (P 24)))),
  (a 25, .inl (cy 0, 12, .inl (aI (P 25)))),
  (a 26, .inl (cy 0, 12, .inl (aI (P 26)))),
  (a 27, .inl (cy 0, 12, .inl (aI (P 27)))),
  (a 28, .inl (cy 2, 12, .inl (aI (P 28)))),
  (a 30, .inr (2, [.ref (a 31), .ref (a 32), .ref (a 33), .int (iI (P 30 3)), .int (iI (P 30 4)), .ref (a 34), .ref (a 35), .ref (a 36), .int (iI (P 30 8))])),
  (a 31, .inl (cy 0, 12, .inl (aI (P 31)))),
  (a 32, .inl (cy 0, 12, .inl (aI (P 32)))),
  (a 33, .inl (cy 0, 12, .inl (aI (P 33)))),
  (a 34, .inl (cy 0, 144, .inl (aI (P 34)))),
  (a 35, .inl (cy 0, 144, .inl (aI (P 35)))),
  (a 36, .inl (cy 0, 144, .inl (aI (P 36)))),
  (a 40, .inr (2, [.ref (a 41), .ref (a 42), .ref (a 43), .int (iI (P 40 3)), .int (iI (P 40 4)), .ref (a 44), .ref (a 45), .ref (a 46), .int (iI (P 40 8))])),
  (a 41, .inl (cy 0, 12, .inl (aI (P 41)))),
  (a 42, .inl (cy 0, 12, .inl (aI (P 42)))),
  (a 43, .inl (cy 0, 12, .inl (aI (P 43)))),
  (a 44, .inl (cy 0, 144, .inl (aI (P 44)))),
  (a 45, .inl (cy 0, 144, .inl (aI (P 45)))),
  (a 46, .inl (cy 0, 144, .inl (aI (P 46))))]
set_option maxRecDepth 100000 in
theorem fulX_eq (cy : Nat → ClassId) (a : Nat → Nat) (P : Nat → Int → Int) : fullW cy a P = fulX cy a P := rfl
theorem ra_long9 {U : State} {c1 c2 : ClassId} (h1 : va_RA U c1 .long) (h2 : va_RA U c2 .long) : c1 = c2 := ra_long h1 h2
theorem fl_st {l : Launch} (h : l.flags = flags0) : l.stackTraces = false := by
  unfold Launch.stackTraces
  rw [h]
  decide +kernel
def is_nw : List Nat := [75]
def js_nw : List (Option Nat) := [none, none, none, none, none, none, none, none, none, none, none, none, none, none, none, none, none, none, none, none, none, none, none, none, none, none, none, none, none, none, none, none, none, none, none, none, none, none, none, none, none, none, none, none, none, none, none, none, none, none, none, none, none, none, none, none, none, none, none, none, none, none, none, none, none, none, none, none, none, none, none, none, none, none, none, some 0, some 1, some 2, some 3, some 4, some 5, some 6, some 7]
def nw7 (q : Nat) : va_W := [(q, .inr (6, [.null, .null, .int 0, .null, .int 0, .int 0, .int 0, .int 0, .int 0, .int 0, .null, .null, .null, .int 0, .int 0, .int 0, .int 0, .null, .long 0]))]
set_option maxRecDepth 100000 in
set_option maxHeartbeats 4000000 in
theorem pb_nw {cy : Nat → ClassId} {a : Nat → Nat} {q : Nat} : putB (fulX cy a ob0 ++ nw7 q) (nw7 q) (Nat → Nat) (fun a2 => rfW cy a2 rf0) (fun a2 => fulX cy a ob0 ++ rfW cy a2 rf0) is_nw js_nw := ⟨rfl, by decide +kernel, fun u => rfl, by decide +kernel, by decide +kernel⟩
set_option maxRecDepth 100000 in
set_option maxHeartbeats 4000000 in
theorem ou_P {cy : Nat → ClassId} {a a2 : Nat → Nat} {q : Nat} {D : va_G} {H : Heap} (h : va_P D vwCl ((fulX cy a ob0 ++ rfW cy a2 rf0) ++ [(q, .inl (cy 4, 1, .inr (.inl (fun _ => 0))))]) H) : va_P D vwCl (lawW cy a a2 q (fun _ => 0) ob0 rf0) H := h.sub (83 :: List.range 83) rfl
set_option maxRecDepth 100000 in
set_option maxHeartbeats 4000000 in
theorem ou_D {cy : Nat → ClassId} {a a2 : Nat → Nat} {q : Nat} {A : Nat → Prop} (h : va_D A ((fulX cy a ob0 ++ rfW cy a2 rf0) ++ [(q, .inl (cy 4, 1, .inr (.inl (fun _ => 0))))])) : va_D A (lawW cy a a2 q (fun _ => 0) ob0 rf0) := h.sub (83 :: List.range 83) (by decide +kernel) rfl
