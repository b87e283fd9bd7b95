/-! what the Statement gives at the law's entry -/
theorem eqt_i {args : Array Value} {s : State} {t : Term} {v : Int32} {z : Int} (h : (Cond.eq t (.int v)).before args s = true) (e : v = iI z) : t.eval args s none [] s = some (.int (iI z)) := by
  rw [← e]
  exact va_eqt h
set_option maxRecDepth 100000 in
theorem st_TURNS {s : State} {args : Array Value} (hts : ∀ w ∈ lw_tbl, w.before args s = true) (hgv : (Jvm.Cond.and given_1 narrow_1).before args s = true) {A : Nat → Prop} (hA : ∀ a : Nat, a < s.heap.size → ¬ A a) : stA RX0 "TURNS" 16 turnsI A s s.heap := by
  have hs := flat_of_before _ hgv
  obtain ⟨t, ht, hT⟩ := va_Tof (tm := (.static RX0 "TURNS" "[I")) (N := 16) (f := fun j => .int (aI turnsI j)) (A := A) (by decide) (hs (.arrayOf (.static RX0 "TURNS" "[I") .int) (List.mem_of_getElem? (i := 61) (by decide +kernel))) (va_eqt (hs (.eq (.length (.static RX0 "TURNS" "[I")) (.int 16)) (List.mem_of_getElem? (i := 62) (by decide +kernel)))) (fun j hj => by
    rcases (show j = 0 ∨ j = 1 ∨ j = 2 ∨ j = 3 ∨ j = 4 ∨ j = 5 ∨ j = 6 ∨ j = 7 ∨ j = 8 ∨ j = 9 ∨ j = 10 ∨ j = 11 ∨ j = 12 ∨ j = 13 ∨ j = 14 ∨ j = 15 by omega) with rfl | rfl | rfl | rfl | rfl | rfl | rfl | rfl | rfl | rfl | rfl | rfl | rfl | rfl | rfl | rfl
    · exact eqt_i (z := turnsI 0) (hs (.eq (.elem (.static RX0 "TURNS" "[I") (.int 0)) (.int 45000)) (List.mem_of_getElem? (i := 63) (by decide +kernel))) (by decide)
    · exact eqt_i (z := turnsI 1) (hs (.eq (.elem (.static RX0 "TURNS" "[I") (.int 1)) (.int 26565)) (List.mem_of_getElem? (i := 64) (by decide +kernel))) (by decide)
    · exact eqt_i (z := turnsI 2) (hs (.eq (.elem (.static RX0 "TURNS" "[I") (.int 2)) (.int 14036)) (List.mem_of_getElem? (i := 65) (by decide +kernel))) (by decide)
    · exact eqt_i (z := turnsI 3) (hs (.eq (.elem (.static RX0 "TURNS" "[I") (.int 3)) (.int 7125)) (List.mem_of_getElem? (i := 66) (by decide +kernel))) (by decide)
    · exact eqt_i (z := turnsI 4) (hs (.eq (.elem (.static RX0 "TURNS" "[I") (.int 4)) (.int 3576)) (List.mem_of_getElem? (i := 67) (by decide +kernel))) (by decide)
    · exact eqt_i (z := turnsI 5) (hs (.eq (.elem (.static RX0 "TURNS" "[I") (.int 5)) (.int 1790)) (List.mem_of_getElem? (i := 68) (by decide +kernel))) (by decide)
    · exact eqt_i (z := turnsI 6) (hs (.eq (.elem (.static RX0 "TURNS" "[I") (.int 6)) (.int 895)) (List.mem_of_getElem? (i := 69) (by decide +kernel))) (by decide)
    · exact eqt_i (z := turnsI 7) (hs (.eq (.elem (.static RX0 "TURNS" "[I") (.int 7)) (.int 448)) (List.mem_of_getElem? (i := 70) (by decide +kernel))) (by decide)
    · exact eqt_i (z := turnsI 8) (hs (.eq (.elem (.static RX0 "TURNS" "[I") (.int 8)) (.int 224)) (List.mem_of_getElem? (i := 71) (by decide +kernel))) (by decide)
    · exact eqt_i (z := turnsI 9) (hs (.eq (.elem (.static RX0 "TURNS" "[I") (.int 9)) (.int 112)) (List.mem_of_getElem? (i := 72) (by decide +kernel))) (by decide)
    · exact eqt_i (z := turnsI 10) (hs (.eq (.elem (.static RX0 "TURNS" "[I") (.int 10)) (.int 56)) (List.mem_of_getElem? (i := 73) (by decide +kernel))) (by decide)
    · exact eqt_i (z := turnsI 11) (hs (.eq (.elem (.static RX0 "TURNS" "[I") (.int 11)) (.int 28)) (List.mem_of_getElem? (i := 74) (by decide +kernel))) (by decide)
    · exact eqt_i (z := turnsI 12) (hs (.eq (.elem (.static RX0 "TURNS" "[I") (.int 12)) (.int 14)) (List.mem_of_getElem? (i := 75) (by decide +kernel))) (by decide)
    · exact eqt_i (z := turnsI 13) (hs (.eq (.elem (.static RX0 "TURNS" "[I") (.int 13)) (.int 7)) (List.mem_of_getElem? (i := 76) (by decide +kernel))) (by decide)
    · exact eqt_i (z := turnsI 14) (hs (.eq (.elem (.static RX0 "TURNS" "[I") (.int 14)) (.int 3)) (List.mem_of_getElem? (i := 77) (by decide +kernel))) (by decide)
    · exact eqt_i (z := turnsI 15) (hs (.eq (.elem (.static RX0 "TURNS" "[I") (.int 15)) (.int 2)) (List.mem_of_getElem? (i := 78) (by decide +kernel))) (by decide)
    ) hA
  exact ⟨t, va_Zof (hts (.laysStatic RX0 "TURNS" "[I") (List.mem_append_right _ (List.mem_of_getElem? (i := 710) (by decide +kernel)))) (hts (.initialized RX0) (List.mem_append_right _ (List.mem_of_getElem? (i := 8) (by decide +kernel)))) ht hA, hT⟩
set_option maxRecDepth 100000 in
theorem st_AT_FIRST {s : State} {args : Array Value} (hts : ∀ w ∈ lw_tbl, w.before args s = true) (hgv : (Jvm.Cond.and given_1 narrow_1).before args s = true) {A : Nat → Prop} (hA : ∀ a : Nat, a < s.heap.size → ¬ A a) : stA RX4 "AT_FIRST" 10 atFirst A s s.heap := by
  have hs := flat_of_before _ hgv
  obtain ⟨t, ht, hT⟩ := va_Tof (tm := (.static RX4 "AT_FIRST" "[I")) (N := 10) (f := fun j => .int (aI atFirst j)) (A := A) (by decide) (hs (.arrayOf (.static RX4 "AT_FIRST" "[I") .int) (List.mem_of_getElem? (i := 5) (by decide +kernel))) (va_eqt (hs (.eq (.length (.static RX4 "AT_FIRST" "[I")) (.int 10)) (List.mem_of_getElem? (i := 6) (by decide +kernel)))) (fun j hj => by
    rcases (show j = 0 ∨ j = 1 ∨ j = 2 ∨ j = 3 ∨ j = 4 ∨ j = 5 ∨ j = 6 ∨ j = 7 ∨ j = 8 ∨ j = 9 by omega) with rfl | rfl | rfl | rfl | rfl | rfl | rfl | rfl | rfl | rfl
    · exact eqt_i (z := atFirst 0) (hs (.eq (.elem (.static RX4 "AT_FIRST" "[I") (.int 0)) (.int 250)) (List.mem_of_getElem? (i := 7) (by decide +kernel))) (by decide)
    · exact eqt_i (z := atFirst 1) (hs (.eq (.elem (.static RX4 "AT_FIRST" "[I") (.int 1)) (.int 0)) (List.mem_of_getElem? (i := 8) (by decide +kernel))) (by decide)
    · exact eqt_i (z := atFirst 2) (hs (.eq (.elem (.static RX4 "AT_FIRST" "[I") (.int 2)) (.int 0)) (List.mem_of_getElem? (i := 9) (by decide +kernel))) (by decide)
    · exact eqt_i (z := atFirst 3) (hs (.eq (.elem (.static RX4 "AT_FIRST" "[I") (.int 3)) (.int 5)) (List.mem_of_getElem? (i := 10) (by decide +kernel))) (by decide)
    · exact eqt_i (z := atFirst 4) (hs (.eq (.elem (.static RX4 "AT_FIRST" "[I") (.int 4)) (.int 1000)) (List.mem_of_getElem? (i := 11) (by decide +kernel))) (by decide)
    · exact eqt_i (z := atFirst 5) (hs (.eq (.elem (.static RX4 "AT_FIRST" "[I") (.int 5)) (.int 50)) (List.mem_of_getElem? (i := 12) (by decide +kernel))) (by decide)
    · exact eqt_i (z := atFirst 6) (hs (.eq (.elem (.static RX4 "AT_FIRST" "[I") (.int 6)) (.int 100)) (List.mem_of_getElem? (i := 13) (by decide +kernel))) (by decide)
    · exact eqt_i (z := atFirst 7) (hs (.eq (.elem (.static RX4 "AT_FIRST" "[I") (.int 7)) (.int 1000)) (List.mem_of_getElem? (i := 14) (by decide +kernel))) (by decide)
    · exact eqt_i (z := atFirst 8) (hs (.eq (.elem (.static RX4 "AT_FIRST" "[I") (.int 8)) (.int 0)) (List.mem_of_getElem? (i := 15) (by decide +kernel))) (by decide)
    · exact eqt_i (z := atFirst 9) (hs (.eq (.elem (.static RX4 "AT_FIRST" "[I") (.int 9)) (.int 3)) (List.mem_of_getElem? (i := 16) (by decide +kernel))) (by decide)
    ) hA
  exact ⟨t, va_Zof (hts (.laysStatic RX4 "AT_FIRST" "[I") (List.mem_append_right _ (List.mem_of_getElem? (i := 35) (by decide +kernel)))) (hts (.initialized RX4) (List.mem_append_right _ (List.mem_of_getElem? (i := 2) (by decide +kernel)))) ht hA, hT⟩
set_option maxRecDepth 100000 in
theorem st_LEAST {s : State} {args : Array Value} (hts : ∀ w ∈ lw_tbl, w.before args s = true) (hgv : (Jvm.Cond.and given_1 narrow_1).before args s = true) {A : Nat → Prop} (hA : ∀ a : Nat, a < s.heap.size → ¬ A a) : stA RX4 "LEAST" 10 leastI A s s.heap := by
  have hs := flat_of_before _ hgv
  obtain ⟨t, ht, hT⟩ := va_Tof (tm := (.static RX4 "LEAST" "[I")) (N := 10) (f := fun j => .int (aI leastI j)) (A := A) (by decide) (hs (.arrayOf (.static RX4 "LEAST" "[I") .int) (List.mem_of_getElem? (i := 33) (by decide +kernel))) (va_eqt (hs (.eq (.length (.static RX4 "LEAST" "[I")) (.int 10)) (List.mem_of_getElem? (i := 34) (by decide +kernel)))) (fun j hj => by
    rcases (show j = 0 ∨ j = 1 ∨ j = 2 ∨ j = 3 ∨ j = 4 ∨ j = 5 ∨ j = 6 ∨ j = 7 ∨ j = 8 ∨ j = 9 by omega) with rfl | rfl | rfl | rfl | rfl | rfl | rfl | rfl | rfl | rfl
    · exact eqt_i (z := leastI 0) (hs (.eq (.elem (.static RX4 "LEAST" "[I") (.int 0)) (.int (-5000))) (List.mem_of_getElem? (i := 35) (by decide +kernel))) (by decide)
    · exact eqt_i (z := leastI 1) (hs (.eq (.elem (.static RX4 "LEAST" "[I") (.int 1)) (.int (-100))) (List.mem_of_getElem? (i := 36) (by decide +kernel))) (by decide)
    · exact eqt_i (z := leastI 2) (hs (.eq (.elem (.static RX4 "LEAST" "[I") (.int 2)) (.int (-100))) (List.mem_of_getElem? (i := 37) (by decide +kernel))) (by decide)
    · exact eqt_i (z := leastI 3) (hs (.eq (.elem (.static RX4 "LEAST" "[I") (.int 3)) (.int 0)) (List.mem_of_getElem? (i := 38) (by decide +kernel))) (by decide)
    · exact eqt_i (z := leastI 4) (hs (.eq (.elem (.static RX4 "LEAST" "[I") (.int 4)) (.int 0)) (List.mem_of_getElem? (i := 39) (by decide +kernel))) (by decide)
    · exact eqt_i (z := leastI 5) (hs (.eq (.elem (.static RX4 "LEAST" "[I") (.int 5)) (.int 0)) (List.mem_of_getElem? (i := 40) (by decide +kernel))) (by decide)
    · exact eqt_i (z := leastI 6) (hs (.eq (.elem (.static RX4 "LEAST" "[I") (.int 6)) (.int 1)) (List.mem_of_getElem? (i := 41) (by decide +kernel))) (by decide)
    · exact eqt_i (z := leastI 7) (hs (.eq (.elem (.static RX4 "LEAST" "[I") (.int 7)) (.int 1)) (List.mem_of_getElem? (i := 42) (by decide +kernel))) (by decide)
    · exact eqt_i (z := leastI 8) (hs (.eq (.elem (.static RX4 "LEAST" "[I") (.int 8)) (.int 0)) (List.mem_of_getElem? (i := 43) (by decide +kernel))) (by decide)
    · exact eqt_i (z := leastI 9) (hs (.eq (.elem (.static RX4 "LEAST" "[I") (.int 9)) (.int 0)) (List.mem_of_getElem? (i := 44) (by decide +kernel))) (by decide)
    ) hA
  exact ⟨t, va_Zof (hts (.laysStatic RX4 "LEAST" "[I") (List.mem_append_right _ (List.mem_of_getElem? (i := 411) (by decide +kernel)))) (hts (.initialized RX4) (List.mem_append_right _ (List.mem_of_getElem? (i := 2) (by decide +kernel)))) ht hA, hT⟩
set_option maxRecDepth 100000 in
theorem st_MOST {s : State} {args : Array Value} (hts : ∀ w ∈ lw_tbl, w.before args s = true) (hgv : (Jvm.Cond.and given_1 narrow_1).before args s = true) {A : Nat → Prop} (hA : ∀ a : Nat, a < s.heap.size → ¬ A a) : stA RX4 "MOST" 10 mostI A s s.heap := by
  have hs := flat_of_before _ hgv
  obtain ⟨t, ht, hT⟩ := va_Tof (tm := (.static RX4 "MOST" "[I")) (N := 10) (f := fun j => .int (aI mostI j)) (A := A) (by decide) (hs (.arrayOf (.static RX4 "MOST" "[I") .int) (List.mem_of_getElem? (i := 46) (by decide +kernel))) (va_eqt (hs (.eq (.length (.static RX4 "MOST" "[I")) (.int 10)) (List.mem_of_getElem? (i := 47) (by decide +kernel)))) (fun j hj => by
    rcases (show j = 0 ∨ j = 1 ∨ j = 2 ∨ j = 3 ∨ j = 4 ∨ j = 5 ∨ j = 6 ∨ j = 7 ∨ j = 8 ∨ j = 9 by omega) with rfl | rfl | rfl | rfl | rfl | rfl | rfl | rfl | rfl | rfl
    · exact eqt_i (z := mostI 0) (hs (.eq (.elem (.static RX4 "MOST" "[I") (.int 0)) (.int 5000)) (List.mem_of_getElem? (i := 48) (by decide +kernel))) (by decide)
    · exact eqt_i (z := mostI 1) (hs (.eq (.elem (.static RX4 "MOST" "[I") (.int 1)) (.int 100)) (List.mem_of_getElem? (i := 49) (by decide +kernel))) (by decide)
    · exact eqt_i (z := mostI 2) (hs (.eq (.elem (.static RX4 "MOST" "[I") (.int 2)) (.int 100)) (List.mem_of_getElem? (i := 50) (by decide +kernel))) (by decide)
    · exact eqt_i (z := mostI 3) (hs (.eq (.elem (.static RX4 "MOST" "[I") (.int 3)) (.int 500)) (List.mem_of_getElem? (i := 51) (by decide +kernel))) (by decide)
    · exact eqt_i (z := mostI 4) (hs (.eq (.elem (.static RX4 "MOST" "[I") (.int 4)) (.int 180000)) (List.mem_of_getElem? (i := 52) (by decide +kernel))) (by decide)
    · exact eqt_i (z := mostI 5) (hs (.eq (.elem (.static RX4 "MOST" "[I") (.int 5)) (.int 5000)) (List.mem_of_getElem? (i := 53) (by decide +kernel))) (by decide)
    · exact eqt_i (z := mostI 6) (hs (.eq (.elem (.static RX4 "MOST" "[I") (.int 6)) (.int 1000)) (List.mem_of_getElem? (i := 54) (by decide +kernel))) (by decide)
    · exact eqt_i (z := mostI 7) (hs (.eq (.elem (.static RX4 "MOST" "[I") (.int 7)) (.int 100000)) (List.mem_of_getElem? (i := 55) (by decide +kernel))) (by decide)
    · exact eqt_i (z := mostI 8) (hs (.eq (.elem (.static RX4 "MOST" "[I") (.int 8)) (.int 359999)) (List.mem_of_getElem? (i := 56) (by decide +kernel))) (by decide)
    · exact eqt_i (z := mostI 9) (hs (.eq (.elem (.static RX4 "MOST" "[I") (.int 9)) (.int 9)) (List.mem_of_getElem? (i := 57) (by decide +kernel))) (by decide)
    ) hA
  exact ⟨t, va_Zof (hts (.laysStatic RX4 "MOST" "[I") (List.mem_append_right _ (List.mem_of_getElem? (i := 413) (by decide +kernel)))) (hts (.initialized RX4) (List.mem_append_right _ (List.mem_of_getElem? (i := 2) (by decide +kernel)))) ht hA, hT⟩
set_option maxRecDepth 100000 in
theorem st_NUMBERS {s : State} {args : Array Value} (hts : ∀ w ∈ lw_tbl, w.before args s = true) (hgv : (Jvm.Cond.and given_1 narrow_1).before args s = true) {A : Nat → Prop} (hA : ∀ a : Nat, a < s.heap.size → ¬ A a) : stA RX5 "NUMBERS" 7 numbersI A s s.heap := by
  have hs := flat_of_before _ hgv
  obtain ⟨t, ht, hT⟩ := va_Tof (tm := (.static RX5 "NUMBERS" "[I")) (N := 7) (f := fun j => .int (aI numbersI j)) (A := A) (by decide) (hs (.arrayOf (.static RX5 "NUMBERS" "[I") .int) (List.mem_of_getElem? (i := 23) (by decide +kernel))) (va_eqt (hs (.eq (.length (.static RX5 "NUMBERS" "[I")) (.int 7)) (List.mem_of_getElem? (i := 24) (by decide +kernel)))) (fun j hj => by
    rcases (show j = 0 ∨ j = 1 ∨ j = 2 ∨ j = 3 ∨ j = 4 ∨ j = 5 ∨ j = 6 by omega) with rfl | rfl | rfl | rfl | rfl | rfl | rfl
    · exact eqt_i (z := numbersI 0) (hs (.eq (.elem (.static RX5 "NUMBERS" "[I") (.int 0)) (.int 0)) (List.mem_of_getElem? (i := 25) (by decide +kernel))) (by decide)
    · exact eqt_i (z := numbersI 1) (hs (.eq (.elem (.static RX5 "NUMBERS" "[I") (.int 1)) (.int 4)) (List.mem_of_getElem? (i := 26) (by decide +kernel))) (by decide)
    · exact eqt_i (z := numbersI 2) (hs (.eq (.elem (.static RX5 "NUMBERS" "[I") (.int 2)) (.int 3)) (List.mem_of_getElem? (i := 27) (by decide +kernel))) (by decide)
    · exact eqt_i (z := numbersI 3) (hs (.eq (.elem (.static RX5 "NUMBERS" "[I") (.int 3)) (.int 2)) (List.mem_of_getElem? (i := 28) (by decide +kernel))) (by decide)
    · exact eqt_i (z := numbersI 4) (hs (.eq (.elem (.static RX5 "NUMBERS" "[I") (.int 4)) (.int 2)) (List.mem_of_getElem? (i := 29) (by decide +kernel))) (by decide)
    · exact eqt_i (z := numbersI 5) (hs (.eq (.elem (.static RX5 "NUMBERS" "[I") (.int 5)) (.int 1)) (List.mem_of_getElem? (i := 30) (by decide +kernel))) (by decide)
    · exact eqt_i (z := numbersI 6) (hs (.eq (.elem (.static RX5 "NUMBERS" "[I") (.int 6)) (.int 1)) (List.mem_of_getElem? (i := 31) (by decide +kernel))) (by decide)
    ) hA
  exact ⟨t, va_Zof (hts (.laysStatic RX5 "NUMBERS" "[I") (List.mem_append_right _ (List.mem_of_getElem? (i := 331) (by decide +kernel)))) (hts (.initialized RX5) (List.mem_append_right _ (List.mem_of_getElem? (i := 4) (by decide +kernel)))) ht hA, hT⟩
set_option maxRecDepth 100000 in
theorem st_K {s : State} {args : Array Value} (hts : ∀ w ∈ lw_tbl, w.before args s = true) (hgv : (Jvm.Cond.and given_1 narrow_1).before args s = true) {A : Nat → Prop} (hA : ∀ a : Nat, a < s.heap.size → ¬ A a) : ∃ (D : va_G) (cy : Nat → ClassId), va_K D vwCl (tysA cy) s := by
  obtain ⟨c0, i0, k0⟩ := u_known (C := RX1) (T := TX1) (N := 8) (n := 8) hts inX1 (hts (.instantiable RX1 8) (List.mem_append_right _ (List.mem_of_getElem? (i := 146) (by decide +kernel))))
  obtain ⟨c1, i1, k1⟩ := u_known (C := RX2) (T := TX2) (N := 2) (n := 2) hts inX2 (hts (.instantiable RX2 2) (List.mem_append_right _ (List.mem_of_getElem? (i := 101) (by decide +kernel))))
  obtain ⟨c2, i2, k2⟩ := u_known (C := RX3) (T := TX3) (N := 9) (n := 9) hts inX3 (hts (.instantiable RX3 9) (List.mem_append_right _ (List.mem_of_getElem? (i := 188) (by decide +kernel))))
  obtain ⟨c3, i3, k3⟩ := u_known (C := RX4) (T := TX4) (N := 12) (n := 12) hts inX4 (hts (.instantiable RX4 12) (List.mem_append_right _ (List.mem_of_getElem? (i := 29) (by decide +kernel))))
  obtain ⟨c4, i4, k4⟩ := u_known (C := RX5) (T := TX5) (N := 6) (n := 6) hts inX5 (hts (.instantiable RX5 6) (List.mem_append_right _ (List.mem_of_getElem? (i := 118) (by decide +kernel))))
  obtain ⟨c5, i5, k5⟩ := u_known (C := RX6) (T := TX6) (N := 8) (n := 8) hts inX6 (hts (.instantiable RX6 8) (List.mem_append_right _ (List.mem_of_getElem? (i := 21) (by decide +kernel))))
  obtain ⟨a0, ka0, co0, x0, y0, z0⟩ := Cond.arrayClass_spec (args := args) (first := s) (o := none) (s := s) (idx := []) (type := .int) (hts (.arrayClass .int) (List.mem_append_right _ (List.mem_of_getElem? (i := 99) (by decide +kernel))))
  obtain ⟨a1, ka1, co1, x1, y1, z1⟩ := Cond.arrayClass_spec (args := args) (first := s) (o := none) (s := s) (idx := []) (type := .byte) (hts (.arrayClass .byte) (List.mem_append_right _ (List.mem_of_getElem? (i := 144) (by decide +kernel))))
  obtain ⟨a2, ka2, co2, x2, y2, z2⟩ := Cond.arrayClass_spec (args := args) (first := s) (o := none) (s := s) (idx := []) (type := .boolean) (hts (.arrayClass .boolean) (List.mem_append_right _ (List.mem_of_getElem? (i := 186) (by decide +kernel))))
  obtain ⟨co3, a3, ka3, w3, -, y3, z3, x3⟩ := Cond.arrayOver_spec (args := args) (first := s) (o := none) (s := s) (idx := []) (n := RX4) (hts (.arrayOver (.object RX4)) (List.mem_append_right _ (List.mem_of_getElem? (i := 107) (by decide +kernel))))
  refine ⟨(fun k => [c0, c1, c2, c3, c4, c5].getD k c0, fun k => [i0, i1, i2, i3, i4, i5].getD k i0), fun k => [a0, a1, a2, a3].getD k a0, fun k q hq => ?_, fun k q hq => ?_⟩
  · match k, hq with
    | 0, hq => cases hq; exact k0
    | 1, hq => cases hq; exact k1
    | 2, hq => cases hq; exact k2
    | 3, hq => cases hq; exact k3
    | 4, hq => cases hq; exact k4
    | 5, hq => cases hq; exact k5
    | k + 6, hq => simp [vwCl] at hq
  · match k, hq with
    | 0, hq => cases hq; exact ⟨fun n z => ⟨fun j h => (by cases h), ka0, y0, co0, z0⟩, x0⟩
    | 1, hq => cases hq; exact ⟨fun n z => ⟨fun j h => (by cases h), ka1, y1, co1, z1⟩, x1⟩
    | 2, hq => cases hq; exact ⟨fun n z => ⟨fun j h => (by cases h), ka2, y2, co2, z2⟩, x2⟩
    | 3, hq => cases hq; exact ⟨fun n z => ⟨fun j h => (by cases h), ka3, y3, co3, z3⟩, ⟨ka3, co3, y3, z3, w3, x3⟩⟩
    | k + 4, hq => simp [tysA] at hq
theorem st_GG {s : State} {args : Array Value} (hts : ∀ w ∈ lw_tbl, w.before args s = true) (hgv : (Jvm.Cond.and given_1 narrow_1).before args s = true) {A : Nat → Prop} (hA : ∀ a : Nat, a < s.heap.size → ¬ A a) : ∃ (D : va_G) (cy : Nat → ClassId), GG D cy A s s.heap := by
  obtain ⟨D, cy, hK⟩ := st_K hts hgv hA
  exact ⟨D, cy, hK, va_Nw.of rfl (hts (.methodLinkNest RX4 77 yX6_inRange "ArcPlate") (List.mem_append_right _ (List.mem_of_getElem? (i := 385) (by decide +kernel)))), st_TURNS hts hgv hA, st_AT_FIRST hts hgv hA, st_LEAST hts hgv hA, st_MOST hts hgv hA, st_NUMBERS hts hgv hA⟩
theorem len_lt {args : Array Value} {s : State} {t : Term} {a : Addr} {cell : Cell} {v : Value} (ht : t.eval args s none [] s = some (.ref a)) (hc : s.arrayAt? a = some cell) (h : (Term.length t).eval args s none [] s = some v) : cell.slots.size < 2 ^ 31 := by
  simp only [Term.eval, ht, hc, Option.bind_eq_bind, Option.bind_some] at h
  by_cases hlt : cell.slots.size < 2147483648
  · exact hlt
  · simp [hlt] at h
set_option maxRecDepth 100000 in
theorem st_atC {s : State} {args : Array Value} (hts : ∀ w ∈ lw_tbl, w.before args s = true) (hgv : (Jvm.Cond.and given_1 narrow_1).before args s = true) {A : Nat → Prop} (hA : ∀ a : Nat, a < s.heap.size → ¬ A a) {D : va_G} {cy : Nat → ClassId} (hK : va_K D vwCl (tysA cy) s) : atC cy A s s.heap := by
  have hs := flat_of_before _ hgv
  obtain ⟨t, cA, cell, kA, q1, q2, q3, q4, q5, q6, -⟩ := Cond.exactly_spec (args := args) (first := s) (o := none) (s := s) (idx := []) (t := (.static RX4 "AT_FIRST" "[I")) (cls := "[I") (hs (.exactly (.static RX4 "AT_FIRST" "[I") "[I") (List.mem_of_getElem? (i := 325) (by decide +kernel)))
  obtain ⟨t2, h1, h2⟩ := st_AT_FIRST hts hgv hA
  have hz := va_Zof (A := A) (hts (.laysStatic RX4 "AT_FIRST" "[I") (List.mem_append_right _ (List.mem_of_getElem? (i := 35) (by decide +kernel)))) (hts (.initialized RX4) (List.mem_append_right _ (List.mem_of_getElem? (i := 2) (by decide +kernel)))) q1 hA
  obtain ⟨u, hu, hT⟩ := va_Tof (tm := (.static RX4 "AT_FIRST" "[I")) (N := 10) (f := fun j => .int (aI atFirst j)) (A := A) (by decide) (hs (.arrayOf (.static RX4 "AT_FIRST" "[I") .int) (List.mem_of_getElem? (i := 5) (by decide +kernel))) (va_eqt (hs (.eq (.length (.static RX4 "AT_FIRST" "[I")) (.int 10)) (List.mem_of_getElem? (i := 6) (by decide +kernel)))) (fun j hj => by
    rcases (show j = 0 ∨ j = 1 ∨ j = 2 ∨ j = 3 ∨ j = 4 ∨ j = 5 ∨ j = 6 ∨ j = 7 ∨ j = 8 ∨ j = 9 by omega) with rfl | rfl | rfl | rfl | rfl | rfl | rfl | rfl | rfl | rfl
    · exact eqt_i (z := atFirst 0) (hs (.eq (.elem (.static RX4 "AT_FIRST" "[I") (.int 0)) (.int 250)) (List.mem_of_getElem? (i := 7) (by decide +kernel))) (by decide)
    · exact eqt_i (z := atFirst 1) (hs (.eq (.elem (.static RX4 "AT_FIRST" "[I") (.int 1)) (.int 0)) (List.mem_of_getElem? (i := 8) (by decide +kernel))) (by decide)
    · exact eqt_i (z := atFirst 2) (hs (.eq (.elem (.static RX4 "AT_FIRST" "[I") (.int 2)) (.int 0)) (List.mem_of_getElem? (i := 9) (by decide +kernel))) (by decide)
    · exact eqt_i (z := atFirst 3) (hs (.eq (.elem (.static RX4 "AT_FIRST" "[I") (.int 3)) (.int 5)) (List.mem_of_getElem? (i := 10) (by decide +kernel))) (by decide)
    · exact eqt_i (z := atFirst 4) (hs (.eq (.elem (.static RX4 "AT_FIRST" "[I") (.int 4)) (.int 1000)) (List.mem_of_getElem? (i := 11) (by decide +kernel))) (by decide)
    · exact eqt_i (z := atFirst 5) (hs (.eq (.elem (.static RX4 "AT_FIRST" "[I") (.int 5)) (.int 50)) (List.mem_of_getElem? (i := 12) (by decide +kernel))) (by decide)
    · exact eqt_i (z := atFirst 6) (hs (.eq (.elem (.static RX4 "AT_FIRST" "[I") (.int 6)) (.int 100)) (List.mem_of_getElem? (i := 13) (by decide +kernel))) (by decide)
    · exact eqt_i (z := atFirst 7) (hs (.eq (.elem (.static RX4 "AT_FIRST" "[I") (.int 7)) (.int 1000)) (List.mem_of_getElem? (i := 14) (by decide +kernel))) (by decide)
    · exact eqt_i (z := atFirst 8) (hs (.eq (.elem (.static RX4 "AT_FIRST" "[I") (.int 8)) (.int 0)) (List.mem_of_getElem? (i := 15) (by decide +kernel))) (by decide)
    · exact eqt_i (z := atFirst 9) (hs (.eq (.elem (.static RX4 "AT_FIRST" "[I") (.int 9)) (.int 3)) (List.mem_of_getElem? (i := 16) (by decide +kernel))) (by decide)
    ) hA
  cases q1.symm.trans hu
  have hl9 := va_eqt (hs (.eq (.length (.static RX4 "AT_FIRST" "[I")) (.int 10)) (List.mem_of_getElem? (i := 6) (by decide +kernel)))
  obtain ⟨b, cellB, r1, r2, r3⟩ := Term.length_spec hl9
  cases q1.symm.trans r1
  have hlt := len_lt q1 r2 hl9
  obtain ⟨p1, p2, p3, -⟩ := State.arrayAt?_spec r2
  obtain ⟨cellT, t1, -, -, -, -, t6, t7⟩ := hT
  have eT : cellT = cellB := Option.some.inj (t1.symm.trans p1)
  have eC : cell = cellB := Option.some.inj (q3.symm.trans p1)
  rw [eT] at t6
  have hsz : cellB.slots.size = 10 := by
    have e : nI 10 = nI cellB.slots.size := Value.int.inj r3
    have e2 := congrArg Int32.toNatClampNeg e
    rw [nI_clamp (by decide), nI_clamp hlt] at e2
    exact e2.symm
  have hc : cA = cy 0 := Option.some.inj (q2.symm.trans (nm_int hK))
  exact ⟨_, hz, cellB, p1, (by rw [← eC]; exact q6.trans hc), fun k h => (by rw [h] at p3; cases p3), p2, hsz, t6, t7⟩
set_option maxRecDepth 100000 in
theorem st_jdk {s : State} {args : Array Value} (hts : ∀ w ∈ lw_tbl, w.before args s = true) (hgv : (Jvm.Cond.and given_1 narrow_1).before args s = true) {A : Nat → Prop} (hA : ∀ a : Nat, a < s.heap.size → ¬ A a) : jdkA A s s.heap := by
  have hs := flat_of_before _ hgv
  exact ⟨va_Zof (hts (.laysStatic "java/lang/String" "COMPACT_STRINGS" "Z") (List.mem_append_right _ (List.mem_of_getElem? (i := 285) (by decide +kernel)))) (hts (.initialized "java/lang/String") (List.mem_append_right _ (List.mem_of_getElem? (i := 16) (by decide +kernel)))) (eqt_i (z := 1) (hs (.eq (.static "java/lang/String" "COMPACT_STRINGS" "Z") (.int 1)) (List.mem_of_getElem? (i := 17) (by decide +kernel))) (by decide)) hA, va_Zqof (hts (.laysStatic "jdk/internal/util/Preconditions" "SIOOBE_FORMATTER" "Ljava/util/function/BiFunction;") (List.mem_append_right _ (List.mem_of_getElem? (i := 301) (by decide +kernel)))) (hts (.initialized "jdk/internal/util/Preconditions") (List.mem_append_right _ (List.mem_of_getElem? (i := 18) (by decide +kernel)))) (hs (.isRef (.static "jdk/internal/util/Preconditions" "SIOOBE_FORMATTER" "Ljava/util/function/BiFunction;")) (List.mem_of_getElem? (i := 18) (by decide +kernel))) hA⟩
set_option maxRecDepth 100000 in
theorem st_w0 {s : State} {args : Array Value} (hts : ∀ w ∈ lw_tbl, w.before args s = true) (hgv : (Jvm.Cond.and given_1 narrow_1).before args s = true) {A : Nat → Prop} (hA : ∀ a : Nat, a < s.heap.size → ¬ A a) : ∃ q : Nat, vk_R RX5 57 "trail" q s ∧ strA q [116, 114, 97, 105, 108] A s s.heap := by
  have hs := flat_of_before _ hgv
  have hex := hs (.exactly (.string RX5 57) "java/lang/String") (List.mem_of_getElem? (i := 103) (by decide +kernel))
  obtain ⟨q, cA, cell, kA, q1, -⟩ := Cond.exactly_spec (args := args) (first := s) (o := none) (s := s) (idx := []) (t := (.string RX5 57)) (cls := "java/lang/String") hex
  obtain ⟨v, hv, hT⟩ := va_Tof (tm := (.field (.string RX5 57) "java/lang/String" "value" "[B")) (ty := .byte) (N := 5) (f := fun j => .int (aI (listI [116, 114, 97, 105, 108]) j)) (A := A) (by decide) (hs (.arrayOf (.field (.string RX5 57) "java/lang/String" "value" "[B") .byte) (List.mem_of_getElem? (i := 105) (by decide +kernel))) (va_eqt (hs (.eq (.length (.field (.string RX5 57) "java/lang/String" "value" "[B")) (.int 5)) (List.mem_of_getElem? (i := 106) (by decide +kernel)))) (fun j hj => by
    rcases (show j = 0 ∨ j = 1 ∨ j = 2 ∨ j = 3 ∨ j = 4 by omega) with rfl | rfl | rfl | rfl | rfl
    · exact eqt_i (z := listI [116, 114, 97, 105, 108] 0) (hs (.eq (.elem (.field (.string RX5 57) "java/lang/String" "value" "[B") (.int 0)) (.int 116)) (List.mem_of_getElem? (i := 107) (by decide +kernel))) (by decide)
    · exact eqt_i (z := listI [116, 114, 97, 105, 108] 1) (hs (.eq (.elem (.field (.string RX5 57) "java/lang/String" "value" "[B") (.int 1)) (.int 114)) (List.mem_of_getElem? (i := 108) (by decide +kernel))) (by decide)
    · exact eqt_i (z := listI [116, 114, 97, 105, 108] 2) (hs (.eq (.elem (.field (.string RX5 57) "java/lang/String" "value" "[B") (.int 2)) (.int 97)) (List.mem_of_getElem? (i := 109) (by decide +kernel))) (by decide)
    · exact eqt_i (z := listI [116, 114, 97, 105, 108] 3) (hs (.eq (.elem (.field (.string RX5 57) "java/lang/String" "value" "[B") (.int 3)) (.int 105)) (List.mem_of_getElem? (i := 110) (by decide +kernel))) (by decide)
    · exact eqt_i (z := listI [116, 114, 97, 105, 108] 4) (hs (.eq (.elem (.field (.string RX5 57) "java/lang/String" "value" "[B") (.int 4)) (.int 108)) (List.mem_of_getElem? (i := 111) (by decide +kernel))) (by decide)
    ) hA
  exact ⟨q, vk_R.of (hts (.stringRef RX5 57 "trail") (List.mem_append_right _ (List.mem_of_getElem? (i := 271) (by decide +kernel)))) q1, v, va_Oof hex q1 hA, vk_OFof q1 (eqt_i (z := 0) (hs (.eq (.field (.string RX5 57) "java/lang/String" "coder" "B") (.int 0)) (List.mem_of_getElem? (i := 104) (by decide +kernel))) (by decide)) hA, vk_OFof q1 hv hA, hT⟩
set_option maxRecDepth 100000 in
theorem st_w1 {s : State} {args : Array Value} (hts : ∀ w ∈ lw_tbl, w.before args s = true) (hgv : (Jvm.Cond.and given_1 narrow_1).before args s = true) {A : Nat → Prop} (hA : ∀ a : Nat, a < s.heap.size → ¬ A a) : ∃ q : Nat, vk_R RX5 63 "point" q s ∧ strA q [112, 111, 105, 110, 116] A s s.heap := by
  have hs := flat_of_before _ hgv
  have hex := hs (.exactly (.string RX5 63) "java/lang/String") (List.mem_of_getElem? (i := 112) (by decide +kernel))
  obtain ⟨q, cA, cell, kA, q1, -⟩ := Cond.exactly_spec (args := args) (first := s) (o := none) (s := s) (idx := []) (t := (.string RX5 63)) (cls := "java/lang/String") hex
  obtain ⟨v, hv, hT⟩ := va_Tof (tm := (.field (.string RX5 63) "java/lang/String" "value" "[B")) (ty := .byte) (N := 5) (f := fun j => .int (aI (listI [112, 111, 105, 110, 116]) j)) (A := A) (by decide) (hs (.arrayOf (.field (.string RX5 63) "java/lang/String" "value" "[B") .byte) (List.mem_of_getElem? (i := 114) (by decide +kernel))) (va_eqt (hs (.eq (.length (.field (.string RX5 63) "java/lang/String" "value" "[B")) (.int 5)) (List.mem_of_getElem? (i := 115) (by decide +kernel)))) (fun j hj => by
    rcases (show j = 0 ∨ j = 1 ∨ j = 2 ∨ j = 3 ∨ j = 4 by omega) with rfl | rfl | rfl | rfl | rfl
    · exact eqt_i (z := listI [112, 111, 105, 110, 116] 0) (hs (.eq (.elem (.field (.string RX5 63) "java/lang/String" "value" "[B") (.int 0)) (.int 112)) (List.mem_of_getElem? (i := 116) (by decide +kernel))) (by decide)
    · exact eqt_i (z := listI [112, 111, 105, 110, 116] 1) (hs (.eq (.elem (.field (.string RX5 63) "java/lang/String" "value" "[B") (.int 1)) (.int 111)) (List.mem_of_getElem? (i := 117) (by decide +kernel))) (by decide)
    · exact eqt_i (z := listI [112, 111, 105, 110, 116] 2) (hs (.eq (.elem (.field (.string RX5 63) "java/lang/String" "value" "[B") (.int 2)) (.int 105)) (List.mem_of_getElem? (i := 118) (by decide +kernel))) (by decide)
    · exact eqt_i (z := listI [112, 111, 105, 110, 116] 3) (hs (.eq (.elem (.field (.string RX5 63) "java/lang/String" "value" "[B") (.int 3)) (.int 110)) (List.mem_of_getElem? (i := 119) (by decide +kernel))) (by decide)
    · exact eqt_i (z := listI [112, 111, 105, 110, 116] 4) (hs (.eq (.elem (.field (.string RX5 63) "java/lang/String" "value" "[B") (.int 4)) (.int 116)) (List.mem_of_getElem? (i := 120) (by decide +kernel))) (by decide)
    ) hA
  exact ⟨q, vk_R.of (hts (.stringRef RX5 63 "point") (List.mem_append_right _ (List.mem_of_getElem? (i := 324) (by decide +kernel)))) q1, v, va_Oof hex q1 hA, vk_OFof q1 (eqt_i (z := 0) (hs (.eq (.field (.string RX5 63) "java/lang/String" "coder" "B") (.int 0)) (List.mem_of_getElem? (i := 113) (by decide +kernel))) (by decide)) hA, vk_OFof q1 hv hA, hT⟩
set_option maxRecDepth 100000 in
theorem st_w2 {s : State} {args : Array Value} (hts : ∀ w ∈ lw_tbl, w.before args s = true) (hgv : (Jvm.Cond.and given_1 narrow_1).before args s = true) {A : Nat → Prop} (hA : ∀ a : Nat, a < s.heap.size → ¬ A a) : ∃ q : Nat, vk_R RX5 65 "star" q s ∧ strA q [115, 116, 97, 114] A s s.heap := by
  have hs := flat_of_before _ hgv
  have hex := hs (.exactly (.string RX5 65) "java/lang/String") (List.mem_of_getElem? (i := 122) (by decide +kernel))
  obtain ⟨q, cA, cell, kA, q1, -⟩ := Cond.exactly_spec (args := args) (first := s) (o := none) (s := s) (idx := []) (t := (.string RX5 65)) (cls := "java/lang/String") hex
  obtain ⟨v, hv, hT⟩ := va_Tof (tm := (.field (.string RX5 65) "java/lang/String" "value" "[B")) (ty := .byte) (N := 4) (f := fun j => .int (aI (listI [115, 116, 97, 114]) j)) (A := A) (by decide) (hs (.arrayOf (.field (.string RX5 65) "java/lang/String" "value" "[B") .byte) (List.mem_of_getElem? (i := 124) (by decide +kernel))) (va_eqt (hs (.eq (.length (.field (.string RX5 65) "java/lang/String" "value" "[B")) (.int 4)) (List.mem_of_getElem? (i := 125) (by decide +kernel)))) (fun j hj => by
    rcases (show j = 0 ∨ j = 1 ∨ j = 2 ∨ j = 3 by omega) with rfl | rfl | rfl | rfl
    · exact eqt_i (z := listI [115, 116, 97, 114] 0) (hs (.eq (.elem (.field (.string RX5 65) "java/lang/String" "value" "[B") (.int 0)) (.int 115)) (List.mem_of_getElem? (i := 126) (by decide +kernel))) (by decide)
    · exact eqt_i (z := listI [115, 116, 97, 114] 1) (hs (.eq (.elem (.field (.string RX5 65) "java/lang/String" "value" "[B") (.int 1)) (.int 116)) (List.mem_of_getElem? (i := 127) (by decide +kernel))) (by decide)
    · exact eqt_i (z := listI [115, 116, 97, 114] 2) (hs (.eq (.elem (.field (.string RX5 65) "java/lang/String" "value" "[B") (.int 2)) (.int 97)) (List.mem_of_getElem? (i := 128) (by decide +kernel))) (by decide)
    · exact eqt_i (z := listI [115, 116, 97, 114] 3) (hs (.eq (.elem (.field (.string RX5 65) "java/lang/String" "value" "[B") (.int 3)) (.int 114)) (List.mem_of_getElem? (i := 129) (by decide +kernel))) (by decide)
    ) hA
  exact ⟨q, vk_R.of (hts (.stringRef RX5 65 "star") (List.mem_append_right _ (List.mem_of_getElem? (i := 325) (by decide +kernel)))) q1, v, va_Oof hex q1 hA, vk_OFof q1 (eqt_i (z := 0) (hs (.eq (.field (.string RX5 65) "java/lang/String" "coder" "B") (.int 0)) (List.mem_of_getElem? (i := 123) (by decide +kernel))) (by decide)) hA, vk_OFof q1 hv hA, hT⟩
set_option maxRecDepth 100000 in
theorem st_w3 {s : State} {args : Array Value} (hts : ∀ w ∈ lw_tbl, w.before args s = true) (hgv : (Jvm.Cond.and given_1 narrow_1).before args s = true) {A : Nat → Prop} (hA : ∀ a : Nat, a < s.heap.size → ¬ A a) : ∃ q : Nat, vk_R RX5 67 "pole" q s ∧ strA q [112, 111, 108, 101] A s s.heap := by
  have hs := flat_of_before _ hgv
  have hex := hs (.exactly (.string RX5 67) "java/lang/String") (List.mem_of_getElem? (i := 132) (by decide +kernel))
  obtain ⟨q, cA, cell, kA, q1, -⟩ := Cond.exactly_spec (args := args) (first := s) (o := none) (s := s) (idx := []) (t := (.string RX5 67)) (cls := "java/lang/String") hex
  obtain ⟨v, hv, hT⟩ := va_Tof (tm := (.field (.string RX5 67) "java/lang/String" "value" "[B")) (ty := .byte) (N := 4) (f := fun j => .int (aI (listI [112, 111, 108, 101]) j)) (A := A) (by decide) (hs (.arrayOf (.field (.string RX5 67) "java/lang/String" "value" "[B") .byte) (List.mem_of_getElem? (i := 134) (by decide +kernel))) (va_eqt (hs (.eq (.length (.field (.string RX5 67) "java/lang/String" "value" "[B")) (.int 4)) (List.mem_of_getElem? (i := 135) (by decide +kernel)))) (fun j hj => by
    rcases (show j = 0 ∨ j = 1 ∨ j = 2 ∨ j = 3 by omega) with rfl | rfl | rfl | rfl
    · exact eqt_i (z := listI [112, 111, 108, 101] 0) (hs (.eq (.elem (.field (.string RX5 67) "java/lang/String" "value" "[B") (.int 0)) (.int 112)) (List.mem_of_getElem? (i := 136) (by decide +kernel))) (by decide)
    · exact eqt_i (z := listI [112, 111, 108, 101] 1) (hs (.eq (.elem (.field (.string RX5 67) "java/lang/String" "value" "[B") (.int 1)) (.int 111)) (List.mem_of_getElem? (i := 137) (by decide +kernel))) (by decide)
    · exact eqt_i (z := listI [112, 111, 108, 101] 2) (hs (.eq (.elem (.field (.string RX5 67) "java/lang/String" "value" "[B") (.int 2)) (.int 108)) (List.mem_of_getElem? (i := 138) (by decide +kernel))) (by decide)
    · exact eqt_i (z := listI [112, 111, 108, 101] 3) (hs (.eq (.elem (.field (.string RX5 67) "java/lang/String" "value" "[B") (.int 3)) (.int 101)) (List.mem_of_getElem? (i := 139) (by decide +kernel))) (by decide)
    ) hA
  exact ⟨q, vk_R.of (hts (.stringRef RX5 67 "pole") (List.mem_append_right _ (List.mem_of_getElem? (i := 326) (by decide +kernel)))) q1, v, va_Oof hex q1 hA, vk_OFof q1 (eqt_i (z := 0) (hs (.eq (.field (.string RX5 67) "java/lang/String" "coder" "B") (.int 0)) (List.mem_of_getElem? (i := 133) (by decide +kernel))) (by decide)) hA, vk_OFof q1 hv hA, hT⟩
set_option maxRecDepth 100000 in
theorem st_w4 {s : State} {args : Array Value} (hts : ∀ w ∈ lw_tbl, w.before args s = true) (hgv : (Jvm.Cond.and given_1 narrow_1).before args s = true) {A : Nat → Prop} (hA : ∀ a : Nat, a < s.heap.size → ¬ A a) : ∃ q : Nat, vk_R RX5 69 "set" q s ∧ strA q [115, 101, 116] A s s.heap := by
  have hs := flat_of_before _ hgv
  have hex := hs (.exactly (.string RX5 69) "java/lang/String") (List.mem_of_getElem? (i := 143) (by decide +kernel))
  obtain ⟨q, cA, cell, kA, q1, -⟩ := Cond.exactly_spec (args := args) (first := s) (o := none) (s := s) (idx := []) (t := (.string RX5 69)) (cls := "java/lang/String") hex
  obtain ⟨v, hv, hT⟩ := va_Tof (tm := (.field (.string RX5 69) "java/lang/String" "value" "[B")) (ty := .byte) (N := 3) (f := fun j => .int (aI (listI [115, 101, 116]) j)) (A := A) (by decide) (hs (.arrayOf (.field (.string RX5 69) "java/lang/String" "value" "[B") .byte) (List.mem_of_getElem? (i := 145) (by decide +kernel))) (va_eqt (hs (.eq (.length (.field (.string RX5 69) "java/lang/String" "value" "[B")) (.int 3)) (List.mem_of_getElem? (i := 146) (by decide +kernel)))) (fun j hj => by
    rcases (show j = 0 ∨ j = 1 ∨ j = 2 by omega) with rfl | rfl | rfl
    · exact eqt_i (z := listI [115, 101, 116] 0) (hs (.eq (.elem (.field (.string RX5 69) "java/lang/String" "value" "[B") (.int 0)) (.int 115)) (List.mem_of_getElem? (i := 147) (by decide +kernel))) (by decide)
    · exact eqt_i (z := listI [115, 101, 116] 1) (hs (.eq (.elem (.field (.string RX5 69) "java/lang/String" "value" "[B") (.int 1)) (.int 101)) (List.mem_of_getElem? (i := 148) (by decide +kernel))) (by decide)
    · exact eqt_i (z := listI [115, 101, 116] 2) (hs (.eq (.elem (.field (.string RX5 69) "java/lang/String" "value" "[B") (.int 2)) (.int 116)) (List.mem_of_getElem? (i := 149) (by decide +kernel))) (by decide)
    ) hA
  exact ⟨q, vk_R.of (hts (.stringRef RX5 69 "set") (List.mem_append_right _ (List.mem_of_getElem? (i := 327) (by decide +kernel)))) q1, v, va_Oof hex q1 hA, vk_OFof q1 (eqt_i (z := 0) (hs (.eq (.field (.string RX5 69) "java/lang/String" "coder" "B") (.int 0)) (List.mem_of_getElem? (i := 144) (by decide +kernel))) (by decide)) hA, vk_OFof q1 hv hA, hT⟩
set_option maxRecDepth 100000 in
theorem st_w5 {s : State} {args : Array Value} (hts : ∀ w ∈ lw_tbl, w.before args s = true) (hgv : (Jvm.Cond.and given_1 narrow_1).before args s = true) {A : Nat → Prop} (hA : ∀ a : Nat, a < s.heap.size → ¬ A a) : ∃ q : Nat, vk_R RX5 71 "back" q s ∧ strA q [98, 97, 99, 107] A s s.heap := by
  have hs := flat_of_before _ hgv
  have hex := hs (.exactly (.string RX5 71) "java/lang/String") (List.mem_of_getElem? (i := 154) (by decide +kernel))
  obtain ⟨q, cA, cell, kA, q1, -⟩ := Cond.exactly_spec (args := args) (first := s) (o := none) (s := s) (idx := []) (t := (.string RX5 71)) (cls := "java/lang/String") hex
  obtain ⟨v, hv, hT⟩ := va_Tof (tm := (.field (.string RX5 71) "java/lang/String" "value" "[B")) (ty := .byte) (N := 4) (f := fun j => .int (aI (listI [98, 97, 99, 107]) j)) (A := A) (by decide) (hs (.arrayOf (.field (.string RX5 71) "java/lang/String" "value" "[B") .byte) (List.mem_of_getElem? (i := 156) (by decide +kernel))) (va_eqt (hs (.eq (.length (.field (.string RX5 71) "java/lang/String" "value" "[B")) (.int 4)) (List.mem_of_getElem? (i := 157) (by decide +kernel)))) (fun j hj => by
    rcases (show j = 0 ∨ j = 1 ∨ j = 2 ∨ j = 3 by omega) with rfl | rfl | rfl | rfl
    · exact eqt_i (z := listI [98, 97, 99, 107] 0) (hs (.eq (.elem (.field (.string RX5 71) "java/lang/String" "value" "[B") (.int 0)) (.int 98)) (List.mem_of_getElem? (i := 158) (by decide +kernel))) (by decide)
    · exact eqt_i (z := listI [98, 97, 99, 107] 1) (hs (.eq (.elem (.field (.string RX5 71) "java/lang/String" "value" "[B") (.int 1)) (.int 97)) (List.mem_of_getElem? (i := 159) (by decide +kernel))) (by decide)
    · exact eqt_i (z := listI [98, 97, 99, 107] 2) (hs (.eq (.elem (.field (.string RX5 71) "java/lang/String" "value" "[B") (.int 2)) (.int 99)) (List.mem_of_getElem? (i := 160) (by decide +kernel))) (by decide)
    · exact eqt_i (z := listI [98, 97, 99, 107] 3) (hs (.eq (.elem (.field (.string RX5 71) "java/lang/String" "value" "[B") (.int 3)) (.int 107)) (List.mem_of_getElem? (i := 161) (by decide +kernel))) (by decide)
    ) hA
  exact ⟨q, vk_R.of (hts (.stringRef RX5 71 "back") (List.mem_append_right _ (List.mem_of_getElem? (i := 328) (by decide +kernel)))) q1, v, va_Oof hex q1 hA, vk_OFof q1 (eqt_i (z := 0) (hs (.eq (.field (.string RX5 71) "java/lang/String" "coder" "B") (.int 0)) (List.mem_of_getElem? (i := 155) (by decide +kernel))) (by decide)) hA, vk_OFof q1 hv hA, hT⟩
set_option maxRecDepth 100000 in
theorem st_w6 {s : State} {args : Array Value} (hts : ∀ w ∈ lw_tbl, w.before args s = true) (hgv : (Jvm.Cond.and given_1 narrow_1).before args s = true) {A : Nat → Prop} (hA : ∀ a : Nat, a < s.heap.size → ¬ A a) : ∃ q : Nat, vk_R RX5 73 "search" q s ∧ strA q [115, 101, 97, 114, 99, 104] A s s.heap := by
  have hs := flat_of_before _ hgv
  have hex := hs (.exactly (.string RX5 73) "java/lang/String") (List.mem_of_getElem? (i := 167) (by decide +kernel))
  obtain ⟨q, cA, cell, kA, q1, -⟩ := Cond.exactly_spec (args := args) (first := s) (o := none) (s := s) (idx := []) (t := (.string RX5 73)) (cls := "java/lang/String") hex
  obtain ⟨v, hv, hT⟩ := va_Tof (tm := (.field (.string RX5 73) "java/lang/String" "value" "[B")) (ty := .byte) (N := 6) (f := fun j => .int (aI (listI [115, 101, 97, 114, 99, 104]) j)) (A := A) (by decide) (hs (.arrayOf (.field (.string RX5 73) "java/lang/String" "value" "[B") .byte) (List.mem_of_getElem? (i := 169) (by decide +kernel))) (va_eqt (hs (.eq (.length (.field (.string RX5 73) "java/lang/String" "value" "[B")) (.int 6)) (List.mem_of_getElem? (i := 170) (by decide +kernel)))) (fun j hj => by
    rcases (show j = 0 ∨ j = 1 ∨ j = 2 ∨ j = 3 ∨ j = 4 ∨ j = 5 by omega) with rfl | rfl | rfl | rfl | rfl | rfl
    · exact eqt_i (z := listI [115, 101, 97, 114, 99, 104] 0) (hs (.eq (.elem (.field (.string RX5 73) "java/lang/String" "value" "[B") (.int 0)) (.int 115)) (List.mem_of_getElem? (i := 171) (by decide +kernel))) (by decide)
    · exact eqt_i (z := listI [115, 101, 97, 114, 99, 104] 1) (hs (.eq (.elem (.field (.string RX5 73) "java/lang/String" "value" "[B") (.int 1)) (.int 101)) (List.mem_of_getElem? (i := 172) (by decide +kernel))) (by decide)
    · exact eqt_i (z := listI [115, 101, 97, 114, 99, 104] 2) (hs (.eq (.elem (.field (.string RX5 73) "java/lang/String" "value" "[B") (.int 2)) (.int 97)) (List.mem_of_getElem? (i := 173) (by decide +kernel))) (by decide)
    · exact eqt_i (z := listI [115, 101, 97, 114, 99, 104] 3) (hs (.eq (.elem (.field (.string RX5 73) "java/lang/String" "value" "[B") (.int 3)) (.int 114)) (List.mem_of_getElem? (i := 174) (by decide +kernel))) (by decide)
    · exact eqt_i (z := listI [115, 101, 97, 114, 99, 104] 4) (hs (.eq (.elem (.field (.string RX5 73) "java/lang/String" "value" "[B") (.int 4)) (.int 99)) (List.mem_of_getElem? (i := 175) (by decide +kernel))) (by decide)
    · exact eqt_i (z := listI [115, 101, 97, 114, 99, 104] 5) (hs (.eq (.elem (.field (.string RX5 73) "java/lang/String" "value" "[B") (.int 5)) (.int 104)) (List.mem_of_getElem? (i := 176) (by decide +kernel))) (by decide)
    ) hA
  exact ⟨q, vk_R.of (hts (.stringRef RX5 73 "search") (List.mem_append_right _ (List.mem_of_getElem? (i := 329) (by decide +kernel)))) q1, v, va_Oof hex q1 hA, vk_OFof q1 (eqt_i (z := 0) (hs (.eq (.field (.string RX5 73) "java/lang/String" "coder" "B") (.int 0)) (List.mem_of_getElem? (i := 168) (by decide +kernel))) (by decide)) hA, vk_OFof q1 hv hA, hT⟩
theorem st_GS {s : State} {args : Array Value} (hts : ∀ w ∈ lw_tbl, w.before args s = true) (hgv : (Jvm.Cond.and given_1 narrow_1).before args s = true) {A : Nat → Prop} (hA : ∀ a : Nat, a < s.heap.size → ¬ A a) {D : va_G} {cy : Nat → ClassId} (hG : GG D cy A s s.heap) : GS D cy A s s.heap := by
  obtain ⟨q0, w0⟩ := st_w0 hts hgv hA
  obtain ⟨q1, w1⟩ := st_w1 hts hgv hA
  obtain ⟨q2, w2⟩ := st_w2 hts hgv hA
  obtain ⟨q3, w3⟩ := st_w3 hts hgv hA
  obtain ⟨q4, w4⟩ := st_w4 hts hgv hA
  obtain ⟨q5, w5⟩ := st_w5 hts hgv hA
  obtain ⟨q6, w6⟩ := st_w6 hts hgv hA
  refine ⟨hG, st_jdk hts hgv hA, fun i => [q0, q1, q2, q3, q4, q5, q6].getD i q0, fun i hi => ?_⟩
  rcases (show i = 0 ∨ i = 1 ∨ i = 2 ∨ i = 3 ∨ i = 4 ∨ i = 5 ∨ i = 6 by omega) with rfl | rfl | rfl | rfl | rfl | rfl | rfl
  · exact w0
  · exact w1
  · exact w2
  · exact w3
  · exact w4
  · exact w5
  · exact w6
set_option maxRecDepth 100000 in
theorem st_ex {s : State} {args : Array Value} (hts : ∀ w ∈ lw_tbl, w.before args s = true) (hgv : (Jvm.Cond.and given_1 narrow_1).before args s = true) {A : Nat → Prop} (hA : ∀ a : Nat, a < s.heap.size → ¬ A a) : exA A s s.heap := by
  have hs := flat_of_before _ hgv
  refine ⟨fun k hk => ?_, vx_Zqof (hts (.laysStatic Bundle.tN "UNASSIGNED_STACK" Bundle.steD) (by decide +kernel)) (hts (.initialized Bundle.tN) (List.mem_append_right _ (List.mem_of_getElem? (i := 9) (by decide +kernel)))) (hs (.isRef (.static Bundle.tN "UNASSIGNED_STACK" Bundle.steD)) (by decide +kernel)) hA, vx_Zqof (hts (.laysStatic Bundle.tN "SUPPRESSED_SENTINEL" Bundle.listD) (by decide +kernel)) (hts (.initialized Bundle.tN) (List.mem_append_right _ (List.mem_of_getElem? (i := 9) (by decide +kernel)))) (hs (.isRef (.static Bundle.tN "SUPPRESSED_SENTINEL" Bundle.listD)) (by decide +kernel)) hA, fun k hk => ?_⟩
  · rcases (show k = 0 ∨ k = 1 ∨ k = 2 by omega) with rfl | rfl | rfl
    · obtain ⟨q, cA, cell, kA, q1, -⟩ := Cond.exactly_spec (args := args) (first := s) (o := none) (s := s) (idx := []) (t := .string RX6 262) (cls := "java/lang/String") (hs (.exactly (.string RX6 262) "java/lang/String") (List.mem_of_getElem? (i := 183) (by decide +kernel)))
      refine ⟨⟨q, vk_R.of (hts (.stringRef RX6 262 "no such trail, point or star") (List.mem_append_right _ (List.mem_of_getElem? (i := 536) (by decide +kernel)))) q1⟩, va_Nw.of rfl (hts (.castable "java/lang/IndexOutOfBoundsException" "java/lang/IndexOutOfBoundsException") (List.mem_append_right _ (List.mem_of_getElem? (i := 497) (by decide +kernel)))), fun j hj hne => ?_⟩
      rcases (show j = 0 ∨ j = 1 ∨ j = 2 by omega) with rfl | rfl | rfl
      · exact absurd rfl hne
      · exact va_Nc.of (hs (.not (.castable "java/lang/IndexOutOfBoundsException" "java/lang/IllegalArgumentException")) (List.mem_of_getElem? (i := 101) (by decide +kernel)))
      · exact va_Nc.of (hs (.not (.castable "java/lang/IndexOutOfBoundsException" "java/lang/IllegalStateException")) (List.mem_of_getElem? (i := 85) (by decide +kernel)))
    · obtain ⟨q, cA, cell, kA, q1, -⟩ := Cond.exactly_spec (args := args) (first := s) (o := none) (s := s) (idx := []) (t := .string RX6 269) (cls := "java/lang/String") (hs (.exactly (.string RX6 269) "java/lang/String") (List.mem_of_getElem? (i := 222) (by decide +kernel)))
      refine ⟨⟨q, vk_R.of (hts (.stringRef RX6 269 "an argument is out of its range") (List.mem_append_right _ (List.mem_of_getElem? (i := 571) (by decide +kernel)))) q1⟩, va_Nw.of rfl (hts (.castable "java/lang/IllegalArgumentException" "java/lang/IllegalArgumentException") (List.mem_append_right _ (List.mem_of_getElem? (i := 564) (by decide +kernel)))), fun j hj hne => ?_⟩
      rcases (show j = 0 ∨ j = 1 ∨ j = 2 by omega) with rfl | rfl | rfl
      · exact va_Nc.of (hs (.not (.castable "java/lang/IllegalArgumentException" "java/lang/IndexOutOfBoundsException")) (List.mem_of_getElem? (i := 93) (by decide +kernel)))
      · exact absurd rfl hne
      · exact va_Nc.of (hs (.not (.castable "java/lang/IllegalArgumentException" "java/lang/IllegalStateException")) (List.mem_of_getElem? (i := 86) (by decide +kernel)))
    · obtain ⟨q, cA, cell, kA, q1, -⟩ := Cond.exactly_spec (args := args) (first := s) (o := none) (s := s) (idx := []) (t := .string RX6 274) (cls := "java/lang/String") (hs (.exactly (.string RX6 274) "java/lang/String") (List.mem_of_getElem? (i := 265) (by decide +kernel)))
      refine ⟨⟨q, vk_R.of (hts (.stringRef RX6 274 "no room, a frame twice, or nothing to undo") (List.mem_append_right _ (List.mem_of_getElem? (i := 587) (by decide +kernel)))) q1⟩, va_Nw.of rfl (hts (.castable "java/lang/IllegalStateException" "java/lang/IllegalStateException") (List.mem_append_right _ (List.mem_of_getElem? (i := 580) (by decide +kernel)))), fun j hj hne => ?_⟩
      rcases (show j = 0 ∨ j = 1 ∨ j = 2 by omega) with rfl | rfl | rfl
      · exact va_Nc.of (hs (.not (.castable "java/lang/IllegalStateException" "java/lang/IndexOutOfBoundsException")) (List.mem_of_getElem? (i := 94) (by decide +kernel)))
      · exact va_Nc.of (hs (.not (.castable "java/lang/IllegalStateException" "java/lang/IllegalArgumentException")) (List.mem_of_getElem? (i := 102) (by decide +kernel)))
      · exact absurd rfl hne
  · rcases (show k = 0 ∨ k = 1 ∨ k = 2 by omega) with rfl | rfl | rfl
    · exact va_Nw.of rfl (hts (.declares (Bundle.initS "java/lang/RuntimeException")) (by decide +kernel))
    · exact va_Nw.of rfl (hts (.declares (Bundle.initS "java/lang/Exception")) (by decide +kernel))
    · exact va_Nw.of rfl (hts (.declares (Bundle.initS Bundle.tN)) (by decide +kernel))
theorem st_all {s : State} {args : Array Value} (hts : ∀ w ∈ lw_tbl, w.before args s = true) (hgv : (Jvm.Cond.and given_1 narrow_1).before args s = true) {A : Nat → Prop} (hA : ∀ a : Nat, a < s.heap.size → ¬ A a) : ∃ (D : va_G) (cy : Nat → ClassId), GX D cy A s s.heap ∧ GI D cy A s s.heap := by
  obtain ⟨D, cy, hG⟩ := st_GG hts hgv hA
  exact ⟨D, cy, ⟨st_GS hts hgv hA hG, st_ex hts hgv hA⟩, hG, va_Nw.of rfl (hts (.castable "[I" "java/lang/Cloneable") (List.mem_append_right _ (List.mem_of_getElem? (i := 41) (by decide +kernel)))), va_AO.of (hts (.arrayOver (.object RX4)) (List.mem_append_right _ (List.mem_of_getElem? (i := 107) (by decide +kernel)))), st_atC hts hgv hA hG.1⟩
