set_option maxHeartbeats 4000000 in
set_option maxRecDepth 100000 in
theorem c_X1_leaveOut (l : Launch) (D : va_G) (cy : Nat → ClassId) (sz : Nat) (a : Nat → Nat) (P : Nat → Int → Int) (t : Int) (ht : 0 ≤ t ∧ t < 12) : Met l yX1_leaveOut wsX1_leaveOut { frames := 0, cells := 0, slots := 0, locals := 0 } (mPre (GG D cy) D (fgW cy a P) sz ([.ref (a 20), .int (iI t)] : List Value)) (kQv D (fgW cy a P) sz (fun u9 : Nat → Int → Int => fgW cy a u9) (fun u9 => u9 = (upr (upr (upr (upr (upr (upr (upr (upr P 21 (ups (P 21) t (-1000000000))) 22 (ups (P 22) t (-1000000000))) 23 (ups (P 23) t (-1000000000))) 24 (ups (P 24) t (-1000000000))) 25 (ups (P 25) t (-1000000000))) 26 (ups (P 26) t 0)) 27 (ups (P 27) t (-1000000000))) 28 (ups (P 28) t 0)))) 0 0 (va_A (fgW cy a P) sz) := by
  refine kM_start (cc := cX1_leaveOut) (maxL := 2) (ret := none) (by decide) rfl (Nat.le_of_ble_eq_true rfl) ?_
  intro p e s m below meth c hx hb hr hlocks hml hts hown hsz hA hG hP hD hS hin ls hl
  have hK := hG.1
  have hl : lv_has ls 2 [(0, .ref (a 20)), (1, .int (iI t))] := hl
  have hinX1 : ∀ w ∈ u_ws RX1 TX1 8, w ∈ wsX1_leaveOut := by decide +kernel
  have hm0 := hts (.fieldLink RX1 9 "ArcPlate$Figures" "radius" "[I") (by decide +kernel)
  have hm1 := hts (.constant RX1 61 (-1000000000)) (by decide +kernel)
  have hm2 := hts (.fieldLink RX1 15 "ArcPlate$Figures" "spread" "[I") (by decide +kernel)
  have hm3 := hts (.fieldLink RX1 18 "ArcPlate$Figures" "sweep" "[I") (by decide +kernel)
  have hm4 := hts (.fieldLink RX1 21 "ArcPlate$Figures" "expected" "[I") (by decide +kernel)
  have hm5 := hts (.fieldLink RX1 24 "ArcPlate$Figures" "misfit" "[I") (by decide +kernel)
  have hm6 := hts (.fieldLink RX1 30 "ArcPlate$Figures" "firstAngle" "[I") (by decide +kernel)
  have hm7 := hts (.fieldLink RX1 27 "ArcPlate$Figures" "gaps" "[I") (by decide +kernel)
  have hm8 := hts (.fieldLink RX1 33 "ArcPlate$Figures" "good" "[Z") (by decide +kernel)
  have hbody : ∀ (H : Heap) (locs : List Loc) (hP : va_P D vwCl (fgW cy a P) H) (hS : va_S (va_A (fgW cy a P) sz) s.heap H locs) (ls : Array Slot) (hl : lv_has ls 2 [(0, .ref (a 20)), (1, .int (iI t))]), W p l e { frames := 0, cells := 0, slots := 0, locals := 0 } s m ([.ref (a 20), .int (iI t)] : List Value).toArray below meth c H locs 0 0 (MQ below (kQv D (fgW cy a P) sz (fun u9 : Nat → Int → Int => fgW cy a u9) (fun u9 => u9 = (upr (upr (upr (upr (upr (upr (upr (upr P 21 (ups (P 21) t (-1000000000))) 22 (ups (P 22) t (-1000000000))) 23 (ups (P 23) t (-1000000000))) 24 (ups (P 24) t (-1000000000))) 25 (ups (P 25) t (-1000000000))) 26 (ups (P 26) t 0)) 27 (ups (P 27) t (-1000000000))) 28 (ups (P 28) t 0)))) ([.ref (a 20), .int (iI t)] : List Value).toArray s 0 0 (va_A (fgW cy a P) sz)) (F0 m 0 ls []) := by
    intro H locs hP hS ls hl
    refine lv_aload_n hx hb dX1_leaveOut_0 rfl (lv_at hl 0 rfl) ?_
    refine va_get (D := D) (ci := 0) (v := .ref (a 21)) (C := RX1) (T := TX1) (N := 8) hx hb hts hinX1 hown hK hP 0 rfl rfl 0 (by decide) hm0 (fun _ h9 => h9) rfl dX1_leaveOut_1 ?_
    refine lv_iload_n hx hb dX1_leaveOut_4 rfl (lv_at hl 1 rfl) ?_
    refine k_ldc (z := (-1000000000)) hx hb hown hm1 (by decide +kernel) dX1_leaveOut_5 ?_
    refine k_iast hx hb hK hP hD hS 1 0 (f := P 21) rfl rfl (i := t) (x := (-1000000000)) (by omega) dX1_leaveOut_7 (fun H locs hP hD hS => ?_)
    have hP : va_P D vwCl (fgW cy a (upr P 21 (ups (P 21) t (-1000000000)))) H := hP
    have hD : va_D (va_A (fgW cy a P) sz) (fgW cy a (upr P 21 (ups (P 21) t (-1000000000)))) := hD
    refine lv_aload_n hx hb dX1_leaveOut_8 rfl (lv_at hl 0 rfl) ?_
    refine va_get (D := D) (ci := 0) (v := .ref (a 22)) (C := RX1) (T := TX1) (N := 8) hx hb hts hinX1 hown hK hP 0 rfl rfl 1 (by decide) hm2 (fun _ h9 => h9) rfl dX1_leaveOut_9 ?_
    refine lv_iload_n hx hb dX1_leaveOut_12 rfl (lv_at hl 1 rfl) ?_
    refine k_ldc (z := (-1000000000)) hx hb hown hm1 (by decide +kernel) dX1_leaveOut_13 ?_
    refine k_iast hx hb hK hP hD hS 2 0 (f := P 22) rfl rfl (i := t) (x := (-1000000000)) (by omega) dX1_leaveOut_15 (fun H locs hP hD hS => ?_)
    have hP : va_P D vwCl (fgW cy a (upr (upr P 21 (ups (P 21) t (-1000000000))) 22 (ups (P 22) t (-1000000000)))) H := hP
    have hD : va_D (va_A (fgW cy a P) sz) (fgW cy a (upr (upr P 21 (ups (P 21) t (-1000000000))) 22 (ups (P 22) t (-1000000000)))) := hD
    refine lv_aload_n hx hb dX1_leaveOut_16 rfl (lv_at hl 0 rfl) ?_
    refine va_get (D := D) (ci := 0) (v := .ref (a 23)) (C := RX1) (T := TX1) (N := 8) hx hb hts hinX1 hown hK hP 0 rfl rfl 2 (by decide) hm3 (fun _ h9 => h9) rfl dX1_leaveOut_17 ?_
    refine lv_iload_n hx hb dX1_leaveOut_20 rfl (lv_at hl 1 rfl) ?_
    refine k_ldc (z := (-1000000000)) hx hb hown hm1 (by decide +kernel) dX1_leaveOut_21 ?_
    refine k_iast hx hb hK hP hD hS 3 0 (f := P 23) rfl rfl (i := t) (x := (-1000000000)) (by omega) dX1_leaveOut_23 (fun H locs hP hD hS => ?_)
    have hP : va_P D vwCl (fgW cy a (upr (upr (upr P 21 (ups (P 21) t (-1000000000))) 22 (ups (P 22) t (-1000000000))) 23 (ups (P 23) t (-1000000000)))) H := hP
    have hD : va_D (va_A (fgW cy a P) sz) (fgW cy a (upr (upr (upr P 21 (ups (P 21) t (-1000000000))) 22 (ups (P 22) t (-1000000000))) 23 (ups (P 23) t (-1000000000)))) := hD
    refine lv_aload_n hx hb dX1_leaveOut_24 rfl (lv_at hl 0 rfl) ?_
    refine va_get (D := D) (ci := 0) (v := .ref (a 24)) (C := RX1) (T := TX1) (N := 8) hx hb hts hinX1 hown hK hP 0 rfl rfl 3 (by decide) hm4 (fun _ h9 => h9) rfl dX1_leaveOut_25 ?_
    refine lv_iload_n hx hb dX1_leaveOut_28 rfl (lv_at hl 1 rfl) ?_
    refine k_ldc (z := (-1000000000)) hx hb hown hm1 (by decide +kernel) dX1_leaveOut_29 ?_
    refine k_iast hx hb hK hP hD hS 4 0 (f := P 24) rfl rfl (i := t) (x := (-1000000000)) (by omega) dX1_leaveOut_31 (fun H locs hP hD hS => ?_)
    have hP : va_P D vwCl (fgW cy a (upr (upr (upr (upr P 21 (ups (P 21) t (-1000000000))) 22 (ups (P 22) t (-1000000000))) 23 (ups (P 23) t (-1000000000))) 24 (ups (P 24) t (-1000000000)))) H := hP
    have hD : va_D (va_A (fgW cy a P) sz) (fgW cy a (upr (upr (upr (upr P 21 (ups (P 21) t (-1000000000))) 22 (ups (P 22) t (-1000000000))) 23 (ups (P 23) t (-1000000000))) 24 (ups (P 24) t (-1000000000)))) := hD
    refine lv_aload_n hx hb dX1_leaveOut_32 rfl (lv_at hl 0 rfl) ?_
    refine va_get (D := D) (ci := 0) (v := .ref (a 25)) (C := RX1) (T := TX1) (N := 8) hx hb hts hinX1 hown hK hP 0 rfl rfl 4 (by decide) hm5 (fun _ h9 => h9) rfl dX1_leaveOut_33 ?_
    refine lv_iload_n hx hb dX1_leaveOut_36 rfl (lv_at hl 1 rfl) ?_
    refine k_ldc (z := (-1000000000)) hx hb hown hm1 (by decide +kernel) dX1_leaveOut_37 ?_
    refine k_iast hx hb hK hP hD hS 5 0 (f := P 25) rfl rfl (i := t) (x := (-1000000000)) (by omega) dX1_leaveOut_39 (fun H locs hP hD hS => ?_)
    have hP : va_P D vwCl (fgW cy a (upr (upr (upr (upr (upr P 21 (ups (P 21) t (-1000000000))) 22 (ups (P 22) t (-1000000000))) 23 (ups (P 23) t (-1000000000))) 24 (ups (P 24) t (-1000000000))) 25 (ups (P 25) t (-1000000000)))) H := hP
    have hD : va_D (va_A (fgW cy a P) sz) (fgW cy a (upr (upr (upr (upr (upr P 21 (ups (P 21) t (-1000000000))) 22 (ups (P 22) t (-1000000000))) 23 (ups (P 23) t (-1000000000))) 24 (ups (P 24) t (-1000000000))) 25 (ups (P 25) t (-1000000000)))) := hD
    refine lv_aload_n hx hb dX1_leaveOut_40 rfl (lv_at hl 0 rfl) ?_
    refine va_get (D := D) (ci := 0) (v := .ref (a 27)) (C := RX1) (T := TX1) (N := 8) hx hb hts hinX1 hown hK hP 0 rfl rfl 6 (by decide) hm6 (fun _ h9 => h9) rfl dX1_leaveOut_41 ?_
    refine lv_iload_n hx hb dX1_leaveOut_44 rfl (lv_at hl 1 rfl) ?_
    refine k_ldc (z := (-1000000000)) hx hb hown hm1 (by decide +kernel) dX1_leaveOut_45 ?_
    refine k_iast hx hb hK hP hD hS 7 0 (f := P 27) rfl rfl (i := t) (x := (-1000000000)) (by omega) dX1_leaveOut_47 (fun H locs hP hD hS => ?_)
    have hP : va_P D vwCl (fgW cy a (upr (upr (upr (upr (upr (upr P 21 (ups (P 21) t (-1000000000))) 22 (ups (P 22) t (-1000000000))) 23 (ups (P 23) t (-1000000000))) 24 (ups (P 24) t (-1000000000))) 25 (ups (P 25) t (-1000000000))) 27 (ups (P 27) t (-1000000000)))) H := hP
    have hD : va_D (va_A (fgW cy a P) sz) (fgW cy a (upr (upr (upr (upr (upr (upr P 21 (ups (P 21) t (-1000000000))) 22 (ups (P 22) t (-1000000000))) 23 (ups (P 23) t (-1000000000))) 24 (ups (P 24) t (-1000000000))) 25 (ups (P 25) t (-1000000000))) 27 (ups (P 27) t (-1000000000)))) := hD
    refine lv_aload_n hx hb dX1_leaveOut_48 rfl (lv_at hl 0 rfl) ?_
    refine va_get (D := D) (ci := 0) (v := .ref (a 26)) (C := RX1) (T := TX1) (N := 8) hx hb hts hinX1 hown hK hP 0 rfl rfl 5 (by decide) hm7 (fun _ h9 => h9) rfl dX1_leaveOut_49 ?_
    refine lv_iload_n hx hb dX1_leaveOut_52 rfl (lv_at hl 1 rfl) ?_
    refine k_iconst hx hb dX1_leaveOut_53 ?_
    refine k_iast hx hb hK hP hD hS 6 0 (f := P 26) rfl rfl (i := t) (x := 0) (by omega) dX1_leaveOut_54 (fun H locs hP hD hS => ?_)
    have hP : va_P D vwCl (fgW cy a (upr (upr (upr (upr (upr (upr (upr P 21 (ups (P 21) t (-1000000000))) 22 (ups (P 22) t (-1000000000))) 23 (ups (P 23) t (-1000000000))) 24 (ups (P 24) t (-1000000000))) 25 (ups (P 25) t (-1000000000))) 26 (ups (P 26) t 0)) 27 (ups (P 27) t (-1000000000)))) H := hP
    have hD : va_D (va_A (fgW cy a P) sz) (fgW cy a (upr (upr (upr (upr (upr (upr (upr P 21 (ups (P 21) t (-1000000000))) 22 (ups (P 22) t (-1000000000))) 23 (ups (P 23) t (-1000000000))) 24 (ups (P 24) t (-1000000000))) 25 (ups (P 25) t (-1000000000))) 26 (ups (P 26) t 0)) 27 (ups (P 27) t (-1000000000)))) := hD
    refine lv_aload_n hx hb dX1_leaveOut_55 rfl (lv_at hl 0 rfl) ?_
    refine va_get (D := D) (ci := 0) (v := .ref (a 28)) (C := RX1) (T := TX1) (N := 8) hx hb hts hinX1 hown hK hP 0 rfl rfl 7 (by decide) hm8 (fun _ h9 => h9) rfl dX1_leaveOut_56 ?_
    refine lv_iload_n hx hb dX1_leaveOut_59 rfl (lv_at hl 1 rfl) ?_
    refine k_iconst hx hb dX1_leaveOut_60 ?_
    refine k_zast hx hb hK hP hD hS 8 2 (f := P 28) rfl rfl (i := t) (x := 0) (by omega) (by omega) dX1_leaveOut_61 (fun H locs hP hD hS => ?_)
    have hP : va_P D vwCl (fgW cy a (upr (upr (upr (upr (upr (upr (upr (upr P 21 (ups (P 21) t (-1000000000))) 22 (ups (P 22) t (-1000000000))) 23 (ups (P 23) t (-1000000000))) 24 (ups (P 24) t (-1000000000))) 25 (ups (P 25) t (-1000000000))) 26 (ups (P 26) t 0)) 27 (ups (P 27) t (-1000000000))) 28 (ups (P 28) t 0))) H := hP
    have hD : va_D (va_A (fgW cy a P) sz) (fgW cy a (upr (upr (upr (upr (upr (upr (upr (upr P 21 (ups (P 21) t (-1000000000))) 22 (ups (P 22) t (-1000000000))) 23 (ups (P 23) t (-1000000000))) 24 (ups (P 24) t (-1000000000))) 25 (ups (P 25) t (-1000000000))) 26 (ups (P 26) t 0)) 27 (ups (P 27) t (-1000000000))) 28 (ups (P 28) t 0))) := hD
    exact W.vret hx hb hr (fun t9 ht _ => ⟨⟨(upr (upr (upr (upr (upr (upr (upr (upr P 21 (ups (P 21) t (-1000000000))) 22 (ups (P 22) t (-1000000000))) 23 (ups (P 23) t (-1000000000))) 24 (ups (P 24) t (-1000000000))) 25 (ups (P 25) t (-1000000000))) 26 (ups (P 26) t 0)) 27 (ups (P 27) t (-1000000000))) 28 (ups (P 28) t 0)), rfl, (rfl : (upr (upr (upr (upr (upr (upr (upr (upr P 21 (ups (P 21) t (-1000000000))) 22 (ups (P 22) t (-1000000000))) 23 (ups (P 23) t (-1000000000))) 24 (ups (P 24) t (-1000000000))) 25 (ups (P 25) t (-1000000000))) 26 (ups (P 26) t 0)) 27 (ups (P 27) t (-1000000000))) 28 (ups (P 28) t 0)) = (upr (upr (upr (upr (upr (upr (upr (upr P 21 (ups (P 21) t (-1000000000))) 22 (ups (P 22) t (-1000000000))) 23 (ups (P 23) t (-1000000000))) 24 (ups (P 24) t (-1000000000))) 25 (ups (P 25) t (-1000000000))) 26 (ups (P 26) t 0)) 27 (ups (P 27) t (-1000000000))) 28 (ups (P 28) t 0))), by rw [ht]; exact hP, hD⟩, hS.F ht⟩) hS.2.2 dX1_leaveOut_62 hlocks
  exact hbody s.heap [] hP hS ls hl
set_option maxHeartbeats 4000000 in
set_option maxRecDepth 100000 in
theorem c_X1_measureRadii (l : Launch) (D : va_G) (cy : Nat → ClassId) (sz : Nat) (a : Nat → Nat) (P : Nat → Int → Int) (t n8 : Int) (hI : Inv (mO P)) (h0 : 0 ≤ t) (h1 : t < P 0 0) (hp0 : 0 < P 1 t) (hn8 : n8 = P 1 t) : Met l yX1_measureRadii wsX1_measureRadii { frames := 3, cells := 0, slots := 0, locals := 67 } (mPre (GG D cy) D (fgplW cy a P) sz ([.ref (a 20), .ref (a 0), .int (iI t), .int (iI n8)] : List Value)) (kQv D (fgplW cy a P) sz (fun u9 : Nat → Int → Int => fgplW cy a u9) (fun u9 => u9 = (upr (upr P 21 (ups (P 21) t (rdT (mO P) t))) 22 (ups (P 22) t (sprd (mO P) t))))) 0 0 (va_A (fgplW cy a P) sz) := by
  refine kM_start (cc := cX1_measureRadii) (maxL := 9) (ret := none) (by decide) rfl (Nat.le_of_ble_eq_true rfl) ?_
  intro p e s m below meth c hx hb hr hlocks hml hts hown hsz hA hG hP hD hS hin ls hl
  have hK := hG.1
  have hl : lv_has ls 9 [(0, .ref (a 20)), (1, .ref (a 0)), (2, .int (iI t)), (3, .int (iI n8))] := hl
  have hinX1 : ∀ w ∈ u_ws RX1 TX1 8, w ∈ wsX1_measureRadii := by decide +kernel
  have hm0 := hts (.fieldLink RX1 9 "ArcPlate$Figures" "radius" "[I") (by decide +kernel)
  have hm1 := hts (.fieldLink RX1 15 "ArcPlate$Figures" "spread" "[I") (by decide +kernel)
  have hm2 := hts (.methodLink RX1 70 Lib.Math.min.name) (by decide +kernel)
  have hm3 := hts (.static Lib.Math.min.name) (by decide +kernel)
  have hm4 := hts (.initialized "java/lang/Math") (by decide +kernel)
  have hm5 := hts (.code Lib.Math.min.name Lib.Math.min.code 2 (some .int)) (by decide +kernel)
  have hm6 := hts (.methodLink RX1 75 Lib.Math.max.name) (by decide +kernel)
  have hm7 := hts (.static Lib.Math.max.name) (by decide +kernel)
  have hm8 := hts (.code Lib.Math.max.name Lib.Math.max.code 2 (some .int)) (by decide +kernel)
  have hS0 := po_S hI
  have hp := po_pts hI h0 h1
  have hepts := mO_pts P (t := t) h0 (by omega)
  have hbody : ∀ (H : Heap) (locs : List Loc) (hP : va_P D vwCl (fgplW cy a P) H) (hS : va_S (va_A (fgplW cy a P) sz) s.heap H locs) (ls : Array Slot) (hl : lv_has ls 9 [(0, .ref (a 20)), (1, .ref (a 0)), (2, .int (iI t)), (3, .int (iI n8))]), W p l e { frames := 3, cells := 0, slots := 0, locals := 67 } s m ([.ref (a 20), .ref (a 0), .int (iI t), .int (iI n8)] : List Value).toArray below meth c H locs 0 0 (MQ below (kQv D (fgplW cy a P) sz (fun u9 : Nat → Int → Int => fgplW cy a u9) (fun u9 => u9 = (upr (upr P 21 (ups (P 21) t (rdT (mO P) t))) 22 (ups (P 22) t (sprd (mO P) t))))) ([.ref (a 20), .ref (a 0), .int (iI t), .int (iI n8)] : List Value).toArray s 0 0 (va_A (fgplW cy a P) sz)) (F0 m 0 ls []) := by
    intro H locs hP hS ls hl
    refine k_iconst hx hb dX1_measureRadii_0 ?_
    refine lv_istore (lv' := [(4, .int (iI 0)), (0, .ref (a 20)), (1, .ref (a 0)), (2, .int (iI t)), (3, .int (iI n8))]) hx hb dX1_measureRadii_1 hl (by decide) rfl (fun ls hl => ?_)
    refine k_iconst hx hb dX1_measureRadii_3 ?_
    refine lv_istore (lv' := [(5, .int (iI 0)), (4, .int (iI 0)), (0, .ref (a 20)), (1, .ref (a 0)), (2, .int (iI t)), (3, .int (iI n8))]) hx hb dX1_measureRadii_4 hl (by decide) rfl (fun ls hl => ?_)
    refine k_iconst hx hb dX1_measureRadii_6 ?_
    refine lv_istore (lv' := [(6, .int (iI 0)), (5, .int (iI 0)), (4, .int (iI 0)), (0, .ref (a 20)), (1, .ref (a 0)), (2, .int (iI t)), (3, .int (iI n8))]) hx hb dX1_measureRadii_7 hl (by decide) rfl (fun ls hl => ?_)
    refine k_iconst hx hb dX1_measureRadii_9 ?_
    refine lv_istore (lv' := [(7, .int (iI 0)), (6, .int (iI 0)), (5, .int (iI 0)), (4, .int (iI 0)), (0, .ref (a 20)), (1, .ref (a 0)), (2, .int (iI t)), (3, .int (iI n8))]) hx hb dX1_measureRadii_10 hl (by decide) rfl (fun ls hl => ?_)
    have loop12 : ∀ (n_1 : Nat) (q : Int) (lo : Int) (hh : Int) (x4 : Int) (hi0 : 0 ≤ q) (hi1 : q ≤ P 1 t) (hi2 : (q = 0 ∧ lo = 0 ∧ hh = 0) ∨ (1 ≤ q ∧ lo = minZ (rdOf (mO P) t) q ∧ hh = maxZ (rdOf (mO P) t) q)) (hi3 : (0 ≤ lo ∧ lo ≤ 9900) ∧ (0 ≤ hh ∧ hh ≤ 9900)) (hex4 : x4 = sumZ (rdOf (mO P) t) q) (hn : P 1 t - q < (n_1 : Int)) (ls : Array Slot) (hl : lv_has ls 9 [(7, .int (iI q)), (6, .int (iI hh)), (5, .int (iI lo)), (4, .int (iI x4)), (0, .ref (a 20)), (1, .ref (a 0)), (2, .int (iI t)), (3, .int (iI n8))]), W p l e { frames := 3, cells := 0, slots := 0, locals := 67 } s m ([.ref (a 20), .ref (a 0), .int (iI t), .int (iI n8)] : List Value).toArray below meth c H locs 0 0 (MQ below (kQv D (fgplW cy a P) sz (fun u9 : Nat → Int → Int => fgplW cy a u9) (fun u9 => u9 = (upr (upr P 21 (ups (P 21) t (rdT (mO P) t))) 22 (ups (P 22) t (sprd (mO P) t))))) ([.ref (a 20), .ref (a 0), .int (iI t), .int (iI n8)] : List Value).toArray s 0 0 (va_A (fgplW cy a P) sz)) (F0 m 12 ls []) := by
      intro n_1
      induction n_1 with
      | zero => intro q lo hh x4 hi0 hi1 hi2 hi3 hex4 hn ls hl; exfalso; omega
      | succ n_1 ih12 =>
        intro q lo hh x4 hi0 hi1 hi2 hi3 hex4 hn ls hl
        subst hex4
        have hsum := inv_rdsum hI h0 (mO_12lt h1) hi0 (by omega)
        refine lv_iload hx hb dX1_measureRadii_12 (lv_at hl 0 rfl) ?_
        refine lv_iload_n hx hb dX1_measureRadii_14 rfl (lv_at hl 7 rfl) ?_
        refine k_icmp_ge (tgt := 81) hx hb dX1_measureRadii_15 (by decide) (by omega) (by omega) (fun c_2 => ?_) (fun c_2 => ?_)
        · skip
          have e9 : q = P 1 t := by omega
          have hsum2 := hsum
          refine lv_aload_n hx hb dX1_measureRadii_81 rfl (lv_at hl 4 rfl) ?_
          refine va_get (D := D) (ci := 0) (v := .ref (a 21)) (C := RX1) (T := TX1) (N := 8) hx hb hts hinX1 hown hK hP 0 rfl rfl 0 (by decide) hm0 (fun _ h9 => h9) rfl dX1_measureRadii_82 ?_
          refine lv_iload_n hx hb dX1_measureRadii_85 rfl (lv_at hl 6 rfl) ?_
          refine lv_iload_n hx hb dX1_measureRadii_86 rfl (lv_at hl 7 rfl) ?_
          refine k_if_le (tgt := 97) hx hb dX1_measureRadii_87 (by decide) (by omega) (fun c_3 => ?_) (fun c_3 => ?_)
          · exfalso; omega
          · skip
            refine lv_iload hx hb dX1_measureRadii_90 (lv_at hl 3 rfl) ?_
            refine lv_iload_n hx hb dX1_measureRadii_92 rfl (lv_at hl 7 rfl) ?_
            refine k_idiv hx hb dX1_measureRadii_93 (by omega) (by omega) ?_
            refine lv_goto (tgt := 99) hx hb dX1_measureRadii_94 (by decide) ?_
            refine k_iast hx hb hK hP hD hS 1 0 (f := P 21) rfl rfl (i := t) (x := (sumZ (rdOf (mO P) t) q) / n8) (by omega) dX1_measureRadii_99 (fun H locs hP hD hS => ?_)
            have hP : va_P D vwCl (fgplW cy a (upr P 21 (ups (P 21) t ((sumZ (rdOf (mO P) t) q) / n8)))) H := hP
            have hD : va_D (va_A (fgplW cy a P) sz) (fgplW cy a (upr P 21 (ups (P 21) t ((sumZ (rdOf (mO P) t) q) / n8)))) := hD
            refine lv_aload_n hx hb dX1_measureRadii_100 rfl (lv_at hl 4 rfl) ?_
            refine va_get (D := D) (ci := 0) (v := .ref (a 22)) (C := RX1) (T := TX1) (N := 8) hx hb hts hinX1 hown hK hP 0 rfl rfl 1 (by decide) hm1 (fun _ h9 => h9) rfl dX1_measureRadii_101 ?_
            refine lv_iload_n hx hb dX1_measureRadii_104 rfl (lv_at hl 6 rfl) ?_
            refine lv_iload hx hb dX1_measureRadii_105 (lv_at hl 1 rfl) ?_
            refine lv_iload hx hb dX1_measureRadii_107 (lv_at hl 2 rfl) ?_
            refine k_isub hx hb dX1_measureRadii_109 ?_
            refine k_iast hx hb hK hP hD hS 2 0 (f := P 22) rfl rfl (i := t) (x := hh - lo) (by omega) dX1_measureRadii_110 (fun H locs hP hD hS => ?_)
            have hP : va_P D vwCl (fgplW cy a (upr (upr P 21 (ups (P 21) t ((sumZ (rdOf (mO P) t) q) / n8))) 22 (ups (P 22) t (hh - lo)))) H := hP
            have hD : va_D (va_A (fgplW cy a P) sz) (fgplW cy a (upr (upr P 21 (ups (P 21) t ((sumZ (rdOf (mO P) t) q) / n8))) 22 (ups (P 22) t (hh - lo)))) := hD
            exact W.vret hx hb hr (fun t9 ht _ => ⟨⟨(upr (upr P 21 (ups (P 21) t ((sumZ (rdOf (mO P) t) q) / n8))) 22 (ups (P 22) t (hh - lo))), rfl, ((by rw [show (ups (P 21) t ((sumZ (rdOf (mO P) t) q) / n8)) = (ups (P 21) t (rdT (mO P) t)) from by unfold rdT; rw [hepts, e9, hn8], show (ups (P 22) t (hh - lo)) = (ups (P 22) t (sprd (mO P) t)) from by unfold sprd; rw [hepts]; rcases hi2 with h9 | ⟨g1, g2, g3⟩; omega; rw [g2, g3, e9]]) : (upr (upr P 21 (ups (P 21) t ((sumZ (rdOf (mO P) t) q) / n8))) 22 (ups (P 22) t (hh - lo))) = (upr (upr P 21 (ups (P 21) t (rdT (mO P) t))) 22 (ups (P 22) t (sprd (mO P) t)))), by rw [ht]; exact hP, hD⟩, hS.F ht⟩) hS.2.2 dX1_measureRadii_111 hlocks
        · skip
          have hpt := po_pt hI h0 h1 hi0 (show q < P 1 t by omega)
          have hdd := dxy_mO hI h0 h1 hi0 (show q < P 1 t by omega)
          have hrd := rd_mO P (t := t) (q := q) h0 (by omega) hi0 (by omega)
          have hrb := inv_rd hI h0 (mO_12lt h1) (p := q) hi0 (by omega)
          refine lv_aload_n hx hb dX1_measureRadii_18 rfl (lv_at hl 5 rfl) ?_
          refine lv_iload_n hx hb dX1_measureRadii_19 rfl (lv_at hl 6 rfl) ?_
          refine lv_iload hx hb dX1_measureRadii_20 (lv_at hl 0 rfl) ?_
          refine k_roS (As := [.int (iI t), .int (iI q)]) (rest := [.ref (a 0)]) ⟨hx, hb, hml, hown, hts⟩ (c_X4_slot l D t q ) gX1_measureRadii_X4_slot rfl ⟨rfl, rfl⟩ 2 rfl (by decide +kernel) ⟨Nat.le_of_ble_eq_true rfl, Nat.le_of_ble_eq_true rfl⟩ kGT_ok trivial (fun k q h => by simp at h) hl.1 rfl (Nat.le_of_ble_eq_true rfl) ⟨Nat.le_of_ble_eq_true rfl, Nat.le_of_ble_eq_true rfl⟩ dX1_measureRadii_22 (fun r_4 hr_4 => ?_)
          have hr_4 : r_4 = 12 * t + q := hr_4
          subst hr_4
          refine k_roV (As := [.int (iI (12 * t + q))]) (rest := []) ⟨hx, hb, hml, hown, hts⟩ (c_X4_radiusAt l D cy a P (12 * t + q) hI (show 0 ≤ (12 * t + q) ∧ (12 * t + q) < 144 by omega) (show 0 ≤ P 2 (12 * t + q) ∧ P 2 (12 * t + q) ≤ 1000 by omega) (show -7000 ≤ dplX P (12 * t + q) (P 8 1) - P 0 2 ∧ dplX P (12 * t + q) (P 8 1) - P 0 2 ≤ 7000 by omega) (show -7000 ≤ dplY P (12 * t + q) (P 8 2) - P 0 3 ∧ dplY P (12 * t + q) (P 8 2) - P 0 3 ≤ 7000 by omega)) gX1_measureRadii_X4_radiusAt rfl ⟨rfl, rfl⟩ 1 rfl (by decide +kernel) ⟨Nat.le_of_ble_eq_true rfl, Nat.le_of_ble_eq_true rfl⟩ (GG_ok D cy) ((GG_ok D cy).2.2.2 _ _ _ _ (fun _ h => h.elim) ((GG_ok D cy).1 _ _ _ _ hS.2.1 hG)) (hP.sub (ws' := (plW cy a P)) [9, 10, 11, 12, 13, 14, 15, 16, 17] rfl) (va_recv hK hP (ci := 3) (q0 := 9) rfl rfl) hl.1 rfl (Nat.le_of_ble_eq_true rfl) ⟨Nat.le_of_ble_eq_true rfl, Nat.le_of_ble_eq_true rfl⟩ dX1_measureRadii_25 (fun r_5 hr_5 => ?_)
          have hr_5 : r_5 = rt ((dplX P (12 * t + q) (P 8 1) - P 0 2) * (dplX P (12 * t + q) (P 8 1) - P 0 2) + (dplY P (12 * t + q) (P 8 2) - P 0 3) * (dplY P (12 * t + q) (P 8 2) - P 0 3)) := hr_5
          subst hr_5
          refine k_eqI (v := rt ((dplX P (12 * t + q) (P 8 1) - P 0 2) * (dplX P (12 * t + q) (P 8 1) - P 0 2) + (dplY P (12 * t + q) (P 8 2) - P 0 3) * (dplY P (12 * t + q) (P 8 2) - P 0 3))) (w := rdOf (mO P) t q) (hrd.symm) ?_
          refine lv_istore (lv' := [(8, .int (iI (rdOf (mO P) t q))), (7, .int (iI q)), (6, .int (iI hh)), (5, .int (iI lo)), (4, .int (iI (sumZ (rdOf (mO P) t) q))), (0, .ref (a 20)), (1, .ref (a 0)), (2, .int (iI t)), (3, .int (iI n8))]) hx hb dX1_measureRadii_28 hl (by decide) rfl (fun ls hl => ?_)
          refine lv_iload hx hb dX1_measureRadii_30 (lv_at hl 4 rfl) ?_
          refine lv_iload hx hb dX1_measureRadii_32 (lv_at hl 0 rfl) ?_
          refine k_iadd hx hb dX1_measureRadii_34 ?_
          refine lv_istore (lv' := [(4, .int (iI ((sumZ (rdOf (mO P) t) q) + (rdOf (mO P) t q)))), (8, .int (iI (rdOf (mO P) t q))), (7, .int (iI q)), (6, .int (iI hh)), (5, .int (iI lo)), (0, .ref (a 20)), (1, .ref (a 0)), (2, .int (iI t)), (3, .int (iI n8))]) hx hb dX1_measureRadii_35 hl (by decide) rfl (fun ls hl => ?_)
          refine lv_iload hx hb dX1_measureRadii_37 (lv_at hl 2 rfl) ?_
          refine k_if_ne (tgt := 47) hx hb dX1_measureRadii_39 (by decide) (by omega) (fun c_6 => ?_) (fun c_6 => ?_)
          · skip
            refine lv_iload hx hb dX1_measureRadii_47 (lv_at hl 4 rfl) ?_
            refine lv_iload hx hb dX1_measureRadii_49 (lv_at hl 1 rfl) ?_
            refine k_mmin hx hb (hml.trans hl.1.symm) hown hm2 hm3 hm4 hm5 (Nat.le_of_ble_eq_true rfl) (Nat.le_of_ble_eq_true rfl) (Nat.le_of_ble_eq_true rfl) (Nat.le_of_ble_eq_true rfl) (by omega) (by omega) dX1_measureRadii_51 ?_
            refine lv_istore (lv' := [(5, .int (iI (min lo (rdOf (mO P) t q)))), (4, .int (iI ((sumZ (rdOf (mO P) t) q) + (rdOf (mO P) t q)))), (8, .int (iI (rdOf (mO P) t q))), (7, .int (iI q)), (6, .int (iI hh)), (0, .ref (a 20)), (1, .ref (a 0)), (2, .int (iI t)), (3, .int (iI n8))]) hx hb dX1_measureRadii_54 hl (by decide) rfl (fun ls hl => ?_)
            refine lv_iload hx hb dX1_measureRadii_56 (lv_at hl 3 rfl) ?_
            refine k_if_ne (tgt := 66) hx hb dX1_measureRadii_58 (by decide) (by omega) (fun c_7 => ?_) (fun c_7 => ?_)
            · skip
              refine lv_iload hx hb dX1_measureRadii_66 (lv_at hl 4 rfl) ?_
              refine lv_iload hx hb dX1_measureRadii_68 (lv_at hl 2 rfl) ?_
              refine k_mmax hx hb (hml.trans hl.1.symm) hown hm6 hm7 hm4 hm8 (Nat.le_of_ble_eq_true rfl) (Nat.le_of_ble_eq_true rfl) (Nat.le_of_ble_eq_true rfl) (Nat.le_of_ble_eq_true rfl) (by omega) (by omega) dX1_measureRadii_70 ?_
              refine lv_istore (lv' := [(6, .int (iI (max hh (rdOf (mO P) t q)))), (5, .int (iI (min lo (rdOf (mO P) t q)))), (4, .int (iI ((sumZ (rdOf (mO P) t) q) + (rdOf (mO P) t q)))), (8, .int (iI (rdOf (mO P) t q))), (7, .int (iI q)), (0, .ref (a 20)), (1, .ref (a 0)), (2, .int (iI t)), (3, .int (iI n8))]) hx hb dX1_measureRadii_73 hl (by decide) rfl (fun ls hl => ?_)
              refine lv_iinc (v := iI (q + 1)) (lv' := [(7, .int (iI (q + 1))), (6, .int (iI (max hh (rdOf (mO P) t q)))), (5, .int (iI (min lo (rdOf (mO P) t q)))), (4, .int (iI ((sumZ (rdOf (mO P) t) q) + (rdOf (mO P) t q)))), (8, .int (iI (rdOf (mO P) t q))), (0, .ref (a 20)), (1, .ref (a 0)), (2, .int (iI t)), (3, .int (iI n8))]) hx hb dX1_measureRadii_75 hl (k := 4) rfl (iI_add _ _) (by decide) rfl (fun ls hl => ?_)
              refine lv_goto (tgt := 12) hx hb dX1_measureRadii_78 (by decide) ?_
              exact ih12 (q + 1) (min lo (rdOf (mO P) t q)) (max hh (rdOf (mO P) t q)) ((sumZ (rdOf (mO P) t) q) + (rdOf (mO P) t q)) (by omega) (by omega) (by first | (exfalso; omega) | (right; refine ⟨by omega, ?_, ?_⟩; (have e9 : q = 0 := (by omega); subst e9; rfl); (have e9 : q = 0 := (by omega); subst e9; rfl)) | (right; rcases hi2 with h9 | ⟨g1, g2, g3⟩; omega; refine ⟨by omega, ?_, ?_⟩; (rw [minZ_s _ g1, ← g2]); (rw [maxZ_s _ g1, ← g3]))) (by first | (exfalso; omega) | omega) ((sumZ_s _ hi0).symm) (by omega) ls (lv_sub hl [0, 1, 2, 3, 5, 6, 7, 8] rfl)
            · skip
              refine lv_iload hx hb dX1_measureRadii_61 (lv_at hl 2 rfl) ?_
              refine lv_goto (tgt := 73) hx hb dX1_measureRadii_63 (by decide) ?_
              refine lv_istore (lv' := [(6, .int (iI (rdOf (mO P) t q))), (5, .int (iI (min lo (rdOf (mO P) t q)))), (4, .int (iI ((sumZ (rdOf (mO P) t) q) + (rdOf (mO P) t q)))), (8, .int (iI (rdOf (mO P) t q))), (7, .int (iI q)), (0, .ref (a 20)), (1, .ref (a 0)), (2, .int (iI t)), (3, .int (iI n8))]) hx hb dX1_measureRadii_73 hl (by decide) rfl (fun ls hl => ?_)
              refine lv_iinc (v := iI (q + 1)) (lv' := [(7, .int (iI (q + 1))), (6, .int (iI (rdOf (mO P) t q))), (5, .int (iI (min lo (rdOf (mO P) t q)))), (4, .int (iI ((sumZ (rdOf (mO P) t) q) + (rdOf (mO P) t q)))), (8, .int (iI (rdOf (mO P) t q))), (0, .ref (a 20)), (1, .ref (a 0)), (2, .int (iI t)), (3, .int (iI n8))]) hx hb dX1_measureRadii_75 hl (k := 4) rfl (iI_add _ _) (by decide) rfl (fun ls hl => ?_)
              refine lv_goto (tgt := 12) hx hb dX1_measureRadii_78 (by decide) ?_
              exact ih12 (q + 1) (min lo (rdOf (mO P) t q)) (rdOf (mO P) t q) ((sumZ (rdOf (mO P) t) q) + (rdOf (mO P) t q)) (by omega) (by omega) (by first | (exfalso; omega) | (right; refine ⟨by omega, ?_, ?_⟩; (have e9 : q = 0 := (by omega); subst e9; rfl); (have e9 : q = 0 := (by omega); subst e9; rfl)) | (right; rcases hi2 with h9 | ⟨g1, g2, g3⟩; omega; refine ⟨by omega, ?_, ?_⟩; (rw [minZ_s _ g1, ← g2]); (rw [maxZ_s _ g1, ← g3]))) (by first | (exfalso; omega) | omega) ((sumZ_s _ hi0).symm) (by omega) ls (lv_sub hl [0, 1, 2, 3, 5, 6, 7, 8] rfl)
          · skip
            refine lv_iload hx hb dX1_measureRadii_42 (lv_at hl 1 rfl) ?_
            refine lv_goto (tgt := 54) hx hb dX1_measureRadii_44 (by decide) ?_
            refine lv_istore (lv' := [(5, .int (iI (rdOf (mO P) t q))), (4, .int (iI ((sumZ (rdOf (mO P) t) q) + (rdOf (mO P) t q)))), (8, .int (iI (rdOf (mO P) t q))), (7, .int (iI q)), (6, .int (iI hh)), (0, .ref (a 20)), (1, .ref (a 0)), (2, .int (iI t)), (3, .int (iI n8))]) hx hb dX1_measureRadii_54 hl (by decide) rfl (fun ls hl => ?_)
            refine lv_iload hx hb dX1_measureRadii_56 (lv_at hl 3 rfl) ?_
            refine k_if_ne (tgt := 66) hx hb dX1_measureRadii_58 (by decide) (by omega) (fun c_8 => ?_) (fun c_8 => ?_)
            · skip
              refine lv_iload hx hb dX1_measureRadii_66 (lv_at hl 4 rfl) ?_
              refine lv_iload hx hb dX1_measureRadii_68 (lv_at hl 2 rfl) ?_
              refine k_mmax hx hb (hml.trans hl.1.symm) hown hm6 hm7 hm4 hm8 (Nat.le_of_ble_eq_true rfl) (Nat.le_of_ble_eq_true rfl) (Nat.le_of_ble_eq_true rfl) (Nat.le_of_ble_eq_true rfl) (by omega) (by omega) dX1_measureRadii_70 ?_
              refine lv_istore (lv' := [(6, .int (iI (max hh (rdOf (mO P) t q)))), (5, .int (iI (rdOf (mO P) t q))), (4, .int (iI ((sumZ (rdOf (mO P) t) q) + (rdOf (mO P) t q)))), (8, .int (iI (rdOf (mO P) t q))), (7, .int (iI q)), (0, .ref (a 20)), (1, .ref (a 0)), (2, .int (iI t)), (3, .int (iI n8))]) hx hb dX1_measureRadii_73 hl (by decide) rfl (fun ls hl => ?_)
              refine lv_iinc (v := iI (q + 1)) (lv' := [(7, .int (iI (q + 1))), (6, .int (iI (max hh (rdOf (mO P) t q)))), (5, .int (iI (rdOf (mO P) t q))), (4, .int (iI ((sumZ (rdOf (mO P) t) q) + (rdOf (mO P) t q)))), (8, .int (iI (rdOf (mO P) t q))), (0, .ref (a 20)), (1, .ref (a 0)), (2, .int (iI t)), (3, .int (iI n8))]) hx hb dX1_measureRadii_75 hl (k := 4) rfl (iI_add _ _) (by decide) rfl (fun ls hl => ?_)
              refine lv_goto (tgt := 12) hx hb dX1_measureRadii_78 (by decide) ?_
              exact ih12 (q + 1) (rdOf (mO P) t q) (max hh (rdOf (mO P) t q)) ((sumZ (rdOf (mO P) t) q) + (rdOf (mO P) t q)) (by omega) (by omega) (by first | (exfalso; omega) | (right; refine ⟨by omega, ?_, ?_⟩; (have e9 : q = 0 := (by omega); subst e9; rfl); (have e9 : q = 0 := (by omega); subst e9; rfl)) | (right; rcases hi2 with h9 | ⟨g1, g2, g3⟩; omega; refine ⟨by omega, ?_, ?_⟩; (rw [minZ_s _ g1, ← g2]); (rw [maxZ_s _ g1, ← g3]))) (by first | (exfalso; omega) | omega) ((sumZ_s _ hi0).symm) (by omega) ls (lv_sub hl [0, 1, 2, 3, 5, 6, 7, 8] rfl)
            · skip
              refine lv_iload hx hb dX1_measureRadii_61 (lv_at hl 2 rfl) ?_
              refine lv_goto (tgt := 73) hx hb dX1_measureRadii_63 (by decide) ?_
              refine lv_istore (lv' := [(6, .int (iI (rdOf (mO P) t q))), (5, .int (iI (rdOf (mO P) t q))), (4, .int (iI ((sumZ (rdOf (mO P) t) q) + (rdOf (mO P) t q)))), (8, .int (iI (rdOf (mO P) t q))), (7, .int (iI q)), (0, .ref (a 20)), (1, .ref (a 0)), (2, .int (iI t)), (3, .int (iI n8))]) hx hb dX1_measureRadii_73 hl (by decide) rfl (fun ls hl => ?_)
              refine lv_iinc (v := iI (q + 1)) (lv' := [(7, .int (iI (q + 1))), (6, .int (iI (rdOf (mO P) t q))), (5, .int (iI (rdOf (mO P) t q))), (4, .int (iI ((sumZ (rdOf (mO P) t) q) + (rdOf (mO P) t q)))), (8, .int (iI (rdOf (mO P) t q))), (0, .ref (a 20)), (1, .ref (a 0)), (2, .int (iI t)), (3, .int (iI n8))]) hx hb dX1_measureRadii_75 hl (k := 4) rfl (iI_add _ _) (by decide) rfl (fun ls hl => ?_)
              refine lv_goto (tgt := 12) hx hb dX1_measureRadii_78 (by decide) ?_
              exact ih12 (q + 1) (rdOf (mO P) t q) (rdOf (mO P) t q) ((sumZ (rdOf (mO P) t) q) + (rdOf (mO P) t q)) (by omega) (by omega) (by first | (exfalso; omega) | (right; refine ⟨by omega, ?_, ?_⟩; (have e9 : q = 0 := (by omega); subst e9; rfl); (have e9 : q = 0 := (by omega); subst e9; rfl)) | (right; rcases hi2 with h9 | ⟨g1, g2, g3⟩; omega; refine ⟨by omega, ?_, ?_⟩; (rw [minZ_s _ g1, ← g2]); (rw [maxZ_s _ g1, ← g3]))) (by first | (exfalso; omega) | omega) ((sumZ_s _ hi0).symm) (by omega) ls (lv_sub hl [0, 1, 2, 3, 5, 6, 7, 8] rfl)
    exact loop12 ((P 1 t - 0 : Int) + 1).toNat 0 0 0 0 (by omega) (by omega) (Or.inl ⟨rfl, rfl, rfl⟩) (by omega) (rfl) (by omega) ls (lv_sub hl [0, 1, 2, 3, 4, 5, 6, 7] rfl)
  exact hbody s.heap [] hP hS ls hl
set_option maxHeartbeats 4000000 in
set_option maxRecDepth 100000 in
theorem c_X1_measureAngles (l : Launch) (D : va_G) (cy : Nat → ClassId) (sz : Nat) (a : Nat → Nat) (P : Nat → Int → Int) (t n8 : Int) (hI : Inv (mO P)) (h0 : 0 ≤ t) (h1 : t < P 0 0) (hp0 : 0 < P 1 t) (hn8 : n8 = P 1 t) : Met l yX1_measureAngles wsX1_measureAngles { frames := 3, cells := 0, slots := 0, locals := 73 } (mPre (GG D cy) D (fgplW cy a P) sz ([.ref (a 20), .ref (a 0), .int (iI t), .int (iI n8)] : List Value)) (kQv D (fgplW cy a P) sz (fun u9 : Nat → Int → Int => fgplW cy a u9) (fun u9 => u9 = (upr (upr (upr P 23 (ups (P 23) t (swp (mO P) t))) 26 (ups (P 26) t (gapN (mO P) t))) 27 (ups (P 27) t (angOf (mO P) t 0))))) 0 0 (va_A (fgplW cy a P) sz) := by
  refine kM_start (cc := cX1_measureAngles) (maxL := 10) (ret := none) (by decide) rfl (Nat.le_of_ble_eq_true rfl) ?_
  intro p e s m below meth c hx hb hr hlocks hml hts hown hsz hA hG hP hD hS hin ls hl
  have hK := hG.1
  have hl : lv_has ls 10 [(0, .ref (a 20)), (1, .ref (a 0)), (2, .int (iI t)), (3, .int (iI n8))] := hl
  have hinX1 : ∀ w ∈ u_ws RX1 TX1 8, w ∈ wsX1_measureAngles := by decide +kernel
  have hinX4 : ∀ w ∈ u_ws RX4 TX4 12, w ∈ wsX1_measureAngles := by decide +kernel
  have hm0 := hts (.fieldLink RX1 30 "ArcPlate$Figures" "firstAngle" "[I") (by decide +kernel)
  have hm1 := hts (.fieldLink RX1 18 "ArcPlate$Figures" "sweep" "[I") (by decide +kernel)
  have hm2 := hts (.fieldLink RX1 27 "ArcPlate$Figures" "gaps" "[I") (by decide +kernel)
  have hm3 := hts (.fieldLink RX1 86 "ArcPlate$Plate" "frames" "[I") (by decide +kernel)
  have hm4 := hts (.fieldLink RX1 89 "ArcPlate$Plate" "settings" "[I") (by decide +kernel)
  have hS0 := po_S hI
  have hp := po_pts hI h0 h1
  have hset := po_set hI
  have hepts := mO_pts P (t := t) h0 (by omega)
  have h66 : mO P 6 = P 8 6 := mO_set P (by decide)
  have hpt0 := po_pt hI h0 h1 (Int.le_refl 0) hp0
  have hdd0 := dxy_mO hI h0 h1 (Int.le_refl 0) hp0
  have han0 := an_mO P (t := t) (q := 0) h0 (by omega) (Int.le_refl 0) (by omega)
  have hbody : ∀ (H : Heap) (locs : List Loc) (hP : va_P D vwCl (fgplW cy a P) H) (hS : va_S (va_A (fgplW cy a P) sz) s.heap H locs) (ls : Array Slot) (hl : lv_has ls 10 [(0, .ref (a 20)), (1, .ref (a 0)), (2, .int (iI t)), (3, .int (iI n8))]), W p l e { frames := 3, cells := 0, slots := 0, locals := 73 } s m ([.ref (a 20), .ref (a 0), .int (iI t), .int (iI n8)] : List Value).toArray below meth c H locs 0 0 (MQ below (kQv D (fgplW cy a P) sz (fun u9 : Nat → Int → Int => fgplW cy a u9) (fun u9 => u9 = (upr (upr (upr P 23 (ups (P 23) t (swp (mO P) t))) 26 (ups (P 26) t (gapN (mO P) t))) 27 (ups (P 27) t (angOf (mO P) t 0))))) ([.ref (a 20), .ref (a 0), .int (iI t), .int (iI n8)] : List Value).toArray s 0 0 (va_A (fgplW cy a P) sz)) (F0 m 0 ls []) := by
    intro H locs hP hS ls hl
    refine k_iconst hx hb dX1_measureAngles_0 ?_
    refine lv_istore (lv' := [(4, .int (iI 0)), (0, .ref (a 20)), (1, .ref (a 0)), (2, .int (iI t)), (3, .int (iI n8))]) hx hb dX1_measureAngles_1 hl (by decide) rfl (fun ls hl => ?_)
    refine k_iconst hx hb dX1_measureAngles_3 ?_
    refine lv_istore (lv' := [(5, .int (iI 0)), (4, .int (iI 0)), (0, .ref (a 20)), (1, .ref (a 0)), (2, .int (iI t)), (3, .int (iI n8))]) hx hb dX1_measureAngles_4 hl (by decide) rfl (fun ls hl => ?_)
    refine lv_aload_n hx hb dX1_measureAngles_6 rfl (lv_at hl 3 rfl) ?_
    refine lv_iload_n hx hb dX1_measureAngles_7 rfl (lv_at hl 4 rfl) ?_
    refine k_iconst hx hb dX1_measureAngles_8 ?_
    refine k_roS (As := [.int (iI t), .int (iI 0)]) (rest := [.ref (a 0)]) ⟨hx, hb, hml, hown, hts⟩ (c_X4_slot l D t 0 ) gX1_measureAngles_X4_slot rfl ⟨rfl, rfl⟩ 2 rfl (by decide +kernel) ⟨Nat.le_of_ble_eq_true rfl, Nat.le_of_ble_eq_true rfl⟩ kGT_ok trivial (fun k q h => by simp at h) hl.1 rfl (Nat.le_of_ble_eq_true rfl) ⟨Nat.le_of_ble_eq_true rfl, Nat.le_of_ble_eq_true rfl⟩ dX1_measureAngles_9 (fun r_1 hr_1 => ?_)
    have hr_1 : r_1 = 12 * t + 0 := hr_1
    subst hr_1
    refine k_roV (As := [.int (iI (12 * t + 0))]) (rest := []) ⟨hx, hb, hml, hown, hts⟩ (c_X4_angleAt l D cy a P (12 * t + 0) hI (show 0 ≤ (12 * t + 0) ∧ (12 * t + 0) < 144 by omega) (show 0 ≤ P 2 (12 * t + 0) ∧ P 2 (12 * t + 0) ≤ 1000 by omega) (show -7000 ≤ dplX P (12 * t + 0) (P 8 1) - P 0 2 ∧ dplX P (12 * t + 0) (P 8 1) - P 0 2 ≤ 7000 by omega) (show -7000 ≤ dplY P (12 * t + 0) (P 8 2) - P 0 3 ∧ dplY P (12 * t + 0) (P 8 2) - P 0 3 ≤ 7000 by omega)) gX1_measureAngles_X4_angleAt rfl ⟨rfl, rfl⟩ 1 rfl (by decide +kernel) ⟨Nat.le_of_ble_eq_true rfl, Nat.le_of_ble_eq_true rfl⟩ (GG_ok D cy) ((GG_ok D cy).2.2.2 _ _ _ _ (fun _ h => h.elim) ((GG_ok D cy).1 _ _ _ _ hS.2.1 hG)) (hP.sub (ws' := (plW cy a P)) [9, 10, 11, 12, 13, 14, 15, 16, 17] rfl) (va_recv hK hP (ci := 3) (q0 := 9) rfl rfl) hl.1 rfl (Nat.le_of_ble_eq_true rfl) ⟨Nat.le_of_ble_eq_true rfl, Nat.le_of_ble_eq_true rfl⟩ dX1_measureAngles_12 (fun r_2 hr_2 => ?_)
    have hr_2 : r_2 = angF (dplX P (12 * t + 0) (P 8 1) - P 0 2) (dplY P (12 * t + 0) (P 8 2) - P 0 3) := hr_2
    subst hr_2
    refine k_eqI (v := angF (dplX P (12 * t + 0) (P 8 1) - P 0 2) (dplY P (12 * t + 0) (P 8 2) - P 0 3)) (w := angOf (mO P) t 0) (han0.symm) ?_
    refine lv_istore (lv' := [(6, .int (iI (angOf (mO P) t 0))), (5, .int (iI 0)), (4, .int (iI 0)), (0, .ref (a 20)), (1, .ref (a 0)), (2, .int (iI t)), (3, .int (iI n8))]) hx hb dX1_measureAngles_15 hl (by decide) rfl (fun ls hl => ?_)
    refine lv_aload_n hx hb dX1_measureAngles_17 rfl (lv_at hl 3 rfl) ?_
    refine va_get (D := D) (ci := 0) (v := .ref (a 27)) (C := RX1) (T := TX1) (N := 8) hx hb hts hinX1 hown hK hP 0 rfl rfl 6 (by decide) hm0 (fun _ h9 => h9) rfl dX1_measureAngles_18 ?_
    refine lv_iload_n hx hb dX1_measureAngles_21 rfl (lv_at hl 5 rfl) ?_
    refine lv_iload hx hb dX1_measureAngles_22 (lv_at hl 0 rfl) ?_
    refine k_iast hx hb hK hP hD hS 7 0 (f := P 27) rfl rfl (i := t) (x := angOf (mO P) t 0) (by omega) dX1_measureAngles_24 (fun H locs hP hD hS => ?_)
    have hP : va_P D vwCl (fgplW cy a (upr P 27 (ups (P 27) t (angOf (mO P) t 0)))) H := hP
    have hD : va_D (va_A (fgplW cy a P) sz) (fgplW cy a (upr P 27 (ups (P 27) t (angOf (mO P) t 0)))) := hD
    refine k_iconst hx hb dX1_measureAngles_25 ?_
    refine lv_istore (lv' := [(7, .int (iI 1)), (6, .int (iI (angOf (mO P) t 0))), (5, .int (iI 0)), (4, .int (iI 0)), (0, .ref (a 20)), (1, .ref (a 0)), (2, .int (iI t)), (3, .int (iI n8))]) hx hb dX1_measureAngles_26 hl (by decide) rfl (fun ls hl => ?_)
    have loop28 : ∀ (n_3 : Nat) (q : Int) (x6 : Int) (x5 : Int) (x4 : Int) (hi0 : 1 ≤ q) (hi1 : q ≤ P 1 t) (hex6 : x6 = angOf (mO P) t (q - 1)) (hex5 : x5 = sumZ (fun k => if mO P 6 < frm (mO P) t (k + 1) - frm (mO P) t k then 1 else 0) (q - 1)) (hex4 : x4 = sumZ (fun k => turnI (angOf (mO P) t k) (angOf (mO P) t (k + 1))) (q - 1)) (hn : P 1 t - q < (n_3 : Int)) (ls : Array Slot) (hl : lv_has ls 10 [(7, .int (iI q)), (6, .int (iI x6)), (5, .int (iI x5)), (4, .int (iI x4)), (0, .ref (a 20)), (1, .ref (a 0)), (2, .int (iI t)), (3, .int (iI n8))]), W p l e { frames := 3, cells := 0, slots := 0, locals := 73 } s m ([.ref (a 20), .ref (a 0), .int (iI t), .int (iI n8)] : List Value).toArray below meth c H locs 0 0 (MQ below (kQv D (fgplW cy a P) sz (fun u9 : Nat → Int → Int => fgplW cy a u9) (fun u9 => u9 = (upr (upr (upr P 23 (ups (P 23) t (swp (mO P) t))) 26 (ups (P 26) t (gapN (mO P) t))) 27 (ups (P 27) t (angOf (mO P) t 0))))) ([.ref (a 20), .ref (a 0), .int (iI t), .int (iI n8)] : List Value).toArray s 0 0 (va_A (fgplW cy a P) sz)) (F0 m 28 ls []) := by
      intro n_3
      induction n_3 with
      | zero => intro q x6 x5 x4 hi0 hi1 hex6 hex5 hex4 hn ls hl; exfalso; omega
      | succ n_3 ih28 =>
        intro q x6 x5 x4 hi0 hi1 hex6 hex5 hex4 hn ls hl
        subst hex6
        subst hex5
        subst hex4
        refine lv_iload hx hb dX1_measureAngles_28 (lv_at hl 0 rfl) ?_
        refine lv_iload_n hx hb dX1_measureAngles_30 rfl (lv_at hl 7 rfl) ?_
        refine k_icmp_ge (tgt := 102) hx hb dX1_measureAngles_31 (by decide) (by omega) (by omega) (fun c_4 => ?_) (fun c_4 => ?_)
        · skip
          refine lv_aload_n hx hb dX1_measureAngles_102 rfl (lv_at hl 4 rfl) ?_
          refine va_get (D := D) (ci := 0) (v := .ref (a 23)) (C := RX1) (T := TX1) (N := 8) hx hb hts hinX1 hown hK hP 0 rfl rfl 2 (by decide) hm1 (fun _ h9 => h9) rfl dX1_measureAngles_103 ?_
          refine lv_iload_n hx hb dX1_measureAngles_106 rfl (lv_at hl 6 rfl) ?_
          refine lv_iload hx hb dX1_measureAngles_107 (lv_at hl 3 rfl) ?_
          refine k_iast hx hb hK hP hD hS 3 0 (f := P 23) rfl rfl (i := t) (x := sumZ (fun k => turnI (angOf (mO P) t k) (angOf (mO P) t (k + 1))) (q - 1)) (by omega) dX1_measureAngles_109 (fun H locs hP hD hS => ?_)
          have hP : va_P D vwCl (fgplW cy a (upr (upr P 23 (ups (P 23) t (sumZ (fun k => turnI (angOf (mO P) t k) (angOf (mO P) t (k + 1))) (q - 1)))) 27 (ups (P 27) t (angOf (mO P) t 0)))) H := hP
          have hD : va_D (va_A (fgplW cy a P) sz) (fgplW cy a (upr (upr P 23 (ups (P 23) t (sumZ (fun k => turnI (angOf (mO P) t k) (angOf (mO P) t (k + 1))) (q - 1)))) 27 (ups (P 27) t (angOf (mO P) t 0)))) := hD
          refine lv_aload_n hx hb dX1_measureAngles_110 rfl (lv_at hl 4 rfl) ?_
          refine va_get (D := D) (ci := 0) (v := .ref (a 26)) (C := RX1) (T := TX1) (N := 8) hx hb hts hinX1 hown hK hP 0 rfl rfl 5 (by decide) hm2 (fun _ h9 => h9) rfl dX1_measureAngles_111 ?_
          refine lv_iload_n hx hb dX1_measureAngles_114 rfl (lv_at hl 6 rfl) ?_
          refine lv_iload hx hb dX1_measureAngles_115 (lv_at hl 2 rfl) ?_
          refine k_iast hx hb hK hP hD hS 6 0 (f := P 26) rfl rfl (i := t) (x := sumZ (fun k => if mO P 6 < frm (mO P) t (k + 1) - frm (mO P) t k then 1 else 0) (q - 1)) (by omega) dX1_measureAngles_117 (fun H locs hP hD hS => ?_)
          have hP : va_P D vwCl (fgplW cy a (upr (upr (upr P 23 (ups (P 23) t (sumZ (fun k => turnI (angOf (mO P) t k) (angOf (mO P) t (k + 1))) (q - 1)))) 26 (ups (P 26) t (sumZ (fun k => if mO P 6 < frm (mO P) t (k + 1) - frm (mO P) t k then 1 else 0) (q - 1)))) 27 (ups (P 27) t (angOf (mO P) t 0)))) H := hP
          have hD : va_D (va_A (fgplW cy a P) sz) (fgplW cy a (upr (upr (upr P 23 (ups (P 23) t (sumZ (fun k => turnI (angOf (mO P) t k) (angOf (mO P) t (k + 1))) (q - 1)))) 26 (ups (P 26) t (sumZ (fun k => if mO P 6 < frm (mO P) t (k + 1) - frm (mO P) t k then 1 else 0) (q - 1)))) 27 (ups (P 27) t (angOf (mO P) t 0)))) := hD
          exact W.vret hx hb hr (fun t9 ht _ => ⟨⟨(upr (upr (upr P 23 (ups (P 23) t (sumZ (fun k => turnI (angOf (mO P) t k) (angOf (mO P) t (k + 1))) (q - 1)))) 26 (ups (P 26) t (sumZ (fun k => if mO P 6 < frm (mO P) t (k + 1) - frm (mO P) t k then 1 else 0) (q - 1)))) 27 (ups (P 27) t (angOf (mO P) t 0))), rfl, ((by rw [show (ups (P 23) t (sumZ (fun k => turnI (angOf (mO P) t k) (angOf (mO P) t (k + 1))) (q - 1))) = (ups (P 23) t (swp (mO P) t)) from by have e9 : q = P 1 t := (by omega); unfold swp; rw [hepts, e9], show (ups (P 26) t (sumZ (fun k => if mO P 6 < frm (mO P) t (k + 1) - frm (mO P) t k then 1 else 0) (q - 1))) = (ups (P 26) t (gapN (mO P) t)) from by have e9 : q = P 1 t := (by omega); unfold gapN; rw [hepts, e9]]) : (upr (upr (upr P 23 (ups (P 23) t (sumZ (fun k => turnI (angOf (mO P) t k) (angOf (mO P) t (k + 1))) (q - 1)))) 26 (ups (P 26) t (sumZ (fun k => if mO P 6 < frm (mO P) t (k + 1) - frm (mO P) t k then 1 else 0) (q - 1)))) 27 (ups (P 27) t (angOf (mO P) t 0))) = (upr (upr (upr P 23 (ups (P 23) t (swp (mO P) t))) 26 (ups (P 26) t (gapN (mO P) t))) 27 (ups (P 27) t (angOf (mO P) t 0)))), by rw [ht]; exact hP, hD⟩, hS.F ht⟩) hS.2.2 dX1_measureAngles_118 hlocks
        · skip
          have hpt := po_pt hI h0 h1 (show 0 ≤ q by omega) (show q < P 1 t by omega)
          have hpu := po_pt hI h0 h1 (show 0 ≤ q - 1 by omega) (show q - 1 < P 1 t by omega)
          have hdd := dxy_mO hI h0 h1 (show 0 ≤ q by omega) (show q < P 1 t by omega)
          have han := an_mO P (t := t) (q := q) h0 (by omega) (by omega) (by omega)
          have hfq := mO_frm P (t := t) (q := q) h0 (by omega) (by omega) (by omega)
          have hfp := mO_frm P (t := t) (q := q - 1) h0 (by omega) (by omega) (by omega)
          have hix : 12 * t + q - 1 = 12 * t + (q - 1) := by omega
          have ha1 := inv_ang (M := mO P) t (q - 1)
          have ha2 := inv_ang (M := mO P) t q
          refine lv_iload_n hx hb dX1_measureAngles_34 rfl (lv_at hl 6 rfl) ?_
          refine lv_iload hx hb dX1_measureAngles_35 (lv_at hl 0 rfl) ?_
          refine k_roS (As := [.int (iI t), .int (iI q)]) (rest := []) ⟨hx, hb, hml, hown, hts⟩ (c_X4_slot l D t q ) gX1_measureAngles_X4_slot rfl ⟨rfl, rfl⟩ 2 rfl (by decide +kernel) ⟨Nat.le_of_ble_eq_true rfl, Nat.le_of_ble_eq_true rfl⟩ kGT_ok trivial (fun k q h => by simp at h) hl.1 rfl (Nat.le_of_ble_eq_true rfl) ⟨Nat.le_of_ble_eq_true rfl, Nat.le_of_ble_eq_true rfl⟩ dX1_measureAngles_37 (fun r_5 hr_5 => ?_)
          have hr_5 : r_5 = 12 * t + q := hr_5
          subst hr_5
          refine lv_istore (lv' := [(8, .int (iI (12 * t + q))), (7, .int (iI q)), (6, .int (iI (angOf (mO P) t (q - 1)))), (5, .int (iI (sumZ (fun k => if mO P 6 < frm (mO P) t (k + 1) - frm (mO P) t k then 1 else 0) (q - 1)))), (4, .int (iI (sumZ (fun k => turnI (angOf (mO P) t k) (angOf (mO P) t (k + 1))) (q - 1)))), (0, .ref (a 20)), (1, .ref (a 0)), (2, .int (iI t)), (3, .int (iI n8))]) hx hb dX1_measureAngles_40 hl (by decide) rfl (fun ls hl => ?_)
          refine lv_aload_n hx hb dX1_measureAngles_42 rfl (lv_at hl 6 rfl) ?_
          refine lv_iload hx hb dX1_measureAngles_43 (lv_at hl 0 rfl) ?_
          refine k_roV (As := [.int (iI (12 * t + q))]) (rest := []) ⟨hx, hb, hml, hown, hts⟩ (c_X4_angleAt l D cy a (upr P 27 (ups (P 27) t (angOf (mO P) t 0))) (12 * t + q) hI (show 0 ≤ (12 * t + q) ∧ (12 * t + q) < 144 by omega) (show 0 ≤ (P 2) (12 * t + q) ∧ (P 2) (12 * t + q) ≤ 1000 by omega) (show -7000 ≤ dplX P (12 * t + q) ((P 8) 1) - (P 0) 2 ∧ dplX P (12 * t + q) ((P 8) 1) - (P 0) 2 ≤ 7000 by omega) (show -7000 ≤ dplY P (12 * t + q) ((P 8) 2) - (P 0) 3 ∧ dplY P (12 * t + q) ((P 8) 2) - (P 0) 3 ≤ 7000 by omega)) gX1_measureAngles_X4_angleAt rfl ⟨rfl, rfl⟩ 1 rfl (by decide +kernel) ⟨Nat.le_of_ble_eq_true rfl, Nat.le_of_ble_eq_true rfl⟩ (GG_ok D cy) ((GG_ok D cy).2.2.2 _ _ _ _ (fun _ h => h.elim) ((GG_ok D cy).1 _ _ _ _ hS.2.1 hG)) (hP.sub (ws' := (plW cy a (upr P 27 (ups (P 27) t (angOf (mO P) t 0))))) [9, 10, 11, 12, 13, 14, 15, 16, 17] rfl) (va_recv hK hP (ci := 3) (q0 := 9) rfl rfl) hl.1 rfl (Nat.le_of_ble_eq_true rfl) ⟨Nat.le_of_ble_eq_true rfl, Nat.le_of_ble_eq_true rfl⟩ dX1_measureAngles_45 (fun r_6 hr_6 => ?_)
          have hr_6 : r_6 = angF (dplX P (12 * t + q) ((P 8) 1) - (P 0) 2) (dplY P (12 * t + q) ((P 8) 2) - (P 0) 3) := hr_6
          subst hr_6
          refine k_eqI (v := angF (dplX P (12 * t + q) ((P 8) 1) - (P 0) 2) (dplY P (12 * t + q) ((P 8) 2) - (P 0) 3)) (w := angOf (mO P) t q) (han.symm) ?_
          refine lv_istore (lv' := [(9, .int (iI (angOf (mO P) t q))), (8, .int (iI (12 * t + q))), (7, .int (iI q)), (6, .int (iI (angOf (mO P) t (q - 1)))), (5, .int (iI (sumZ (fun k => if mO P 6 < frm (mO P) t (k + 1) - frm (mO P) t k then 1 else 0) (q - 1)))), (4, .int (iI (sumZ (fun k => turnI (angOf (mO P) t k) (angOf (mO P) t (k + 1))) (q - 1)))), (0, .ref (a 20)), (1, .ref (a 0)), (2, .int (iI t)), (3, .int (iI n8))]) hx hb dX1_measureAngles_48 hl (by decide) rfl (fun ls hl => ?_)
          refine lv_iload hx hb dX1_measureAngles_50 (lv_at hl 5 rfl) ?_
          refine lv_iload hx hb dX1_measureAngles_52 (lv_at hl 3 rfl) ?_
          refine lv_iload hx hb dX1_measureAngles_54 (lv_at hl 0 rfl) ?_
          refine k_roS (As := [.int (iI (angOf (mO P) t (q - 1))), .int (iI (angOf (mO P) t q))]) (rest := [.int (iI (sumZ (fun k => turnI (angOf (mO P) t k) (angOf (mO P) t (k + 1))) (q - 1)))]) ⟨hx, hb, hml, hown, hts⟩ (c_X0_turn l D (angOf (mO P) t (q - 1)) (angOf (mO P) t q) (show 0 ≤ (angOf (mO P) t (q - 1)) ∧ (angOf (mO P) t (q - 1)) < 360000 by omega) (show 0 ≤ (angOf (mO P) t q) ∧ (angOf (mO P) t q) < 360000 by omega)) gX1_measureAngles_X0_turn rfl ⟨rfl, rfl⟩ 2 rfl (by decide +kernel) ⟨Nat.le_of_ble_eq_true rfl, Nat.le_of_ble_eq_true rfl⟩ kGT_ok trivial (fun k q h => by simp at h) hl.1 rfl (Nat.le_of_ble_eq_true rfl) ⟨Nat.le_of_ble_eq_true rfl, Nat.le_of_ble_eq_true rfl⟩ dX1_measureAngles_56 (fun r_7 hr_7 => ?_)
          have hr_7 : r_7 = turnI (angOf (mO P) t (q - 1)) (angOf (mO P) t q) := hr_7
          subst hr_7
          refine k_iadd hx hb dX1_measureAngles_59 ?_
          refine lv_istore (lv' := [(4, .int (iI ((sumZ (fun k => turnI (angOf (mO P) t k) (angOf (mO P) t (k + 1))) (q - 1)) + (turnI (angOf (mO P) t (q - 1)) (angOf (mO P) t q))))), (9, .int (iI (angOf (mO P) t q))), (8, .int (iI (12 * t + q))), (7, .int (iI q)), (6, .int (iI (angOf (mO P) t (q - 1)))), (5, .int (iI (sumZ (fun k => if mO P 6 < frm (mO P) t (k + 1) - frm (mO P) t k then 1 else 0) (q - 1)))), (0, .ref (a 20)), (1, .ref (a 0)), (2, .int (iI t)), (3, .int (iI n8))]) hx hb dX1_measureAngles_60 hl (by decide) rfl (fun ls hl => ?_)
          refine lv_iload hx hb dX1_measureAngles_62 (lv_at hl 1 rfl) ?_
          refine lv_istore (lv' := [(6, .int (iI (angOf (mO P) t q))), (4, .int (iI ((sumZ (fun k => turnI (angOf (mO P) t k) (angOf (mO P) t (k + 1))) (q - 1)) + (turnI (angOf (mO P) t (q - 1)) (angOf (mO P) t q))))), (9, .int (iI (angOf (mO P) t q))), (8, .int (iI (12 * t + q))), (7, .int (iI q)), (5, .int (iI (sumZ (fun k => if mO P 6 < frm (mO P) t (k + 1) - frm (mO P) t k then 1 else 0) (q - 1)))), (0, .ref (a 20)), (1, .ref (a 0)), (2, .int (iI t)), (3, .int (iI n8))]) hx hb dX1_measureAngles_64 hl (by decide) rfl (fun ls hl => ?_)
          refine lv_aload_n hx hb dX1_measureAngles_66 rfl (lv_at hl 7 rfl) ?_
          refine va_get (D := D) (ci := 3) (v := .ref (a 2)) (C := RX4) (T := TX4) (N := 12) hx hb hts hinX4 hown hK hP 9 rfl rfl 5 (by decide) hm3 (fun _ h9 => h9) rfl dX1_measureAngles_67 ?_
          refine lv_iload hx hb dX1_measureAngles_70 (lv_at hl 3 rfl) ?_
          refine k_iald hx hb hK hP 11 0 (f := P 2) rfl rfl (i := 12 * t + q) (by omega) dX1_measureAngles_72 ?_
          refine lv_aload_n hx hb dX1_measureAngles_73 rfl (lv_at hl 7 rfl) ?_
          refine va_get (D := D) (ci := 3) (v := .ref (a 2)) (C := RX4) (T := TX4) (N := 12) hx hb hts hinX4 hown hK hP 9 rfl rfl 5 (by decide) hm3 (fun _ h9 => h9) rfl dX1_measureAngles_74 ?_
          refine lv_iload hx hb dX1_measureAngles_77 (lv_at hl 3 rfl) ?_
          refine k_iconst hx hb dX1_measureAngles_79 ?_
          refine k_isub hx hb dX1_measureAngles_80 ?_
          refine k_iald hx hb hK hP 11 0 (f := P 2) rfl rfl (i := (12 * t + q) - 1) (by omega) dX1_measureAngles_81 ?_
          refine k_eqI (v := P 2 ((12 * t + q) - 1)) (w := P 2 (12 * t + (q - 1))) (by rw [hix]) ?_
          refine k_isub hx hb dX1_measureAngles_82 ?_
          refine lv_aload_n hx hb dX1_measureAngles_83 rfl (lv_at hl 7 rfl) ?_
          refine va_get (D := D) (ci := 3) (v := .ref (a 8)) (C := RX4) (T := TX4) (N := 12) hx hb hts hinX4 hown hK hP 9 rfl rfl 11 (by decide) hm4 (fun _ h9 => h9) rfl dX1_measureAngles_84 ?_
          refine k_bipush hx hb dX1_measureAngles_87 (by decide +kernel) ?_
          refine k_iald hx hb hK hP 17 0 (f := P 8) rfl rfl (i := 6) (by omega) dX1_measureAngles_89 ?_
          refine k_icmp_le (tgt := 96) hx hb dX1_measureAngles_90 (by decide) (by omega) (by omega) (fun c_8 => ?_) (fun c_8 => ?_)
          · skip
            refine lv_iinc (v := iI (q + 1)) (lv' := [(7, .int (iI (q + 1))), (6, .int (iI (angOf (mO P) t q))), (4, .int (iI ((sumZ (fun k => turnI (angOf (mO P) t k) (angOf (mO P) t (k + 1))) (q - 1)) + (turnI (angOf (mO P) t (q - 1)) (angOf (mO P) t q))))), (9, .int (iI (angOf (mO P) t q))), (8, .int (iI (12 * t + q))), (5, .int (iI (sumZ (fun k => if mO P 6 < frm (mO P) t (k + 1) - frm (mO P) t k then 1 else 0) (q - 1)))), (0, .ref (a 20)), (1, .ref (a 0)), (2, .int (iI t)), (3, .int (iI n8))]) hx hb dX1_measureAngles_96 hl (k := 4) rfl (iI_add _ _) (by decide) rfl (fun ls hl => ?_)
            refine lv_goto (tgt := 28) hx hb dX1_measureAngles_99 (by decide) ?_
            exact ih28 (q + 1) (angOf (mO P) t q) (sumZ (fun k => if mO P 6 < frm (mO P) t (k + 1) - frm (mO P) t k then 1 else 0) (q - 1)) ((sumZ (fun k => turnI (angOf (mO P) t k) (angOf (mO P) t (k + 1))) (q - 1)) + (turnI (angOf (mO P) t (q - 1)) (angOf (mO P) t q))) (by omega) (by omega) (by show angOf (mO P) t q = angOf (mO P) t (q + 1 - 1); rw [show q + 1 - 1 = q by omega]) (by rw [← sumZ_p (fun a b => if mO P 6 < frm (mO P) t b - frm (mO P) t a then (1 : Int) else 0) hi0]; (try dsimp only); split <;> omega) (sumZ_p (fun a b => turnI (angOf (mO P) t a) (angOf (mO P) t b)) hi0) (by omega) ls (lv_sub hl [0, 1, 5, 2, 6, 7, 8, 9] rfl)
          · skip
            refine lv_iinc (v := iI ((sumZ (fun k => if mO P 6 < frm (mO P) t (k + 1) - frm (mO P) t k then 1 else 0) (q - 1)) + 1)) (lv' := [(5, .int (iI ((sumZ (fun k => if mO P 6 < frm (mO P) t (k + 1) - frm (mO P) t k then 1 else 0) (q - 1)) + 1))), (6, .int (iI (angOf (mO P) t q))), (4, .int (iI ((sumZ (fun k => turnI (angOf (mO P) t k) (angOf (mO P) t (k + 1))) (q - 1)) + (turnI (angOf (mO P) t (q - 1)) (angOf (mO P) t q))))), (9, .int (iI (angOf (mO P) t q))), (8, .int (iI (12 * t + q))), (7, .int (iI q)), (0, .ref (a 20)), (1, .ref (a 0)), (2, .int (iI t)), (3, .int (iI n8))]) hx hb dX1_measureAngles_93 hl (k := 5) rfl (iI_add _ _) (by decide) rfl (fun ls hl => ?_)
            refine lv_iinc (v := iI (q + 1)) (lv' := [(7, .int (iI (q + 1))), (5, .int (iI ((sumZ (fun k => if mO P 6 < frm (mO P) t (k + 1) - frm (mO P) t k then 1 else 0) (q - 1)) + 1))), (6, .int (iI (angOf (mO P) t q))), (4, .int (iI ((sumZ (fun k => turnI (angOf (mO P) t k) (angOf (mO P) t (k + 1))) (q - 1)) + (turnI (angOf (mO P) t (q - 1)) (angOf (mO P) t q))))), (9, .int (iI (angOf (mO P) t q))), (8, .int (iI (12 * t + q))), (0, .ref (a 20)), (1, .ref (a 0)), (2, .int (iI t)), (3, .int (iI n8))]) hx hb dX1_measureAngles_96 hl (k := 5) rfl (iI_add _ _) (by decide) rfl (fun ls hl => ?_)
            refine lv_goto (tgt := 28) hx hb dX1_measureAngles_99 (by decide) ?_
            exact ih28 (q + 1) (angOf (mO P) t q) ((sumZ (fun k => if mO P 6 < frm (mO P) t (k + 1) - frm (mO P) t k then 1 else 0) (q - 1)) + 1) ((sumZ (fun k => turnI (angOf (mO P) t k) (angOf (mO P) t (k + 1))) (q - 1)) + (turnI (angOf (mO P) t (q - 1)) (angOf (mO P) t q))) (by omega) (by omega) (by show angOf (mO P) t q = angOf (mO P) t (q + 1 - 1); rw [show q + 1 - 1 = q by omega]) (by rw [← sumZ_p (fun a b => if mO P 6 < frm (mO P) t b - frm (mO P) t a then (1 : Int) else 0) hi0]; (try dsimp only); split <;> omega) (sumZ_p (fun a b => turnI (angOf (mO P) t a) (angOf (mO P) t b)) hi0) (by omega) ls (lv_sub hl [0, 2, 1, 3, 6, 7, 8, 9] rfl)
    exact loop28 ((P 1 t - 1 : Int) + 1).toNat 1 (angOf (mO P) t 0) 0 0 (by omega) (by omega) (rfl) (rfl) (rfl) (by omega) ls (lv_sub hl [0, 1, 2, 3, 4, 5, 6, 7] rfl)
  exact hbody s.heap [] hP hS ls hl
set_option maxHeartbeats 4000000 in
set_option maxRecDepth 100000 in
theorem c_X1_judge (l : Launch) (D : va_G) (cy : Nat → ClassId) (sz : Nat) (a : Nat → Nat) (P : Nat → Int → Int) (t : Int) (hI : Inv (mO P)) (h0 : 0 ≤ t) (h1 : t < P 0 0) (hp0 : 0 < P 1 t) (hsw : P 23 t = swp (mO P) t) (hsp : P 22 t = sprd (mO P) t) : Met l yX1_judge wsX1_judge { frames := 2, cells := 0, slots := 0, locals := 43 } (mPre (GG D cy) D (fgplW cy a P) sz ([.ref (a 20), .ref (a 0), .int (iI t)] : List Value)) (kQv D (fgplW cy a P) sz (fun u9 : Nat → Int → Int => fgplW cy a u9) (fun u9 => u9 = (upr (upr (upr P 24 (ups (P 24) t (mO P 0 * fspan (mO P) t))) 25 (ups (P 25) t (misf (mO P) t))) 28 (ups (P 28) t (goodN (mO P) t))))) 0 0 (va_A (fgplW cy a P) sz) := by
  refine kM_start (cc := cX1_judge) (maxL := 3) (ret := none) (by decide) rfl (Nat.le_of_ble_eq_true rfl) ?_
  intro p e s m below meth c hx hb hr hlocks hml hts hown hsz hA hG hP hD hS hin ls hl
  have hK := hG.1
  have hl : lv_has ls 3 [(0, .ref (a 20)), (1, .ref (a 0)), (2, .int (iI t))] := hl
  have hinX1 : ∀ w ∈ u_ws RX1 TX1 8, w ∈ wsX1_judge := by decide +kernel
  have hinX4 : ∀ w ∈ u_ws RX4 TX4 12, w ∈ wsX1_judge := by decide +kernel
  have hm0 := hts (.fieldLink RX1 21 "ArcPlate$Figures" "expected" "[I") (by decide +kernel)
  have hm1 := hts (.fieldLink RX1 89 "ArcPlate$Plate" "settings" "[I") (by decide +kernel)
  have hm2 := hts (.fieldLink RX1 24 "ArcPlate$Figures" "misfit" "[I") (by decide +kernel)
  have hm3 := hts (.fieldLink RX1 18 "ArcPlate$Figures" "sweep" "[I") (by decide +kernel)
  have hm4 := hts (.methodLink RX1 95 Lib.Math.abs.name) (by decide +kernel)
  have hm5 := hts (.static Lib.Math.abs.name) (by decide +kernel)
  have hm6 := hts (.initialized "java/lang/Math") (by decide +kernel)
  have hm7 := hts (.code Lib.Math.abs.name Lib.Math.abs.code 1 (some .int)) (by decide +kernel)
  have hm8 := hts (.fieldLink RX1 33 "ArcPlate$Figures" "good" "[Z") (by decide +kernel)
  have hm9 := hts (.fieldLink RX1 43 "ArcPlate$Plate" "points" "[I") (by decide +kernel)
  have hm10 := hts (.fieldLink RX1 15 "ArcPlate$Figures" "spread" "[I") (by decide +kernel)
  have hS0 := po_S hI
  have hp := po_pts hI h0 h1
  have hset := po_set hI
  have hepts := mO_pts P (t := t) h0 (by omega)
  have h00 : mO P 0 = P 8 0 := mO_set P (by decide)
  have h33 : mO P 3 = P 8 3 := mO_set P (by decide)
  have h44 : mO P 4 = P 8 4 := mO_set P (by decide)
  have hsw9 := swp_p hI h0 h1 hp0
  have hbody : ∀ (H : Heap) (locs : List Loc) (hP : va_P D vwCl (fgplW cy a P) H) (hS : va_S (va_A (fgplW cy a P) sz) s.heap H locs) (ls : Array Slot) (hl : lv_has ls 3 [(0, .ref (a 20)), (1, .ref (a 0)), (2, .int (iI t))]), W p l e { frames := 2, cells := 0, slots := 0, locals := 43 } s m ([.ref (a 20), .ref (a 0), .int (iI t)] : List Value).toArray below meth c H locs 0 0 (MQ below (kQv D (fgplW cy a P) sz (fun u9 : Nat → Int → Int => fgplW cy a u9) (fun u9 => u9 = (upr (upr (upr P 24 (ups (P 24) t (mO P 0 * fspan (mO P) t))) 25 (ups (P 25) t (misf (mO P) t))) 28 (ups (P 28) t (goodN (mO P) t))))) ([.ref (a 20), .ref (a 0), .int (iI t)] : List Value).toArray s 0 0 (va_A (fgplW cy a P) sz)) (F0 m 0 ls []) := by
    intro H locs hP hS ls hl
    refine lv_aload_n hx hb dX1_judge_0 rfl (lv_at hl 0 rfl) ?_
    refine va_get (D := D) (ci := 0) (v := .ref (a 24)) (C := RX1) (T := TX1) (N := 8) hx hb hts hinX1 hown hK hP 0 rfl rfl 3 (by decide) hm0 (fun _ h9 => h9) rfl dX1_judge_1 ?_
    refine lv_iload_n hx hb dX1_judge_4 rfl (lv_at hl 2 rfl) ?_
    refine lv_aload_n hx hb dX1_judge_5 rfl (lv_at hl 1 rfl) ?_
    refine va_get (D := D) (ci := 3) (v := .ref (a 8)) (C := RX4) (T := TX4) (N := 12) hx hb hts hinX4 hown hK hP 9 rfl rfl 11 (by decide) hm1 (fun _ h9 => h9) rfl dX1_judge_6 ?_
    refine k_iconst hx hb dX1_judge_9 ?_
    refine k_iald hx hb hK hP 17 0 (f := P 8) rfl rfl (i := 0) (by omega) dX1_judge_10 ?_
    refine lv_aload_n hx hb dX1_judge_11 rfl (lv_at hl 1 rfl) ?_
    refine lv_iload_n hx hb dX1_judge_12 rfl (lv_at hl 2 rfl) ?_
    refine k_roV (As := [.int (iI t)]) (rest := [.int (iI (P 8 0)), .int (iI t), .ref (a 24)]) ⟨hx, hb, hml, hown, hts⟩ (c_X4_frameSpan l D cy a P t hI (show 0 ≤ t by omega) (show t < P 0 0 by omega) (show 0 < P 1 t by omega)) gX1_judge_X4_frameSpan rfl ⟨rfl, rfl⟩ 1 rfl (by decide +kernel) ⟨Nat.le_of_ble_eq_true rfl, Nat.le_of_ble_eq_true rfl⟩ (GG_ok D cy) ((GG_ok D cy).2.2.2 _ _ _ _ (fun _ h => h.elim) ((GG_ok D cy).1 _ _ _ _ hS.2.1 hG)) (hP.sub (ws' := (plW cy a P)) [9, 10, 11, 12, 13, 14, 15, 16, 17] rfl) (va_recv hK hP (ci := 3) (q0 := 9) rfl rfl) hl.1 rfl (Nat.le_of_ble_eq_true rfl) ⟨Nat.le_of_ble_eq_true rfl, Nat.le_of_ble_eq_true rfl⟩ dX1_judge_13 (fun r_1 hr_1 => ?_)
    have hr_1 : r_1 = fspan (mO P) t := hr_1
    subst hr_1
    refine k_imul hx hb dX1_judge_16 ?_
    refine k_iast hx hb hK hP hD hS 4 0 (f := P 24) rfl rfl (i := t) (x := (P 8 0) * (fspan (mO P) t)) (by omega) dX1_judge_17 (fun H locs hP hD hS => ?_)
    have hP : va_P D vwCl (fgplW cy a (upr P 24 (ups (P 24) t ((P 8 0) * (fspan (mO P) t))))) H := hP
    have hD : va_D (va_A (fgplW cy a P) sz) (fgplW cy a (upr P 24 (ups (P 24) t ((P 8 0) * (fspan (mO P) t))))) := hD
    refine lv_aload_n hx hb dX1_judge_18 rfl (lv_at hl 0 rfl) ?_
    refine va_get (D := D) (ci := 0) (v := .ref (a 25)) (C := RX1) (T := TX1) (N := 8) hx hb hts hinX1 hown hK hP 0 rfl rfl 4 (by decide) hm2 (fun _ h9 => h9) rfl dX1_judge_19 ?_
    refine lv_iload_n hx hb dX1_judge_22 rfl (lv_at hl 2 rfl) ?_
    refine lv_aload_n hx hb dX1_judge_23 rfl (lv_at hl 0 rfl) ?_
    refine va_get (D := D) (ci := 0) (v := .ref (a 23)) (C := RX1) (T := TX1) (N := 8) hx hb hts hinX1 hown hK hP 0 rfl rfl 2 (by decide) hm3 (fun _ h9 => h9) rfl dX1_judge_24 ?_
    refine lv_iload_n hx hb dX1_judge_27 rfl (lv_at hl 2 rfl) ?_
    refine k_iald hx hb hK hP 3 0 (f := P 23) rfl rfl (i := t) (by omega) dX1_judge_28 ?_
    refine lv_aload_n hx hb dX1_judge_29 rfl (lv_at hl 0 rfl) ?_
    refine va_get (D := D) (ci := 0) (v := .ref (a 24)) (C := RX1) (T := TX1) (N := 8) hx hb hts hinX1 hown hK hP 0 rfl rfl 3 (by decide) hm0 (fun _ h9 => h9) rfl dX1_judge_30 ?_
    refine lv_iload_n hx hb dX1_judge_33 rfl (lv_at hl 2 rfl) ?_
    refine k_iald hx hb hK hP 4 0 (f := ups (P 24) t ((P 8 0) * (fspan (mO P) t))) rfl rfl (i := t) (by omega) dX1_judge_34 ?_
    refine k_eqI (v := (ups (P 24) t ((P 8 0) * (fspan (mO P) t))) t) (w := P 8 0 * fspan (mO P) t) (ups_eq _ _ _) ?_
    refine k_isub hx hb dX1_judge_35 ?_
    refine k_mabs hx hb (hml.trans hl.1.symm) hown hm4 hm5 hm6 hm7 (Nat.le_of_ble_eq_true rfl) (Nat.le_of_ble_eq_true rfl) (Nat.le_of_ble_eq_true rfl) (Nat.le_of_ble_eq_true rfl) (by omega) dX1_judge_36 ?_
    have := absI_spec ((P 23 t) - (P 8 0 * fspan (mO P) t))
    refine k_eqI (v := absI ((P 23 t) - (P 8 0 * fspan (mO P) t))) (w := misf (mO P) t) (by rw [hsw]; exact hsw9.2.1.2.symm) ?_
    have hmb := inv_misf hI h0 (mO_12lt h1) (by omega)
    refine k_iast hx hb hK hP hD hS 5 0 (f := P 25) rfl rfl (i := t) (x := misf (mO P) t) (by omega) dX1_judge_39 (fun H locs hP hD hS => ?_)
    have hP : va_P D vwCl (fgplW cy a (upr (upr P 24 (ups (P 24) t ((P 8 0) * (fspan (mO P) t)))) 25 (ups (P 25) t (misf (mO P) t)))) H := hP
    have hD : va_D (va_A (fgplW cy a P) sz) (fgplW cy a (upr (upr P 24 (ups (P 24) t ((P 8 0) * (fspan (mO P) t)))) 25 (ups (P 25) t (misf (mO P) t)))) := hD
    refine lv_aload_n hx hb dX1_judge_40 rfl (lv_at hl 0 rfl) ?_
    refine va_get (D := D) (ci := 0) (v := .ref (a 28)) (C := RX1) (T := TX1) (N := 8) hx hb hts hinX1 hown hK hP 0 rfl rfl 7 (by decide) hm8 (fun _ h9 => h9) rfl dX1_judge_41 ?_
    refine lv_iload_n hx hb dX1_judge_44 rfl (lv_at hl 2 rfl) ?_
    refine lv_aload_n hx hb dX1_judge_45 rfl (lv_at hl 1 rfl) ?_
    refine va_get (D := D) (ci := 3) (v := .ref (a 1)) (C := RX4) (T := TX4) (N := 12) hx hb hts hinX4 hown hK hP 9 rfl rfl 4 (by decide) hm9 (fun _ h9 => h9) rfl dX1_judge_46 ?_
    refine lv_iload_n hx hb dX1_judge_49 rfl (lv_at hl 2 rfl) ?_
    refine k_iald hx hb hK hP 10 0 (f := P 1) rfl rfl (i := t) (by omega) dX1_judge_50 ?_
    refine k_iconst hx hb dX1_judge_51 ?_
    refine k_icmp_lt (tgt := 89) hx hb dX1_judge_52 (by decide) (by omega) (by omega) (fun c_2 => ?_) (fun c_2 => ?_)
    · skip
      refine k_iconst hx hb dX1_judge_89 ?_
      refine k_zast hx hb hK hP hD hS 8 2 (f := P 28) rfl rfl (i := t) (x := 0) (by omega) (by omega) dX1_judge_90 (fun H locs hP hD hS => ?_)
      have hP : va_P D vwCl (fgplW cy a (upr (upr (upr P 24 (ups (P 24) t ((P 8 0) * (fspan (mO P) t)))) 25 (ups (P 25) t (misf (mO P) t))) 28 (ups (P 28) t 0))) H := hP
      have hD : va_D (va_A (fgplW cy a P) sz) (fgplW cy a (upr (upr (upr P 24 (ups (P 24) t ((P 8 0) * (fspan (mO P) t)))) 25 (ups (P 25) t (misf (mO P) t))) 28 (ups (P 28) t 0))) := hD
      exact W.vret hx hb hr (fun t9 ht _ => ⟨⟨(upr (upr (upr P 24 (ups (P 24) t ((P 8 0) * (fspan (mO P) t)))) 25 (ups (P 25) t (misf (mO P) t))) 28 (ups (P 28) t 0)), rfl, ((by rw [show (ups (P 24) t ((P 8 0) * (fspan (mO P) t))) = (ups (P 24) t (mO P 0 * fspan (mO P) t)) from by rw [h00], show (ups (P 28) t 0) = (ups (P 28) t (goodN (mO P) t)) from by first | rw [goodN_1 (M := mO P) (t := t) ⟨by omega, by omega, by omega⟩] | rw [goodN_0 (M := mO P) (t := t) (fun h9 => by have g1 := h9.1; have g2 := h9.2.1; have g3 := h9.2.2; omega)]]) : (upr (upr (upr P 24 (ups (P 24) t ((P 8 0) * (fspan (mO P) t)))) 25 (ups (P 25) t (misf (mO P) t))) 28 (ups (P 28) t 0)) = (upr (upr (upr P 24 (ups (P 24) t (mO P 0 * fspan (mO P) t))) 25 (ups (P 25) t (misf (mO P) t))) 28 (ups (P 28) t (goodN (mO P) t)))), by rw [ht]; exact hP, hD⟩, hS.F ht⟩) hS.2.2 dX1_judge_91 hlocks
    · skip
      refine lv_aload_n hx hb dX1_judge_55 rfl (lv_at hl 0 rfl) ?_
      refine va_get (D := D) (ci := 0) (v := .ref (a 22)) (C := RX1) (T := TX1) (N := 8) hx hb hts hinX1 hown hK hP 0 rfl rfl 1 (by decide) hm10 (fun _ h9 => h9) rfl dX1_judge_56 ?_
      refine lv_iload_n hx hb dX1_judge_59 rfl (lv_at hl 2 rfl) ?_
      refine k_iald hx hb hK hP 2 0 (f := P 22) rfl rfl (i := t) (by omega) dX1_judge_60 ?_
      refine k_eqI (v := P 22 t) (w := sprd (mO P) t) (hsp) ?_
      refine lv_aload_n hx hb dX1_judge_61 rfl (lv_at hl 1 rfl) ?_
      refine va_get (D := D) (ci := 3) (v := .ref (a 8)) (C := RX4) (T := TX4) (N := 12) hx hb hts hinX4 hown hK hP 9 rfl rfl 11 (by decide) hm1 (fun _ h9 => h9) rfl dX1_judge_62 ?_
      refine k_iconst hx hb dX1_judge_65 ?_
      refine k_iald hx hb hK hP 17 0 (f := P 8) rfl rfl (i := 3) (by omega) dX1_judge_66 ?_
      refine k_icmp_gt (tgt := 89) hx hb dX1_judge_67 (by decide) (by omega) (by omega) (fun c_3 => ?_) (fun c_3 => ?_)
      · skip
        refine k_iconst hx hb dX1_judge_89 ?_
        refine k_zast hx hb hK hP hD hS 8 2 (f := P 28) rfl rfl (i := t) (x := 0) (by omega) (by omega) dX1_judge_90 (fun H locs hP hD hS => ?_)
        have hP : va_P D vwCl (fgplW cy a (upr (upr (upr P 24 (ups (P 24) t ((P 8 0) * (fspan (mO P) t)))) 25 (ups (P 25) t (misf (mO P) t))) 28 (ups (P 28) t 0))) H := hP
        have hD : va_D (va_A (fgplW cy a P) sz) (fgplW cy a (upr (upr (upr P 24 (ups (P 24) t ((P 8 0) * (fspan (mO P) t)))) 25 (ups (P 25) t (misf (mO P) t))) 28 (ups (P 28) t 0))) := hD
        exact W.vret hx hb hr (fun t9 ht _ => ⟨⟨(upr (upr (upr P 24 (ups (P 24) t ((P 8 0) * (fspan (mO P) t)))) 25 (ups (P 25) t (misf (mO P) t))) 28 (ups (P 28) t 0)), rfl, ((by rw [show (ups (P 24) t ((P 8 0) * (fspan (mO P) t))) = (ups (P 24) t (mO P 0 * fspan (mO P) t)) from by rw [h00], show (ups (P 28) t 0) = (ups (P 28) t (goodN (mO P) t)) from by first | rw [goodN_1 (M := mO P) (t := t) ⟨by omega, by omega, by omega⟩] | rw [goodN_0 (M := mO P) (t := t) (fun h9 => by have g1 := h9.1; have g2 := h9.2.1; have g3 := h9.2.2; omega)]]) : (upr (upr (upr P 24 (ups (P 24) t ((P 8 0) * (fspan (mO P) t)))) 25 (ups (P 25) t (misf (mO P) t))) 28 (ups (P 28) t 0)) = (upr (upr (upr P 24 (ups (P 24) t (mO P 0 * fspan (mO P) t))) 25 (ups (P 25) t (misf (mO P) t))) 28 (ups (P 28) t (goodN (mO P) t)))), by rw [ht]; exact hP, hD⟩, hS.F ht⟩) hS.2.2 dX1_judge_91 hlocks
      · skip
        refine lv_aload_n hx hb dX1_judge_70 rfl (lv_at hl 0 rfl) ?_
        refine va_get (D := D) (ci := 0) (v := .ref (a 25)) (C := RX1) (T := TX1) (N := 8) hx hb hts hinX1 hown hK hP 0 rfl rfl 4 (by decide) hm2 (fun _ h9 => h9) rfl dX1_judge_71 ?_
        refine lv_iload_n hx hb dX1_judge_74 rfl (lv_at hl 2 rfl) ?_
        refine k_iald hx hb hK hP 5 0 (f := ups (P 25) t (misf (mO P) t)) rfl rfl (i := t) (by omega) dX1_judge_75 ?_
        refine k_eqI (v := (ups (P 25) t (misf (mO P) t)) t) (w := misf (mO P) t) (ups_eq _ _ _) ?_
        refine lv_aload_n hx hb dX1_judge_76 rfl (lv_at hl 1 rfl) ?_
        refine va_get (D := D) (ci := 3) (v := .ref (a 8)) (C := RX4) (T := TX4) (N := 12) hx hb hts hinX4 hown hK hP 9 rfl rfl 11 (by decide) hm1 (fun _ h9 => h9) rfl dX1_judge_77 ?_
        refine k_iconst hx hb dX1_judge_80 ?_
        refine k_iald hx hb hK hP 17 0 (f := P 8) rfl rfl (i := 4) (by omega) dX1_judge_81 ?_
        refine k_icmp_gt (tgt := 89) hx hb dX1_judge_82 (by decide) (by omega) (by omega) (fun c_4 => ?_) (fun c_4 => ?_)
        · skip
          refine k_iconst hx hb dX1_judge_89 ?_
          refine k_zast hx hb hK hP hD hS 8 2 (f := P 28) rfl rfl (i := t) (x := 0) (by omega) (by omega) dX1_judge_90 (fun H locs hP hD hS => ?_)
          have hP : va_P D vwCl (fgplW cy a (upr (upr (upr P 24 (ups (P 24) t ((P 8 0) * (fspan (mO P) t)))) 25 (ups (P 25) t (misf (mO P) t))) 28 (ups (P 28) t 0))) H := hP
          have hD : va_D (va_A (fgplW cy a P) sz) (fgplW cy a (upr (upr (upr P 24 (ups (P 24) t ((P 8 0) * (fspan (mO P) t)))) 25 (ups (P 25) t (misf (mO P) t))) 28 (ups (P 28) t 0))) := hD
          exact W.vret hx hb hr (fun t9 ht _ => ⟨⟨(upr (upr (upr P 24 (ups (P 24) t ((P 8 0) * (fspan (mO P) t)))) 25 (ups (P 25) t (misf (mO P) t))) 28 (ups (P 28) t 0)), rfl, ((by rw [show (ups (P 24) t ((P 8 0) * (fspan (mO P) t))) = (ups (P 24) t (mO P 0 * fspan (mO P) t)) from by rw [h00], show (ups (P 28) t 0) = (ups (P 28) t (goodN (mO P) t)) from by first | rw [goodN_1 (M := mO P) (t := t) ⟨by omega, by omega, by omega⟩] | rw [goodN_0 (M := mO P) (t := t) (fun h9 => by have g1 := h9.1; have g2 := h9.2.1; have g3 := h9.2.2; omega)]]) : (upr (upr (upr P 24 (ups (P 24) t ((P 8 0) * (fspan (mO P) t)))) 25 (ups (P 25) t (misf (mO P) t))) 28 (ups (P 28) t 0)) = (upr (upr (upr P 24 (ups (P 24) t (mO P 0 * fspan (mO P) t))) 25 (ups (P 25) t (misf (mO P) t))) 28 (ups (P 28) t (goodN (mO P) t)))), by rw [ht]; exact hP, hD⟩, hS.F ht⟩) hS.2.2 dX1_judge_91 hlocks
        · skip
          refine k_iconst hx hb dX1_judge_85 ?_
          refine lv_goto (tgt := 90) hx hb dX1_judge_86 (by decide) ?_
          refine k_zast hx hb hK hP hD hS 8 2 (f := P 28) rfl rfl (i := t) (x := 1) (by omega) (by omega) dX1_judge_90 (fun H locs hP hD hS => ?_)
          have hP : va_P D vwCl (fgplW cy a (upr (upr (upr P 24 (ups (P 24) t ((P 8 0) * (fspan (mO P) t)))) 25 (ups (P 25) t (misf (mO P) t))) 28 (ups (P 28) t 1))) H := hP
          have hD : va_D (va_A (fgplW cy a P) sz) (fgplW cy a (upr (upr (upr P 24 (ups (P 24) t ((P 8 0) * (fspan (mO P) t)))) 25 (ups (P 25) t (misf (mO P) t))) 28 (ups (P 28) t 1))) := hD
          exact W.vret hx hb hr (fun t9 ht _ => ⟨⟨(upr (upr (upr P 24 (ups (P 24) t ((P 8 0) * (fspan (mO P) t)))) 25 (ups (P 25) t (misf (mO P) t))) 28 (ups (P 28) t 1)), rfl, ((by rw [show (ups (P 24) t ((P 8 0) * (fspan (mO P) t))) = (ups (P 24) t (mO P 0 * fspan (mO P) t)) from by rw [h00], show (ups (P 28) t 1) = (ups (P 28) t (goodN (mO P) t)) from by first | rw [goodN_1 (M := mO P) (t := t) ⟨by omega, by omega, by omega⟩] | rw [goodN_0 (M := mO P) (t := t) (fun h9 => by have g1 := h9.1; have g2 := h9.2.1; have g3 := h9.2.2; omega)]]) : (upr (upr (upr P 24 (ups (P 24) t ((P 8 0) * (fspan (mO P) t)))) 25 (ups (P 25) t (misf (mO P) t))) 28 (ups (P 28) t 1)) = (upr (upr (upr P 24 (ups (P 24) t (mO P 0 * fspan (mO P) t))) 25 (ups (P 25) t (misf (mO P) t))) 28 (ups (P 28) t (goodN (mO P) t)))), by rw [ht]; exact hP, hD⟩, hS.F ht⟩) hS.2.2 dX1_judge_91 hlocks
  exact hbody s.heap [] hP hS ls hl
set_option maxHeartbeats 4000000 in
set_option maxRecDepth 100000 in
theorem c_X1_measure (l : Launch) (D : va_G) (cy : Nat → ClassId) (sz : Nat) (a : Nat → Nat) (P : Nat → Int → Int)  (hI : Inv (mO P)) : Met l yX1_measure wsX1_measure { frames := 4, cells := 0, slots := 0, locals := 102 } (mPre (GG D cy) D (fgplW cy a P) sz ([.ref (a 20), .ref (a 0)] : List Value)) (kQv D (fgplW cy a P) sz (fun u9 : Nat → Int → Int => fgplW cy a u9) (fun u9 => ∃ (zf : Nat → Int → Int), (figOK (mO P) zf (P 0 0)) ∧ (u9 = (upr (upr (upr (upr (upr (upr (upr (upr P 21 (zf 21)) 22 (zf 22)) 23 (zf 23)) 24 (zf 24)) 25 (zf 25)) 26 (zf 26)) 27 (zf 27)) 28 (zf 28))))) 0 0 (va_A (fgplW cy a P) sz) := by
  refine kM_start (cc := cX1_measure) (maxL := 3) (ret := none) (by decide) rfl (Nat.le_of_ble_eq_true rfl) ?_
  intro p e s m below meth c hx hb hr hlocks hml hts hown hsz hA hG hP hD hS hin ls hl
  have hK := hG.1
  have hl : lv_has ls 3 [(0, .ref (a 20)), (1, .ref (a 0))] := hl
  have hinX4 : ∀ w ∈ u_ws RX4 TX4 12, w ∈ wsX1_measure := by decide +kernel
  have hm0 := hts (.fieldLink RX1 37 "ArcPlate$Plate" "trails" "I") (by decide +kernel)
  have hm1 := hts (.fieldLink RX1 43 "ArcPlate$Plate" "points" "[I") (by decide +kernel)
  have hS0 := po_S hI
  have hbody : ∀ (H : Heap) (locs : List Loc) (hP : va_P D vwCl (fgplW cy a P) H) (hS : va_S (va_A (fgplW cy a P) sz) s.heap H locs) (ls : Array Slot) (hl : lv_has ls 3 [(0, .ref (a 20)), (1, .ref (a 0))]), W p l e { frames := 4, cells := 0, slots := 0, locals := 102 } s m ([.ref (a 20), .ref (a 0)] : List Value).toArray below meth c H locs 0 0 (MQ below (kQv D (fgplW cy a P) sz (fun u9 : Nat → Int → Int => fgplW cy a u9) (fun u9 => ∃ (zf : Nat → Int → Int), (figOK (mO P) zf (P 0 0)) ∧ (u9 = (upr (upr (upr (upr (upr (upr (upr (upr P 21 (zf 21)) 22 (zf 22)) 23 (zf 23)) 24 (zf 24)) 25 (zf 25)) 26 (zf 26)) 27 (zf 27)) 28 (zf 28))))) ([.ref (a 20), .ref (a 0)] : List Value).toArray s 0 0 (va_A (fgplW cy a P) sz)) (F0 m 0 ls []) := by
    intro H locs hP hS ls hl
    refine k_iconst hx hb dX1_measure_0 ?_
    refine lv_istore_n (lv' := [(2, .int (iI 0)), (0, .ref (a 20)), (1, .ref (a 0))]) hx hb dX1_measure_1 rfl hl (by decide) rfl (fun ls hl => ?_)
    have loop2 : ∀ (n_1 : Nat) (t : Int) (Z : Nat → Int → Int) (hi0 : 0 ≤ t) (hi1 : t ≤ P 0 0) (hi2 : figOK (mO P) Z t) (hn : P 0 0 - t < (n_1 : Int)) (H : Heap) (locs : List Loc) (hP : va_P D vwCl (fgplW cy a (upr (upr (upr (upr (upr (upr (upr (upr P 21 (Z 21)) 22 (Z 22)) 23 (Z 23)) 24 (Z 24)) 25 (Z 25)) 26 (Z 26)) 27 (Z 27)) 28 (Z 28))) H) (hD : va_D (va_A (fgplW cy a P) sz) (fgplW cy a (upr (upr (upr (upr (upr (upr (upr (upr P 21 (Z 21)) 22 (Z 22)) 23 (Z 23)) 24 (Z 24)) 25 (Z 25)) 26 (Z 26)) 27 (Z 27)) 28 (Z 28)))) (hS : va_S (va_A (fgplW cy a P) sz) s.heap H locs) (ls : Array Slot) (hl : lv_has ls 3 [(2, .int (iI t)), (0, .ref (a 20)), (1, .ref (a 0))]), W p l e { frames := 4, cells := 0, slots := 0, locals := 102 } s m ([.ref (a 20), .ref (a 0)] : List Value).toArray below meth c H locs 0 0 (MQ below (kQv D (fgplW cy a P) sz (fun u9 : Nat → Int → Int => fgplW cy a u9) (fun u9 => ∃ (zf : Nat → Int → Int), (figOK (mO P) zf (P 0 0)) ∧ (u9 = (upr (upr (upr (upr (upr (upr (upr (upr P 21 (zf 21)) 22 (zf 22)) 23 (zf 23)) 24 (zf 24)) 25 (zf 25)) 26 (zf 26)) 27 (zf 27)) 28 (zf 28))))) ([.ref (a 20), .ref (a 0)] : List Value).toArray s 0 0 (va_A (fgplW cy a P) sz)) (F0 m 2 ls []) := by
      intro n_1
      induction n_1 with
      | zero => intro t Z hi0 hi1 hi2 hn H locs hP hD hS ls hl; exfalso; omega
      | succ n_1 ih2 =>
        intro t Z hi0 hi1 hi2 hn H locs hP hD hS ls hl
        refine lv_iload_n hx hb dX1_measure_2 rfl (lv_at hl 0 rfl) ?_
        refine lv_aload_n hx hb dX1_measure_3 rfl (lv_at hl 2 rfl) ?_
        refine va_get (D := D) (ci := 3) (v := .int (iI (P 0 0))) (C := RX4) (T := TX4) (N := 12) hx hb hts hinX4 hown hK hP 9 rfl rfl 0 (by decide) hm0 (fun _ h9 => h9) rfl dX1_measure_4 ?_
        refine k_icmp_ge (tgt := 63) hx hb dX1_measure_7 (by decide) (by omega) (by omega) (fun c_2 => ?_) (fun c_2 => ?_)
        · skip
          have e9 : t = P 0 0 := by omega
          exact W.vret hx hb hr (fun t9 ht _ => ⟨⟨(upr (upr (upr (upr (upr (upr (upr (upr P 21 (Z 21)) 22 (Z 22)) 23 (Z 23)) 24 (Z 24)) 25 (Z 25)) 26 (Z 26)) 27 (Z 27)) 28 (Z 28)), rfl, (⟨((upr (upr (upr (upr (upr (upr (upr (upr P 21 (Z 21)) 22 (Z 22)) 23 (Z 23)) 24 (Z 24)) 25 (Z 25)) 26 (Z 26)) 27 (Z 27)) 28 (Z 28))), (by rw [← e9]; exact hi2), rfl⟩ : ∃ (zf : Nat → Int → Int), (figOK (mO P) zf (P 0 0)) ∧ ((upr (upr (upr (upr (upr (upr (upr (upr P 21 (Z 21)) 22 (Z 22)) 23 (Z 23)) 24 (Z 24)) 25 (Z 25)) 26 (Z 26)) 27 (Z 27)) 28 (Z 28)) = (upr (upr (upr (upr (upr (upr (upr (upr P 21 (zf 21)) 22 (zf 22)) 23 (zf 23)) 24 (zf 24)) 25 (zf 25)) 26 (zf 26)) 27 (zf 27)) 28 (zf 28)))), by rw [ht]; exact hP, hD⟩, hS.F ht⟩) hS.2.2 dX1_measure_63 hlocks
        · skip
          have hp := po_pts hI hi0 (by omega)
          have hepts := mO_pts P (t := t) hi0 (by omega)
          refine lv_aload_n hx hb dX1_measure_10 rfl (lv_at hl 2 rfl) ?_
          refine va_get (D := D) (ci := 3) (v := .ref (a 1)) (C := RX4) (T := TX4) (N := 12) hx hb hts hinX4 hown hK hP 9 rfl rfl 4 (by decide) hm1 (fun _ h9 => h9) rfl dX1_measure_11 ?_
          refine lv_iload_n hx hb dX1_measure_14 rfl (lv_at hl 0 rfl) ?_
          refine k_iald hx hb hK hP 10 0 (f := P 1) rfl rfl (i := t) (by omega) dX1_measure_15 ?_
          refine k_if_le (tgt := 52) hx hb dX1_measure_16 (by decide) (by omega) (fun c_3 => ?_) (fun c_3 => ?_)
          · skip
            refine lv_aload_n hx hb dX1_measure_52 rfl (lv_at hl 1 rfl) ?_
            refine lv_iload_n hx hb dX1_measure_53 rfl (lv_at hl 0 rfl) ?_
            have hPc := hP.sub (ws' := (fgW cy a (upr (upr (upr (upr (upr (upr (upr (upr P 21 (Z 21)) 22 (Z 22)) 23 (Z 23)) 24 (Z 24)) 25 (Z 25)) 26 (Z 26)) 27 (Z 27)) 28 (Z 28)))) [0, 1, 2, 3, 4, 5, 6, 7, 8] rfl
            have hDc := hD.sub (ws' := (fgW cy a (upr (upr (upr (upr (upr (upr (upr (upr P 21 (Z 21)) 22 (Z 22)) 23 (Z 23)) 24 (Z 24)) 25 (Z 25)) 26 (Z 26)) 27 (Z 27)) 28 (Z 28)))) [0, 1, 2, 3, 4, 5, 6, 7, 8] (by decide) rfl
            have hFc := va_free (wc := (fgW cy a (upr (upr (upr (upr (upr (upr (upr (upr P 21 (Z 21)) 22 (Z 22)) 23 (Z 23)) 24 (Z 24)) 25 (Z 25)) 26 (Z 26)) 27 (Z 27)) 28 (Z 28)))) hD hS hA [0, 1, 2, 3, 4, 5, 6, 7, 8] rfl
            refine k_muv (k_runV (As := [.int (iI t)]) (rest := []) ⟨hx, hb, hml, hown, hts⟩ (c_X1_leaveOut l D cy H.size a (upr (upr (upr (upr (upr (upr (upr (upr P 21 (Z 21)) 22 (Z 22)) 23 (Z 23)) 24 (Z 24)) 25 (Z 25)) 26 (Z 26)) 27 (Z 27)) 28 (Z 28)) t (show 0 ≤ t ∧ t < 12 by omega)) gX1_measure_X1_leaveOut rfl ⟨rfl, rfl⟩ 1 rfl (by decide +kernel) ⟨Nat.le_of_ble_eq_true rfl, Nat.le_of_ble_eq_true rfl⟩ (GG_ok D cy) hG hS hFc hPc hDc (va_recv hK hP (ci := 0) (q0 := 0) rfl rfl) hl.1 rfl (Nat.le_of_ble_eq_true rfl) ⟨Nat.le_of_ble_eq_true rfl, Nat.le_of_ble_eq_true rfl⟩ dX1_measure_54) hFc hS (fun R_5 H1 locs1 hR_5 hP1 hD1 hS1 hk1 => ?_)
            have hR_5 : R_5 = (upr (upr (upr (upr (upr (upr (upr (upr (upr (upr (upr (upr (upr (upr (upr (upr P 21 (Z 21)) 22 (Z 22)) 23 (Z 23)) 24 (Z 24)) 25 (Z 25)) 26 (Z 26)) 27 (Z 27)) 28 (Z 28)) 21 (ups ((Z 21)) t (-1000000000))) 22 (ups ((Z 22)) t (-1000000000))) 23 (ups ((Z 23)) t (-1000000000))) 24 (ups ((Z 24)) t (-1000000000))) 25 (ups ((Z 25)) t (-1000000000))) 26 (ups ((Z 26)) t 0)) 27 (ups ((Z 27)) t (-1000000000))) 28 (ups ((Z 28)) t 0)) := hR_5
            subst hR_5
            have hDn : va_D (va_A (fgplW cy a P) sz) (fgplW cy a (upr (upr (upr (upr (upr (upr (upr (upr P 21 (ups ((Z 21)) t (-1000000000))) 22 (ups ((Z 22)) t (-1000000000))) 23 (ups ((Z 23)) t (-1000000000))) 24 (ups ((Z 24)) t (-1000000000))) 25 (ups ((Z 25)) t (-1000000000))) 26 (ups ((Z 26)) t 0)) 27 (ups ((Z 27)) t (-1000000000))) 28 (ups ((Z 28)) t 0))) := k_addr hD rfl
            have hPn := k_join (ws' := (fgplW cy a (upr (upr (upr (upr (upr (upr (upr (upr P 21 (ups ((Z 21)) t (-1000000000))) 22 (ups ((Z 22)) t (-1000000000))) 23 (ups ((Z 23)) t (-1000000000))) 24 (ups ((Z 24)) t (-1000000000))) 25 (ups ((Z 25)) t (-1000000000))) 26 (ups ((Z 26)) t 0)) 27 (ups ((Z 27)) t (-1000000000))) 28 (ups ((Z 28)) t 0)))) hP hD [0, 1, 2, 3, 4, 5, 6, 7, 8] [some 0, some 1, some 2, some 3, some 4, some 5, some 6, some 7, some 8, none, none, none, none, none, none, none, none, none] rfl hk1 hP1 rfl rfl
            clear hP hD hS hP1 hD1 hk1
            have hP := hPn
            have hD := hDn
            have hS := hS1
            clear hPn hDn hS1
            generalize H1 = H at hP hS ⊢
            generalize locs1 = locs at hS ⊢
            refine lv_iinc (v := iI (t + 1)) (lv' := [(2, .int (iI (t + 1))), (0, .ref (a 20)), (1, .ref (a 0))]) hx hb dX1_measure_57 hl (k := 0) rfl (iI_add _ _) (by decide) rfl (fun ls hl => ?_)
            refine lv_goto (tgt := 2) hx hb dX1_measure_60 (by decide) ?_
            exact ih2 (t + 1) (upr (upr (upr (upr (upr (upr (upr (upr P 21 (ups ((Z 21)) t (-1000000000))) 22 (ups ((Z 22)) t (-1000000000))) 23 (ups ((Z 23)) t (-1000000000))) 24 (ups ((Z 24)) t (-1000000000))) 25 (ups ((Z 25)) t (-1000000000))) 26 (ups ((Z 26)) t 0)) 27 (ups ((Z 27)) t (-1000000000))) 28 (ups ((Z 28)) t 0))  (by omega) (by omega) (figOK_s hi2 (fun c9 k9 g1 g2 g3 => by rcases (show c9 = 21 ∨ c9 = 22 ∨ c9 = 23 ∨ c9 = 24 ∨ c9 = 25 ∨ c9 = 26 ∨ c9 = 27 ∨ c9 = 28 by omega) with h | h | h | h | h | h | h | h <;> subst h <;> exact ups_ne _ _ g3) (by first | exact ⟨fun _ => ⟨⟨ups_eq _ _ _, ups_eq _ _ _, ups_eq _ _ _, ups_eq _ _ _⟩, ⟨ups_eq _ _ _, ups_eq _ _ _, ups_eq _ _ _, ups_eq _ _ _⟩⟩, fun h9 => by omega⟩ | exact ⟨fun h9 => by omega, fun _ => ⟨⟨ups_eq _ _ _, ups_eq _ _ _, ups_eq _ _ _, ups_eq _ _ _⟩, ⟨ups_eq _ _ _, ups_eq _ _ _, ups_eq _ _ _, ups_eq _ _ _⟩⟩⟩)) (by omega) H locs (hP) (k_addr hD rfl) hS ls (lv_sub hl [0, 1, 2] rfl)
          · skip
            refine lv_aload_n hx hb dX1_measure_19 rfl (lv_at hl 1 rfl) ?_
            refine lv_aload_n hx hb dX1_measure_20 rfl (lv_at hl 2 rfl) ?_
            refine lv_iload_n hx hb dX1_measure_21 rfl (lv_at hl 0 rfl) ?_
            refine lv_aload_n hx hb dX1_measure_22 rfl (lv_at hl 2 rfl) ?_
            refine va_get (D := D) (ci := 3) (v := .ref (a 1)) (C := RX4) (T := TX4) (N := 12) hx hb hts hinX4 hown hK hP 9 rfl rfl 4 (by decide) hm1 (fun _ h9 => h9) rfl dX1_measure_23 ?_
            refine lv_iload_n hx hb dX1_measure_26 rfl (lv_at hl 0 rfl) ?_
            refine k_iald hx hb hK hP 10 0 (f := P 1) rfl rfl (i := t) (by omega) dX1_measure_27 ?_
            refine k_muv (k_runV (As := [.ref (a 0), .int (iI t), .int (iI (P 1 t))]) (rest := []) ⟨hx, hb, hml, hown, hts⟩ (c_X1_measureRadii l D cy H.size a (upr (upr (upr (upr (upr (upr (upr (upr P 21 (Z 21)) 22 (Z 22)) 23 (Z 23)) 24 (Z 24)) 25 (Z 25)) 26 (Z 26)) 27 (Z 27)) 28 (Z 28)) t (P 1 t) hI (show 0 ≤ t by omega) (show t < (P 0) 0 by omega) (show 0 < (P 1) t by omega) (show (P 1 t) = (P 1) t by omega)) gX1_measure_X1_measureRadii rfl ⟨rfl, rfl⟩ 3 rfl (by decide +kernel) ⟨Nat.le_of_ble_eq_true rfl, Nat.le_of_ble_eq_true rfl⟩ (GG_ok D cy) hG hS (k_free hD hS hA) hP hD (va_recv hK hP (ci := 0) (q0 := 0) rfl rfl) hl.1 rfl (Nat.le_of_ble_eq_true rfl) ⟨Nat.le_of_ble_eq_true rfl, Nat.le_of_ble_eq_true rfl⟩ dX1_measure_28) (k_free hD hS hA) hS (fun R_7 H1 locs1 hR_7 hP1 hD1 hS1 hk1 => ?_)
            have hR_7 : R_7 = (upr (upr (upr (upr (upr (upr (upr (upr (upr (upr P 21 (Z 21)) 22 (Z 22)) 23 (Z 23)) 24 (Z 24)) 25 (Z 25)) 26 (Z 26)) 27 (Z 27)) 28 (Z 28)) 21 (ups ((Z 21)) t (rdT (mO P) t))) 22 (ups ((Z 22)) t (sprd (mO P) t))) := hR_7
            subst hR_7
            have hDn : va_D (va_A (fgplW cy a P) sz) (fgplW cy a (upr (upr (upr (upr (upr (upr (upr (upr P 21 (ups ((Z 21)) t (rdT (mO P) t))) 22 (ups ((Z 22)) t (sprd (mO P) t))) 23 (Z 23)) 24 (Z 24)) 25 (Z 25)) 26 (Z 26)) 27 (Z 27)) 28 (Z 28))) := k_addr hD rfl
            have hPn : va_P D vwCl (fgplW cy a (upr (upr (upr (upr (upr (upr (upr (upr P 21 (ups ((Z 21)) t (rdT (mO P) t))) 22 (ups ((Z 22)) t (sprd (mO P) t))) 23 (Z 23)) 24 (Z 24)) 25 (Z 25)) 26 (Z 26)) 27 (Z 27)) 28 (Z 28))) H1 := hP1
            clear hP hD hS hP1 hD1 hk1
            have hP := hPn
            have hD := hDn
            have hS := hS1
            clear hPn hDn hS1
            generalize H1 = H at hP hS ⊢
            generalize locs1 = locs at hS ⊢
            refine lv_aload_n hx hb dX1_measure_31 rfl (lv_at hl 1 rfl) ?_
            refine lv_aload_n hx hb dX1_measure_32 rfl (lv_at hl 2 rfl) ?_
            refine lv_iload_n hx hb dX1_measure_33 rfl (lv_at hl 0 rfl) ?_
            refine lv_aload_n hx hb dX1_measure_34 rfl (lv_at hl 2 rfl) ?_
            refine va_get (D := D) (ci := 3) (v := .ref (a 1)) (C := RX4) (T := TX4) (N := 12) hx hb hts hinX4 hown hK hP 9 rfl rfl 4 (by decide) hm1 (fun _ h9 => h9) rfl dX1_measure_35 ?_
            refine lv_iload_n hx hb dX1_measure_38 rfl (lv_at hl 0 rfl) ?_
            refine k_iald hx hb hK hP 10 0 (f := P 1) rfl rfl (i := t) (by omega) dX1_measure_39 ?_
            refine k_muv (k_runV (As := [.ref (a 0), .int (iI t), .int (iI (P 1 t))]) (rest := []) ⟨hx, hb, hml, hown, hts⟩ (c_X1_measureAngles l D cy H.size a (upr (upr (upr (upr (upr (upr (upr (upr P 21 (ups ((Z 21)) t (rdT (mO P) t))) 22 (ups ((Z 22)) t (sprd (mO P) t))) 23 (Z 23)) 24 (Z 24)) 25 (Z 25)) 26 (Z 26)) 27 (Z 27)) 28 (Z 28)) t (P 1 t) hI (show 0 ≤ t by omega) (show t < (P 0) 0 by omega) (show 0 < (P 1) t by omega) (show (P 1 t) = (P 1) t by omega)) gX1_measure_X1_measureAngles rfl ⟨rfl, rfl⟩ 3 rfl (by decide +kernel) ⟨Nat.le_of_ble_eq_true rfl, Nat.le_of_ble_eq_true rfl⟩ (GG_ok D cy) hG hS (k_free hD hS hA) hP hD (va_recv hK hP (ci := 0) (q0 := 0) rfl rfl) hl.1 rfl (Nat.le_of_ble_eq_true rfl) ⟨Nat.le_of_ble_eq_true rfl, Nat.le_of_ble_eq_true rfl⟩ dX1_measure_40) (k_free hD hS hA) hS (fun R_9 H1 locs1 hR_9 hP1 hD1 hS1 hk1 => ?_)
            have hR_9 : R_9 = (upr (upr (upr (upr (upr (upr (upr (upr (upr (upr (upr P 21 (ups ((Z 21)) t (rdT (mO P) t))) 22 (ups ((Z 22)) t (sprd (mO P) t))) 23 (Z 23)) 24 (Z 24)) 25 (Z 25)) 26 (Z 26)) 27 (Z 27)) 28 (Z 28)) 23 (ups ((Z 23)) t (swp (mO P) t))) 26 (ups ((Z 26)) t (gapN (mO P) t))) 27 (ups ((Z 27)) t (angOf (mO P) t 0))) := hR_9
            subst hR_9
            have hDn : va_D (va_A (fgplW cy a P) sz) (fgplW cy a (upr (upr (upr (upr (upr (upr (upr (upr P 21 (ups ((Z 21)) t (rdT (mO P) t))) 22 (ups ((Z 22)) t (sprd (mO P) t))) 23 (ups ((Z 23)) t (swp (mO P) t))) 24 (Z 24)) 25 (Z 25)) 26 (ups ((Z 26)) t (gapN (mO P) t))) 27 (ups ((Z 27)) t (angOf (mO P) t 0))) 28 (Z 28))) := k_addr hD rfl
            have hPn : va_P D vwCl (fgplW cy a (upr (upr (upr (upr (upr (upr (upr (upr P 21 (ups ((Z 21)) t (rdT (mO P) t))) 22 (ups ((Z 22)) t (sprd (mO P) t))) 23 (ups ((Z 23)) t (swp (mO P) t))) 24 (Z 24)) 25 (Z 25)) 26 (ups ((Z 26)) t (gapN (mO P) t))) 27 (ups ((Z 27)) t (angOf (mO P) t 0))) 28 (Z 28))) H1 := hP1
            clear hP hD hS hP1 hD1 hk1
            have hP := hPn
            have hD := hDn
            have hS := hS1
            clear hPn hDn hS1
            generalize H1 = H at hP hS ⊢
            generalize locs1 = locs at hS ⊢
            refine lv_aload_n hx hb dX1_measure_43 rfl (lv_at hl 1 rfl) ?_
            refine lv_aload_n hx hb dX1_measure_44 rfl (lv_at hl 2 rfl) ?_
            refine lv_iload_n hx hb dX1_measure_45 rfl (lv_at hl 0 rfl) ?_
            refine k_muv (k_runV (As := [.ref (a 0), .int (iI t)]) (rest := []) ⟨hx, hb, hml, hown, hts⟩ (c_X1_judge l D cy H.size a (upr (upr (upr (upr (upr (upr (upr (upr P 21 (ups ((Z 21)) t (rdT (mO P) t))) 22 (ups ((Z 22)) t (sprd (mO P) t))) 23 (ups ((Z 23)) t (swp (mO P) t))) 24 (Z 24)) 25 (Z 25)) 26 (ups ((Z 26)) t (gapN (mO P) t))) 27 (ups ((Z 27)) t (angOf (mO P) t 0))) 28 (Z 28)) t hI (show 0 ≤ t by omega) (show t < (P 0) 0 by omega) (show 0 < (P 1) t by omega) (show (ups ((Z 23)) t (swp (mO P) t)) t = swp (mO P) t from ups_eq _ _ _) (show (ups ((Z 22)) t (sprd (mO P) t)) t = sprd (mO P) t from ups_eq _ _ _)) gX1_measure_X1_judge rfl ⟨rfl, rfl⟩ 2 rfl (by decide +kernel) ⟨Nat.le_of_ble_eq_true rfl, Nat.le_of_ble_eq_true rfl⟩ (GG_ok D cy) hG hS (k_free hD hS hA) hP hD (va_recv hK hP (ci := 0) (q0 := 0) rfl rfl) hl.1 rfl (Nat.le_of_ble_eq_true rfl) ⟨Nat.le_of_ble_eq_true rfl, Nat.le_of_ble_eq_true rfl⟩ dX1_measure_46) (k_free hD hS hA) hS (fun R_11 H1 locs1 hR_11 hP1 hD1 hS1 hk1 => ?_)
            have hR_11 : R_11 = (upr (upr (upr (upr (upr (upr (upr (upr (upr (upr (upr P 21 (ups ((Z 21)) t (rdT (mO P) t))) 22 (ups ((Z 22)) t (sprd (mO P) t))) 23 (ups ((Z 23)) t (swp (mO P) t))) 24 (Z 24)) 25 (Z 25)) 26 (ups ((Z 26)) t (gapN (mO P) t))) 27 (ups ((Z 27)) t (angOf (mO P) t 0))) 28 (Z 28)) 24 (ups ((Z 24)) t (mO P 0 * fspan (mO P) t))) 25 (ups ((Z 25)) t (misf (mO P) t))) 28 (ups ((Z 28)) t (goodN (mO P) t))) := hR_11
            subst hR_11
            have hDn : va_D (va_A (fgplW cy a P) sz) (fgplW cy a (upr (upr (upr (upr (upr (upr (upr (upr P 21 (ups ((Z 21)) t (rdT (mO P) t))) 22 (ups ((Z 22)) t (sprd (mO P) t))) 23 (ups ((Z 23)) t (swp (mO P) t))) 24 (ups ((Z 24)) t (mO P 0 * fspan (mO P) t))) 25 (ups ((Z 25)) t (misf (mO P) t))) 26 (ups ((Z 26)) t (gapN (mO P) t))) 27 (ups ((Z 27)) t (angOf (mO P) t 0))) 28 (ups ((Z 28)) t (goodN (mO P) t)))) := k_addr hD rfl
            have hPn : va_P D vwCl (fgplW cy a (upr (upr (upr (upr (upr (upr (upr (upr P 21 (ups ((Z 21)) t (rdT (mO P) t))) 22 (ups ((Z 22)) t (sprd (mO P) t))) 23 (ups ((Z 23)) t (swp (mO P) t))) 24 (ups ((Z 24)) t (mO P 0 * fspan (mO P) t))) 25 (ups ((Z 25)) t (misf (mO P) t))) 26 (ups ((Z 26)) t (gapN (mO P) t))) 27 (ups ((Z 27)) t (angOf (mO P) t 0))) 28 (ups ((Z 28)) t (goodN (mO P) t)))) H1 := hP1
            clear hP hD hS hP1 hD1 hk1
            have hP := hPn
            have hD := hDn
            have hS := hS1
            clear hPn hDn hS1
            generalize H1 = H at hP hS ⊢
            generalize locs1 = locs at hS ⊢
            refine lv_goto (tgt := 57) hx hb dX1_measure_49 (by decide) ?_
            refine lv_iinc (v := iI (t + 1)) (lv' := [(2, .int (iI (t + 1))), (0, .ref (a 20)), (1, .ref (a 0))]) hx hb dX1_measure_57 hl (k := 0) rfl (iI_add _ _) (by decide) rfl (fun ls hl => ?_)
            refine lv_goto (tgt := 2) hx hb dX1_measure_60 (by decide) ?_
            exact ih2 (t + 1) (upr (upr (upr (upr (upr (upr (upr (upr P 21 (ups ((Z 21)) t (rdT (mO P) t))) 22 (ups ((Z 22)) t (sprd (mO P) t))) 23 (ups ((Z 23)) t (swp (mO P) t))) 24 (ups ((Z 24)) t (mO P 0 * fspan (mO P) t))) 25 (ups ((Z 25)) t (misf (mO P) t))) 26 (ups ((Z 26)) t (gapN (mO P) t))) 27 (ups ((Z 27)) t (angOf (mO P) t 0))) 28 (ups ((Z 28)) t (goodN (mO P) t)))  (by omega) (by omega) (figOK_s hi2 (fun c9 k9 g1 g2 g3 => by rcases (show c9 = 21 ∨ c9 = 22 ∨ c9 = 23 ∨ c9 = 24 ∨ c9 = 25 ∨ c9 = 26 ∨ c9 = 27 ∨ c9 = 28 by omega) with h | h | h | h | h | h | h | h <;> subst h <;> exact ups_ne _ _ g3) (by first | exact ⟨fun _ => ⟨⟨ups_eq _ _ _, ups_eq _ _ _, ups_eq _ _ _, ups_eq _ _ _⟩, ⟨ups_eq _ _ _, ups_eq _ _ _, ups_eq _ _ _, ups_eq _ _ _⟩⟩, fun h9 => by omega⟩ | exact ⟨fun h9 => by omega, fun _ => ⟨⟨ups_eq _ _ _, ups_eq _ _ _, ups_eq _ _ _, ups_eq _ _ _⟩, ⟨ups_eq _ _ _, ups_eq _ _ _, ups_eq _ _ _, ups_eq _ _ _⟩⟩⟩)) (by omega) H locs (hP) (k_addr hD rfl) hS ls (lv_sub hl [0, 1, 2] rfl)
    exact loop2 ((P 0 0 - 0 : Int) + 1).toNat 0 P  (by omega) (by omega) (figOK_0 _ _) (by omega) H locs (hP) (k_addr hD rfl) hS ls (lv_sub hl [0, 1, 2] rfl)
  exact hbody s.heap [] hP hS ls hl
set_option maxHeartbeats 4000000 in
set_option maxRecDepth 100000 in
theorem c_X3_pairCost (l : Launch) (D : va_G) (cy : Nat → ClassId) (a : Nat → Nat) (P : Nat → Int → Int) (t u z : Int) (hI : Inv (mO P)) (h0 : 0 ≤ t) (h1 : t < P 0 0) (hp0 : 0 < P 1 t) (h0u : 0 ≤ u) (h1u : u < P 0 1) (hz : 0 ≤ z ∧ z ≤ 359999) (hr9 : P 21 t = rdT (mO P) t) (hfa : P 27 t = angOf (mO P) t 0) : Met l yX3_pairCost wsX3_pairCost { frames := 2, cells := 0, slots := 0, locals := 45 } (kPre (GG D cy) D (fgplW cy a P) ([.ref (a 0), .ref (a 20), .int (iI t), .int (iI u), .int (iI z)] : List Value)) (kRO (fun r => r = cstZ (mO P) z t u)) 0 0 (fun _ => False) := by
  refine kRO_start (cc := cX3_pairCost) (maxL := 9) (ret := (some .int)) (by decide) rfl (Nat.le_of_ble_eq_true rfl) ?_
  intro p e s m below meth c hx hb hr hlocks hml hts hown hG hP ls hl
  have hK := hG.1
  have hl : lv_has ls 9 [(0, .ref (a 0)), (1, .ref (a 20)), (2, .int (iI t)), (3, .int (iI u)), (4, .int (iI z))] := hl
  have hinX1 : ∀ w ∈ u_ws RX1 TX1 8, w ∈ wsX3_pairCost := by decide +kernel
  have hinX4 : ∀ w ∈ u_ws RX4 TX4 12, w ∈ wsX3_pairCost := by decide +kernel
  have hm0 := hts (.fieldLink RX3 40 "ArcPlate$Figures" "radius" "[I") (by decide +kernel)
  have hm1 := hts (.methodLink RX3 51 Lib.Math.abs.name) (by decide +kernel)
  have hm2 := hts (.static Lib.Math.abs.name) (by decide +kernel)
  have hm3 := hts (.initialized "java/lang/Math") (by decide +kernel)
  have hm4 := hts (.code Lib.Math.abs.name Lib.Math.abs.code 1 (some .int)) (by decide +kernel)
  have hm5 := hts (.fieldLink RX3 56 "ArcPlate$Plate" "frames" "[I") (by decide +kernel)
  have hm6 := hts (.fieldLink RX3 67 "ArcPlate$Figures" "firstAngle" "[I") (by decide +kernel)
  have hm7 := hts (.constantLong RX3 75 (57296)) (by decide +kernel)
  have hS0 := po_S hI
  have hp := po_pts hI h0 h1
  have hepts := mO_pts P (t := t) h0 (by omega)
  have hq := inv_cst hI z h0 (mO_12lt h1) (by omega) h0u (mO_13lt h1u)
  have ha := inv_ang (M := mO P) t 0
  have hrt := inv_rdT hI h0 (mO_12lt h1) (by omega)
  have hpl := inv_plR hI h0u (mO_13lt h1u)
  have hpt := po_pt hI h0 h1 (Int.le_refl 0) hp0
  have hf0 : frm (mO P) t 0 = P 2 (12 * t + 0) := mO_frm P h0 (by omega) (Int.le_refl 0) (by omega)
  refine lv_aload_n hx hb dX3_pairCost_0 rfl (lv_at hl 1 rfl) ?_
  refine va_get (D := D) (ci := 0) (v := .ref (a 21)) (C := RX1) (T := TX1) (N := 8) hx hb hts hinX1 hown hK hP 0 rfl rfl 0 (by decide) hm0 (fun _ h9 => h9) rfl dX3_pairCost_1 ?_
  refine lv_iload_n hx hb dX3_pairCost_4 rfl (lv_at hl 2 rfl) ?_
  refine k_iald hx hb hK hP 1 0 (f := P 21) rfl rfl (i := t) (by omega) dX3_pairCost_5 ?_
  refine k_eqI (v := P 21 t) (w := rdT (mO P) t) (hr9) ?_
  refine lv_aload_n hx hb dX3_pairCost_6 rfl (lv_at hl 0 rfl) ?_
  refine lv_iload_n hx hb dX3_pairCost_7 rfl (lv_at hl 3 rfl) ?_
  refine k_roV (As := [.int (iI u)]) (rest := [.int (iI (rdT (mO P) t))]) ⟨hx, hb, hml, hown, hts⟩ (c_X4_radiusOfStar l D cy a P u hI (show 0 ≤ u by omega) (show u < P 0 1 by omega)) gX3_pairCost_X4_radiusOfStar rfl ⟨rfl, rfl⟩ 1 rfl (by decide +kernel) ⟨Nat.le_of_ble_eq_true rfl, Nat.le_of_ble_eq_true rfl⟩ (GG_ok D cy) hG (hP.sub (ws' := (plW cy a P)) [9, 10, 11, 12, 13, 14, 15, 16, 17] rfl) (va_recv hK hP (ci := 3) (q0 := 9) rfl rfl) hl.1 rfl (Nat.le_of_ble_eq_true rfl) ⟨Nat.le_of_ble_eq_true rfl, Nat.le_of_ble_eq_true rfl⟩ dX3_pairCost_8 (fun r_1 hr_1 => ?_)
  have hr_1 : r_1 = plR (mO P) u := hr_1
  subst hr_1
  refine k_isub hx hb dX3_pairCost_11 ?_
  refine k_mabs hx hb (hml.trans hl.1.symm) hown hm1 hm2 hm3 hm4 (Nat.le_of_ble_eq_true rfl) (Nat.le_of_ble_eq_true rfl) (Nat.le_of_ble_eq_true rfl) (Nat.le_of_ble_eq_true rfl) (by omega) dX3_pairCost_12 ?_
  have := absI_spec ((rdT (mO P) t) - (plR (mO P) u))
  refine lv_istore (lv' := [(5, .int (iI (absI ((rdT (mO P) t) - (plR (mO P) u))))), (0, .ref (a 0)), (1, .ref (a 20)), (2, .int (iI t)), (3, .int (iI u)), (4, .int (iI z))]) hx hb dX3_pairCost_15 hl (by decide) rfl (fun ls hl => ?_)
  refine lv_aload_n hx hb dX3_pairCost_17 rfl (lv_at hl 1 rfl) ?_
  refine lv_iload_n hx hb dX3_pairCost_18 rfl (lv_at hl 4 rfl) ?_
  refine lv_iload hx hb dX3_pairCost_19 (lv_at hl 5 rfl) ?_
  refine lv_aload_n hx hb dX3_pairCost_21 rfl (lv_at hl 1 rfl) ?_
  refine va_get (D := D) (ci := 3) (v := .ref (a 2)) (C := RX4) (T := TX4) (N := 12) hx hb hts hinX4 hown hK hP 9 rfl rfl 5 (by decide) hm5 (fun _ h9 => h9) rfl dX3_pairCost_22 ?_
  refine lv_iload_n hx hb dX3_pairCost_25 rfl (lv_at hl 3 rfl) ?_
  refine k_iconst hx hb dX3_pairCost_26 ?_
  refine k_roS (As := [.int (iI t), .int (iI 0)]) (rest := [.ref (a 2), .int (iI z), .int (iI u), .ref (a 0)]) ⟨hx, hb, hml, hown, hts⟩ (c_X4_slot l D t 0 ) gX3_pairCost_X4_slot rfl ⟨rfl, rfl⟩ 2 rfl (by decide +kernel) ⟨Nat.le_of_ble_eq_true rfl, Nat.le_of_ble_eq_true rfl⟩ kGT_ok trivial (fun k q h => by simp at h) hl.1 rfl (Nat.le_of_ble_eq_true rfl) ⟨Nat.le_of_ble_eq_true rfl, Nat.le_of_ble_eq_true rfl⟩ dX3_pairCost_27 (fun r_2 hr_2 => ?_)
  have hr_2 : r_2 = 12 * t + 0 := hr_2
  subst hr_2
  refine k_iald hx hb hK hP 11 0 (f := P 2) rfl rfl (i := 12 * t + 0) (by omega) dX3_pairCost_30 ?_
  refine k_roV (As := [.int (iI u), .int (iI z), .int (iI (P 2 (12 * t + 0)))]) (rest := []) ⟨hx, hb, hml, hown, hts⟩ (c_X4_angleOfStar l D cy a P u z (P 2 (12 * t + 0)) hI (show 0 ≤ u by omega) (show u < P 0 1 by omega) (show 0 ≤ z ∧ z ≤ 359999 by omega) (show 0 ≤ (P 2 (12 * t + 0)) ∧ (P 2 (12 * t + 0)) ≤ 1000 by omega)) gX3_pairCost_X4_angleOfStar rfl ⟨rfl, rfl⟩ 3 rfl (by decide +kernel) ⟨Nat.le_of_ble_eq_true rfl, Nat.le_of_ble_eq_true rfl⟩ (GG_ok D cy) hG (hP.sub (ws' := (plW cy a P)) [9, 10, 11, 12, 13, 14, 15, 16, 17] rfl) (va_recv hK hP (ci := 3) (q0 := 9) rfl rfl) hl.1 rfl (Nat.le_of_ble_eq_true rfl) ⟨Nat.le_of_ble_eq_true rfl, Nat.le_of_ble_eq_true rfl⟩ dX3_pairCost_31 (fun r_3 hr_3 => ?_)
  have hr_3 : r_3 = stAng (mO P) z u (P 2 (12 * t + 0)) := hr_3
  subst hr_3
  refine k_eqI (v := stAng (mO P) z u (P 2 (12 * t + 0))) (w := stAng (mO P) z u (frm (mO P) t 0)) (by rw [hf0]) ?_
  have hsa := stAng_bd (mO P) z u (frm (mO P) t 0)
  refine lv_istore (lv' := [(6, .int (iI (stAng (mO P) z u (frm (mO P) t 0)))), (5, .int (iI (absI ((rdT (mO P) t) - (plR (mO P) u))))), (0, .ref (a 0)), (1, .ref (a 20)), (2, .int (iI t)), (3, .int (iI u)), (4, .int (iI z))]) hx hb dX3_pairCost_34 hl (by decide) rfl (fun ls hl => ?_)
  refine lv_aload_n hx hb dX3_pairCost_36 rfl (lv_at hl 3 rfl) ?_
  refine va_get (D := D) (ci := 0) (v := .ref (a 27)) (C := RX1) (T := TX1) (N := 8) hx hb hts hinX1 hown hK hP 0 rfl rfl 6 (by decide) hm6 (fun _ h9 => h9) rfl dX3_pairCost_37 ?_
  refine lv_iload_n hx hb dX3_pairCost_40 rfl (lv_at hl 4 rfl) ?_
  refine k_iald hx hb hK hP 7 0 (f := P 27) rfl rfl (i := t) (by omega) dX3_pairCost_41 ?_
  refine k_eqI (v := P 27 t) (w := angOf (mO P) t 0) (hfa) ?_
  refine lv_iload hx hb dX3_pairCost_42 (lv_at hl 0 rfl) ?_
  refine k_roS (As := [.int (iI (angOf (mO P) t 0)), .int (iI (stAng (mO P) z u (frm (mO P) t 0)))]) (rest := []) ⟨hx, hb, hml, hown, hts⟩ (c_X0_turn l D (angOf (mO P) t 0) (stAng (mO P) z u (frm (mO P) t 0)) (show 0 ≤ (angOf (mO P) t 0) ∧ (angOf (mO P) t 0) < 360000 by omega) (show 0 ≤ (stAng (mO P) z u (frm (mO P) t 0)) ∧ (stAng (mO P) z u (frm (mO P) t 0)) < 360000 by omega)) gX3_pairCost_X0_turn rfl ⟨rfl, rfl⟩ 2 rfl (by decide +kernel) ⟨Nat.le_of_ble_eq_true rfl, Nat.le_of_ble_eq_true rfl⟩ kGT_ok trivial (fun k q h => by simp at h) hl.1 rfl (Nat.le_of_ble_eq_true rfl) ⟨Nat.le_of_ble_eq_true rfl, Nat.le_of_ble_eq_true rfl⟩ dX3_pairCost_44 (fun r_4 hr_4 => ?_)
  have hr_4 : r_4 = turnI (angOf (mO P) t 0) (stAng (mO P) z u (frm (mO P) t 0)) := hr_4
  subst hr_4
  have htu := turnI_bd (angOf (mO P) t 0) (stAng (mO P) z u (frm (mO P) t 0))
  refine k_mabs hx hb (hml.trans hl.1.symm) hown hm1 hm2 hm3 hm4 (Nat.le_of_ble_eq_true rfl) (Nat.le_of_ble_eq_true rfl) (Nat.le_of_ble_eq_true rfl) (Nat.le_of_ble_eq_true rfl) (by omega) dX3_pairCost_47 ?_
  have := absI_spec (turnI (angOf (mO P) t 0) (stAng (mO P) z u (frm (mO P) t 0)))
  refine k_i2l hx hb dX3_pairCost_50 (by omega) ?_
  refine lv_lstore (lv' := [(7, .long (lI (absI (turnI (angOf (mO P) t 0) (stAng (mO P) z u (frm (mO P) t 0)))))), (6, .int (iI (stAng (mO P) z u (frm (mO P) t 0)))), (5, .int (iI (absI ((rdT (mO P) t) - (plR (mO P) u))))), (0, .ref (a 0)), (1, .ref (a 20)), (2, .int (iI t)), (3, .int (iI u)), (4, .int (iI z))]) hx hb dX3_pairCost_51 hl (by decide) rfl (fun ls hl => ?_)
  refine lv_iload hx hb dX3_pairCost_53 (lv_at hl 2 rfl) ?_
  refine lv_lload hx hb dX3_pairCost_55 (lv_at hl 0 rfl) ?_
  refine lv_aload_n hx hb dX3_pairCost_57 rfl (lv_at hl 4 rfl) ?_
  refine va_get (D := D) (ci := 0) (v := .ref (a 21)) (C := RX1) (T := TX1) (N := 8) hx hb hts hinX1 hown hK hP 0 rfl rfl 0 (by decide) hm0 (fun _ h9 => h9) rfl dX3_pairCost_58 ?_
  refine lv_iload_n hx hb dX3_pairCost_61 rfl (lv_at hl 5 rfl) ?_
  refine k_iald hx hb hK hP 1 0 (f := P 21) rfl rfl (i := t) (by omega) dX3_pairCost_62 ?_
  refine k_eqI (v := P 21 t) (w := rdT (mO P) t) (hr9) ?_
  refine k_i2l hx hb dX3_pairCost_63 (by omega) ?_
  refine k_lmul hx hb dX3_pairCost_64 ?_
  refine k_ldc2 (z := 57296) hx hb hown hm7 (by decide +kernel) dX3_pairCost_65 ?_
  refine k_ldiv hx hb dX3_pairCost_68 (by omega) (by omega) ?_
  refine k_l2i hx hb dX3_pairCost_69 (by omega) ?_
  refine k_iadd hx hb dX3_pairCost_70 ?_
  exact W.iret (v := iI ((absI ((rdT (mO P) t) - (plR (mO P) u))) + (((absI (turnI (angOf (mO P) t 0) (stAng (mO P) z u (frm (mO P) t 0)))) * (rdT (mO P) t)) / 57296))) hx hb hr (fun t9 ht _ => ⟨((absI ((rdT (mO P) t) - (plR (mO P) u))) + (((absI (turnI (angOf (mO P) t 0) (stAng (mO P) z u (frm (mO P) t 0)))) * (rdT (mO P) t)) / 57296)), rfl, (by first | rfl | omega : ((absI ((rdT (mO P) t) - (plR (mO P) u))) + (((absI (turnI (angOf (mO P) t 0) (stAng (mO P) z u (frm (mO P) t 0)))) * (rdT (mO P) t)) / 57296) : Int) = cstZ (mO P) z t u), ht⟩) (fun _ h => nomatch h) dX3_pairCost_71 hlocks
set_option maxHeartbeats 4000000 in
set_option maxRecDepth 100000 in
theorem c_X3_clearMatches (l : Launch) (D : va_G) (cy : Nat → ClassId) (sz : Nat) (a : Nat → Nat) (P : Nat → Int → Int)   : Met l yX3_clearMatches wsX3_clearMatches { frames := 0, cells := 0, slots := 0, locals := 0 } (mPre (GG D cy) D (maW cy a P) sz ([.ref (a 30)] : List Value)) (kQv D (maW cy a P) sz (fun u9 : Nat → Int → Int => maW cy a u9) (fun u9 => ∃ (zs : Int → Int) (zt : Int → Int) (zc : Int → Int), (∀ k : Int, 0 ≤ k → k < 12 → zs k = -1000000000 ∧ zt k = -1000000000 ∧ zc k = -1000000000) ∧ (u9 = (upr (upr (upr (upr P 30 (ups (ups (P 30) 3 0) 4 0)) 31 (zs)) 32 (zt)) 33 (zc))))) 0 0 (va_A (maW cy a P) sz) := by
  refine kM_start (cc := cX3_clearMatches) (maxL := 2) (ret := none) (by decide) rfl (Nat.le_of_ble_eq_true rfl) ?_
  intro p e s m below meth c hx hb hr hlocks hml hts hown hsz hA hG hP hD hS hin ls hl
  have hK := hG.1
  have hl : lv_has ls 2 [(0, .ref (a 30))] := hl
  have hinX3 : ∀ w ∈ u_ws RX3 TX3 9, w ∈ wsX3_clearMatches := by decide +kernel
  have hm0 := hts (.fieldLink RX3 21 "ArcPlate$Matching" "matches" "I") (by decide +kernel)
  have hm1 := hts (.fieldLink RX3 25 "ArcPlate$Matching" "sum" "I") (by decide +kernel)
  have hm2 := hts (.fieldLink RX3 15 "ArcPlate$Matching" "trailOf" "[I") (by decide +kernel)
  have hm3 := hts (.constant RX3 97 (-1000000000)) (by decide +kernel)
  have hm4 := hts (.fieldLink RX3 18 "ArcPlate$Matching" "costOf" "[I") (by decide +kernel)
  have hm5 := hts (.fieldLink RX3 9 "ArcPlate$Matching" "starOf" "[I") (by decide +kernel)
  have hbody : ∀ (H : Heap) (locs : List Loc) (hP : va_P D vwCl (maW cy a P) H) (hS : va_S (va_A (maW cy a P) sz) s.heap H locs) (ls : Array Slot) (hl : lv_has ls 2 [(0, .ref (a 30))]), W p l e { frames := 0, cells := 0, slots := 0, locals := 0 } s m ([.ref (a 30)] : List Value).toArray below meth c H locs 0 0 (MQ below (kQv D (maW cy a P) sz (fun u9 : Nat → Int → Int => maW cy a u9) (fun u9 => ∃ (zs : Int → Int) (zt : Int → Int) (zc : Int → Int), (∀ k : Int, 0 ≤ k → k < 12 → zs k = -1000000000 ∧ zt k = -1000000000 ∧ zc k = -1000000000) ∧ (u9 = (upr (upr (upr (upr P 30 (ups (ups (P 30) 3 0) 4 0)) 31 (zs)) 32 (zt)) 33 (zc))))) ([.ref (a 30)] : List Value).toArray s 0 0 (va_A (maW cy a P) sz)) (F0 m 0 ls []) := by
    intro H locs hP hS ls hl
    refine k_iconst hx hb dX3_clearMatches_0 ?_
    refine lv_istore_n (lv' := [(1, .int (iI 0)), (0, .ref (a 30))]) hx hb dX3_clearMatches_1 rfl hl (by decide) rfl (fun ls hl => ?_)
    have loop2 : ∀ (n_1 : Nat) (k : Int) (S1 : Int → Int) (hi0 : 0 ≤ k) (hi1 : k ≤ 12) (hi2 : ∀ j : Int, 0 ≤ j → j < k → S1 j = -1000000000) (hn : 12 - k < (n_1 : Int)) (H : Heap) (locs : List Loc) (hP : va_P D vwCl (maW cy a (upr P 31 (S1))) H) (hD : va_D (va_A (maW cy a P) sz) (maW cy a (upr P 31 (S1)))) (hS : va_S (va_A (maW cy a P) sz) s.heap H locs) (ls : Array Slot) (hl : lv_has ls 2 [(1, .int (iI k)), (0, .ref (a 30))]), W p l e { frames := 0, cells := 0, slots := 0, locals := 0 } s m ([.ref (a 30)] : List Value).toArray below meth c H locs 0 0 (MQ below (kQv D (maW cy a P) sz (fun u9 : Nat → Int → Int => maW cy a u9) (fun u9 => ∃ (zs : Int → Int) (zt : Int → Int) (zc : Int → Int), (∀ k : Int, 0 ≤ k → k < 12 → zs k = -1000000000 ∧ zt k = -1000000000 ∧ zc k = -1000000000) ∧ (u9 = (upr (upr (upr (upr P 30 (ups (ups (P 30) 3 0) 4 0)) 31 (zs)) 32 (zt)) 33 (zc))))) ([.ref (a 30)] : List Value).toArray s 0 0 (va_A (maW cy a P) sz)) (F0 m 2 ls []) := by
      intro n_1
      induction n_1 with
      | zero => intro k S1 hi0 hi1 hi2 hn H locs hP hD hS ls hl; exfalso; omega
      | succ n_1 ih2 =>
        intro k S1 hi0 hi1 hi2 hn H locs hP hD hS ls hl
        refine lv_iload_n hx hb dX3_clearMatches_2 rfl (lv_at hl 0 rfl) ?_
        refine k_bipush hx hb dX3_clearMatches_3 (by decide +kernel) ?_
        refine k_icmp_ge (tgt := 22) hx hb dX3_clearMatches_5 (by decide) (by omega) (by omega) (fun c_2 => ?_) (fun c_2 => ?_)
        · skip
          have hc1 : ∀ j : Int, 0 ≤ j → j < 12 → S1 j = -1000000000 := fun j a b => hi2 j a (by omega)
          refine k_iconst hx hb dX3_clearMatches_22 ?_
          refine lv_istore_n (lv' := [(1, .int (iI 0)), (0, .ref (a 30))]) hx hb dX3_clearMatches_23 rfl hl (by decide) rfl (fun ls hl => ?_)
          have loop24 : ∀ (n_3 : Nat) (k : Int) (S2 : Int → Int) (S3 : Int → Int) (hi0 : 0 ≤ k) (hi1 : k ≤ 12) (hi2 : ∀ j : Int, 0 ≤ j → j < k → S2 j = -1000000000 ∧ S3 j = -1000000000) (hn : 12 - k < (n_3 : Int)) (H : Heap) (locs : List Loc) (hP : va_P D vwCl (maW cy a (upr (upr (upr P 31 (S1)) 32 (S2)) 33 (S3))) H) (hD : va_D (va_A (maW cy a P) sz) (maW cy a (upr (upr (upr P 31 (S1)) 32 (S2)) 33 (S3)))) (hS : va_S (va_A (maW cy a P) sz) s.heap H locs) (ls : Array Slot) (hl : lv_has ls 2 [(1, .int (iI k)), (0, .ref (a 30))]), W p l e { frames := 0, cells := 0, slots := 0, locals := 0 } s m ([.ref (a 30)] : List Value).toArray below meth c H locs 0 0 (MQ below (kQv D (maW cy a P) sz (fun u9 : Nat → Int → Int => maW cy a u9) (fun u9 => ∃ (zs : Int → Int) (zt : Int → Int) (zc : Int → Int), (∀ k : Int, 0 ≤ k → k < 12 → zs k = -1000000000 ∧ zt k = -1000000000 ∧ zc k = -1000000000) ∧ (u9 = (upr (upr (upr (upr P 30 (ups (ups (P 30) 3 0) 4 0)) 31 (zs)) 32 (zt)) 33 (zc))))) ([.ref (a 30)] : List Value).toArray s 0 0 (va_A (maW cy a P) sz)) (F0 m 24 ls []) := by
            intro n_3
            induction n_3 with
            | zero => intro k S2 S3 hi0 hi1 hi2 hn H locs hP hD hS ls hl; exfalso; omega
            | succ n_3 ih24 =>
              intro k S2 S3 hi0 hi1 hi2 hn H locs hP hD hS ls hl
              refine lv_iload_n hx hb dX3_clearMatches_24 rfl (lv_at hl 0 rfl) ?_
              refine k_bipush hx hb dX3_clearMatches_25 (by decide +kernel) ?_
              refine k_icmp_ge (tgt := 52) hx hb dX3_clearMatches_27 (by decide) (by omega) (by omega) (fun c_4 => ?_) (fun c_4 => ?_)
              · skip
                refine lv_aload_n hx hb dX3_clearMatches_52 rfl (lv_at hl 1 rfl) ?_
                refine k_iconst hx hb dX3_clearMatches_53 ?_
                refine va_put (D := D) (ci := 2) (v := .int (iI 0)) (ty := .int) (C := RX3) (T := TX3) (N := 9) hx hb hts hinX3 tyX3 tyX3_ok nmX3 hown hK hP hD hS 0 rfl rfl 3 (by decide) hm0 (fun _ h9 => h9) rfl (by decide +kernel) rfl rfl (Nat.le_of_ble_eq_true rfl) dX3_clearMatches_54 (fun H locs hP hD hS => ?_)
                have hP : va_P D vwCl (maW cy a (upr (upr (upr (upr P 30 (ups (P 30) 3 0)) 31 (S1)) 32 (S2)) 33 (S3))) H := hP
                have hD : va_D (va_A (maW cy a P) sz) (maW cy a (upr (upr (upr (upr P 30 (ups (P 30) 3 0)) 31 (S1)) 32 (S2)) 33 (S3))) := hD
                refine lv_aload_n hx hb dX3_clearMatches_57 rfl (lv_at hl 1 rfl) ?_
                refine k_iconst hx hb dX3_clearMatches_58 ?_
                refine va_put (D := D) (ci := 2) (v := .int (iI 0)) (ty := .int) (C := RX3) (T := TX3) (N := 9) hx hb hts hinX3 tyX3 tyX3_ok nmX3 hown hK hP hD hS 0 rfl rfl 4 (by decide) hm1 (fun _ h9 => h9) rfl (by decide +kernel) rfl rfl (Nat.le_of_ble_eq_true rfl) dX3_clearMatches_59 (fun H locs hP hD hS => ?_)
                have hP : va_P D vwCl (maW cy a (upr (upr (upr (upr P 30 (ups (ups (P 30) 3 0) 4 0)) 31 (S1)) 32 (S2)) 33 (S3))) H := hP
                have hD : va_D (va_A (maW cy a P) sz) (maW cy a (upr (upr (upr (upr P 30 (ups (ups (P 30) 3 0) 4 0)) 31 (S1)) 32 (S2)) 33 (S3))) := hD
                exact W.vret hx hb hr (fun t9 ht _ => ⟨⟨(upr (upr (upr (upr P 30 (ups (ups (P 30) 3 0) 4 0)) 31 (S1)) 32 (S2)) 33 (S3)), rfl, (⟨(S1), (S2), (S3), (fun j a b => ⟨hc1 j a b, hi2 j a (by omega)⟩), rfl⟩ : ∃ (zs : Int → Int) (zt : Int → Int) (zc : Int → Int), (∀ k : Int, 0 ≤ k → k < 12 → zs k = -1000000000 ∧ zt k = -1000000000 ∧ zc k = -1000000000) ∧ ((upr (upr (upr (upr P 30 (ups (ups (P 30) 3 0) 4 0)) 31 (S1)) 32 (S2)) 33 (S3)) = (upr (upr (upr (upr P 30 (ups (ups (P 30) 3 0) 4 0)) 31 (zs)) 32 (zt)) 33 (zc)))), by rw [ht]; exact hP, hD⟩, hS.F ht⟩) hS.2.2 dX3_clearMatches_62 hlocks
              · skip
                refine lv_aload_n hx hb dX3_clearMatches_30 rfl (lv_at hl 1 rfl) ?_
                refine va_get (D := D) (ci := 2) (v := .ref (a 32)) (C := RX3) (T := TX3) (N := 9) hx hb hts hinX3 hown hK hP 0 rfl rfl 1 (by decide) hm2 (fun _ h9 => h9) rfl dX3_clearMatches_31 ?_
                refine lv_iload_n hx hb dX3_clearMatches_34 rfl (lv_at hl 0 rfl) ?_
                refine k_ldc (z := (-1000000000)) hx hb hown hm3 (by decide +kernel) dX3_clearMatches_35 ?_
                refine k_iast hx hb hK hP hD hS 2 0 (f := S2) rfl rfl (i := k) (x := (-1000000000)) (by omega) dX3_clearMatches_37 (fun H locs hP hD hS => ?_)
                have hP : va_P D vwCl (maW cy a (upr (upr (upr P 31 (S1)) 32 (ups S2 k (-1000000000))) 33 (S3))) H := hP
                have hD : va_D (va_A (maW cy a P) sz) (maW cy a (upr (upr (upr P 31 (S1)) 32 (ups S2 k (-1000000000))) 33 (S3))) := hD
                refine lv_aload_n hx hb dX3_clearMatches_38 rfl (lv_at hl 1 rfl) ?_
                refine va_get (D := D) (ci := 2) (v := .ref (a 33)) (C := RX3) (T := TX3) (N := 9) hx hb hts hinX3 hown hK hP 0 rfl rfl 2 (by decide) hm4 (fun _ h9 => h9) rfl dX3_clearMatches_39 ?_
                refine lv_iload_n hx hb dX3_clearMatches_42 rfl (lv_at hl 0 rfl) ?_
                refine k_ldc (z := (-1000000000)) hx hb hown hm3 (by decide +kernel) dX3_clearMatches_43 ?_
                refine k_iast hx hb hK hP hD hS 3 0 (f := S3) rfl rfl (i := k) (x := (-1000000000)) (by omega) dX3_clearMatches_45 (fun H locs hP hD hS => ?_)
                have hP : va_P D vwCl (maW cy a (upr (upr (upr P 31 (S1)) 32 (ups S2 k (-1000000000))) 33 (ups S3 k (-1000000000)))) H := hP
                have hD : va_D (va_A (maW cy a P) sz) (maW cy a (upr (upr (upr P 31 (S1)) 32 (ups S2 k (-1000000000))) 33 (ups S3 k (-1000000000)))) := hD
                refine lv_iinc (v := iI (k + 1)) (lv' := [(1, .int (iI (k + 1))), (0, .ref (a 30))]) hx hb dX3_clearMatches_46 hl (k := 0) rfl (iI_add _ _) (by decide) rfl (fun ls hl => ?_)
                refine lv_goto (tgt := 24) hx hb dX3_clearMatches_49 (by decide) ?_
                exact ih24 (k + 1) (ups S2 k (-1000000000)) (ups S3 k (-1000000000))  (by omega) (by omega) (fun j a b => by by_cases e9 : j = k; (subst e9; exact ⟨ups_eq _ _ _, ups_eq _ _ _⟩); (rw [ups_ne _ _ e9, ups_ne _ _ e9]; exact hi2 j a (by omega))) (by omega) H locs (hP) (k_addr hD rfl) hS ls (lv_sub hl [0, 1] rfl)
          exact loop24 ((12 - 0 : Int) + 1).toNat 0 (P 32) (P 33)  (by omega) (by omega) (fun j a b => by omega) (by omega) H locs (hP) (k_addr hD rfl) hS ls (lv_sub hl [0, 1] rfl)
        · skip
          refine lv_aload_n hx hb dX3_clearMatches_8 rfl (lv_at hl 1 rfl) ?_
          refine va_get (D := D) (ci := 2) (v := .ref (a 31)) (C := RX3) (T := TX3) (N := 9) hx hb hts hinX3 hown hK hP 0 rfl rfl 0 (by decide) hm5 (fun _ h9 => h9) rfl dX3_clearMatches_9 ?_
          refine lv_iload_n hx hb dX3_clearMatches_12 rfl (lv_at hl 0 rfl) ?_
          refine k_ldc (z := (-1000000000)) hx hb hown hm3 (by decide +kernel) dX3_clearMatches_13 ?_
          refine k_iast hx hb hK hP hD hS 1 0 (f := S1) rfl rfl (i := k) (x := (-1000000000)) (by omega) dX3_clearMatches_15 (fun H locs hP hD hS => ?_)
          have hP : va_P D vwCl (maW cy a (upr P 31 (ups S1 k (-1000000000)))) H := hP
          have hD : va_D (va_A (maW cy a P) sz) (maW cy a (upr P 31 (ups S1 k (-1000000000)))) := hD
          refine lv_iinc (v := iI (k + 1)) (lv' := [(1, .int (iI (k + 1))), (0, .ref (a 30))]) hx hb dX3_clearMatches_16 hl (k := 0) rfl (iI_add _ _) (by decide) rfl (fun ls hl => ?_)
          refine lv_goto (tgt := 2) hx hb dX3_clearMatches_19 (by decide) ?_
          exact ih2 (k + 1) (ups S1 k (-1000000000))  (by omega) (by omega) (fun j a b => by by_cases e9 : j = k; (subst e9; exact ups_eq _ _ _); (rw [ups_ne _ _ e9]; exact hi2 j a (by omega))) (by omega) H locs (hP) (k_addr hD rfl) hS ls (lv_sub hl [0, 1] rfl)
    exact loop2 ((12 - 0 : Int) + 1).toNat 0 (P 31)  (by omega) (by omega) (fun j a b => by omega) (by omega) H locs (hP) (k_addr hD rfl) hS ls (lv_sub hl [0, 1] rfl)
  exact hbody s.heap [] hP hS ls hl
set_option maxHeartbeats 4000000 in
set_option maxRecDepth 100000 in
theorem c_X3_collectPairs (l : Launch) (D : va_G) (cy : Nat → ClassId) (sz : Nat) (a : Nat → Nat) (P : Nat → Int → Int) (z : Int) (hI : Inv (mO P)) (hz : 0 ≤ z ∧ z ≤ 359999) (hfig : figOK (mO P) P (P 0 0)) : Met l yX3_collectPairs wsX3_collectPairs { frames := 3, cells := 0, slots := 0, locals := 73 } (mPre (GG D cy) D (mafgplW cy a P) sz ([.ref (a 30), .ref (a 0), .ref (a 20), .int (iI z)] : List Value)) (kQv D (mafgplW cy a P) sz (fun u9 : Nat → Int → Int => mafgplW cy a u9) (fun u9 => ∃ (zn : Int) (zp : Int → Int) (zq : Int → Int) (zr : Int → Int), (colOK (mO P) z zn zp zq zr (12 * P 0 0)) ∧ (u9 = (upr (upr (upr (upr P 30 (ups (P 30) 8 zn)) 34 (zp)) 35 (zq)) 36 (zr))))) 0 0 (va_A (mafgplW cy a P) sz) := by
  refine kM_start (cc := cX3_collectPairs) (maxL := 8) (ret := none) (by decide) rfl (Nat.le_of_ble_eq_true rfl) ?_
  intro p e s m below meth c hx hb hr hlocks hml hts hown hsz hA hG hP hD hS hin ls hl
  have hK := hG.1
  have hl : lv_has ls 8 [(0, .ref (a 30)), (1, .ref (a 0)), (2, .ref (a 20)), (3, .int (iI z))] := hl
  have hinX3 : ∀ w ∈ u_ws RX3 TX3 9, w ∈ wsX3_collectPairs := by decide +kernel
  have hinX4 : ∀ w ∈ u_ws RX4 TX4 12, w ∈ wsX3_collectPairs := by decide +kernel
  have hm0 := hts (.fieldLink RX3 37 "ArcPlate$Matching" "pairs" "I") (by decide +kernel)
  have hm1 := hts (.fieldLink RX3 84 "ArcPlate$Plate" "trails" "I") (by decide +kernel)
  have hm2 := hts (.fieldLink RX3 105 "ArcPlate$Plate" "settings" "[I") (by decide +kernel)
  have hm3 := hts (.fieldLink RX3 34 "ArcPlate$Matching" "pairCosts" "[I") (by decide +kernel)
  have hm4 := hts (.fieldLink RX3 28 "ArcPlate$Matching" "pairTrail" "[I") (by decide +kernel)
  have hm5 := hts (.fieldLink RX3 31 "ArcPlate$Matching" "pairStar" "[I") (by decide +kernel)
  have hm6 := hts (.fieldLink RX3 98 "ArcPlate$Plate" "points" "[I") (by decide +kernel)
  have hm7 := hts (.fieldLink RX3 87 "ArcPlate$Plate" "stars" "I") (by decide +kernel)
  have hS0 := po_S hI
  have hset := po_set hI
  have hbody : ∀ (H : Heap) (locs : List Loc) (hP : va_P D vwCl (mafgplW cy a P) H) (hS : va_S (va_A (mafgplW cy a P) sz) s.heap H locs) (ls : Array Slot) (hl : lv_has ls 8 [(0, .ref (a 30)), (1, .ref (a 0)), (2, .ref (a 20)), (3, .int (iI z))]), W p l e { frames := 3, cells := 0, slots := 0, locals := 73 } s m ([.ref (a 30), .ref (a 0), .ref (a 20), .int (iI z)] : List Value).toArray below meth c H locs 0 0 (MQ below (kQv D (mafgplW cy a P) sz (fun u9 : Nat → Int → Int => mafgplW cy a u9) (fun u9 => ∃ (zn : Int) (zp : Int → Int) (zq : Int → Int) (zr : Int → Int), (colOK (mO P) z zn zp zq zr (12 * P 0 0)) ∧ (u9 = (upr (upr (upr (upr P 30 (ups (P 30) 8 zn)) 34 (zp)) 35 (zq)) 36 (zr))))) ([.ref (a 30), .ref (a 0), .ref (a 20), .int (iI z)] : List Value).toArray s 0 0 (va_A (mafgplW cy a P) sz)) (F0 m 0 ls []) := by
    intro H locs hP hS ls hl
    refine lv_aload_n hx hb dX3_collectPairs_0 rfl (lv_at hl 0 rfl) ?_
    refine k_iconst hx hb dX3_collectPairs_1 ?_
    refine va_put (D := D) (ci := 2) (v := .int (iI 0)) (ty := .int) (C := RX3) (T := TX3) (N := 9) hx hb hts hinX3 tyX3 tyX3_ok nmX3 hown hK hP hD hS 0 rfl rfl 8 (by decide) hm0 (fun _ h9 => h9) rfl (by decide +kernel) rfl rfl (Nat.le_of_ble_eq_true rfl) dX3_collectPairs_2 (fun H locs hP hD hS => ?_)
    have hP : va_P D vwCl (mafgplW cy a (upr P 30 (ups (P 30) 8 0))) H := hP
    have hD : va_D (va_A (mafgplW cy a P) sz) (mafgplW cy a (upr P 30 (ups (P 30) 8 0))) := hD
    refine k_iconst hx hb dX3_collectPairs_5 ?_
    refine lv_istore (lv' := [(4, .int (iI 0)), (0, .ref (a 30)), (1, .ref (a 0)), (2, .ref (a 20)), (3, .int (iI z))]) hx hb dX3_collectPairs_6 hl (by decide) rfl (fun ls hl => ?_)
    have loop8 : ∀ (n_1 : Nat) (t : Int) (n8 : Int) (A4 : Int → Int) (A5 : Int → Int) (A6 : Int → Int) (hi0 : 0 ≤ t) (hi1 : t ≤ P 0 0) (hi2 : colOK (mO P) z n8 A4 A5 A6 (12 * t)) (hn : P 0 0 - t < (n_1 : Int)) (H : Heap) (locs : List Loc) (hP : va_P D vwCl (mafgplW cy a (upr (upr (upr (upr P 30 (ups (P 30) 8 n8)) 34 (A4)) 35 (A5)) 36 (A6))) H) (hD : va_D (va_A (mafgplW cy a P) sz) (mafgplW cy a (upr (upr (upr (upr P 30 (ups (P 30) 8 n8)) 34 (A4)) 35 (A5)) 36 (A6)))) (hS : va_S (va_A (mafgplW cy a P) sz) s.heap H locs) (ls : Array Slot) (hl : lv_has ls 8 [(4, .int (iI t)), (0, .ref (a 30)), (1, .ref (a 0)), (2, .ref (a 20)), (3, .int (iI z))]), W p l e { frames := 3, cells := 0, slots := 0, locals := 73 } s m ([.ref (a 30), .ref (a 0), .ref (a 20), .int (iI z)] : List Value).toArray below meth c H locs 0 0 (MQ below (kQv D (mafgplW cy a P) sz (fun u9 : Nat → Int → Int => mafgplW cy a u9) (fun u9 => ∃ (zn : Int) (zp : Int → Int) (zq : Int → Int) (zr : Int → Int), (colOK (mO P) z zn zp zq zr (12 * P 0 0)) ∧ (u9 = (upr (upr (upr (upr P 30 (ups (P 30) 8 zn)) 34 (zp)) 35 (zq)) 36 (zr))))) ([.ref (a 30), .ref (a 0), .ref (a 20), .int (iI z)] : List Value).toArray s 0 0 (va_A (mafgplW cy a P) sz)) (F0 m 8 ls []) := by
      intro n_1
      induction n_1 with
      | zero => intro t n8 A4 A5 A6 hi0 hi1 hi2 hn H locs hP hD hS ls hl; exfalso; omega
      | succ n_1 ih8 =>
        intro t n8 A4 A5 A6 hi0 hi1 hi2 hn H locs hP hD hS ls hl
        refine lv_iload hx hb dX3_collectPairs_8 (lv_at hl 0 rfl) ?_
        refine lv_aload_n hx hb dX3_collectPairs_10 rfl (lv_at hl 2 rfl) ?_
        refine va_get (D := D) (ci := 3) (v := .int (iI (P 0 0))) (C := RX4) (T := TX4) (N := 12) hx hb hts hinX4 hown hK hP 16 rfl rfl 0 (by decide) hm1 (fun _ h9 => h9) rfl dX3_collectPairs_11 ?_
        refine k_icmp_ge (tgt := 137) hx hb dX3_collectPairs_14 (by decide) (by omega) (by omega) (fun c_2 => ?_) (fun c_2 => ?_)
        · skip
          have e9 : t = P 0 0 := by omega
          exact W.vret hx hb hr (fun t9 ht _ => ⟨⟨(upr (upr (upr (upr P 30 (ups (P 30) 8 n8)) 34 (A4)) 35 (A5)) 36 (A6)), rfl, (⟨(n8), (A4), (A5), (A6), (by rw [← e9]; exact hi2), rfl⟩ : ∃ (zn : Int) (zp : Int → Int) (zq : Int → Int) (zr : Int → Int), (colOK (mO P) z zn zp zq zr (12 * P 0 0)) ∧ ((upr (upr (upr (upr P 30 (ups (P 30) 8 n8)) 34 (A4)) 35 (A5)) 36 (A6)) = (upr (upr (upr (upr P 30 (ups (P 30) 8 zn)) 34 (zp)) 35 (zq)) 36 (zr)))), by rw [ht]; exact hP, hD⟩, hS.F ht⟩) hS.2.2 dX3_collectPairs_137 hlocks
        · skip
          have hp := po_pts hI hi0 (by omega)
          have hepts := mO_pts P (t := t) hi0 (by omega)
          have hti0 := hi0
          have htlt : t < P 0 0 := by omega
          have join37 : ∀ (y5 : Int) (jey5 : y5 = (if 0 < P 1 t then P 0 1 else 0)) (ls : Array Slot) (hl : lv_has ls 8 [(4, .int (iI t)), (0, .ref (a 30)), (1, .ref (a 0)), (2, .ref (a 20)), (3, .int (iI z)), (5, .int (iI y5))]), W p l e { frames := 3, cells := 0, slots := 0, locals := 73 } s m ([.ref (a 30), .ref (a 0), .ref (a 20), .int (iI z)] : List Value).toArray below meth c H locs 0 0 (MQ below (kQv D (mafgplW cy a P) sz (fun u9 : Nat → Int → Int => mafgplW cy a u9) (fun u9 => ∃ (zn : Int) (zp : Int → Int) (zq : Int → Int) (zr : Int → Int), (colOK (mO P) z zn zp zq zr (12 * P 0 0)) ∧ (u9 = (upr (upr (upr (upr P 30 (ups (P 30) 8 zn)) 34 (zp)) 35 (zq)) 36 (zr))))) ([.ref (a 30), .ref (a 0), .ref (a 20), .int (iI z)] : List Value).toArray s 0 0 (va_A (mafgplW cy a P) sz)) (F0 m 37 ls []) := by
            intro y5 jey5 ls hl
            subst jey5
            refine k_iconst hx hb dX3_collectPairs_37 ?_
            refine lv_istore (lv' := [(6, .int (iI 0)), (4, .int (iI t)), (0, .ref (a 30)), (1, .ref (a 0)), (2, .ref (a 20)), (3, .int (iI z)), (5, .int (iI (if 0 < P 1 t then P 0 1 else 0)))]) hx hb dX3_collectPairs_38 hl (by decide) rfl (fun ls hl => ?_)
            have loop40 : ∀ (n_3 : Nat) (u : Int) (n7 : Int) (B4 : Int → Int) (B5 : Int → Int) (B6 : Int → Int) (hi0 : 0 ≤ u) (hi1 : u ≤ (if 0 < P 1 t then P 0 1 else 0)) (hi2 : colOK (mO P) z n7 B4 B5 B6 (12 * t + u)) (hn : P 0 1 - u < (n_3 : Int)) (H : Heap) (locs : List Loc) (hP : va_P D vwCl (mafgplW cy a (upr (upr (upr (upr P 30 (ups (P 30) 8 n7)) 34 (B4)) 35 (B5)) 36 (B6))) H) (hD : va_D (va_A (mafgplW cy a P) sz) (mafgplW cy a (upr (upr (upr (upr P 30 (ups (P 30) 8 n7)) 34 (B4)) 35 (B5)) 36 (B6)))) (hS : va_S (va_A (mafgplW cy a P) sz) s.heap H locs) (ls : Array Slot) (hl : lv_has ls 8 [(6, .int (iI u)), (4, .int (iI t)), (0, .ref (a 30)), (1, .ref (a 0)), (2, .ref (a 20)), (3, .int (iI z)), (5, .int (iI (if 0 < P 1 t then P 0 1 else 0)))]), W p l e { frames := 3, cells := 0, slots := 0, locals := 73 } s m ([.ref (a 30), .ref (a 0), .ref (a 20), .int (iI z)] : List Value).toArray below meth c H locs 0 0 (MQ below (kQv D (mafgplW cy a P) sz (fun u9 : Nat → Int → Int => mafgplW cy a u9) (fun u9 => ∃ (zn : Int) (zp : Int → Int) (zq : Int → Int) (zr : Int → Int), (colOK (mO P) z zn zp zq zr (12 * P 0 0)) ∧ (u9 = (upr (upr (upr (upr P 30 (ups (P 30) 8 zn)) 34 (zp)) 35 (zq)) 36 (zr))))) ([.ref (a 30), .ref (a 0), .ref (a 20), .int (iI z)] : List Value).toArray s 0 0 (va_A (mafgplW cy a P) sz)) (F0 m 40 ls []) := by
              intro n_3
              induction n_3 with
              | zero => intro u n7 B4 B5 B6 hi0 hi1 hi2 hn H locs hP hD hS ls hl; exfalso; omega
              | succ n_3 ih40 =>
                intro u n7 B4 B5 B6 hi0 hi1 hi2 hn H locs hP hD hS ls hl
                refine lv_iload hx hb dX3_collectPairs_40 (lv_at hl 0 rfl) ?_
                refine lv_iload hx hb dX3_collectPairs_42 (lv_at hl 6 rfl) ?_
                refine k_icmp_ge (tgt := 131) hx hb dX3_collectPairs_44 (by decide) (by first | omega | (split <;> omega)) (by first | omega | (split <;> omega)) (fun c_4 => ?_) (fun c_4 => ?_)
                · skip
                  have hlim : (if 0 < P 1 t then P 0 1 else 0) ≤ u := by omega
                  refine lv_iinc (v := iI (t + 1)) (lv' := [(4, .int (iI (t + 1))), (6, .int (iI u)), (0, .ref (a 30)), (1, .ref (a 0)), (2, .ref (a 20)), (3, .int (iI z)), (5, .int (iI (if 0 < P 1 t then P 0 1 else 0)))]) hx hb dX3_collectPairs_131 hl (k := 1) rfl (iI_add _ _) (by decide) rfl (fun ls hl => ?_)
                  refine lv_goto (tgt := 8) hx hb dX3_collectPairs_134 (by decide) ?_
                  exact ih8 (t + 1) n7 B4 B5 B6  (by omega) (by omega) (colOK_no hi2 (by have h9 := hi1; split at h9 <;> omega) (fun t9 u9 b1 b2 b3 b4 b5 b6 b7 => by exfalso; rw [mO_13] at b4; have e8 : t9 = t := (by have e7 := hlim; omega); rw [e8, hepts] at b7; rw [if_pos b7] at hlim; omega)) (by omega) H locs (hP) (k_addr hD rfl) hS ls (lv_sub hl [0, 2, 3, 4, 5] rfl)
                · skip
                  have hpz : 0 < P 1 t := by rcases Int.lt_or_le 0 (P 1 t) with h9 | h9; exact h9; (rw [if_neg (by omega)] at c_4; omega)
                  rw [if_pos hpz] at c_4
                  have hfg := (hfig t hti0 htlt).1 (by omega)
                  have hcb := (inv_cst hI z hti0 (mO_12lt htlt) (by omega) hi0 (mO_13lt (show u < P 0 1 by omega))).2.2
                  have h55 : mO P 5 = P 8 5 := mO_set P (by decide)
                  have hcK := hi2.1
                  refine lv_aload_n hx hb dX3_collectPairs_47 rfl (lv_at hl 3 rfl) ?_
                  refine lv_aload_n hx hb dX3_collectPairs_48 rfl (lv_at hl 4 rfl) ?_
                  refine lv_iload hx hb dX3_collectPairs_49 (lv_at hl 1 rfl) ?_
                  refine lv_iload hx hb dX3_collectPairs_51 (lv_at hl 0 rfl) ?_
                  refine lv_iload_n hx hb dX3_collectPairs_53 rfl (lv_at hl 5 rfl) ?_
                  refine k_roS (As := [.ref (a 0), .ref (a 20), .int (iI t), .int (iI u), .int (iI z)]) (rest := []) ⟨hx, hb, hml, hown, hts⟩ (c_X3_pairCost l D cy a (upr (upr (upr (upr P 30 (ups (P 30) 8 n7)) 34 (B4)) 35 (B5)) 36 (B6)) t u z hI (show 0 ≤ t by omega) (show t < (P 0) 0 by omega) (show 0 < (P 1) t by omega) (show 0 ≤ u by omega) (show u < (P 0) 1 by omega) (show 0 ≤ z ∧ z ≤ 359999 by omega) (show (P 21) t = rdT (mO P) t from hfg.1.1) (show (P 27) t = angOf (mO P) t 0 from hfg.2.2.2.1)) gX3_collectPairs_X3_pairCost rfl ⟨rfl, rfl⟩ 5 rfl (by decide +kernel) ⟨Nat.le_of_ble_eq_true rfl, Nat.le_of_ble_eq_true rfl⟩ (GG_ok D cy) ((GG_ok D cy).2.2.2 _ _ _ _ (fun _ h => h.elim) ((GG_ok D cy).1 _ _ _ _ hS.2.1 hG)) (hP.sub (ws' := (fgplW cy a (upr (upr (upr (upr P 30 (ups (P 30) 8 n7)) 34 (B4)) 35 (B5)) 36 (B6)))) [7, 8, 9, 10, 11, 12, 13, 14, 15, 16, 17, 18, 19, 20, 21, 22, 23, 24] rfl) hl.1 rfl (Nat.le_of_ble_eq_true rfl) ⟨Nat.le_of_ble_eq_true rfl, Nat.le_of_ble_eq_true rfl⟩ dX3_collectPairs_54 (fun r_5 hr_5 => ?_)
                  have hr_5 : r_5 = cstZ (mO P) z t u := hr_5
                  subst hr_5
                  refine lv_istore (lv' := [(7, .int (iI (cstZ (mO P) z t u))), (6, .int (iI u)), (4, .int (iI t)), (0, .ref (a 30)), (1, .ref (a 0)), (2, .ref (a 20)), (3, .int (iI z)), (5, .int (iI (if 0 < P 1 t then P 0 1 else 0)))]) hx hb dX3_collectPairs_57 hl (by decide) rfl (fun ls hl => ?_)
                  refine lv_iload hx hb dX3_collectPairs_59 (lv_at hl 0 rfl) ?_
                  refine lv_aload_n hx hb dX3_collectPairs_61 rfl (lv_at hl 4 rfl) ?_
                  refine va_get (D := D) (ci := 3) (v := .ref (a 8)) (C := RX4) (T := TX4) (N := 12) hx hb hts hinX4 hown hK hP 16 rfl rfl 11 (by decide) hm2 (fun _ h9 => h9) rfl dX3_collectPairs_62 ?_
                  refine k_iconst hx hb dX3_collectPairs_65 ?_
                  refine k_iald hx hb hK hP 24 0 (f := P 8) rfl rfl (i := 5) (by omega) dX3_collectPairs_66 ?_
                  refine k_icmp_gt (tgt := 125) hx hb dX3_collectPairs_67 (by decide) (by omega) (by omega) (fun c_6 => ?_) (fun c_6 => ?_)
                  · skip
                    refine lv_iinc (v := iI (u + 1)) (lv' := [(6, .int (iI (u + 1))), (7, .int (iI (cstZ (mO P) z t u))), (4, .int (iI t)), (0, .ref (a 30)), (1, .ref (a 0)), (2, .ref (a 20)), (3, .int (iI z)), (5, .int (iI (if 0 < P 1 t then P 0 1 else 0)))]) hx hb dX3_collectPairs_125 hl (k := 1) rfl (iI_add _ _) (by decide) rfl (fun ls hl => ?_)
                    refine lv_goto (tgt := 40) hx hb dX3_collectPairs_128 (by decide) ?_
                    exact ih40 (u + 1) n7 B4 B5 B6  (by omega) (by rw [if_pos hpz]; omega) (by rw [show 12 * t + (u + 1) = 12 * t + u + 1 by omega]; first | exact colOK_yes hi2 (by rw [mO_13]; omega) ⟨hti0, mO_12lt (by omega)⟩ ⟨hi0, mO_13lt (by omega)⟩ (by omega) (by omega) | exact colOK_no hi2 (by omega) (fun t9 u9 b1 b2 b3 b4 b5 b6 b7 b8 => by rw [mO_13] at b4; have e8 : t9 = t := (by omega); have e7 : u9 = u := (by omega); rw [e8, e7] at b8; omega)) (by omega) H locs (hP) (k_addr hD rfl) hS ls (lv_sub hl [0, 2, 3, 4, 5, 6, 7] rfl)
                  · skip
                    refine lv_aload_n hx hb dX3_collectPairs_70 rfl (lv_at hl 3 rfl) ?_
                    refine va_get (D := D) (ci := 2) (v := .int (iI n7)) (C := RX3) (T := TX3) (N := 9) hx hb hts hinX3 hown hK hP 0 rfl rfl 8 (by decide) hm0 (fun _ h9 => h9) rfl dX3_collectPairs_71 ?_
                    refine lv_aload_n hx hb dX3_collectPairs_74 rfl (lv_at hl 3 rfl) ?_
                    refine va_get (D := D) (ci := 2) (v := .ref (a 36)) (C := RX3) (T := TX3) (N := 9) hx hb hts hinX3 hown hK hP 0 rfl rfl 7 (by decide) hm3 (fun _ h9 => h9) rfl dX3_collectPairs_75 ?_
                    refine k_alen hx hb hK hP 6 0 rfl rfl 144 rfl dX3_collectPairs_78 ?_
                    refine k_icmp_ge (tgt := 125) hx hb dX3_collectPairs_79 (by decide) (by omega) (by omega) (fun c_7 => ?_) (fun c_7 => ?_)
                    · exfalso; omega
                    · skip
                      refine lv_aload_n hx hb dX3_collectPairs_82 rfl (lv_at hl 3 rfl) ?_
                      refine va_get (D := D) (ci := 2) (v := .ref (a 34)) (C := RX3) (T := TX3) (N := 9) hx hb hts hinX3 hown hK hP 0 rfl rfl 5 (by decide) hm4 (fun _ h9 => h9) rfl dX3_collectPairs_83 ?_
                      refine lv_aload_n hx hb dX3_collectPairs_86 rfl (lv_at hl 3 rfl) ?_
                      refine va_get (D := D) (ci := 2) (v := .int (iI n7)) (C := RX3) (T := TX3) (N := 9) hx hb hts hinX3 hown hK hP 0 rfl rfl 8 (by decide) hm0 (fun _ h9 => h9) rfl dX3_collectPairs_87 ?_
                      refine lv_iload hx hb dX3_collectPairs_90 (lv_at hl 2 rfl) ?_
                      refine k_iast hx hb hK hP hD hS 4 0 (f := B4) rfl rfl (i := n7) (x := t) (by omega) dX3_collectPairs_92 (fun H locs hP hD hS => ?_)
                      have hP : va_P D vwCl (mafgplW cy a (upr (upr (upr (upr P 30 (ups (P 30) 8 n7)) 34 (ups B4 n7 t)) 35 (B5)) 36 (B6))) H := hP
                      have hD : va_D (va_A (mafgplW cy a P) sz) (mafgplW cy a (upr (upr (upr (upr P 30 (ups (P 30) 8 n7)) 34 (ups B4 n7 t)) 35 (B5)) 36 (B6))) := hD
                      refine lv_aload_n hx hb dX3_collectPairs_93 rfl (lv_at hl 3 rfl) ?_
                      refine va_get (D := D) (ci := 2) (v := .ref (a 35)) (C := RX3) (T := TX3) (N := 9) hx hb hts hinX3 hown hK hP 0 rfl rfl 6 (by decide) hm5 (fun _ h9 => h9) rfl dX3_collectPairs_94 ?_
                      refine lv_aload_n hx hb dX3_collectPairs_97 rfl (lv_at hl 3 rfl) ?_
                      refine va_get (D := D) (ci := 2) (v := .int (iI n7)) (C := RX3) (T := TX3) (N := 9) hx hb hts hinX3 hown hK hP 0 rfl rfl 8 (by decide) hm0 (fun _ h9 => h9) rfl dX3_collectPairs_98 ?_
                      refine lv_iload hx hb dX3_collectPairs_101 (lv_at hl 1 rfl) ?_
                      refine k_iast hx hb hK hP hD hS 5 0 (f := B5) rfl rfl (i := n7) (x := u) (by omega) dX3_collectPairs_103 (fun H locs hP hD hS => ?_)
                      have hP : va_P D vwCl (mafgplW cy a (upr (upr (upr (upr P 30 (ups (P 30) 8 n7)) 34 (ups B4 n7 t)) 35 (ups B5 n7 u)) 36 (B6))) H := hP
                      have hD : va_D (va_A (mafgplW cy a P) sz) (mafgplW cy a (upr (upr (upr (upr P 30 (ups (P 30) 8 n7)) 34 (ups B4 n7 t)) 35 (ups B5 n7 u)) 36 (B6))) := hD
                      refine lv_aload_n hx hb dX3_collectPairs_104 rfl (lv_at hl 3 rfl) ?_
                      refine va_get (D := D) (ci := 2) (v := .ref (a 36)) (C := RX3) (T := TX3) (N := 9) hx hb hts hinX3 hown hK hP 0 rfl rfl 7 (by decide) hm3 (fun _ h9 => h9) rfl dX3_collectPairs_105 ?_
                      refine lv_aload_n hx hb dX3_collectPairs_108 rfl (lv_at hl 3 rfl) ?_
                      refine va_get (D := D) (ci := 2) (v := .int (iI n7)) (C := RX3) (T := TX3) (N := 9) hx hb hts hinX3 hown hK hP 0 rfl rfl 8 (by decide) hm0 (fun _ h9 => h9) rfl dX3_collectPairs_109 ?_
                      refine lv_iload hx hb dX3_collectPairs_112 (lv_at hl 0 rfl) ?_
                      refine k_iast hx hb hK hP hD hS 6 0 (f := B6) rfl rfl (i := n7) (x := cstZ (mO P) z t u) (by omega) dX3_collectPairs_114 (fun H locs hP hD hS => ?_)
                      have hP : va_P D vwCl (mafgplW cy a (upr (upr (upr (upr P 30 (ups (P 30) 8 n7)) 34 (ups B4 n7 t)) 35 (ups B5 n7 u)) 36 (ups B6 n7 (cstZ (mO P) z t u)))) H := hP
                      have hD : va_D (va_A (mafgplW cy a P) sz) (mafgplW cy a (upr (upr (upr (upr P 30 (ups (P 30) 8 n7)) 34 (ups B4 n7 t)) 35 (ups B5 n7 u)) 36 (ups B6 n7 (cstZ (mO P) z t u)))) := hD
                      refine lv_aload_n hx hb dX3_collectPairs_115 rfl (lv_at hl 3 rfl) ?_
                      refine lv_dup hx hb dX3_collectPairs_116 rfl ?_
                      refine va_get (D := D) (ci := 2) (v := .int (iI n7)) (C := RX3) (T := TX3) (N := 9) hx hb hts hinX3 hown hK hP 0 rfl rfl 8 (by decide) hm0 (fun _ h9 => h9) rfl dX3_collectPairs_117 ?_
                      refine k_iconst hx hb dX3_collectPairs_120 ?_
                      refine k_iadd hx hb dX3_collectPairs_121 ?_
                      refine va_put (D := D) (ci := 2) (v := .int (iI (n7 + 1))) (ty := .int) (C := RX3) (T := TX3) (N := 9) hx hb hts hinX3 tyX3 tyX3_ok nmX3 hown hK hP hD hS 0 rfl rfl 8 (by decide) hm0 (fun _ h9 => h9) rfl (by decide +kernel) rfl rfl (Nat.le_of_ble_eq_true rfl) dX3_collectPairs_122 (fun H locs hP hD hS => ?_)
                      have hP : va_P D vwCl (mafgplW cy a (upr (upr (upr (upr P 30 (ups (ups (P 30) 8 n7) 8 (n7 + 1))) 34 (ups B4 n7 t)) 35 (ups B5 n7 u)) 36 (ups B6 n7 (cstZ (mO P) z t u)))) H := hP
                      have hD : va_D (va_A (mafgplW cy a P) sz) (mafgplW cy a (upr (upr (upr (upr P 30 (ups (ups (P 30) 8 n7) 8 (n7 + 1))) 34 (ups B4 n7 t)) 35 (ups B5 n7 u)) 36 (ups B6 n7 (cstZ (mO P) z t u)))) := hD
                      refine lv_iinc (v := iI (u + 1)) (lv' := [(6, .int (iI (u + 1))), (7, .int (iI (cstZ (mO P) z t u))), (4, .int (iI t)), (0, .ref (a 30)), (1, .ref (a 0)), (2, .ref (a 20)), (3, .int (iI z)), (5, .int (iI (if 0 < P 1 t then P 0 1 else 0)))]) hx hb dX3_collectPairs_125 hl (k := 1) rfl (iI_add _ _) (by decide) rfl (fun ls hl => ?_)
                      refine lv_goto (tgt := 40) hx hb dX3_collectPairs_128 (by decide) ?_
                      exact ih40 (u + 1) (n7 + 1) (ups B4 n7 t) (ups B5 n7 u) (ups B6 n7 (cstZ (mO P) z t u))  (by omega) (by rw [if_pos hpz]; omega) (by rw [show 12 * t + (u + 1) = 12 * t + u + 1 by omega]; first | exact colOK_yes hi2 (by rw [mO_13]; omega) ⟨hti0, mO_12lt (by omega)⟩ ⟨hi0, mO_13lt (by omega)⟩ (by omega) (by omega) | exact colOK_no hi2 (by omega) (fun t9 u9 b1 b2 b3 b4 b5 b6 b7 b8 => by rw [mO_13] at b4; have e8 : t9 = t := (by omega); have e7 : u9 = u := (by omega); rw [e8, e7] at b8; omega)) (by omega) H locs (by rw [show (ups (P 30) 8 (n7 + 1)) = (ups (ups (P 30) 8 n7) 8 (n7 + 1)) from by first | rfl | exact (ups_ups _ _ _ _).symm, show (ups B4 n7 t) = (ups B4 n7 t) from by first | rfl | exact (ups_ups _ _ _ _).symm, show (ups B5 n7 u) = (ups B5 n7 u) from by first | rfl | exact (ups_ups _ _ _ _).symm, show (ups B6 n7 (cstZ (mO P) z t u)) = (ups B6 n7 (cstZ (mO P) z t u)) from by first | rfl | exact (ups_ups _ _ _ _).symm]; exact hP) (k_addr hD rfl) hS ls (lv_sub hl [0, 2, 3, 4, 5, 6, 7] rfl)
            exact loop40 ((P 0 1 - 0 : Int) + 1).toNat 0 n8 A4 A5 A6  (by omega) (by split <;> omega) (by rw [Int.add_zero]; exact hi2) (by omega) H locs (hP) (k_addr hD rfl) hS ls (lv_sub hl [0, 1, 2, 3, 4, 5, 6] rfl)
          refine lv_aload_n hx hb dX3_collectPairs_17 rfl (lv_at hl 2 rfl) ?_
          refine va_get (D := D) (ci := 3) (v := .ref (a 1)) (C := RX4) (T := TX4) (N := 12) hx hb hts hinX4 hown hK hP 16 rfl rfl 4 (by decide) hm6 (fun _ h9 => h9) rfl dX3_collectPairs_18 ?_
          refine lv_iload hx hb dX3_collectPairs_21 (lv_at hl 0 rfl) ?_
          refine k_iald hx hb hK hP 17 0 (f := P 1) rfl rfl (i := t) (by omega) dX3_collectPairs_23 ?_
          refine k_if_le (tgt := 34) hx hb dX3_collectPairs_24 (by decide) (by omega) (fun c_8 => ?_) (fun c_8 => ?_)
          · skip
            refine k_iconst hx hb dX3_collectPairs_34 ?_
            refine lv_istore (lv' := [(5, .int (iI 0)), (4, .int (iI t)), (0, .ref (a 30)), (1, .ref (a 0)), (2, .ref (a 20)), (3, .int (iI z))]) hx hb dX3_collectPairs_35 hl (by decide) rfl (fun ls hl => ?_)
            exact join37  0 (by first | rw [if_pos (by omega)] | rw [if_neg (by omega)])  ls (lv_sub hl [1, 2, 3, 4, 5, 0] rfl)
          · skip
            refine lv_aload_n hx hb dX3_collectPairs_27 rfl (lv_at hl 2 rfl) ?_
            refine va_get (D := D) (ci := 3) (v := .int (iI (P 0 1))) (C := RX4) (T := TX4) (N := 12) hx hb hts hinX4 hown hK hP 16 rfl rfl 1 (by decide) hm7 (fun _ h9 => h9) rfl dX3_collectPairs_28 ?_
            refine lv_goto (tgt := 35) hx hb dX3_collectPairs_31 (by decide) ?_
            refine lv_istore (lv' := [(5, .int (iI (P 0 1))), (4, .int (iI t)), (0, .ref (a 30)), (1, .ref (a 0)), (2, .ref (a 20)), (3, .int (iI z))]) hx hb dX3_collectPairs_35 hl (by decide) rfl (fun ls hl => ?_)
            exact join37  (P 0 1) (by first | rw [if_pos (by omega)] | rw [if_neg (by omega)])  ls (lv_sub hl [1, 2, 3, 4, 5, 0] rfl)
    exact loop8 ((P 0 0 - 0 : Int) + 1).toNat 0 0 (P 34) (P 35) (P 36)  (by omega) (by omega) (colOK_0 _ _ _ _ _) (by omega) H locs (hP) (k_addr hD rfl) hS ls (lv_sub hl [0, 1, 2, 3, 4] rfl)
  exact hbody s.heap [] hP hS ls hl
set_option maxHeartbeats 4000000 in
set_option maxRecDepth 100000 in
theorem c_X3_bestFreePair (l : Launch) (D : va_G) (cy : Nat → ClassId) (a : Nat → Nat) (P : Nat → Int → Int)  (hn : 0 ≤ P 30 8 ∧ P 30 8 ≤ 144) (hA : ∀ i : Int, 0 ≤ i → i < P 30 8 → (0 ≤ P 34 i ∧ P 34 i < 12) ∧ (0 ≤ P 35 i ∧ P 35 i < 12) ∧ (0 ≤ P 36 i ∧ P 36 i ≤ 10100000)) (hSR : ∀ k : Int, 0 ≤ k → k < 12 → (-1000000000 ≤ P 31 k ∧ P 31 k ≤ 12) ∧ (-1000000000 ≤ P 32 k ∧ P 32 k ≤ 12)) : Met l yX3_bestFreePair wsX3_bestFreePair { frames := 0, cells := 0, slots := 0, locals := 0 } (kPre (GG D cy) D (maW cy a P) ([.ref (a 30)] : List Value)) (kRO (fun r => bfp (P 31) (P 32) (P 34) (P 35) (P 36) (P 30 8) r)) 0 0 (fun _ => False) := by
  refine kRO_start (cc := cX3_bestFreePair) (maxL := 4) (ret := (some .int)) (by decide) rfl (Nat.le_of_ble_eq_true rfl) ?_
  intro p e s m below meth c hx hb hr hlocks hml hts hown hG hP ls hl
  have hK := hG.1
  have hl : lv_has ls 4 [(0, .ref (a 30))] := hl
  have hinX3 : ∀ w ∈ u_ws RX3 TX3 9, w ∈ wsX3_bestFreePair := by decide +kernel
  have hm0 := hts (.fieldLink RX3 37 "ArcPlate$Matching" "pairs" "I") (by decide +kernel)
  have hm1 := hts (.fieldLink RX3 9 "ArcPlate$Matching" "starOf" "[I") (by decide +kernel)
  have hm2 := hts (.fieldLink RX3 28 "ArcPlate$Matching" "pairTrail" "[I") (by decide +kernel)
  have hm3 := hts (.constant RX3 97 (-1000000000)) (by decide +kernel)
  have hm4 := hts (.fieldLink RX3 15 "ArcPlate$Matching" "trailOf" "[I") (by decide +kernel)
  have hm5 := hts (.fieldLink RX3 31 "ArcPlate$Matching" "pairStar" "[I") (by decide +kernel)
  have hm6 := hts (.fieldLink RX3 34 "ArcPlate$Matching" "pairCosts" "[I") (by decide +kernel)
  refine k_iconst hx hb dX3_bestFreePair_0 ?_
  refine lv_istore_n (lv' := [(1, .int (iI (-1))), (0, .ref (a 30))]) hx hb dX3_bestFreePair_1 rfl hl (by decide) rfl (fun ls hl => ?_)
  refine k_iconst hx hb dX3_bestFreePair_2 ?_
  refine lv_istore_n (lv' := [(2, .int (iI 0)), (1, .int (iI (-1))), (0, .ref (a 30))]) hx hb dX3_bestFreePair_3 rfl hl (by decide) rfl (fun ls hl => ?_)
  have loop4 : ∀ (n_1 : Nat) (i : Int) (b : Int) (hi0 : 0 ≤ i) (hi1 : i ≤ P 30 8) (hi2 : bfp (P 31) (P 32) (P 34) (P 35) (P 36) i b) (hn : P 30 8 - i < (n_1 : Int)) (ls : Array Slot) (hl : lv_has ls 4 [(2, .int (iI i)), (1, .int (iI b)), (0, .ref (a 30))]), W p l e { frames := 0, cells := 0, slots := 0, locals := 0 } s m ([.ref (a 30)] : List Value).toArray below meth c s.heap [] 0 0 (MQ below (kRO (fun r => bfp (P 31) (P 32) (P 34) (P 35) (P 36) (P 30 8) r)) ([.ref (a 30)] : List Value).toArray s 0 0 (fun _ => False)) (F0 m 4 ls []) := by
    intro n_1
    induction n_1 with
    | zero => intro i b hi0 hi1 hi2 hn ls hl; exfalso; omega
    | succ n_1 ih4 =>
      intro i b hi0 hi1 hi2 hn ls hl
      have hbr := bfp_r hi2
      refine lv_iload_n hx hb dX3_bestFreePair_4 rfl (lv_at hl 0 rfl) ?_
      refine lv_aload_n hx hb dX3_bestFreePair_5 rfl (lv_at hl 2 rfl) ?_
      refine va_get (D := D) (ci := 2) (v := .int (iI (P 30 8))) (C := RX3) (T := TX3) (N := 9) hx hb hts hinX3 hown hK hP 0 rfl rfl 8 (by decide) hm0 (fun _ h9 => h9) rfl dX3_bestFreePair_6 ?_
      refine k_icmp_ge (tgt := 81) hx hb dX3_bestFreePair_9 (by decide) (by omega) (by omega) (fun c_2 => ?_) (fun c_2 => ?_)
      · skip
        have e9 : i = P 30 8 := by omega
        refine lv_iload_n hx hb dX3_bestFreePair_81 rfl (lv_at hl 1 rfl) ?_
        exact W.iret (v := iI b) hx hb hr (fun t9 ht _ => ⟨b, rfl, (by subst e9; exact hi2 : bfp (P 31) (P 32) (P 34) (P 35) (P 36) (P 30 8) (b : Int)), ht⟩) (fun _ h => nomatch h) dX3_bestFreePair_82 hlocks
      · skip
        have hAi := hA i hi0 (by omega)
        have hs1 := hSR (P 34 i) hAi.1.1 hAi.1.2
        have hs2 := hSR (P 35 i) hAi.2.1.1 hAi.2.1.2
        refine lv_aload_n hx hb dX3_bestFreePair_12 rfl (lv_at hl 2 rfl) ?_
        refine va_get (D := D) (ci := 2) (v := .ref (a 31)) (C := RX3) (T := TX3) (N := 9) hx hb hts hinX3 hown hK hP 0 rfl rfl 0 (by decide) hm1 (fun _ h9 => h9) rfl dX3_bestFreePair_13 ?_
        refine lv_aload_n hx hb dX3_bestFreePair_16 rfl (lv_at hl 2 rfl) ?_
        refine va_get (D := D) (ci := 2) (v := .ref (a 34)) (C := RX3) (T := TX3) (N := 9) hx hb hts hinX3 hown hK hP 0 rfl rfl 5 (by decide) hm2 (fun _ h9 => h9) rfl dX3_bestFreePair_17 ?_
        refine lv_iload_n hx hb dX3_bestFreePair_20 rfl (lv_at hl 0 rfl) ?_
        refine k_iald hx hb hK hP 4 0 (f := P 34) rfl rfl (i := i) (by omega) dX3_bestFreePair_21 ?_
        refine k_iald hx hb hK hP 1 0 (f := P 31) rfl rfl (i := P 34 i) (by omega) dX3_bestFreePair_22 ?_
        refine k_ldc (z := (-1000000000)) hx hb hown hm3 (by decide +kernel) dX3_bestFreePair_23 ?_
        refine k_icmp_ne (tgt := 48) hx hb dX3_bestFreePair_25 (by decide) (by omega) (by omega) (fun c_3 => ?_) (fun c_3 => ?_)
        · skip
          have hnf : ¬ fre (P 31) (P 32) (P 34) (P 35) i := fun h9 => by have g1 := h9.1; omega
          refine k_iconst hx hb dX3_bestFreePair_48 ?_
          refine lv_istore_n (lv' := [(3, .int (iI 0)), (2, .int (iI i)), (1, .int (iI b)), (0, .ref (a 30))]) hx hb dX3_bestFreePair_49 rfl hl (by decide) rfl (fun ls hl => ?_)
          refine lv_iload_n hx hb dX3_bestFreePair_50 rfl (lv_at hl 0 rfl) ?_
          refine k_if_eq (tgt := 75) hx hb dX3_bestFreePair_51 (by decide) (by omega) (fun c_4 => ?_) (fun c_4 => ?_)
          · skip
            refine lv_iinc (v := iI (i + 1)) (lv' := [(2, .int (iI (i + 1))), (3, .int (iI 0)), (1, .int (iI b)), (0, .ref (a 30))]) hx hb dX3_bestFreePair_75 hl (k := 1) rfl (iI_add _ _) (by decide) rfl (fun ls hl => ?_)
            refine lv_goto (tgt := 4) hx hb dX3_bestFreePair_78 (by decide) ?_
            exact ih4 (i + 1) b  (by omega) (by omega) (by first | exact bfp_no hi2 hnf | exact bfp_new hi2 hi0 hyf (by omega) | exact bfp_old hi2 (by omega) (by omega)) (by omega) ls (lv_sub hl [0, 2, 3] rfl)
          · exfalso; omega
        · skip
          refine lv_aload_n hx hb dX3_bestFreePair_28 rfl (lv_at hl 2 rfl) ?_
          refine va_get (D := D) (ci := 2) (v := .ref (a 32)) (C := RX3) (T := TX3) (N := 9) hx hb hts hinX3 hown hK hP 0 rfl rfl 1 (by decide) hm4 (fun _ h9 => h9) rfl dX3_bestFreePair_29 ?_
          refine lv_aload_n hx hb dX3_bestFreePair_32 rfl (lv_at hl 2 rfl) ?_
          refine va_get (D := D) (ci := 2) (v := .ref (a 35)) (C := RX3) (T := TX3) (N := 9) hx hb hts hinX3 hown hK hP 0 rfl rfl 6 (by decide) hm5 (fun _ h9 => h9) rfl dX3_bestFreePair_33 ?_
          refine lv_iload_n hx hb dX3_bestFreePair_36 rfl (lv_at hl 0 rfl) ?_
          refine k_iald hx hb hK hP 5 0 (f := P 35) rfl rfl (i := i) (by omega) dX3_bestFreePair_37 ?_
          refine k_iald hx hb hK hP 2 0 (f := P 32) rfl rfl (i := P 35 i) (by omega) dX3_bestFreePair_38 ?_
          refine k_ldc (z := (-1000000000)) hx hb hown hm3 (by decide +kernel) dX3_bestFreePair_39 ?_
          refine k_icmp_ne (tgt := 48) hx hb dX3_bestFreePair_41 (by decide) (by omega) (by omega) (fun c_5 => ?_) (fun c_5 => ?_)
          · skip
            have hnf : ¬ fre (P 31) (P 32) (P 34) (P 35) i := fun h9 => by have g1 := h9.2; omega
            refine k_iconst hx hb dX3_bestFreePair_48 ?_
            refine lv_istore_n (lv' := [(3, .int (iI 0)), (2, .int (iI i)), (1, .int (iI b)), (0, .ref (a 30))]) hx hb dX3_bestFreePair_49 rfl hl (by decide) rfl (fun ls hl => ?_)
            refine lv_iload_n hx hb dX3_bestFreePair_50 rfl (lv_at hl 0 rfl) ?_
            refine k_if_eq (tgt := 75) hx hb dX3_bestFreePair_51 (by decide) (by omega) (fun c_6 => ?_) (fun c_6 => ?_)
            · skip
              refine lv_iinc (v := iI (i + 1)) (lv' := [(2, .int (iI (i + 1))), (3, .int (iI 0)), (1, .int (iI b)), (0, .ref (a 30))]) hx hb dX3_bestFreePair_75 hl (k := 1) rfl (iI_add _ _) (by decide) rfl (fun ls hl => ?_)
              refine lv_goto (tgt := 4) hx hb dX3_bestFreePair_78 (by decide) ?_
              exact ih4 (i + 1) b  (by omega) (by omega) (by first | exact bfp_no hi2 hnf | exact bfp_new hi2 hi0 hyf (by omega) | exact bfp_old hi2 (by omega) (by omega)) (by omega) ls (lv_sub hl [0, 2, 3] rfl)
            · exfalso; omega
          · skip
            have hyf : fre (P 31) (P 32) (P 34) (P 35) i := ⟨by omega, by omega⟩
            refine k_iconst hx hb dX3_bestFreePair_44 ?_
            refine lv_goto (tgt := 49) hx hb dX3_bestFreePair_45 (by decide) ?_
            refine lv_istore_n (lv' := [(3, .int (iI 1)), (2, .int (iI i)), (1, .int (iI b)), (0, .ref (a 30))]) hx hb dX3_bestFreePair_49 rfl hl (by decide) rfl (fun ls hl => ?_)
            refine lv_iload_n hx hb dX3_bestFreePair_50 rfl (lv_at hl 0 rfl) ?_
            refine k_if_eq (tgt := 75) hx hb dX3_bestFreePair_51 (by decide) (by omega) (fun c_7 => ?_) (fun c_7 => ?_)
            · exfalso; omega
            · skip
              refine lv_iload_n hx hb dX3_bestFreePair_54 rfl (lv_at hl 2 rfl) ?_
              refine k_if_lt (tgt := 73) hx hb dX3_bestFreePair_55 (by decide) (by omega) (fun c_8 => ?_) (fun c_8 => ?_)
              · skip
                refine lv_iload_n hx hb dX3_bestFreePair_73 rfl (lv_at hl 1 rfl) ?_
                refine lv_istore_n (lv' := [(1, .int (iI i)), (3, .int (iI 1)), (2, .int (iI i)), (0, .ref (a 30))]) hx hb dX3_bestFreePair_74 rfl hl (by decide) rfl (fun ls hl => ?_)
                refine lv_iinc (v := iI (i + 1)) (lv' := [(2, .int (iI (i + 1))), (1, .int (iI i)), (3, .int (iI 1)), (0, .ref (a 30))]) hx hb dX3_bestFreePair_75 hl (k := 2) rfl (iI_add _ _) (by decide) rfl (fun ls hl => ?_)
                refine lv_goto (tgt := 4) hx hb dX3_bestFreePair_78 (by decide) ?_
                exact ih4 (i + 1) i  (by omega) (by omega) (by first | exact bfp_no hi2 hnf | exact bfp_new hi2 hi0 hyf (by omega) | exact bfp_old hi2 (by omega) (by omega)) (by omega) ls (lv_sub hl [0, 1, 3] rfl)
              · skip
                have hAb := hA b (by omega) (by omega)
                refine lv_aload_n hx hb dX3_bestFreePair_58 rfl (lv_at hl 3 rfl) ?_
                refine va_get (D := D) (ci := 2) (v := .ref (a 36)) (C := RX3) (T := TX3) (N := 9) hx hb hts hinX3 hown hK hP 0 rfl rfl 7 (by decide) hm6 (fun _ h9 => h9) rfl dX3_bestFreePair_59 ?_
                refine lv_iload_n hx hb dX3_bestFreePair_62 rfl (lv_at hl 1 rfl) ?_
                refine k_iald hx hb hK hP 6 0 (f := P 36) rfl rfl (i := i) (by omega) dX3_bestFreePair_63 ?_
                refine lv_aload_n hx hb dX3_bestFreePair_64 rfl (lv_at hl 3 rfl) ?_
                refine va_get (D := D) (ci := 2) (v := .ref (a 36)) (C := RX3) (T := TX3) (N := 9) hx hb hts hinX3 hown hK hP 0 rfl rfl 7 (by decide) hm6 (fun _ h9 => h9) rfl dX3_bestFreePair_65 ?_
                refine lv_iload_n hx hb dX3_bestFreePair_68 rfl (lv_at hl 2 rfl) ?_
                refine k_iald hx hb hK hP 6 0 (f := P 36) rfl rfl (i := b) (by omega) dX3_bestFreePair_69 ?_
                refine k_icmp_ge (tgt := 75) hx hb dX3_bestFreePair_70 (by decide) (by omega) (by omega) (fun c_9 => ?_) (fun c_9 => ?_)
                · skip
                  refine lv_iinc (v := iI (i + 1)) (lv' := [(2, .int (iI (i + 1))), (3, .int (iI 1)), (1, .int (iI b)), (0, .ref (a 30))]) hx hb dX3_bestFreePair_75 hl (k := 1) rfl (iI_add _ _) (by decide) rfl (fun ls hl => ?_)
                  refine lv_goto (tgt := 4) hx hb dX3_bestFreePair_78 (by decide) ?_
                  exact ih4 (i + 1) b  (by omega) (by omega) (by first | exact bfp_no hi2 hnf | exact bfp_new hi2 hi0 hyf (by omega) | exact bfp_old hi2 (by omega) (by omega)) (by omega) ls (lv_sub hl [0, 2, 3] rfl)
                · skip
                  refine lv_iload_n hx hb dX3_bestFreePair_73 rfl (lv_at hl 1 rfl) ?_
                  refine lv_istore_n (lv' := [(1, .int (iI i)), (3, .int (iI 1)), (2, .int (iI i)), (0, .ref (a 30))]) hx hb dX3_bestFreePair_74 rfl hl (by decide) rfl (fun ls hl => ?_)
                  refine lv_iinc (v := iI (i + 1)) (lv' := [(2, .int (iI (i + 1))), (1, .int (iI i)), (3, .int (iI 1)), (0, .ref (a 30))]) hx hb dX3_bestFreePair_75 hl (k := 2) rfl (iI_add _ _) (by decide) rfl (fun ls hl => ?_)
                  refine lv_goto (tgt := 4) hx hb dX3_bestFreePair_78 (by decide) ?_
                  exact ih4 (i + 1) i  (by omega) (by omega) (by first | exact bfp_no hi2 hnf | exact bfp_new hi2 hi0 hyf (by omega) | exact bfp_old hi2 (by omega) (by omega)) (by omega) ls (lv_sub hl [0, 1, 3] rfl)
  exact loop4 ((P 30 8 - 0 : Int) + 1).toNat 0 (-1)  (by omega) (by omega) (bfp_0 _ _ _ _ _) (by omega) ls (lv_sub hl [0, 1, 2] rfl)
