set_option maxHeartbeats 4000000 in
set_option maxRecDepth 100000 in
theorem c_X7_thrown (l : Launch) (D : va_G) (cy : Nat → ClassId) (a : Nat → Nat) (R : Nat → Int → Int)   : Met l yX7_thrown wsX7_thrown { frames := 0, cells := 0, slots := 0, locals := 0 } (kPre (GG D cy) D (rfW cy a R) ([.ref (a 0)] : List Value)) (kRO (fun r => r = R 0 6)) 0 0 (fun _ => False) := by
  refine kRO_start (cc := cX7_thrown) (maxL := 1) (ret := (some .int)) (by decide) rfl (Nat.le_of_ble_eq_true rfl) ?_
  intro p e s m below meth c hx hb hr hlocks hml hts hown hG hP ls hl
  have hK := hG.1
  have hl : lv_has ls 1 [(0, .ref (a 0))] := hl
  have hinX7 : ∀ w ∈ u_ws RX7 TX7 19, w ∈ wsX7_thrown := by decide +kernel
  have hm0 := hts (.fieldLink RX7 31 "ArcPlateModel" "code" "I") (by decide +kernel)
  refine lv_aload_n hx hb dX7_thrown_0 rfl (lv_at hl 0 rfl) ?_
  refine va_get (D := D) (ci := 6) (v := .int (iI (R 0 6))) (C := RX7) (T := TX7) (N := 19) hx hb hts hinX7 hown hK hP 0 rfl rfl 6 (by decide) hm0 (fun _ h9 => h9) rfl dX7_thrown_1 ?_
  exact W.iret (v := iI (R 0 6)) hx hb hr (fun t9 ht _ => ⟨(R 0 6), rfl, (by first | rfl | omega : (R 0 6 : Int) = R 0 6), ht⟩) (fun _ h => nomatch h) dX7_thrown_4 hlocks
set_option maxHeartbeats 4000000 in
set_option maxRecDepth 100000 in
theorem c_X7_addsTrail (l : Launch) (D : va_G) (cy : Nat → ClassId) (sz : Nat) (a : Nat → Nat) (R : Nat → Int → Int)  (hm12 : 0 ≤ R 1 12 ∧ R 1 12 < 12) : Met l yX7_addsTrail wsX7_addsTrail { frames := 0, cells := 0, slots := 0, locals := 0 } (mPre (GG D cy) D (rfW cy a R) sz ([.ref (a 0)] : List Value)) (kQi D (rfW cy a R) sz (fun u9 : Nat → Int → Int => rfW cy a u9) (fun r9 u9 => r9 = R 1 12 ∧ u9 = (upr R 1 (tAT (R 1))))) 0 0 (va_A (rfW cy a R) sz) := by
  refine kM_start (cc := cX7_addsTrail) (maxL := 1) (ret := (some .int)) (by decide) rfl (Nat.le_of_ble_eq_true rfl) ?_
  intro p e s m below meth c hx hb hr hlocks hml hts hown hsz hA hG hP hD hS hin ls hl
  have hK := hG.1
  have hl : lv_has ls 1 [(0, .ref (a 0))] := hl
  have hinX7 : ∀ w ∈ u_ws RX7 TX7 19, w ∈ wsX7_addsTrail := by decide +kernel
  have hm0 := hts (.fieldLink RX7 7 "ArcPlateModel" "m" "[I") (by decide +kernel)
  have hbody : ∀ (H : Heap) (locs : List Loc) (hP : va_P D vwCl (rfW cy a R) H) (hS : va_S (va_A (rfW cy a R) sz) s.heap H locs) (ls : Array Slot) (hl : lv_has ls 1 [(0, .ref (a 0))]), W p l e { frames := 0, cells := 0, slots := 0, locals := 0 } s m ([.ref (a 0)] : List Value).toArray below meth c H locs 0 0 (MQ below (kQi D (rfW cy a R) sz (fun u9 : Nat → Int → Int => rfW cy a u9) (fun r9 u9 => r9 = R 1 12 ∧ u9 = (upr R 1 (tAT (R 1))))) ([.ref (a 0)] : List Value).toArray s 0 0 (va_A (rfW cy a R) sz)) (F0 m 0 ls []) := by
    intro H locs hP hS ls hl
    refine lv_aload_n hx hb dX7_addsTrail_0 rfl (lv_at hl 0 rfl) ?_
    refine va_get (D := D) (ci := 6) (v := .ref (a 1)) (C := RX7) (T := TX7) (N := 19) hx hb hts hinX7 hown hK hP 0 rfl rfl 0 (by decide) hm0 (fun _ h9 => h9) rfl dX7_addsTrail_1 ?_
    refine k_bipush hx hb dX7_addsTrail_4 (by decide +kernel) ?_
    refine k_bipush hx hb dX7_addsTrail_6 (by decide +kernel) ?_
    refine lv_aload_n hx hb dX7_addsTrail_8 rfl (lv_at hl 0 rfl) ?_
    refine va_get (D := D) (ci := 6) (v := .ref (a 1)) (C := RX7) (T := TX7) (N := 19) hx hb hts hinX7 hown hK hP 0 rfl rfl 0 (by decide) hm0 (fun _ h9 => h9) rfl dX7_addsTrail_9 ?_
    refine k_bipush hx hb dX7_addsTrail_12 (by decide +kernel) ?_
    refine k_iald hx hb hK hP 1 0 (f := R 1) rfl rfl (i := 12) (by omega) dX7_addsTrail_14 ?_
    refine k_imul hx hb dX7_addsTrail_15 ?_
    refine k_iadd hx hb dX7_addsTrail_16 ?_
    refine k_iconst hx hb dX7_addsTrail_17 ?_
    refine k_iast hx hb hK hP hD hS 1 0 (f := R 1) rfl rfl (i := 14 + (37 * (R 1 12))) (x := 0) (by omega) dX7_addsTrail_18 (fun H locs hP hD hS => ?_)
    have hP : va_P D vwCl (rfW cy a (upr R 1 (ups (R 1) (14 + (37 * (R 1 12))) 0))) H := hP
    have hD : va_D (va_A (rfW cy a R) sz) (rfW cy a (upr R 1 (ups (R 1) (14 + (37 * (R 1 12))) 0))) := hD
    refine lv_aload_n hx hb dX7_addsTrail_19 rfl (lv_at hl 0 rfl) ?_
    refine va_get (D := D) (ci := 6) (v := .ref (a 1)) (C := RX7) (T := TX7) (N := 19) hx hb hts hinX7 hown hK hP 0 rfl rfl 0 (by decide) hm0 (fun _ h9 => h9) rfl dX7_addsTrail_20 ?_
    refine k_bipush hx hb dX7_addsTrail_23 (by decide +kernel) ?_
    refine lv_dup2_11 hx hb dX7_addsTrail_25 rfl rfl ?_
    refine k_iald hx hb hK hP 1 0 (f := ups (R 1) (14 + (37 * (R 1 12))) 0) rfl rfl (i := 12) (by omega) dX7_addsTrail_26 ?_
    refine k_eqI (v := (ups (R 1) (14 + (37 * (R 1 12))) 0) 12) (w := R 1 12) (ups_ne _ _ (by omega)) ?_
    refine k_iconst hx hb dX7_addsTrail_27 ?_
    refine k_iadd hx hb dX7_addsTrail_28 ?_
    refine k_iast hx hb hK hP hD hS 1 0 (f := ups (R 1) (14 + (37 * (R 1 12))) 0) rfl rfl (i := 12) (x := (R 1 12) + 1) (by omega) dX7_addsTrail_29 (fun H locs hP hD hS => ?_)
    have hP : va_P D vwCl (rfW cy a (upr R 1 (ups (ups (R 1) (14 + (37 * (R 1 12))) 0) 12 ((R 1 12) + 1)))) H := hP
    have hD : va_D (va_A (rfW cy a R) sz) (rfW cy a (upr R 1 (ups (ups (R 1) (14 + (37 * (R 1 12))) 0) 12 ((R 1 12) + 1)))) := hD
    refine lv_aload_n hx hb dX7_addsTrail_30 rfl (lv_at hl 0 rfl) ?_
    refine va_get (D := D) (ci := 6) (v := .ref (a 1)) (C := RX7) (T := TX7) (N := 19) hx hb hts hinX7 hown hK hP 0 rfl rfl 0 (by decide) hm0 (fun _ h9 => h9) rfl dX7_addsTrail_31 ?_
    refine k_bipush hx hb dX7_addsTrail_34 (by decide +kernel) ?_
    refine k_iald hx hb hK hP 1 0 (f := ups (ups (R 1) (14 + (37 * (R 1 12))) 0) 12 ((R 1 12) + 1)) rfl rfl (i := 12) (by omega) dX7_addsTrail_36 ?_
    refine k_iconst hx hb dX7_addsTrail_37 ?_
    refine k_isub hx hb dX7_addsTrail_38 ?_
    exact W.iret (v := iI (((R 1 12) + 1) - 1)) hx hb hr (fun t9 ht _ => ⟨⟨iI (((R 1 12) + 1) - 1), (upr R 1 (ups (ups (R 1) (14 + (37 * (R 1 12))) 0) 12 ((R 1 12) + 1))), rfl, ⟨(((R 1 12) + 1) - 1), rfl, (⟨by first | rfl | omega, (by rw [show (ups (ups (R 1) (14 + (37 * (R 1 12))) 0) 12 ((R 1 12) + 1)) = (tAT (R 1)) from rfl])⟩ : (((R 1 12) + 1) - 1 : Int) = R 1 12 ∧ (upr R 1 (ups (ups (R 1) (14 + (37 * (R 1 12))) 0) 12 ((R 1 12) + 1))) = (upr R 1 (tAT (R 1))))⟩, by rw [ht]; exact hP, hD⟩, hS.F ht⟩) hS.2.2 dX7_addsTrail_39 hlocks
  exact hbody s.heap [] hP hS ls hl
set_option maxHeartbeats 4000000 in
set_option maxRecDepth 100000 in
theorem c_X7_addsStar (l : Launch) (D : va_G) (cy : Nat → ClassId) (sz : Nat) (a : Nat → Nat) (R : Nat → Int → Int) (x y z : Int) (hm13 : 0 ≤ R 1 13 ∧ R 1 13 < 12) : Met l yX7_addsStar wsX7_addsStar { frames := 0, cells := 0, slots := 0, locals := 0 } (mPre (GG D cy) D (rfW cy a R) sz ([.ref (a 0), .int (iI x), .int (iI y), .int (iI z)] : List Value)) (kQi D (rfW cy a R) sz (fun u9 : Nat → Int → Int => rfW cy a u9) (fun r9 u9 => r9 = R 1 13 ∧ u9 = (upr R 1 (tAS (R 1) x y z)))) 0 0 (va_A (rfW cy a R) sz) := by
  refine kM_start (cc := cX7_addsStar) (maxL := 5) (ret := (some .int)) (by decide) rfl (Nat.le_of_ble_eq_true rfl) ?_
  intro p e s m below meth c hx hb hr hlocks hml hts hown hsz hA hG hP hD hS hin ls hl
  have hK := hG.1
  have hl : lv_has ls 5 [(0, .ref (a 0)), (1, .int (iI x)), (2, .int (iI y)), (3, .int (iI z))] := hl
  have hinX7 : ∀ w ∈ u_ws RX7 TX7 19, w ∈ wsX7_addsStar := by decide +kernel
  have hm0 := hts (.fieldLink RX7 7 "ArcPlateModel" "m" "[I") (by decide +kernel)
  have hbody : ∀ (H : Heap) (locs : List Loc) (hP : va_P D vwCl (rfW cy a R) H) (hS : va_S (va_A (rfW cy a R) sz) s.heap H locs) (ls : Array Slot) (hl : lv_has ls 5 [(0, .ref (a 0)), (1, .int (iI x)), (2, .int (iI y)), (3, .int (iI z))]), W p l e { frames := 0, cells := 0, slots := 0, locals := 0 } s m ([.ref (a 0), .int (iI x), .int (iI y), .int (iI z)] : List Value).toArray below meth c H locs 0 0 (MQ below (kQi D (rfW cy a R) sz (fun u9 : Nat → Int → Int => rfW cy a u9) (fun r9 u9 => r9 = R 1 13 ∧ u9 = (upr R 1 (tAS (R 1) x y z)))) ([.ref (a 0), .int (iI x), .int (iI y), .int (iI z)] : List Value).toArray s 0 0 (va_A (rfW cy a R) sz)) (F0 m 0 ls []) := by
    intro H locs hP hS ls hl
    refine k_sipush hx hb dX7_addsStar_0 (by decide +kernel) ?_
    refine k_iconst hx hb dX7_addsStar_3 ?_
    refine lv_aload_n hx hb dX7_addsStar_4 rfl (lv_at hl 0 rfl) ?_
    refine va_get (D := D) (ci := 6) (v := .ref (a 1)) (C := RX7) (T := TX7) (N := 19) hx hb hts hinX7 hown hK hP 0 rfl rfl 0 (by decide) hm0 (fun _ h9 => h9) rfl dX7_addsStar_5 ?_
    refine k_bipush hx hb dX7_addsStar_8 (by decide +kernel) ?_
    refine k_iald hx hb hK hP 1 0 (f := R 1) rfl rfl (i := 13) (by omega) dX7_addsStar_10 ?_
    refine k_imul hx hb dX7_addsStar_11 ?_
    refine k_iadd hx hb dX7_addsStar_12 ?_
    refine lv_istore (lv' := [(4, .int (iI (458 + (3 * (R 1 13))))), (0, .ref (a 0)), (1, .int (iI x)), (2, .int (iI y)), (3, .int (iI z))]) hx hb dX7_addsStar_13 hl (by decide) rfl (fun ls hl => ?_)
    refine lv_aload_n hx hb dX7_addsStar_15 rfl (lv_at hl 1 rfl) ?_
    refine va_get (D := D) (ci := 6) (v := .ref (a 1)) (C := RX7) (T := TX7) (N := 19) hx hb hts hinX7 hown hK hP 0 rfl rfl 0 (by decide) hm0 (fun _ h9 => h9) rfl dX7_addsStar_16 ?_
    refine lv_iload hx hb dX7_addsStar_19 (lv_at hl 0 rfl) ?_
    refine lv_iload_n hx hb dX7_addsStar_21 rfl (lv_at hl 2 rfl) ?_
    refine k_iast hx hb hK hP hD hS 1 0 (f := R 1) rfl rfl (i := 458 + (3 * (R 1 13))) (x := x) (by omega) dX7_addsStar_22 (fun H locs hP hD hS => ?_)
    have hP : va_P D vwCl (rfW cy a (upr R 1 (ups (R 1) (458 + (3 * (R 1 13))) x))) H := hP
    have hD : va_D (va_A (rfW cy a R) sz) (rfW cy a (upr R 1 (ups (R 1) (458 + (3 * (R 1 13))) x))) := hD
    refine lv_aload_n hx hb dX7_addsStar_23 rfl (lv_at hl 1 rfl) ?_
    refine va_get (D := D) (ci := 6) (v := .ref (a 1)) (C := RX7) (T := TX7) (N := 19) hx hb hts hinX7 hown hK hP 0 rfl rfl 0 (by decide) hm0 (fun _ h9 => h9) rfl dX7_addsStar_24 ?_
    refine lv_iload hx hb dX7_addsStar_27 (lv_at hl 0 rfl) ?_
    refine k_iconst hx hb dX7_addsStar_29 ?_
    refine k_iadd hx hb dX7_addsStar_30 ?_
    refine lv_iload_n hx hb dX7_addsStar_31 rfl (lv_at hl 3 rfl) ?_
    refine k_iast hx hb hK hP hD hS 1 0 (f := ups (R 1) (458 + (3 * (R 1 13))) x) rfl rfl (i := (458 + (3 * (R 1 13))) + 1) (x := y) (by omega) dX7_addsStar_32 (fun H locs hP hD hS => ?_)
    have hP : va_P D vwCl (rfW cy a (upr R 1 (ups (ups (R 1) (458 + (3 * (R 1 13))) x) ((458 + (3 * (R 1 13))) + 1) y))) H := hP
    have hD : va_D (va_A (rfW cy a R) sz) (rfW cy a (upr R 1 (ups (ups (R 1) (458 + (3 * (R 1 13))) x) ((458 + (3 * (R 1 13))) + 1) y))) := hD
    refine lv_aload_n hx hb dX7_addsStar_33 rfl (lv_at hl 1 rfl) ?_
    refine va_get (D := D) (ci := 6) (v := .ref (a 1)) (C := RX7) (T := TX7) (N := 19) hx hb hts hinX7 hown hK hP 0 rfl rfl 0 (by decide) hm0 (fun _ h9 => h9) rfl dX7_addsStar_34 ?_
    refine lv_iload hx hb dX7_addsStar_37 (lv_at hl 0 rfl) ?_
    refine k_iconst hx hb dX7_addsStar_39 ?_
    refine k_iadd hx hb dX7_addsStar_40 ?_
    refine lv_iload_n hx hb dX7_addsStar_41 rfl (lv_at hl 4 rfl) ?_
    refine k_iast hx hb hK hP hD hS 1 0 (f := ups (ups (R 1) (458 + (3 * (R 1 13))) x) ((458 + (3 * (R 1 13))) + 1) y) rfl rfl (i := (458 + (3 * (R 1 13))) + 2) (x := z) (by omega) dX7_addsStar_42 (fun H locs hP hD hS => ?_)
    have hP : va_P D vwCl (rfW cy a (upr R 1 (ups (ups (ups (R 1) (458 + (3 * (R 1 13))) x) ((458 + (3 * (R 1 13))) + 1) y) ((458 + (3 * (R 1 13))) + 2) z))) H := hP
    have hD : va_D (va_A (rfW cy a R) sz) (rfW cy a (upr R 1 (ups (ups (ups (R 1) (458 + (3 * (R 1 13))) x) ((458 + (3 * (R 1 13))) + 1) y) ((458 + (3 * (R 1 13))) + 2) z))) := hD
    refine lv_aload_n hx hb dX7_addsStar_43 rfl (lv_at hl 1 rfl) ?_
    refine va_get (D := D) (ci := 6) (v := .ref (a 1)) (C := RX7) (T := TX7) (N := 19) hx hb hts hinX7 hown hK hP 0 rfl rfl 0 (by decide) hm0 (fun _ h9 => h9) rfl dX7_addsStar_44 ?_
    refine k_bipush hx hb dX7_addsStar_47 (by decide +kernel) ?_
    refine lv_dup2_11 hx hb dX7_addsStar_49 rfl rfl ?_
    refine k_iald hx hb hK hP 1 0 (f := ups (ups (ups (R 1) (458 + (3 * (R 1 13))) x) ((458 + (3 * (R 1 13))) + 1) y) ((458 + (3 * (R 1 13))) + 2) z) rfl rfl (i := 13) (by omega) dX7_addsStar_50 ?_
    refine k_eqI (v := (ups (ups (ups (R 1) (458 + (3 * (R 1 13))) x) ((458 + (3 * (R 1 13))) + 1) y) ((458 + (3 * (R 1 13))) + 2) z) 13) (w := R 1 13) (by rw [ups_ne _ _ (by omega), ups_ne _ _ (by omega), ups_ne _ _ (by omega)]) ?_
    refine k_iconst hx hb dX7_addsStar_51 ?_
    refine k_iadd hx hb dX7_addsStar_52 ?_
    refine k_iast hx hb hK hP hD hS 1 0 (f := ups (ups (ups (R 1) (458 + (3 * (R 1 13))) x) ((458 + (3 * (R 1 13))) + 1) y) ((458 + (3 * (R 1 13))) + 2) z) rfl rfl (i := 13) (x := (R 1 13) + 1) (by omega) dX7_addsStar_53 (fun H locs hP hD hS => ?_)
    have hP : va_P D vwCl (rfW cy a (upr R 1 (ups (ups (ups (ups (R 1) (458 + (3 * (R 1 13))) x) ((458 + (3 * (R 1 13))) + 1) y) ((458 + (3 * (R 1 13))) + 2) z) 13 ((R 1 13) + 1)))) H := hP
    have hD : va_D (va_A (rfW cy a R) sz) (rfW cy a (upr R 1 (ups (ups (ups (ups (R 1) (458 + (3 * (R 1 13))) x) ((458 + (3 * (R 1 13))) + 1) y) ((458 + (3 * (R 1 13))) + 2) z) 13 ((R 1 13) + 1)))) := hD
    refine lv_aload_n hx hb dX7_addsStar_54 rfl (lv_at hl 1 rfl) ?_
    refine va_get (D := D) (ci := 6) (v := .ref (a 1)) (C := RX7) (T := TX7) (N := 19) hx hb hts hinX7 hown hK hP 0 rfl rfl 0 (by decide) hm0 (fun _ h9 => h9) rfl dX7_addsStar_55 ?_
    refine k_bipush hx hb dX7_addsStar_58 (by decide +kernel) ?_
    refine k_iald hx hb hK hP 1 0 (f := ups (ups (ups (ups (R 1) (458 + (3 * (R 1 13))) x) ((458 + (3 * (R 1 13))) + 1) y) ((458 + (3 * (R 1 13))) + 2) z) 13 ((R 1 13) + 1)) rfl rfl (i := 13) (by omega) dX7_addsStar_60 ?_
    refine k_iconst hx hb dX7_addsStar_61 ?_
    refine k_isub hx hb dX7_addsStar_62 ?_
    exact W.iret (v := iI (((R 1 13) + 1) - 1)) hx hb hr (fun t9 ht _ => ⟨⟨iI (((R 1 13) + 1) - 1), (upr R 1 (ups (ups (ups (ups (R 1) (458 + (3 * (R 1 13))) x) ((458 + (3 * (R 1 13))) + 1) y) ((458 + (3 * (R 1 13))) + 2) z) 13 ((R 1 13) + 1))), rfl, ⟨(((R 1 13) + 1) - 1), rfl, (⟨by first | rfl | omega, (by rw [show (ups (ups (ups (ups (R 1) (458 + (3 * (R 1 13))) x) ((458 + (3 * (R 1 13))) + 1) y) ((458 + (3 * (R 1 13))) + 2) z) 13 ((R 1 13) + 1)) = (tAS (R 1) x y z) from rfl])⟩ : (((R 1 13) + 1) - 1 : Int) = R 1 13 ∧ (upr R 1 (ups (ups (ups (ups (R 1) (458 + (3 * (R 1 13))) x) ((458 + (3 * (R 1 13))) + 1) y) ((458 + (3 * (R 1 13))) + 2) z) 13 ((R 1 13) + 1))) = (upr R 1 (tAS (R 1) x y z)))⟩, by rw [ht]; exact hP, hD⟩, hS.F ht⟩) hS.2.2 dX7_addsStar_63 hlocks
  exact hbody s.heap [] hP hS ls hl
set_option maxHeartbeats 4000000 in
set_option maxRecDepth 100000 in
theorem c_X7_setsPole (l : Launch) (D : va_G) (cy : Nat → ClassId) (sz : Nat) (a : Nat → Nat) (R : Nat → Int → Int) (x y : Int) (hI : Inv (R 1)) (hpo : poleOK x y) : Met l yX7_setsPole wsX7_setsPole { frames := 6, cells := 0, slots := 0, locals := 136 } (mPre (GG D cy) D (rfW cy a R) sz ([.ref (a 0), .int (iI x), .int (iI y)] : List Value)) (kQi D (rfW cy a R) sz (fun u9 : Nat → Int → Int => rfW cy a u9) (fun r9 u9 => r9 = pcost (tPo (R 1) x y) ∧ u9 = (upr R 1 (tPo (R 1) x y)))) 0 0 (va_A (rfW cy a R) sz) := by
  refine kM_start (cc := cX7_setsPole) (maxL := 3) (ret := (some .int)) (by decide) rfl (Nat.le_of_ble_eq_true rfl) ?_
  intro p e s m below meth c hx hb hr hlocks hml hts hown hsz hA hG hP hD hS hin ls hl
  have hK := hG.1
  have hl : lv_has ls 3 [(0, .ref (a 0)), (1, .int (iI x)), (2, .int (iI y))] := hl
  have hinX7 : ∀ w ∈ u_ws RX7 TX7 19, w ∈ wsX7_setsPole := by decide +kernel
  have hm0 := hts (.fieldLink RX7 7 "ArcPlateModel" "m" "[I") (by decide +kernel)
  have hbody : ∀ (H : Heap) (locs : List Loc) (hP : va_P D vwCl (rfW cy a R) H) (hS : va_S (va_A (rfW cy a R) sz) s.heap H locs) (ls : Array Slot) (hl : lv_has ls 3 [(0, .ref (a 0)), (1, .int (iI x)), (2, .int (iI y))]), W p l e { frames := 6, cells := 0, slots := 0, locals := 136 } s m ([.ref (a 0), .int (iI x), .int (iI y)] : List Value).toArray below meth c H locs 0 0 (MQ below (kQi D (rfW cy a R) sz (fun u9 : Nat → Int → Int => rfW cy a u9) (fun r9 u9 => r9 = pcost (tPo (R 1) x y) ∧ u9 = (upr R 1 (tPo (R 1) x y)))) ([.ref (a 0), .int (iI x), .int (iI y)] : List Value).toArray s 0 0 (va_A (rfW cy a R) sz)) (F0 m 0 ls []) := by
    intro H locs hP hS ls hl
    refine lv_aload_n hx hb dX7_setsPole_0 rfl (lv_at hl 0 rfl) ?_
    refine va_get (D := D) (ci := 6) (v := .ref (a 1)) (C := RX7) (T := TX7) (N := 19) hx hb hts hinX7 hown hK hP 0 rfl rfl 0 (by decide) hm0 (fun _ h9 => h9) rfl dX7_setsPole_1 ?_
    refine k_bipush hx hb dX7_setsPole_4 (by decide +kernel) ?_
    refine lv_iload_n hx hb dX7_setsPole_6 rfl (lv_at hl 1 rfl) ?_
    refine k_iast hx hb hK hP hD hS 1 0 (f := R 1) rfl rfl (i := 10) (x := x) (by omega) dX7_setsPole_7 (fun H locs hP hD hS => ?_)
    have hP : va_P D vwCl (rfW cy a (upr R 1 (ups (R 1) 10 x))) H := hP
    have hD : va_D (va_A (rfW cy a R) sz) (rfW cy a (upr R 1 (ups (R 1) 10 x))) := hD
    refine lv_aload_n hx hb dX7_setsPole_8 rfl (lv_at hl 0 rfl) ?_
    refine va_get (D := D) (ci := 6) (v := .ref (a 1)) (C := RX7) (T := TX7) (N := 19) hx hb hts hinX7 hown hK hP 0 rfl rfl 0 (by decide) hm0 (fun _ h9 => h9) rfl dX7_setsPole_9 ?_
    refine k_bipush hx hb dX7_setsPole_12 (by decide +kernel) ?_
    refine lv_iload_n hx hb dX7_setsPole_14 rfl (lv_at hl 2 rfl) ?_
    refine k_iast hx hb hK hP hD hS 1 0 (f := ups (R 1) 10 x) rfl rfl (i := 11) (x := y) (by omega) dX7_setsPole_15 (fun H locs hP hD hS => ?_)
    have hP : va_P D vwCl (rfW cy a (upr R 1 (ups (ups (R 1) 10 x) 11 y))) H := hP
    have hD : va_D (va_A (rfW cy a R) sz) (rfW cy a (upr R 1 (ups (ups (R 1) 10 x) 11 y))) := hD
    refine lv_aload_n hx hb dX7_setsPole_16 rfl (lv_at hl 0 rfl) ?_
    refine k_roV (As := []) (rest := []) ⟨hx, hb, hml, hown, hts⟩ (c_X7_plateCost l D cy a (upr R 1 (ups (ups (R 1) 10 x) 11 y)) (inv_tPo hI hpo)) gX7_setsPole_X7_plateCost rfl ⟨rfl, rfl⟩ 0 rfl (by decide +kernel) ⟨Nat.le_of_ble_eq_true rfl, Nat.le_of_ble_eq_true rfl⟩ (GG_ok D cy) ((GG_ok D cy).2.2.2 _ _ _ _ (fun _ h => h.elim) ((GG_ok D cy).1 _ _ _ _ hS.2.1 hG)) hP (va_recv hK hP (ci := 6) (q0 := 0) rfl rfl) hl.1 rfl (Nat.le_of_ble_eq_true rfl) ⟨Nat.le_of_ble_eq_true rfl, Nat.le_of_ble_eq_true rfl⟩ dX7_setsPole_17 (fun r_1 hr_1 => ?_)
    have hr_1 : r_1 = pcost ((ups (ups (R 1) 10 x) 11 y)) := hr_1
    subst hr_1
    exact W.iret (v := iI (pcost ((ups (ups (R 1) 10 x) 11 y)))) hx hb hr (fun t9 ht _ => ⟨⟨iI (pcost ((ups (ups (R 1) 10 x) 11 y))), (upr R 1 (ups (ups (R 1) 10 x) 11 y)), rfl, ⟨(pcost ((ups (ups (R 1) 10 x) 11 y))), rfl, (⟨by first | rfl | omega, rfl⟩ : (pcost ((ups (ups (R 1) 10 x) 11 y)) : Int) = pcost (tPo (R 1) x y) ∧ (upr R 1 (ups (ups (R 1) 10 x) 11 y)) = (upr R 1 (tPo (R 1) x y)))⟩, by rw [ht]; exact hP, hD⟩, hS.F ht⟩) hS.2.2 dX7_setsPole_20 hlocks
  exact hbody s.heap [] hP hS ls hl
set_option maxHeartbeats 4000000 in
set_option maxRecDepth 100000 in
theorem c_X7_keep (l : Launch) (D : va_G) (cy : Nat → ClassId) (sz : Nat) (a : Nat → Nat) (R : Nat → Int → Int)  (hsc : 0 ≤ R 0 2 ∧ R 0 2 ≤ 4) : Met l yX7_keep wsX7_keep { frames := 0, cells := 0, slots := 0, locals := 0 } (mPre (GG D cy) D (rfW cy a R) sz ([.ref (a 0)] : List Value)) (kQv D (rfW cy a R) sz (fun u9 : Nat → Int → Int => rfW cy a u9) (fun u9 => u9 = (upr (upr R 0 (ups (R 0) 2 (kpN (R 0 2)))) 2 (kpS (R 2) (R 1) (R 0 2))))) 0 0 (va_A (rfW cy a R) sz) := by
  refine kM_start (cc := cX7_keep) (maxL := 2) (ret := none) (by decide) rfl (Nat.le_of_ble_eq_true rfl) ?_
  intro p e s m below meth c hx hb hr hlocks hml hts hown hsz hA hG hP hD hS hin ls hl
  have hK := hG.1
  have hl : lv_has ls 2 [(0, .ref (a 0))] := hl
  have hinX7 : ∀ w ∈ u_ws RX7 TX7 19, w ∈ wsX7_keep := by decide +kernel
  have hm0 := hts (.fieldLink RX7 36 "ArcPlateModel" "savedCount" "I") (by decide +kernel)
  have hm1 := hts (.fieldLink RX7 13 "ArcPlateModel" "saved" "[I") (by decide +kernel)
  have hm2 := hts (.fieldLink RX7 7 "ArcPlateModel" "m" "[I") (by decide +kernel)
  have hbody : ∀ (H : Heap) (locs : List Loc) (hP : va_P D vwCl (rfW cy a R) H) (hS : va_S (va_A (rfW cy a R) sz) s.heap H locs) (ls : Array Slot) (hl : lv_has ls 2 [(0, .ref (a 0))]), W p l e { frames := 0, cells := 0, slots := 0, locals := 0 } s m ([.ref (a 0)] : List Value).toArray below meth c H locs 0 0 (MQ below (kQv D (rfW cy a R) sz (fun u9 : Nat → Int → Int => rfW cy a u9) (fun u9 => u9 = (upr (upr R 0 (ups (R 0) 2 (kpN (R 0 2)))) 2 (kpS (R 2) (R 1) (R 0 2))))) ([.ref (a 0)] : List Value).toArray s 0 0 (va_A (rfW cy a R) sz)) (F0 m 0 ls []) := by
    intro H locs hP hS ls hl
    refine lv_aload_n hx hb dX7_keep_0 rfl (lv_at hl 0 rfl) ?_
    refine va_get (D := D) (ci := 6) (v := .int (iI (R 0 2))) (C := RX7) (T := TX7) (N := 19) hx hb hts hinX7 hown hK hP 0 rfl rfl 2 (by decide) hm0 (fun _ h9 => h9) rfl dX7_keep_1 ?_
    refine k_iconst hx hb dX7_keep_4 ?_
    refine k_icmp_ne (tgt := 49) hx hb dX7_keep_5 (by decide) (by omega) (by omega) (fun c_1 => ?_) (fun c_1 => ?_)
    · skip
      refine k_iconst hx hb dX7_keep_49 ?_
      refine lv_istore_n (lv' := [(1, .int (iI 0)), (0, .ref (a 0))]) hx hb dX7_keep_50 rfl hl (by decide) rfl (fun ls hl => ?_)
      have loop51 : ∀ (n_2 : Nat) (k2 : Int) (hi0 : 0 ≤ k2) (hi1 : k2 ≤ 494) (hn : 494 - k2 < (n_2 : Int)) (H : Heap) (locs : List Loc) (hP : va_P D vwCl (rfW cy a (upr R 2 (cpyI (R 2) (R 1) (494 * (R 0 2)) k2))) H) (hD : va_D (va_A (rfW cy a R) sz) (rfW cy a (upr R 2 (cpyI (R 2) (R 1) (494 * (R 0 2)) k2)))) (hS : va_S (va_A (rfW cy a R) sz) s.heap H locs) (ls : Array Slot) (hl : lv_has ls 2 [(1, .int (iI k2)), (0, .ref (a 0))]), W p l e { frames := 0, cells := 0, slots := 0, locals := 0 } s m ([.ref (a 0)] : List Value).toArray below meth c H locs 0 0 (MQ below (kQv D (rfW cy a R) sz (fun u9 : Nat → Int → Int => rfW cy a u9) (fun u9 => u9 = (upr (upr R 0 (ups (R 0) 2 (kpN (R 0 2)))) 2 (kpS (R 2) (R 1) (R 0 2))))) ([.ref (a 0)] : List Value).toArray s 0 0 (va_A (rfW cy a R) sz)) (F0 m 51 ls []) := by
        intro n_2
        induction n_2 with
        | zero => intro k2 hi0 hi1 hn H locs hP hD hS ls hl; exfalso; omega
        | succ n_2 ih51 =>
          intro k2 hi0 hi1 hn H locs hP hD hS ls hl
          refine lv_iload_n hx hb dX7_keep_51 rfl (lv_at hl 0 rfl) ?_
          refine k_sipush hx hb dX7_keep_52 (by decide +kernel) ?_
          refine k_icmp_ge (tgt := 85) hx hb dX7_keep_55 (by decide) (by omega) (by omega) (fun c_3 => ?_) (fun c_3 => ?_)
          · skip
            refine lv_aload_n hx hb dX7_keep_85 rfl (lv_at hl 1 rfl) ?_
            refine lv_dup hx hb dX7_keep_86 rfl ?_
            refine va_get (D := D) (ci := 6) (v := .int (iI (R 0 2))) (C := RX7) (T := TX7) (N := 19) hx hb hts hinX7 hown hK hP 0 rfl rfl 2 (by decide) hm0 (fun _ h9 => h9) rfl dX7_keep_87 ?_
            refine k_iconst hx hb dX7_keep_90 ?_
            refine k_iadd hx hb dX7_keep_91 ?_
            refine va_put (D := D) (ci := 6) (v := .int (iI ((R 0 2) + 1))) (ty := .int) (C := RX7) (T := TX7) (N := 19) hx hb hts hinX7 tyX7 tyX7_ok nmX7 hown hK hP hD hS 0 rfl rfl 2 (by decide) hm0 (fun _ h9 => h9) rfl (by decide +kernel) rfl rfl (Nat.le_of_ble_eq_true rfl) dX7_keep_92 (fun H locs hP hD hS => ?_)
            have hP : va_P D vwCl (rfW cy a (upr (upr R 0 (ups (R 0) 2 ((R 0 2) + 1))) 2 (cpyI (R 2) (R 1) (494 * (R 0 2)) k2))) H := hP
            have hD : va_D (va_A (rfW cy a R) sz) (rfW cy a (upr (upr R 0 (ups (R 0) 2 ((R 0 2) + 1))) 2 (cpyI (R 2) (R 1) (494 * (R 0 2)) k2))) := hD
            exact W.vret hx hb hr (fun t9 ht _ => ⟨⟨(upr (upr R 0 (ups (R 0) 2 ((R 0 2) + 1))) 2 (cpyI (R 2) (R 1) (494 * (R 0 2)) k2)), rfl, ((by rw [show (ups (R 0) 2 ((R 0 2) + 1)) = (ups (R 0) 2 (kpN (R 0 2))) from by funext k9; unfold ups kpN; (repeat' split) <;> first | rfl | omega | (exfalso; omega), show (cpyI (R 2) (R 1) (494 * (R 0 2)) k2) = (kpS (R 2) (R 1) (R 0 2)) from by have e2 : k2 = 494 := (by omega); subst e2; unfold kpS; first | rw [if_neg (by omega)] | (have e1 : k = 1482 := (by omega); subst e1; rw [if_pos (by omega), show 494 * (R 0 2 - 1) = 1482 by omega])]) : (upr (upr R 0 (ups (R 0) 2 ((R 0 2) + 1))) 2 (cpyI (R 2) (R 1) (494 * (R 0 2)) k2)) = (upr (upr R 0 (ups (R 0) 2 (kpN (R 0 2)))) 2 (kpS (R 2) (R 1) (R 0 2)))), by rw [ht]; exact hP, hD⟩, hS.F ht⟩) hS.2.2 dX7_keep_95 hlocks
          · skip
            refine lv_aload_n hx hb dX7_keep_58 rfl (lv_at hl 1 rfl) ?_
            refine va_get (D := D) (ci := 6) (v := .ref (a 2)) (C := RX7) (T := TX7) (N := 19) hx hb hts hinX7 hown hK hP 0 rfl rfl 1 (by decide) hm1 (fun _ h9 => h9) rfl dX7_keep_59 ?_
            refine k_sipush hx hb dX7_keep_62 (by decide +kernel) ?_
            refine lv_aload_n hx hb dX7_keep_65 rfl (lv_at hl 1 rfl) ?_
            refine va_get (D := D) (ci := 6) (v := .int (iI (R 0 2))) (C := RX7) (T := TX7) (N := 19) hx hb hts hinX7 hown hK hP 0 rfl rfl 2 (by decide) hm0 (fun _ h9 => h9) rfl dX7_keep_66 ?_
            refine k_imul hx hb dX7_keep_69 ?_
            refine lv_iload_n hx hb dX7_keep_70 rfl (lv_at hl 0 rfl) ?_
            refine k_iadd hx hb dX7_keep_71 ?_
            refine lv_aload_n hx hb dX7_keep_72 rfl (lv_at hl 1 rfl) ?_
            refine va_get (D := D) (ci := 6) (v := .ref (a 1)) (C := RX7) (T := TX7) (N := 19) hx hb hts hinX7 hown hK hP 0 rfl rfl 0 (by decide) hm2 (fun _ h9 => h9) rfl dX7_keep_73 ?_
            refine lv_iload_n hx hb dX7_keep_76 rfl (lv_at hl 0 rfl) ?_
            refine k_iald hx hb hK hP 1 0 (f := R 1) rfl rfl (i := k2) (by omega) dX7_keep_77 ?_
            refine k_iast hx hb hK hP hD hS 2 0 (f := cpyI (R 2) (R 1) (494 * (R 0 2)) k2) rfl rfl (i := (494 * (R 0 2)) + k2) (x := R 1 k2) (by omega) dX7_keep_78 (fun H locs hP hD hS => ?_)
            have hP : va_P D vwCl (rfW cy a (upr R 2 (ups (cpyI (R 2) (R 1) (494 * (R 0 2)) k2) ((494 * (R 0 2)) + k2) (R 1 k2)))) H := hP
            have hD : va_D (va_A (rfW cy a R) sz) (rfW cy a (upr R 2 (ups (cpyI (R 2) (R 1) (494 * (R 0 2)) k2) ((494 * (R 0 2)) + k2) (R 1 k2)))) := hD
            refine lv_iinc (v := iI (k2 + 1)) (lv' := [(1, .int (iI (k2 + 1))), (0, .ref (a 0))]) hx hb dX7_keep_79 hl (k := 0) rfl (iI_add _ _) (by decide) rfl (fun ls hl => ?_)
            refine lv_goto (tgt := 51) hx hb dX7_keep_82 (by decide) ?_
            exact ih51 (k2 + 1)  (by omega) (by omega) (by omega) H locs (by rw [show (cpyI (R 2) (R 1) (494 * (R 0 2)) (k2 + 1)) = (ups (cpyI (R 2) (R 1) (494 * (R 0 2)) k2) ((494 * (R 0 2)) + k2) (R 1 k2)) from cpyI_s _ _ hi0]; exact hP) (k_addr hD rfl) hS ls (lv_sub hl [0, 1] rfl)
      exact loop51 ((494 - 0 : Int) + 1).toNat 0  (by omega) (by omega) (by omega) H locs (by rw [show (cpyI (R 2) (R 1) (494 * (R 0 2)) 0) = (R 2) from cpyI_0 _ _ _]; exact hP) (k_addr hD rfl) hS ls (lv_sub hl [0, 1] rfl)
    · skip
      refine k_iconst hx hb dX7_keep_8 ?_
      refine lv_istore_n (lv' := [(1, .int (iI 0)), (0, .ref (a 0))]) hx hb dX7_keep_9 rfl hl (by decide) rfl (fun ls hl => ?_)
      have loop10 : ∀ (n_4 : Nat) (k : Int) (hi0 : 0 ≤ k) (hi1 : k ≤ 1482) (hn : 1482 - k < (n_4 : Int)) (H : Heap) (locs : List Loc) (hP : va_P D vwCl (rfW cy a (upr R 2 (shf (R 2) 0 k 494))) H) (hD : va_D (va_A (rfW cy a R) sz) (rfW cy a (upr R 2 (shf (R 2) 0 k 494)))) (hS : va_S (va_A (rfW cy a R) sz) s.heap H locs) (ls : Array Slot) (hl : lv_has ls 2 [(1, .int (iI k)), (0, .ref (a 0))]), W p l e { frames := 0, cells := 0, slots := 0, locals := 0 } s m ([.ref (a 0)] : List Value).toArray below meth c H locs 0 0 (MQ below (kQv D (rfW cy a R) sz (fun u9 : Nat → Int → Int => rfW cy a u9) (fun u9 => u9 = (upr (upr R 0 (ups (R 0) 2 (kpN (R 0 2)))) 2 (kpS (R 2) (R 1) (R 0 2))))) ([.ref (a 0)] : List Value).toArray s 0 0 (va_A (rfW cy a R) sz)) (F0 m 10 ls []) := by
        intro n_4
        induction n_4 with
        | zero => intro k hi0 hi1 hn H locs hP hD hS ls hl; exfalso; omega
        | succ n_4 ih10 =>
          intro k hi0 hi1 hn H locs hP hD hS ls hl
          refine lv_iload_n hx hb dX7_keep_10 rfl (lv_at hl 0 rfl) ?_
          refine k_sipush hx hb dX7_keep_11 (by decide +kernel) ?_
          refine k_icmp_ge (tgt := 39) hx hb dX7_keep_14 (by decide) (by omega) (by omega) (fun c_5 => ?_) (fun c_5 => ?_)
          · skip
            refine lv_aload_n hx hb dX7_keep_39 rfl (lv_at hl 1 rfl) ?_
            refine lv_dup hx hb dX7_keep_40 rfl ?_
            refine va_get (D := D) (ci := 6) (v := .int (iI (R 0 2))) (C := RX7) (T := TX7) (N := 19) hx hb hts hinX7 hown hK hP 0 rfl rfl 2 (by decide) hm0 (fun _ h9 => h9) rfl dX7_keep_41 ?_
            refine k_iconst hx hb dX7_keep_44 ?_
            refine k_isub hx hb dX7_keep_45 ?_
            refine va_put (D := D) (ci := 6) (v := .int (iI ((R 0 2) - 1))) (ty := .int) (C := RX7) (T := TX7) (N := 19) hx hb hts hinX7 tyX7 tyX7_ok nmX7 hown hK hP hD hS 0 rfl rfl 2 (by decide) hm0 (fun _ h9 => h9) rfl (by decide +kernel) rfl rfl (Nat.le_of_ble_eq_true rfl) dX7_keep_46 (fun H locs hP hD hS => ?_)
            have hP : va_P D vwCl (rfW cy a (upr (upr R 0 (ups (R 0) 2 ((R 0 2) - 1))) 2 (shf (R 2) 0 k 494))) H := hP
            have hD : va_D (va_A (rfW cy a R) sz) (rfW cy a (upr (upr R 0 (ups (R 0) 2 ((R 0 2) - 1))) 2 (shf (R 2) 0 k 494))) := hD
            refine k_iconst hx hb dX7_keep_49 ?_
            refine lv_istore_n (lv' := [(1, .int (iI 0)), (0, .ref (a 0))]) hx hb dX7_keep_50 rfl hl (by decide) rfl (fun ls hl => ?_)
            have loop51 : ∀ (n_6 : Nat) (k2 : Int) (hi0 : 0 ≤ k2) (hi1 : k2 ≤ 494) (hn : 494 - k2 < (n_6 : Int)) (H : Heap) (locs : List Loc) (hP : va_P D vwCl (rfW cy a (upr (upr R 0 (ups (R 0) 2 ((R 0 2) - 1))) 2 (cpyI (shf (R 2) 0 k 494) (R 1) (494 * ((R 0 2) - 1)) k2))) H) (hD : va_D (va_A (rfW cy a R) sz) (rfW cy a (upr (upr R 0 (ups (R 0) 2 ((R 0 2) - 1))) 2 (cpyI (shf (R 2) 0 k 494) (R 1) (494 * ((R 0 2) - 1)) k2)))) (hS : va_S (va_A (rfW cy a R) sz) s.heap H locs) (ls : Array Slot) (hl : lv_has ls 2 [(1, .int (iI k2)), (0, .ref (a 0))]), W p l e { frames := 0, cells := 0, slots := 0, locals := 0 } s m ([.ref (a 0)] : List Value).toArray below meth c H locs 0 0 (MQ below (kQv D (rfW cy a R) sz (fun u9 : Nat → Int → Int => rfW cy a u9) (fun u9 => u9 = (upr (upr R 0 (ups (R 0) 2 (kpN (R 0 2)))) 2 (kpS (R 2) (R 1) (R 0 2))))) ([.ref (a 0)] : List Value).toArray s 0 0 (va_A (rfW cy a R) sz)) (F0 m 51 ls []) := by
              intro n_6
              induction n_6 with
              | zero => intro k2 hi0 hi1 hn H locs hP hD hS ls hl; exfalso; omega
              | succ n_6 ih51 =>
                intro k2 hi0 hi1 hn H locs hP hD hS ls hl
                refine lv_iload_n hx hb dX7_keep_51 rfl (lv_at hl 0 rfl) ?_
                refine k_sipush hx hb dX7_keep_52 (by decide +kernel) ?_
                refine k_icmp_ge (tgt := 85) hx hb dX7_keep_55 (by decide) (by omega) (by omega) (fun c_7 => ?_) (fun c_7 => ?_)
                · skip
                  refine lv_aload_n hx hb dX7_keep_85 rfl (lv_at hl 1 rfl) ?_
                  refine lv_dup hx hb dX7_keep_86 rfl ?_
                  refine va_get (D := D) (ci := 6) (v := .int (iI ((R 0 2) - 1))) (C := RX7) (T := TX7) (N := 19) hx hb hts hinX7 hown hK hP 0 rfl rfl 2 (by decide) hm0 (fun _ h9 => h9) rfl dX7_keep_87 ?_
                  refine k_iconst hx hb dX7_keep_90 ?_
                  refine k_iadd hx hb dX7_keep_91 ?_
                  refine va_put (D := D) (ci := 6) (v := .int (iI (((R 0 2) - 1) + 1))) (ty := .int) (C := RX7) (T := TX7) (N := 19) hx hb hts hinX7 tyX7 tyX7_ok nmX7 hown hK hP hD hS 0 rfl rfl 2 (by decide) hm0 (fun _ h9 => h9) rfl (by decide +kernel) rfl rfl (Nat.le_of_ble_eq_true rfl) dX7_keep_92 (fun H locs hP hD hS => ?_)
                  have hP : va_P D vwCl (rfW cy a (upr (upr R 0 (ups (ups (R 0) 2 ((R 0 2) - 1)) 2 (((R 0 2) - 1) + 1))) 2 (cpyI (shf (R 2) 0 k 494) (R 1) (494 * ((R 0 2) - 1)) k2))) H := hP
                  have hD : va_D (va_A (rfW cy a R) sz) (rfW cy a (upr (upr R 0 (ups (ups (R 0) 2 ((R 0 2) - 1)) 2 (((R 0 2) - 1) + 1))) 2 (cpyI (shf (R 2) 0 k 494) (R 1) (494 * ((R 0 2) - 1)) k2))) := hD
                  exact W.vret hx hb hr (fun t9 ht _ => ⟨⟨(upr (upr R 0 (ups (ups (R 0) 2 ((R 0 2) - 1)) 2 (((R 0 2) - 1) + 1))) 2 (cpyI (shf (R 2) 0 k 494) (R 1) (494 * ((R 0 2) - 1)) k2)), rfl, ((by rw [show (ups (ups (R 0) 2 ((R 0 2) - 1)) 2 (((R 0 2) - 1) + 1)) = (ups (R 0) 2 (kpN (R 0 2))) from by funext k9; unfold ups kpN; (repeat' split) <;> first | rfl | omega | (exfalso; omega), show (cpyI (shf (R 2) 0 k 494) (R 1) (494 * ((R 0 2) - 1)) k2) = (kpS (R 2) (R 1) (R 0 2)) from by have e2 : k2 = 494 := (by omega); subst e2; unfold kpS; first | rw [if_neg (by omega)] | (have e1 : k = 1482 := (by omega); subst e1; rw [if_pos (by omega), show 494 * (R 0 2 - 1) = 1482 by omega])]) : (upr (upr R 0 (ups (ups (R 0) 2 ((R 0 2) - 1)) 2 (((R 0 2) - 1) + 1))) 2 (cpyI (shf (R 2) 0 k 494) (R 1) (494 * ((R 0 2) - 1)) k2)) = (upr (upr R 0 (ups (R 0) 2 (kpN (R 0 2)))) 2 (kpS (R 2) (R 1) (R 0 2)))), by rw [ht]; exact hP, hD⟩, hS.F ht⟩) hS.2.2 dX7_keep_95 hlocks
                · skip
                  refine lv_aload_n hx hb dX7_keep_58 rfl (lv_at hl 1 rfl) ?_
                  refine va_get (D := D) (ci := 6) (v := .ref (a 2)) (C := RX7) (T := TX7) (N := 19) hx hb hts hinX7 hown hK hP 0 rfl rfl 1 (by decide) hm1 (fun _ h9 => h9) rfl dX7_keep_59 ?_
                  refine k_sipush hx hb dX7_keep_62 (by decide +kernel) ?_
                  refine lv_aload_n hx hb dX7_keep_65 rfl (lv_at hl 1 rfl) ?_
                  refine va_get (D := D) (ci := 6) (v := .int (iI ((R 0 2) - 1))) (C := RX7) (T := TX7) (N := 19) hx hb hts hinX7 hown hK hP 0 rfl rfl 2 (by decide) hm0 (fun _ h9 => h9) rfl dX7_keep_66 ?_
                  refine k_imul hx hb dX7_keep_69 ?_
                  refine lv_iload_n hx hb dX7_keep_70 rfl (lv_at hl 0 rfl) ?_
                  refine k_iadd hx hb dX7_keep_71 ?_
                  refine lv_aload_n hx hb dX7_keep_72 rfl (lv_at hl 1 rfl) ?_
                  refine va_get (D := D) (ci := 6) (v := .ref (a 1)) (C := RX7) (T := TX7) (N := 19) hx hb hts hinX7 hown hK hP 0 rfl rfl 0 (by decide) hm2 (fun _ h9 => h9) rfl dX7_keep_73 ?_
                  refine lv_iload_n hx hb dX7_keep_76 rfl (lv_at hl 0 rfl) ?_
                  refine k_iald hx hb hK hP 1 0 (f := R 1) rfl rfl (i := k2) (by omega) dX7_keep_77 ?_
                  refine k_iast hx hb hK hP hD hS 2 0 (f := cpyI (shf (R 2) 0 k 494) (R 1) (494 * ((R 0 2) - 1)) k2) rfl rfl (i := (494 * ((R 0 2) - 1)) + k2) (x := R 1 k2) (by omega) dX7_keep_78 (fun H locs hP hD hS => ?_)
                  have hP : va_P D vwCl (rfW cy a (upr (upr R 0 (ups (R 0) 2 ((R 0 2) - 1))) 2 (ups (cpyI (shf (R 2) 0 k 494) (R 1) (494 * ((R 0 2) - 1)) k2) ((494 * ((R 0 2) - 1)) + k2) (R 1 k2)))) H := hP
                  have hD : va_D (va_A (rfW cy a R) sz) (rfW cy a (upr (upr R 0 (ups (R 0) 2 ((R 0 2) - 1))) 2 (ups (cpyI (shf (R 2) 0 k 494) (R 1) (494 * ((R 0 2) - 1)) k2) ((494 * ((R 0 2) - 1)) + k2) (R 1 k2)))) := hD
                  refine lv_iinc (v := iI (k2 + 1)) (lv' := [(1, .int (iI (k2 + 1))), (0, .ref (a 0))]) hx hb dX7_keep_79 hl (k := 0) rfl (iI_add _ _) (by decide) rfl (fun ls hl => ?_)
                  refine lv_goto (tgt := 51) hx hb dX7_keep_82 (by decide) ?_
                  exact ih51 (k2 + 1)  (by omega) (by omega) (by omega) H locs (by rw [show (cpyI (shf (R 2) 0 k 494) (R 1) (494 * ((R 0 2) - 1)) (k2 + 1)) = (ups (cpyI (shf (R 2) 0 k 494) (R 1) (494 * ((R 0 2) - 1)) k2) ((494 * ((R 0 2) - 1)) + k2) (R 1 k2)) from cpyI_s _ _ hi0]; exact hP) (k_addr hD rfl) hS ls (lv_sub hl [0, 1] rfl)
            exact loop51 ((494 - 0 : Int) + 1).toNat 0  (by omega) (by omega) (by omega) H locs (by rw [show (cpyI (shf (R 2) 0 k 494) (R 1) (494 * ((R 0 2) - 1)) 0) = (shf (R 2) 0 k 494) from cpyI_0 _ _ _]; exact hP) (k_addr hD rfl) hS ls (lv_sub hl [0, 1] rfl)
          · skip
            refine lv_aload_n hx hb dX7_keep_17 rfl (lv_at hl 1 rfl) ?_
            refine va_get (D := D) (ci := 6) (v := .ref (a 2)) (C := RX7) (T := TX7) (N := 19) hx hb hts hinX7 hown hK hP 0 rfl rfl 1 (by decide) hm1 (fun _ h9 => h9) rfl dX7_keep_18 ?_
            refine lv_iload_n hx hb dX7_keep_21 rfl (lv_at hl 0 rfl) ?_
            refine lv_aload_n hx hb dX7_keep_22 rfl (lv_at hl 1 rfl) ?_
            refine va_get (D := D) (ci := 6) (v := .ref (a 2)) (C := RX7) (T := TX7) (N := 19) hx hb hts hinX7 hown hK hP 0 rfl rfl 1 (by decide) hm1 (fun _ h9 => h9) rfl dX7_keep_23 ?_
            refine lv_iload_n hx hb dX7_keep_26 rfl (lv_at hl 0 rfl) ?_
            refine k_sipush hx hb dX7_keep_27 (by decide +kernel) ?_
            refine k_iadd hx hb dX7_keep_30 ?_
            refine k_iald hx hb hK hP 2 0 (f := shf (R 2) 0 k 494) rfl rfl (i := k + 494) (by omega) dX7_keep_31 ?_
            refine k_iast hx hb hK hP hD hS 2 0 (f := shf (R 2) 0 k 494) rfl rfl (i := k) (x := (shf (R 2) 0 k 494) (k + 494)) (by omega) dX7_keep_32 (fun H locs hP hD hS => ?_)
            have hP : va_P D vwCl (rfW cy a (upr R 2 (ups (shf (R 2) 0 k 494) k ((shf (R 2) 0 k 494) (k + 494))))) H := hP
            have hD : va_D (va_A (rfW cy a R) sz) (rfW cy a (upr R 2 (ups (shf (R 2) 0 k 494) k ((shf (R 2) 0 k 494) (k + 494))))) := hD
            refine lv_iinc (v := iI (k + 1)) (lv' := [(1, .int (iI (k + 1))), (0, .ref (a 0))]) hx hb dX7_keep_33 hl (k := 0) rfl (iI_add _ _) (by decide) rfl (fun ls hl => ?_)
            refine lv_goto (tgt := 10) hx hb dX7_keep_36 (by decide) ?_
            exact ih10 (k + 1)  (by omega) (by omega) (by omega) H locs (by rw [show (shf (R 2) 0 (k + 1) 494) = (ups (shf (R 2) 0 k 494) k ((shf (R 2) 0 k 494) (k + 494))) from shf_s _ hi0 (by omega)]; exact hP) (k_addr hD rfl) hS ls (lv_sub hl [0, 1] rfl)
      exact loop10 ((1482 - 0 : Int) + 1).toNat 0  (by omega) (by omega) (by omega) H locs (by rw [show (shf (R 2) 0 0 494) = (R 2) from shf_0 _ _ (by omega)]; exact hP) (k_addr hD rfl) hS ls (lv_sub hl [0, 1] rfl)
  exact hbody s.heap [] hP hS ls hl
set_option maxHeartbeats 4000000 in
set_option maxRecDepth 100000 in
theorem c_X7_stop (l : Launch) (D : va_G) (cy : Nat → ClassId) (sz : Nat) (a : Nat → Nat) (R : Nat → Int → Int)   : Met l yX7_stop wsX7_stop { frames := 0, cells := 0, slots := 0, locals := 0 } (mPre (GG D cy) D (rfW cy a R) sz ([.ref (a 0)] : List Value)) (kQi D (rfW cy a R) sz (fun u9 : Nat → Int → Int => rfW cy a u9) (fun r9 u9 => r9 = R 0 5 ∧ u9 = (upr R 0 (ups (R 0) 6 0)))) 0 0 (va_A (rfW cy a R) sz) := by
  refine kM_start (cc := cX7_stop) (maxL := 1) (ret := (some .int)) (by decide) rfl (Nat.le_of_ble_eq_true rfl) ?_
  intro p e s m below meth c hx hb hr hlocks hml hts hown hsz hA hG hP hD hS hin ls hl
  have hK := hG.1
  have hl : lv_has ls 1 [(0, .ref (a 0))] := hl
  have hinX7 : ∀ w ∈ u_ws RX7 TX7 19, w ∈ wsX7_stop := by decide +kernel
  have hm0 := hts (.fieldLink RX7 31 "ArcPlateModel" "code" "I") (by decide +kernel)
  have hm1 := hts (.fieldLink RX7 301 "ArcPlateModel" "stop" "I") (by decide +kernel)
  have hbody : ∀ (H : Heap) (locs : List Loc) (hP : va_P D vwCl (rfW cy a R) H) (hS : va_S (va_A (rfW cy a R) sz) s.heap H locs) (ls : Array Slot) (hl : lv_has ls 1 [(0, .ref (a 0))]), W p l e { frames := 0, cells := 0, slots := 0, locals := 0 } s m ([.ref (a 0)] : List Value).toArray below meth c H locs 0 0 (MQ below (kQi D (rfW cy a R) sz (fun u9 : Nat → Int → Int => rfW cy a u9) (fun r9 u9 => r9 = R 0 5 ∧ u9 = (upr R 0 (ups (R 0) 6 0)))) ([.ref (a 0)] : List Value).toArray s 0 0 (va_A (rfW cy a R) sz)) (F0 m 0 ls []) := by
    intro H locs hP hS ls hl
    refine lv_aload_n hx hb dX7_stop_0 rfl (lv_at hl 0 rfl) ?_
    refine k_iconst hx hb dX7_stop_1 ?_
    refine va_put (D := D) (ci := 6) (v := .int (iI 0)) (ty := .int) (C := RX7) (T := TX7) (N := 19) hx hb hts hinX7 tyX7 tyX7_ok nmX7 hown hK hP hD hS 0 rfl rfl 6 (by decide) hm0 (fun _ h9 => h9) rfl (by decide +kernel) rfl rfl (Nat.le_of_ble_eq_true rfl) dX7_stop_2 (fun H locs hP hD hS => ?_)
    have hP : va_P D vwCl (rfW cy a (upr R 0 (ups (R 0) 6 0))) H := hP
    have hD : va_D (va_A (rfW cy a R) sz) (rfW cy a (upr R 0 (ups (R 0) 6 0))) := hD
    refine lv_aload_n hx hb dX7_stop_5 rfl (lv_at hl 0 rfl) ?_
    refine va_get (D := D) (ci := 6) (v := .int (iI (R 0 5))) (C := RX7) (T := TX7) (N := 19) hx hb hts hinX7 hown hK hP 0 rfl rfl 5 (by decide) hm1 (fun _ h9 => h9) rfl dX7_stop_6 ?_
    exact W.iret (v := iI (R 0 5)) hx hb hr (fun t9 ht _ => ⟨⟨iI (R 0 5), (upr R 0 (ups (R 0) 6 0)), rfl, ⟨(R 0 5), rfl, (⟨by first | rfl | omega, rfl⟩ : (R 0 5 : Int) = R 0 5 ∧ (upr R 0 (ups (R 0) 6 0)) = (upr R 0 (ups (R 0) 6 0)))⟩, by rw [ht]; exact hP, hD⟩, hS.F ht⟩) hS.2.2 dX7_stop_9 hlocks
  exact hbody s.heap [] hP hS ls hl
set_option maxHeartbeats 4000000 in
set_option maxRecDepth 100000 in
theorem c_X7_clearCommands (l : Launch) (D : va_G) (cy : Nat → ClassId) (sz : Nat) (a : Nat → Nat) (R : Nat → Int → Int)   : Met l yX7_clearCommands wsX7_clearCommands { frames := 0, cells := 0, slots := 0, locals := 0 } (mPre (GG D cy) D (rfW cy a R) sz ([.ref (a 0)] : List Value)) (kQi D (rfW cy a R) sz (fun u9 : Nat → Int → Int => rfW cy a u9) (fun r9 u9 => r9 = R 0 4 ∧ u9 = (upr R 0 (ups (ups (R 0) 6 0) 4 0)))) 0 0 (va_A (rfW cy a R) sz) := by
  refine kM_start (cc := cX7_clearCommands) (maxL := 2) (ret := (some .int)) (by decide) rfl (Nat.le_of_ble_eq_true rfl) ?_
  intro p e s m below meth c hx hb hr hlocks hml hts hown hsz hA hG hP hD hS hin ls hl
  have hK := hG.1
  have hl : lv_has ls 2 [(0, .ref (a 0))] := hl
  have hinX7 : ∀ w ∈ u_ws RX7 TX7 19, w ∈ wsX7_clearCommands := by decide +kernel
  have hm0 := hts (.fieldLink RX7 31 "ArcPlateModel" "code" "I") (by decide +kernel)
  have hm1 := hts (.fieldLink RX7 247 "ArcPlateModel" "textLength" "I") (by decide +kernel)
  have hbody : ∀ (H : Heap) (locs : List Loc) (hP : va_P D vwCl (rfW cy a R) H) (hS : va_S (va_A (rfW cy a R) sz) s.heap H locs) (ls : Array Slot) (hl : lv_has ls 2 [(0, .ref (a 0))]), W p l e { frames := 0, cells := 0, slots := 0, locals := 0 } s m ([.ref (a 0)] : List Value).toArray below meth c H locs 0 0 (MQ below (kQi D (rfW cy a R) sz (fun u9 : Nat → Int → Int => rfW cy a u9) (fun r9 u9 => r9 = R 0 4 ∧ u9 = (upr R 0 (ups (ups (R 0) 6 0) 4 0)))) ([.ref (a 0)] : List Value).toArray s 0 0 (va_A (rfW cy a R) sz)) (F0 m 0 ls []) := by
    intro H locs hP hS ls hl
    refine lv_aload_n hx hb dX7_clearCommands_0 rfl (lv_at hl 0 rfl) ?_
    refine k_iconst hx hb dX7_clearCommands_1 ?_
    refine va_put (D := D) (ci := 6) (v := .int (iI 0)) (ty := .int) (C := RX7) (T := TX7) (N := 19) hx hb hts hinX7 tyX7 tyX7_ok nmX7 hown hK hP hD hS 0 rfl rfl 6 (by decide) hm0 (fun _ h9 => h9) rfl (by decide +kernel) rfl rfl (Nat.le_of_ble_eq_true rfl) dX7_clearCommands_2 (fun H locs hP hD hS => ?_)
    have hP : va_P D vwCl (rfW cy a (upr R 0 (ups (R 0) 6 0))) H := hP
    have hD : va_D (va_A (rfW cy a R) sz) (rfW cy a (upr R 0 (ups (R 0) 6 0))) := hD
    refine lv_aload_n hx hb dX7_clearCommands_5 rfl (lv_at hl 0 rfl) ?_
    refine va_get (D := D) (ci := 6) (v := .int (iI (R 0 4))) (C := RX7) (T := TX7) (N := 19) hx hb hts hinX7 hown hK hP 0 rfl rfl 4 (by decide) hm1 (fun _ h9 => h9) rfl dX7_clearCommands_6 ?_
    refine lv_istore_n (lv' := [(1, .int (iI (R 0 4))), (0, .ref (a 0))]) hx hb dX7_clearCommands_9 rfl hl (by decide) rfl (fun ls hl => ?_)
    refine lv_aload_n hx hb dX7_clearCommands_10 rfl (lv_at hl 1 rfl) ?_
    refine k_iconst hx hb dX7_clearCommands_11 ?_
    refine va_put (D := D) (ci := 6) (v := .int (iI 0)) (ty := .int) (C := RX7) (T := TX7) (N := 19) hx hb hts hinX7 tyX7 tyX7_ok nmX7 hown hK hP hD hS 0 rfl rfl 4 (by decide) hm1 (fun _ h9 => h9) rfl (by decide +kernel) rfl rfl (Nat.le_of_ble_eq_true rfl) dX7_clearCommands_12 (fun H locs hP hD hS => ?_)
    have hP : va_P D vwCl (rfW cy a (upr R 0 (ups (ups (R 0) 6 0) 4 0))) H := hP
    have hD : va_D (va_A (rfW cy a R) sz) (rfW cy a (upr R 0 (ups (ups (R 0) 6 0) 4 0))) := hD
    refine lv_iload_n hx hb dX7_clearCommands_15 rfl (lv_at hl 0 rfl) ?_
    exact W.iret (v := iI (R 0 4)) hx hb hr (fun t9 ht _ => ⟨⟨iI (R 0 4), (upr R 0 (ups (ups (R 0) 6 0) 4 0)), rfl, ⟨(R 0 4), rfl, (⟨by first | rfl | omega, rfl⟩ : (R 0 4 : Int) = R 0 4 ∧ (upr R 0 (ups (ups (R 0) 6 0) 4 0)) = (upr R 0 (ups (ups (R 0) 6 0) 4 0)))⟩, by rw [ht]; exact hP, hD⟩, hS.F ht⟩) hS.2.2 dX7_clearCommands_16 hlocks
  exact hbody s.heap [] hP hS ls hl
set_option maxHeartbeats 4000000 in
set_option maxRecDepth 100000 in
theorem c_X7_type (l : Launch) (D : va_G) (cy : Nat → ClassId) (sz : Nat) (a : Nat → Nat) (R : Nat → Int → Int) (v : Int) (hrv : -2147483648 ≤ v ∧ v ≤ 2147483647) (htl : 0 ≤ R 0 4 ∧ R 0 4 ≤ 150) : Met l yX7_type wsX7_type { frames := 1, cells := 0, slots := 0, locals := 22 } (mPre (GG D cy) D (rfW cy a R) sz ([.ref (a 0), .int (iI v)] : List Value)) (kQi D (rfW cy a R) sz (fun u9 : Nat → Int → Int => rfW cy a u9) (fun r9 u9 => ((¬ (0 ≤ v ∧ v ≤ 127)) ∧ r9 = 0 ∧ u9 = (upr R 0 (ups (R 0) 6 1))) ∨ (((0 ≤ v ∧ v ≤ 127) ∧ R 0 4 = 150) ∧ r9 = 0 ∧ u9 = (upr R 0 (ups (R 0) 6 2))) ∨ (((0 ≤ v ∧ v ≤ 127) ∧ R 0 4 < 150) ∧ r9 = R 0 4 + 1 ∧ u9 = (upr (upr R 0 (ups (ups (R 0) 6 0) 4 (R 0 4 + 1))) 3 (ups (R 3) (R 0 4) v))))) 0 0 (va_A (rfW cy a R) sz) := by
  refine kM_start (cc := cX7_type) (maxL := 2) (ret := (some .int)) (by decide) rfl (Nat.le_of_ble_eq_true rfl) ?_
  intro p e s m below meth c hx hb hr hlocks hml hts hown hsz hA hG hP hD hS hin ls hl
  have hK := hG.1
  have hl : lv_has ls 2 [(0, .ref (a 0)), (1, .int (iI v))] := hl
  have hinX7 : ∀ w ∈ u_ws RX7 TX7 19, w ∈ wsX7_type := by decide +kernel
  have hm0 := hts (.fieldLink RX7 247 "ArcPlateModel" "textLength" "I") (by decide +kernel)
  have hm1 := hts (.fieldLink RX7 31 "ArcPlateModel" "code" "I") (by decide +kernel)
  have hm2 := hts (.fieldLink RX7 16 "ArcPlateModel" "text" "[I") (by decide +kernel)
  have hbody : ∀ (H : Heap) (locs : List Loc) (hP : va_P D vwCl (rfW cy a R) H) (hS : va_S (va_A (rfW cy a R) sz) s.heap H locs) (ls : Array Slot) (hl : lv_has ls 2 [(0, .ref (a 0)), (1, .int (iI v))]), W p l e { frames := 1, cells := 0, slots := 0, locals := 22 } s m ([.ref (a 0), .int (iI v)] : List Value).toArray below meth c H locs 0 0 (MQ below (kQi D (rfW cy a R) sz (fun u9 : Nat → Int → Int => rfW cy a u9) (fun r9 u9 => ((¬ (0 ≤ v ∧ v ≤ 127)) ∧ r9 = 0 ∧ u9 = (upr R 0 (ups (R 0) 6 1))) ∨ (((0 ≤ v ∧ v ≤ 127) ∧ R 0 4 = 150) ∧ r9 = 0 ∧ u9 = (upr R 0 (ups (R 0) 6 2))) ∨ (((0 ≤ v ∧ v ≤ 127) ∧ R 0 4 < 150) ∧ r9 = R 0 4 + 1 ∧ u9 = (upr (upr R 0 (ups (ups (R 0) 6 0) 4 (R 0 4 + 1))) 3 (ups (R 3) (R 0 4) v))))) ([.ref (a 0), .int (iI v)] : List Value).toArray s 0 0 (va_A (rfW cy a R) sz)) (F0 m 0 ls []) := by
    intro H locs hP hS ls hl
    refine lv_aload_n hx hb dX7_type_0 rfl (lv_at hl 0 rfl) ?_
    refine lv_iload_n hx hb dX7_type_1 rfl (lv_at hl 1 rfl) ?_
    refine k_iconst hx hb dX7_type_2 ?_
    refine k_bipush hx hb dX7_type_3 (by decide +kernel) ?_
    refine k_roS (As := [.int (iI v), .int (iI 0), .int (iI 127)]) (rest := [.ref (a 0)]) ⟨hx, hb, hml, hown, hts⟩ (c_X7_in l D v 0 127 (show -2147483648 ≤ v ∧ v ≤ 2147483647 by omega) (show -2147483648 ≤ 0 ∧ 0 ≤ 2147483647 by omega) (show -2147483648 ≤ 127 ∧ 127 ≤ 2147483647 by omega)) gX7_type_X7_in rfl ⟨rfl, rfl⟩ 3 rfl (by decide +kernel) ⟨Nat.le_of_ble_eq_true rfl, Nat.le_of_ble_eq_true rfl⟩ kGT_ok trivial (fun k q h => by simp at h) hl.1 rfl (Nat.le_of_ble_eq_true rfl) ⟨Nat.le_of_ble_eq_true rfl, Nat.le_of_ble_eq_true rfl⟩ dX7_type_5 (fun r_1 hr_1 => ?_)
    have hr_1 : ((0 ≤ v ∧ v ≤ 127) ∧ r_1 = 1) ∨ (¬ (0 ≤ v ∧ v ≤ 127) ∧ r_1 = 0) := hr_1
    rcases hr_1 with ⟨c_2, hr_1⟩ | ⟨c_2, hr_1⟩ <;> subst hr_1
    · skip
      refine k_if_ne (tgt := 15) hx hb dX7_type_8 (by decide) (by omega) (fun c_3 => ?_) (fun c_3 => ?_)
      · skip
        refine lv_aload_n hx hb dX7_type_15 rfl (lv_at hl 0 rfl) ?_
        refine va_get (D := D) (ci := 6) (v := .int (iI (R 0 4))) (C := RX7) (T := TX7) (N := 19) hx hb hts hinX7 hown hK hP 0 rfl rfl 4 (by decide) hm0 (fun _ h9 => h9) rfl dX7_type_16 ?_
        refine k_sipush hx hb dX7_type_19 (by decide +kernel) ?_
        refine k_icmp_ne (tgt := 29) hx hb dX7_type_22 (by decide) (by omega) (by omega) (fun c_4 => ?_) (fun c_4 => ?_)
        · skip
          refine k_iconst hx hb dX7_type_29 ?_
          refine va_put (D := D) (ci := 6) (v := .int (iI 0)) (ty := .int) (C := RX7) (T := TX7) (N := 19) hx hb hts hinX7 tyX7 tyX7_ok nmX7 hown hK hP hD hS 0 rfl rfl 6 (by decide) hm1 (fun _ h9 => h9) rfl (by decide +kernel) rfl rfl (Nat.le_of_ble_eq_true rfl) dX7_type_30 (fun H locs hP hD hS => ?_)
          have hP : va_P D vwCl (rfW cy a (upr R 0 (ups (R 0) 6 0))) H := hP
          have hD : va_D (va_A (rfW cy a R) sz) (rfW cy a (upr R 0 (ups (R 0) 6 0))) := hD
          refine lv_aload_n hx hb dX7_type_33 rfl (lv_at hl 0 rfl) ?_
          refine va_get (D := D) (ci := 6) (v := .int (iI 0)) (C := RX7) (T := TX7) (N := 19) hx hb hts hinX7 hown hK hP 0 rfl rfl 6 (by decide) hm1 (fun _ h9 => h9) rfl dX7_type_34 ?_
          refine k_if_eq (tgt := 42) hx hb dX7_type_37 (by decide) (by omega) (fun c_5 => ?_) (fun c_5 => ?_)
          · skip
            refine lv_aload_n hx hb dX7_type_42 rfl (lv_at hl 0 rfl) ?_
            refine va_get (D := D) (ci := 6) (v := .ref (a 3)) (C := RX7) (T := TX7) (N := 19) hx hb hts hinX7 hown hK hP 0 rfl rfl 3 (by decide) hm2 (fun _ h9 => h9) rfl dX7_type_43 ?_
            refine lv_aload_n hx hb dX7_type_46 rfl (lv_at hl 0 rfl) ?_
            refine va_get (D := D) (ci := 6) (v := .int (iI (R 0 4))) (C := RX7) (T := TX7) (N := 19) hx hb hts hinX7 hown hK hP 0 rfl rfl 4 (by decide) hm0 (fun _ h9 => h9) rfl dX7_type_47 ?_
            refine lv_iload_n hx hb dX7_type_50 rfl (lv_at hl 1 rfl) ?_
            refine k_iast hx hb hK hP hD hS 3 0 (f := R 3) rfl rfl (i := R 0 4) (x := v) (by omega) dX7_type_51 (fun H locs hP hD hS => ?_)
            have hP : va_P D vwCl (rfW cy a (upr (upr R 0 (ups (R 0) 6 0)) 3 (ups (R 3) (R 0 4) v))) H := hP
            have hD : va_D (va_A (rfW cy a R) sz) (rfW cy a (upr (upr R 0 (ups (R 0) 6 0)) 3 (ups (R 3) (R 0 4) v))) := hD
            refine lv_aload_n hx hb dX7_type_52 rfl (lv_at hl 0 rfl) ?_
            refine lv_dup hx hb dX7_type_53 rfl ?_
            refine va_get (D := D) (ci := 6) (v := .int (iI (R 0 4))) (C := RX7) (T := TX7) (N := 19) hx hb hts hinX7 hown hK hP 0 rfl rfl 4 (by decide) hm0 (fun _ h9 => h9) rfl dX7_type_54 ?_
            refine k_iconst hx hb dX7_type_57 ?_
            refine k_iadd hx hb dX7_type_58 ?_
            refine va_put (D := D) (ci := 6) (v := .int (iI ((R 0 4) + 1))) (ty := .int) (C := RX7) (T := TX7) (N := 19) hx hb hts hinX7 tyX7 tyX7_ok nmX7 hown hK hP hD hS 0 rfl rfl 4 (by decide) hm0 (fun _ h9 => h9) rfl (by decide +kernel) rfl rfl (Nat.le_of_ble_eq_true rfl) dX7_type_59 (fun H locs hP hD hS => ?_)
            have hP : va_P D vwCl (rfW cy a (upr (upr R 0 (ups (ups (R 0) 6 0) 4 ((R 0 4) + 1))) 3 (ups (R 3) (R 0 4) v))) H := hP
            have hD : va_D (va_A (rfW cy a R) sz) (rfW cy a (upr (upr R 0 (ups (ups (R 0) 6 0) 4 ((R 0 4) + 1))) 3 (ups (R 3) (R 0 4) v))) := hD
            refine lv_aload_n hx hb dX7_type_62 rfl (lv_at hl 0 rfl) ?_
            refine va_get (D := D) (ci := 6) (v := .int (iI ((R 0 4) + 1))) (C := RX7) (T := TX7) (N := 19) hx hb hts hinX7 hown hK hP 0 rfl rfl 4 (by decide) hm0 (fun _ h9 => h9) rfl dX7_type_63 ?_
            exact W.iret (v := iI ((R 0 4) + 1)) hx hb hr (fun t9 ht _ => ⟨⟨iI ((R 0 4) + 1), (upr (upr R 0 (ups (ups (R 0) 6 0) 4 ((R 0 4) + 1))) 3 (ups (R 3) (R 0 4) v)), rfl, ⟨((R 0 4) + 1), rfl, (by first | exact Or.inl ⟨(by omega), (by first | rfl | omega), rfl⟩ | exact Or.inr (Or.inl ⟨(by omega), (by first | rfl | omega), rfl⟩) | exact Or.inr (Or.inr (⟨(by omega), (by first | rfl | omega), rfl⟩)) : ((¬ (0 ≤ v ∧ v ≤ 127)) ∧ ((R 0 4) + 1 : Int) = 0 ∧ (upr (upr R 0 (ups (ups (R 0) 6 0) 4 ((R 0 4) + 1))) 3 (ups (R 3) (R 0 4) v)) = (upr R 0 (ups (R 0) 6 1))) ∨ (((0 ≤ v ∧ v ≤ 127) ∧ R 0 4 = 150) ∧ ((R 0 4) + 1 : Int) = 0 ∧ (upr (upr R 0 (ups (ups (R 0) 6 0) 4 ((R 0 4) + 1))) 3 (ups (R 3) (R 0 4) v)) = (upr R 0 (ups (R 0) 6 2))) ∨ (((0 ≤ v ∧ v ≤ 127) ∧ R 0 4 < 150) ∧ ((R 0 4) + 1 : Int) = R 0 4 + 1 ∧ (upr (upr R 0 (ups (ups (R 0) 6 0) 4 ((R 0 4) + 1))) 3 (ups (R 3) (R 0 4) v)) = (upr (upr R 0 (ups (ups (R 0) 6 0) 4 (R 0 4 + 1))) 3 (ups (R 3) (R 0 4) v))))⟩, by rw [ht]; exact hP, hD⟩, hS.F ht⟩) hS.2.2 dX7_type_66 hlocks
          · exfalso; omega
        · skip
          refine k_iconst hx hb dX7_type_25 ?_
          refine lv_goto (tgt := 30) hx hb dX7_type_26 (by decide) ?_
          refine va_put (D := D) (ci := 6) (v := .int (iI 2)) (ty := .int) (C := RX7) (T := TX7) (N := 19) hx hb hts hinX7 tyX7 tyX7_ok nmX7 hown hK hP hD hS 0 rfl rfl 6 (by decide) hm1 (fun _ h9 => h9) rfl (by decide +kernel) rfl rfl (Nat.le_of_ble_eq_true rfl) dX7_type_30 (fun H locs hP hD hS => ?_)
          have hP : va_P D vwCl (rfW cy a (upr R 0 (ups (R 0) 6 2))) H := hP
          have hD : va_D (va_A (rfW cy a R) sz) (rfW cy a (upr R 0 (ups (R 0) 6 2))) := hD
          refine lv_aload_n hx hb dX7_type_33 rfl (lv_at hl 0 rfl) ?_
          refine va_get (D := D) (ci := 6) (v := .int (iI 2)) (C := RX7) (T := TX7) (N := 19) hx hb hts hinX7 hown hK hP 0 rfl rfl 6 (by decide) hm1 (fun _ h9 => h9) rfl dX7_type_34 ?_
          refine k_if_eq (tgt := 42) hx hb dX7_type_37 (by decide) (by omega) (fun c_6 => ?_) (fun c_6 => ?_)
          · exfalso; omega
          · skip
            refine k_iconst hx hb dX7_type_40 ?_
            exact W.iret (v := iI 0) hx hb hr (fun t9 ht _ => ⟨⟨iI 0, (upr R 0 (ups (R 0) 6 2)), rfl, ⟨0, rfl, (by first | exact Or.inl ⟨(by omega), (by first | rfl | omega), rfl⟩ | exact Or.inr (Or.inl ⟨(by omega), (by first | rfl | omega), rfl⟩) | exact Or.inr (Or.inr (⟨(by omega), (by first | rfl | omega), rfl⟩)) : ((¬ (0 ≤ v ∧ v ≤ 127)) ∧ (0 : Int) = 0 ∧ (upr R 0 (ups (R 0) 6 2)) = (upr R 0 (ups (R 0) 6 1))) ∨ (((0 ≤ v ∧ v ≤ 127) ∧ R 0 4 = 150) ∧ (0 : Int) = 0 ∧ (upr R 0 (ups (R 0) 6 2)) = (upr R 0 (ups (R 0) 6 2))) ∨ (((0 ≤ v ∧ v ≤ 127) ∧ R 0 4 < 150) ∧ (0 : Int) = R 0 4 + 1 ∧ (upr R 0 (ups (R 0) 6 2)) = (upr (upr R 0 (ups (ups (R 0) 6 0) 4 (R 0 4 + 1))) 3 (ups (R 3) (R 0 4) v))))⟩, by rw [ht]; exact hP, hD⟩, hS.F ht⟩) hS.2.2 dX7_type_41 hlocks
      · exfalso; omega
    · skip
      refine k_if_ne (tgt := 15) hx hb dX7_type_8 (by decide) (by omega) (fun c_7 => ?_) (fun c_7 => ?_)
      · exfalso; omega
      · skip
        refine k_iconst hx hb dX7_type_11 ?_
        refine lv_goto (tgt := 30) hx hb dX7_type_12 (by decide) ?_
        refine va_put (D := D) (ci := 6) (v := .int (iI 1)) (ty := .int) (C := RX7) (T := TX7) (N := 19) hx hb hts hinX7 tyX7 tyX7_ok nmX7 hown hK hP hD hS 0 rfl rfl 6 (by decide) hm1 (fun _ h9 => h9) rfl (by decide +kernel) rfl rfl (Nat.le_of_ble_eq_true rfl) dX7_type_30 (fun H locs hP hD hS => ?_)
        have hP : va_P D vwCl (rfW cy a (upr R 0 (ups (R 0) 6 1))) H := hP
        have hD : va_D (va_A (rfW cy a R) sz) (rfW cy a (upr R 0 (ups (R 0) 6 1))) := hD
        refine lv_aload_n hx hb dX7_type_33 rfl (lv_at hl 0 rfl) ?_
        refine va_get (D := D) (ci := 6) (v := .int (iI 1)) (C := RX7) (T := TX7) (N := 19) hx hb hts hinX7 hown hK hP 0 rfl rfl 6 (by decide) hm1 (fun _ h9 => h9) rfl dX7_type_34 ?_
        refine k_if_eq (tgt := 42) hx hb dX7_type_37 (by decide) (by omega) (fun c_8 => ?_) (fun c_8 => ?_)
        · exfalso; omega
        · skip
          refine k_iconst hx hb dX7_type_40 ?_
          exact W.iret (v := iI 0) hx hb hr (fun t9 ht _ => ⟨⟨iI 0, (upr R 0 (ups (R 0) 6 1)), rfl, ⟨0, rfl, (by first | exact Or.inl ⟨(by omega), (by first | rfl | omega), rfl⟩ | exact Or.inr (Or.inl ⟨(by omega), (by first | rfl | omega), rfl⟩) | exact Or.inr (Or.inr (⟨(by omega), (by first | rfl | omega), rfl⟩)) : ((¬ (0 ≤ v ∧ v ≤ 127)) ∧ (0 : Int) = 0 ∧ (upr R 0 (ups (R 0) 6 1)) = (upr R 0 (ups (R 0) 6 1))) ∨ (((0 ≤ v ∧ v ≤ 127) ∧ R 0 4 = 150) ∧ (0 : Int) = 0 ∧ (upr R 0 (ups (R 0) 6 1)) = (upr R 0 (ups (R 0) 6 2))) ∨ (((0 ≤ v ∧ v ≤ 127) ∧ R 0 4 < 150) ∧ (0 : Int) = R 0 4 + 1 ∧ (upr R 0 (ups (R 0) 6 1)) = (upr (upr R 0 (ups (ups (R 0) 6 0) 4 (R 0 4 + 1))) 3 (ups (R 3) (R 0 4) v))))⟩, by rw [ht]; exact hP, hD⟩, hS.F ht⟩) hS.2.2 dX7_type_41 hlocks
  exact hbody s.heap [] hP hS ls hl
set_option maxHeartbeats 4000000 in
set_option maxRecDepth 100000 in
theorem c_X7_addTrail (l : Launch) (D : va_G) (cy : Nat → ClassId) (sz : Nat) (a : Nat → Nat) (R : Nat → Int → Int)  (hI : Inv (R 1)) (hsc : 0 ≤ R 0 2 ∧ R 0 2 ≤ 4) : Met l yX7_addTrail wsX7_addTrail { frames := 1, cells := 0, slots := 0, locals := 21 } (mPre (GG D cy) D (rfW cy a R) sz ([.ref (a 0)] : List Value)) (kQi D (rfW cy a R) sz (fun u9 : Nat → Int → Int => rfW cy a u9) (fun r9 u9 => ((R 1 12 = 12) ∧ r9 = 0 ∧ u9 = (upr R 0 (ups (R 0) 6 1))) ∨ ((R 1 12 < 12) ∧ r9 = R 1 12 ∧ u9 = (upr (upr (upr R 0 (ups (ups (R 0) 6 0) 2 (kpN (R 0 2)))) 1 (tAT (R 1))) 2 (kpS (R 2) (R 1) (R 0 2)))))) 0 0 (va_A (rfW cy a R) sz) := by
  refine kM_start (cc := cX7_addTrail) (maxL := 1) (ret := (some .int)) (by decide) rfl (Nat.le_of_ble_eq_true rfl) ?_
  intro p e s m below meth c hx hb hr hlocks hml hts hown hsz hA hG hP hD hS hin ls hl
  have hK := hG.1
  have hl : lv_has ls 1 [(0, .ref (a 0))] := hl
  have hinX7 : ∀ w ∈ u_ws RX7 TX7 19, w ∈ wsX7_addTrail := by decide +kernel
  have hm0 := hts (.fieldLink RX7 31 "ArcPlateModel" "code" "I") (by decide +kernel)
  have h12 := inv_S12 hI
  have hbody : ∀ (H : Heap) (locs : List Loc) (hP : va_P D vwCl (rfW cy a R) H) (hS : va_S (va_A (rfW cy a R) sz) s.heap H locs) (ls : Array Slot) (hl : lv_has ls 1 [(0, .ref (a 0))]), W p l e { frames := 1, cells := 0, slots := 0, locals := 21 } s m ([.ref (a 0)] : List Value).toArray below meth c H locs 0 0 (MQ below (kQi D (rfW cy a R) sz (fun u9 : Nat → Int → Int => rfW cy a u9) (fun r9 u9 => ((R 1 12 = 12) ∧ r9 = 0 ∧ u9 = (upr R 0 (ups (R 0) 6 1))) ∨ ((R 1 12 < 12) ∧ r9 = R 1 12 ∧ u9 = (upr (upr (upr R 0 (ups (ups (R 0) 6 0) 2 (kpN (R 0 2)))) 1 (tAT (R 1))) 2 (kpS (R 2) (R 1) (R 0 2)))))) ([.ref (a 0)] : List Value).toArray s 0 0 (va_A (rfW cy a R) sz)) (F0 m 0 ls []) := by
    intro H locs hP hS ls hl
    refine lv_aload_n hx hb dX7_addTrail_0 rfl (lv_at hl 0 rfl) ?_
    refine lv_aload_n hx hb dX7_addTrail_1 rfl (lv_at hl 0 rfl) ?_
    refine k_roV (As := []) (rest := [.ref (a 0)]) ⟨hx, hb, hml, hown, hts⟩ (c_X7_notTrail l D cy a R hI) gX7_addTrail_X7_notTrail rfl ⟨rfl, rfl⟩ 0 rfl (by decide +kernel) ⟨Nat.le_of_ble_eq_true rfl, Nat.le_of_ble_eq_true rfl⟩ (GG_ok D cy) ((GG_ok D cy).2.2.2 _ _ _ _ (fun _ h => h.elim) ((GG_ok D cy).1 _ _ _ _ hS.2.1 hG)) hP (va_recv hK hP (ci := 6) (q0 := 0) rfl rfl) hl.1 rfl (Nat.le_of_ble_eq_true rfl) ⟨Nat.le_of_ble_eq_true rfl, Nat.le_of_ble_eq_true rfl⟩ dX7_addTrail_2 (fun r_1 hr_1 => ?_)
    have hr_1 : ((R 1 12 = 12) ∧ r_1 = 3) ∨ ((R 1 12 < 12) ∧ r_1 = 0) := hr_1
    rcases hr_1 with ⟨c_2, hr_1⟩ | ⟨c_2, hr_1⟩ <;> subst hr_1
    · skip
      refine k_if_ne (tgt := 12) hx hb dX7_addTrail_5 (by decide) (by omega) (fun c_3 => ?_) (fun c_3 => ?_)
      · skip
        refine k_iconst hx hb dX7_addTrail_12 ?_
        refine va_put (D := D) (ci := 6) (v := .int (iI 1)) (ty := .int) (C := RX7) (T := TX7) (N := 19) hx hb hts hinX7 tyX7 tyX7_ok nmX7 hown hK hP hD hS 0 rfl rfl 6 (by decide) hm0 (fun _ h9 => h9) rfl (by decide +kernel) rfl rfl (Nat.le_of_ble_eq_true rfl) dX7_addTrail_13 (fun H locs hP hD hS => ?_)
        have hP : va_P D vwCl (rfW cy a (upr R 0 (ups (R 0) 6 1))) H := hP
        have hD : va_D (va_A (rfW cy a R) sz) (rfW cy a (upr R 0 (ups (R 0) 6 1))) := hD
        refine lv_aload_n hx hb dX7_addTrail_16 rfl (lv_at hl 0 rfl) ?_
        refine va_get (D := D) (ci := 6) (v := .int (iI 1)) (C := RX7) (T := TX7) (N := 19) hx hb hts hinX7 hown hK hP 0 rfl rfl 6 (by decide) hm0 (fun _ h9 => h9) rfl dX7_addTrail_17 ?_
        refine k_if_eq (tgt := 25) hx hb dX7_addTrail_20 (by decide) (by omega) (fun c_4 => ?_) (fun c_4 => ?_)
        · exfalso; omega
        · skip
          refine k_iconst hx hb dX7_addTrail_23 ?_
          exact W.iret (v := iI 0) hx hb hr (fun t9 ht _ => ⟨⟨iI 0, (upr R 0 (ups (R 0) 6 1)), rfl, ⟨0, rfl, (by first | exact Or.inl ⟨(by omega), (by first | rfl | omega), rfl⟩ | exact Or.inr (⟨(by omega), (by first | rfl | omega), rfl⟩) : ((R 1 12 = 12) ∧ (0 : Int) = 0 ∧ (upr R 0 (ups (R 0) 6 1)) = (upr R 0 (ups (R 0) 6 1))) ∨ ((R 1 12 < 12) ∧ (0 : Int) = R 1 12 ∧ (upr R 0 (ups (R 0) 6 1)) = (upr (upr (upr R 0 (ups (ups (R 0) 6 0) 2 (kpN (R 0 2)))) 1 (tAT (R 1))) 2 (kpS (R 2) (R 1) (R 0 2)))))⟩, by rw [ht]; exact hP, hD⟩, hS.F ht⟩) hS.2.2 dX7_addTrail_24 hlocks
      · exfalso; omega
    · skip
      refine k_if_ne (tgt := 12) hx hb dX7_addTrail_5 (by decide) (by omega) (fun c_5 => ?_) (fun c_5 => ?_)
      · exfalso; omega
      · skip
        refine k_iconst hx hb dX7_addTrail_8 ?_
        refine lv_goto (tgt := 13) hx hb dX7_addTrail_9 (by decide) ?_
        refine va_put (D := D) (ci := 6) (v := .int (iI 0)) (ty := .int) (C := RX7) (T := TX7) (N := 19) hx hb hts hinX7 tyX7 tyX7_ok nmX7 hown hK hP hD hS 0 rfl rfl 6 (by decide) hm0 (fun _ h9 => h9) rfl (by decide +kernel) rfl rfl (Nat.le_of_ble_eq_true rfl) dX7_addTrail_13 (fun H locs hP hD hS => ?_)
        have hP : va_P D vwCl (rfW cy a (upr R 0 (ups (R 0) 6 0))) H := hP
        have hD : va_D (va_A (rfW cy a R) sz) (rfW cy a (upr R 0 (ups (R 0) 6 0))) := hD
        refine lv_aload_n hx hb dX7_addTrail_16 rfl (lv_at hl 0 rfl) ?_
        refine va_get (D := D) (ci := 6) (v := .int (iI 0)) (C := RX7) (T := TX7) (N := 19) hx hb hts hinX7 hown hK hP 0 rfl rfl 6 (by decide) hm0 (fun _ h9 => h9) rfl dX7_addTrail_17 ?_
        refine k_if_eq (tgt := 25) hx hb dX7_addTrail_20 (by decide) (by omega) (fun c_6 => ?_) (fun c_6 => ?_)
        · skip
          refine lv_aload_n hx hb dX7_addTrail_25 rfl (lv_at hl 0 rfl) ?_
          refine k_muv (k_runV (As := []) (rest := []) ⟨hx, hb, hml, hown, hts⟩ (c_X7_keep l D cy H.size a (upr R 0 (ups (R 0) 6 0)) (show 0 ≤ (R 0 2) ∧ (R 0 2) ≤ 4 by omega)) gX7_addTrail_X7_keep rfl ⟨rfl, rfl⟩ 0 rfl (by decide +kernel) ⟨Nat.le_of_ble_eq_true rfl, Nat.le_of_ble_eq_true rfl⟩ (GG_ok D cy) hG hS (k_free hD hS hA) hP hD (va_recv hK hP (ci := 6) (q0 := 0) rfl rfl) hl.1 rfl (Nat.le_of_ble_eq_true rfl) ⟨Nat.le_of_ble_eq_true rfl, Nat.le_of_ble_eq_true rfl⟩ dX7_addTrail_26) (k_free hD hS hA) hS (fun R_8 H1 locs1 hR_8 hP1 hD1 hS1 hk1 => ?_)
          have hR_8 : R_8 = (upr (upr (upr R 0 (ups (R 0) 6 0)) 0 (ups ((ups (R 0) 6 0)) 2 (kpN ((R 0 2))))) 2 (kpS ((R 2)) ((R 1)) ((R 0 2)))) := hR_8
          subst hR_8
          have hDn : va_D (va_A (rfW cy a R) sz) (rfW cy a (upr (upr R 0 (ups ((ups (R 0) 6 0)) 2 (kpN ((R 0 2))))) 2 (kpS ((R 2)) ((R 1)) ((R 0 2))))) := k_addr hD rfl
          have hPn : va_P D vwCl (rfW cy a (upr (upr R 0 (ups ((ups (R 0) 6 0)) 2 (kpN ((R 0 2))))) 2 (kpS ((R 2)) ((R 1)) ((R 0 2))))) H1 := hP1
          clear hP hD hS hP1 hD1 hk1
          have hP := hPn
          have hD := hDn
          have hS := hS1
          clear hPn hDn hS1
          generalize H1 = H at hP hS ⊢
          generalize locs1 = locs at hS ⊢
          refine lv_aload_n hx hb dX7_addTrail_29 rfl (lv_at hl 0 rfl) ?_
          refine k_mui (k_runV (As := []) (rest := []) ⟨hx, hb, hml, hown, hts⟩ (c_X7_addsTrail l D cy H.size a (upr (upr R 0 (ups ((ups (R 0) 6 0)) 2 (kpN ((R 0 2))))) 2 (kpS ((R 2)) ((R 1)) ((R 0 2)))) (show 0 ≤ (R 1) 12 ∧ (R 1) 12 < 12 by omega)) gX7_addTrail_X7_addsTrail rfl ⟨rfl, rfl⟩ 0 rfl (by decide +kernel) ⟨Nat.le_of_ble_eq_true rfl, Nat.le_of_ble_eq_true rfl⟩ (GG_ok D cy) hG hS (k_free hD hS hA) hP hD (va_recv hK hP (ci := 6) (q0 := 0) rfl rfl) hl.1 rfl (Nat.le_of_ble_eq_true rfl) ⟨Nat.le_of_ble_eq_true rfl, Nat.le_of_ble_eq_true rfl⟩ dX7_addTrail_30) (k_free hD hS hA) hS (fun r_9 R_10 H1 locs1 hR_10 hP1 hD1 hS1 hk1 => ?_)
          have hR_10 : r_9 = (R 1) 12 ∧ R_10 = (upr (upr (upr R 0 (ups ((ups (R 0) 6 0)) 2 (kpN ((R 0 2))))) 2 (kpS ((R 2)) ((R 1)) ((R 0 2)))) 1 (tAT ((R 1)))) := hR_10
          obtain ⟨hr_9, rfl⟩ := hR_10
          have hr_9 : r_9 = (R 1) 12 := hr_9
          subst hr_9
          have hDn : va_D (va_A (rfW cy a R) sz) (rfW cy a (upr (upr (upr R 0 (ups ((ups (R 0) 6 0)) 2 (kpN ((R 0 2))))) 1 (tAT ((R 1)))) 2 (kpS ((R 2)) ((R 1)) ((R 0 2))))) := k_addr hD rfl
          have hPn : va_P D vwCl (rfW cy a (upr (upr (upr R 0 (ups ((ups (R 0) 6 0)) 2 (kpN ((R 0 2))))) 1 (tAT ((R 1)))) 2 (kpS ((R 2)) ((R 1)) ((R 0 2))))) H1 := hP1
          clear hP hD hS hP1 hD1 hk1
          have hP := hPn
          have hD := hDn
          have hS := hS1
          clear hPn hDn hS1
          generalize H1 = H at hP hS ⊢
          generalize locs1 = locs at hS ⊢
          exact W.iret (v := iI ((R 1) 12)) hx hb hr (fun t9 ht _ => ⟨⟨iI ((R 1) 12), (upr (upr (upr R 0 (ups ((ups (R 0) 6 0)) 2 (kpN ((R 0 2))))) 1 (tAT ((R 1)))) 2 (kpS ((R 2)) ((R 1)) ((R 0 2)))), rfl, ⟨((R 1) 12), rfl, (by first | exact Or.inl ⟨(by omega), (by first | rfl | omega), rfl⟩ | exact Or.inr (⟨(by omega), (by first | rfl | omega), rfl⟩) : ((R 1 12 = 12) ∧ ((R 1) 12 : Int) = 0 ∧ (upr (upr (upr R 0 (ups ((ups (R 0) 6 0)) 2 (kpN ((R 0 2))))) 1 (tAT ((R 1)))) 2 (kpS ((R 2)) ((R 1)) ((R 0 2)))) = (upr R 0 (ups (R 0) 6 1))) ∨ ((R 1 12 < 12) ∧ ((R 1) 12 : Int) = R 1 12 ∧ (upr (upr (upr R 0 (ups ((ups (R 0) 6 0)) 2 (kpN ((R 0 2))))) 1 (tAT ((R 1)))) 2 (kpS ((R 2)) ((R 1)) ((R 0 2)))) = (upr (upr (upr R 0 (ups (ups (R 0) 6 0) 2 (kpN (R 0 2)))) 1 (tAT (R 1))) 2 (kpS (R 2) (R 1) (R 0 2)))))⟩, by rw [ht]; exact hP, hD⟩, hS.F ht⟩) hS.2.2 dX7_addTrail_33 hlocks
        · exfalso; omega
  exact hbody s.heap [] hP hS ls hl
set_option maxHeartbeats 4000000 in
set_option maxRecDepth 100000 in
theorem c_X7_set (l : Launch) (D : va_G) (cy : Nat → ClassId) (sz : Nat) (a : Nat → Nat) (R : Nat → Int → Int) (w v : Int) (hsc : 0 ≤ R 0 2 ∧ R 0 2 ≤ 4) (hrw : -2147483648 ≤ w ∧ w ≤ 2147483647) (hrv : -2147483648 ≤ v ∧ v ≤ 2147483647) : Met l yX7_set wsX7_set { frames := 4, cells := 0, slots := 0, locals := 84 } (mPre (GG D cy) D (rfW cy a R) sz ([.ref (a 0), .int (iI w), .int (iI v)] : List Value)) (kQi D (rfW cy a R) sz (fun u9 : Nat → Int → Int => rfW cy a u9) (fun r9 u9 => ((¬ setOK w v) ∧ r9 = 0 ∧ u9 = (upr R 0 (ups (R 0) 6 1))) ∨ ((setOK w v) ∧ r9 = R 1 w ∧ u9 = (upr (upr (upr R 0 (ups (ups (R 0) 6 0) 2 (kpN (R 0 2)))) 1 (ups (R 1) w v)) 2 (kpS (R 2) (R 1) (R 0 2)))))) 0 0 (va_A (rfW cy a R) sz) := by
  refine kM_start (cc := cX7_set) (maxL := 3) (ret := (some .int)) (by decide) rfl (Nat.le_of_ble_eq_true rfl) ?_
  intro p e s m below meth c hx hb hr hlocks hml hts hown hsz hA hG hP hD hS hin ls hl
  have hK := hG.1
  have hl : lv_has ls 3 [(0, .ref (a 0)), (1, .int (iI w)), (2, .int (iI v))] := hl
  have hinX7 : ∀ w ∈ u_ws RX7 TX7 19, w ∈ wsX7_set := by decide +kernel
  have hm0 := hts (.fieldLink RX7 31 "ArcPlateModel" "code" "I") (by decide +kernel)
  have hbody : ∀ (H : Heap) (locs : List Loc) (hP : va_P D vwCl (rfW cy a R) H) (hS : va_S (va_A (rfW cy a R) sz) s.heap H locs) (ls : Array Slot) (hl : lv_has ls 3 [(0, .ref (a 0)), (1, .int (iI w)), (2, .int (iI v))]), W p l e { frames := 4, cells := 0, slots := 0, locals := 84 } s m ([.ref (a 0), .int (iI w), .int (iI v)] : List Value).toArray below meth c H locs 0 0 (MQ below (kQi D (rfW cy a R) sz (fun u9 : Nat → Int → Int => rfW cy a u9) (fun r9 u9 => ((¬ setOK w v) ∧ r9 = 0 ∧ u9 = (upr R 0 (ups (R 0) 6 1))) ∨ ((setOK w v) ∧ r9 = R 1 w ∧ u9 = (upr (upr (upr R 0 (ups (ups (R 0) 6 0) 2 (kpN (R 0 2)))) 1 (ups (R 1) w v)) 2 (kpS (R 2) (R 1) (R 0 2)))))) ([.ref (a 0), .int (iI w), .int (iI v)] : List Value).toArray s 0 0 (va_A (rfW cy a R) sz)) (F0 m 0 ls []) := by
    intro H locs hP hS ls hl
    refine lv_aload_n hx hb dX7_set_0 rfl (lv_at hl 0 rfl) ?_
    refine lv_iload_n hx hb dX7_set_1 rfl (lv_at hl 1 rfl) ?_
    refine lv_iload_n hx hb dX7_set_2 rfl (lv_at hl 2 rfl) ?_
    refine k_roS (As := [.int (iI w), .int (iI v)]) (rest := [.ref (a 0)]) ⟨hx, hb, hml, hown, hts⟩ (c_X7_notSet l D w v (show -2147483648 ≤ w ∧ w ≤ 2147483647 by omega) (show -2147483648 ≤ v ∧ v ≤ 2147483647 by omega)) gX7_set_X7_notSet rfl ⟨rfl, rfl⟩ 2 rfl (by decide +kernel) ⟨Nat.le_of_ble_eq_true rfl, Nat.le_of_ble_eq_true rfl⟩ kGT_ok trivial (fun k q h => by simp at h) hl.1 rfl (Nat.le_of_ble_eq_true rfl) ⟨Nat.le_of_ble_eq_true rfl, Nat.le_of_ble_eq_true rfl⟩ dX7_set_3 (fun r_1 hr_1 => ?_)
    have hr_1 : ((setOK w v) ∧ r_1 = 0) ∨ ((¬ setOK w v) ∧ r_1 = 2) := hr_1
    rcases hr_1 with ⟨c_2, hr_1⟩ | ⟨c_2, hr_1⟩ <;> subst hr_1
    · skip
      have hset := c_2.1
      refine k_if_ne (tgt := 13) hx hb dX7_set_6 (by decide) (by omega) (fun c_3 => ?_) (fun c_3 => ?_)
      · exfalso; omega
      · skip
        refine k_iconst hx hb dX7_set_9 ?_
        refine lv_goto (tgt := 14) hx hb dX7_set_10 (by decide) ?_
        refine va_put (D := D) (ci := 6) (v := .int (iI 0)) (ty := .int) (C := RX7) (T := TX7) (N := 19) hx hb hts hinX7 tyX7 tyX7_ok nmX7 hown hK hP hD hS 0 rfl rfl 6 (by decide) hm0 (fun _ h9 => h9) rfl (by decide +kernel) rfl rfl (Nat.le_of_ble_eq_true rfl) dX7_set_14 (fun H locs hP hD hS => ?_)
        have hP : va_P D vwCl (rfW cy a (upr R 0 (ups (R 0) 6 0))) H := hP
        have hD : va_D (va_A (rfW cy a R) sz) (rfW cy a (upr R 0 (ups (R 0) 6 0))) := hD
        refine lv_aload_n hx hb dX7_set_17 rfl (lv_at hl 0 rfl) ?_
        refine va_get (D := D) (ci := 6) (v := .int (iI 0)) (C := RX7) (T := TX7) (N := 19) hx hb hts hinX7 hown hK hP 0 rfl rfl 6 (by decide) hm0 (fun _ h9 => h9) rfl dX7_set_18 ?_
        refine k_if_eq (tgt := 26) hx hb dX7_set_21 (by decide) (by omega) (fun c_4 => ?_) (fun c_4 => ?_)
        · skip
          refine lv_aload_n hx hb dX7_set_26 rfl (lv_at hl 0 rfl) ?_
          refine k_muv (k_runV (As := []) (rest := []) ⟨hx, hb, hml, hown, hts⟩ (c_X7_keep l D cy H.size a (upr R 0 (ups (R 0) 6 0)) (show 0 ≤ (R 0 2) ∧ (R 0 2) ≤ 4 by omega)) gX7_set_X7_keep rfl ⟨rfl, rfl⟩ 0 rfl (by decide +kernel) ⟨Nat.le_of_ble_eq_true rfl, Nat.le_of_ble_eq_true rfl⟩ (GG_ok D cy) hG hS (k_free hD hS hA) hP hD (va_recv hK hP (ci := 6) (q0 := 0) rfl rfl) hl.1 rfl (Nat.le_of_ble_eq_true rfl) ⟨Nat.le_of_ble_eq_true rfl, Nat.le_of_ble_eq_true rfl⟩ dX7_set_27) (k_free hD hS hA) hS (fun R_6 H1 locs1 hR_6 hP1 hD1 hS1 hk1 => ?_)
          have hR_6 : R_6 = (upr (upr (upr R 0 (ups (R 0) 6 0)) 0 (ups ((ups (R 0) 6 0)) 2 (kpN ((R 0 2))))) 2 (kpS ((R 2)) ((R 1)) ((R 0 2)))) := hR_6
          subst hR_6
          have hDn : va_D (va_A (rfW cy a R) sz) (rfW cy a (upr (upr R 0 (ups ((ups (R 0) 6 0)) 2 (kpN ((R 0 2))))) 2 (kpS ((R 2)) ((R 1)) ((R 0 2))))) := k_addr hD rfl
          have hPn : va_P D vwCl (rfW cy a (upr (upr R 0 (ups ((ups (R 0) 6 0)) 2 (kpN ((R 0 2))))) 2 (kpS ((R 2)) ((R 1)) ((R 0 2))))) H1 := hP1
          clear hP hD hS hP1 hD1 hk1
          have hP := hPn
          have hD := hDn
          have hS := hS1
          clear hPn hDn hS1
          generalize H1 = H at hP hS ⊢
          generalize locs1 = locs at hS ⊢
          refine lv_aload_n hx hb dX7_set_30 rfl (lv_at hl 0 rfl) ?_
          refine lv_iload_n hx hb dX7_set_31 rfl (lv_at hl 1 rfl) ?_
          refine lv_iload_n hx hb dX7_set_32 rfl (lv_at hl 2 rfl) ?_
          refine k_mui (k_runV (As := [.int (iI w), .int (iI v)]) (rest := []) ⟨hx, hb, hml, hown, hts⟩ (c_X7_sets l D cy H.size a (upr (upr R 0 (ups ((ups (R 0) 6 0)) 2 (kpN ((R 0 2))))) 2 (kpS ((R 2)) ((R 1)) ((R 0 2)))) w v (show 0 ≤ w ∧ w ≤ 11 by omega)) gX7_set_X7_sets rfl ⟨rfl, rfl⟩ 2 rfl (by decide +kernel) ⟨Nat.le_of_ble_eq_true rfl, Nat.le_of_ble_eq_true rfl⟩ (GG_ok D cy) hG hS (k_free hD hS hA) hP hD (va_recv hK hP (ci := 6) (q0 := 0) rfl rfl) hl.1 rfl (Nat.le_of_ble_eq_true rfl) ⟨Nat.le_of_ble_eq_true rfl, Nat.le_of_ble_eq_true rfl⟩ dX7_set_33) (k_free hD hS hA) hS (fun r_7 R_8 H1 locs1 hR_8 hP1 hD1 hS1 hk1 => ?_)
          have hR_8 : r_7 = (R 1) w ∧ R_8 = upr (upr (upr R 0 (ups ((ups (R 0) 6 0)) 2 (kpN ((R 0 2))))) 2 (kpS ((R 2)) ((R 1)) ((R 0 2)))) 1 (ups ((R 1)) w v) := hR_8
          obtain ⟨hr_7, rfl⟩ := hR_8
          have hr_7 : r_7 = (R 1) w := hr_7
          subst hr_7
          have hDn : va_D (va_A (rfW cy a R) sz) (rfW cy a (upr (upr (upr R 0 (ups ((ups (R 0) 6 0)) 2 (kpN ((R 0 2))))) 1 (ups ((R 1)) w v)) 2 (kpS ((R 2)) ((R 1)) ((R 0 2))))) := k_addr hD rfl
          have hPn : va_P D vwCl (rfW cy a (upr (upr (upr R 0 (ups ((ups (R 0) 6 0)) 2 (kpN ((R 0 2))))) 1 (ups ((R 1)) w v)) 2 (kpS ((R 2)) ((R 1)) ((R 0 2))))) H1 := hP1
          clear hP hD hS hP1 hD1 hk1
          have hP := hPn
          have hD := hDn
          have hS := hS1
          clear hPn hDn hS1
          generalize H1 = H at hP hS ⊢
          generalize locs1 = locs at hS ⊢
          exact W.iret (v := iI ((R 1) w)) hx hb hr (fun t9 ht _ => ⟨⟨iI ((R 1) w), (upr (upr (upr R 0 (ups ((ups (R 0) 6 0)) 2 (kpN ((R 0 2))))) 1 (ups ((R 1)) w v)) 2 (kpS ((R 2)) ((R 1)) ((R 0 2)))), rfl, ⟨((R 1) w), rfl, (by first | exact Or.inl ⟨(by assumption), (by first | rfl | omega), rfl⟩ | exact Or.inr (⟨(by assumption), (by first | rfl | omega), rfl⟩) : ((¬ setOK w v) ∧ ((R 1) w : Int) = 0 ∧ (upr (upr (upr R 0 (ups ((ups (R 0) 6 0)) 2 (kpN ((R 0 2))))) 1 (ups ((R 1)) w v)) 2 (kpS ((R 2)) ((R 1)) ((R 0 2)))) = (upr R 0 (ups (R 0) 6 1))) ∨ ((setOK w v) ∧ ((R 1) w : Int) = R 1 w ∧ (upr (upr (upr R 0 (ups ((ups (R 0) 6 0)) 2 (kpN ((R 0 2))))) 1 (ups ((R 1)) w v)) 2 (kpS ((R 2)) ((R 1)) ((R 0 2)))) = (upr (upr (upr R 0 (ups (ups (R 0) 6 0) 2 (kpN (R 0 2)))) 1 (ups (R 1) w v)) 2 (kpS (R 2) (R 1) (R 0 2)))))⟩, by rw [ht]; exact hP, hD⟩, hS.F ht⟩) hS.2.2 dX7_set_36 hlocks
        · exfalso; omega
    · skip
      refine k_if_ne (tgt := 13) hx hb dX7_set_6 (by decide) (by omega) (fun c_9 => ?_) (fun c_9 => ?_)
      · skip
        refine k_iconst hx hb dX7_set_13 ?_
        refine va_put (D := D) (ci := 6) (v := .int (iI 1)) (ty := .int) (C := RX7) (T := TX7) (N := 19) hx hb hts hinX7 tyX7 tyX7_ok nmX7 hown hK hP hD hS 0 rfl rfl 6 (by decide) hm0 (fun _ h9 => h9) rfl (by decide +kernel) rfl rfl (Nat.le_of_ble_eq_true rfl) dX7_set_14 (fun H locs hP hD hS => ?_)
        have hP : va_P D vwCl (rfW cy a (upr R 0 (ups (R 0) 6 1))) H := hP
        have hD : va_D (va_A (rfW cy a R) sz) (rfW cy a (upr R 0 (ups (R 0) 6 1))) := hD
        refine lv_aload_n hx hb dX7_set_17 rfl (lv_at hl 0 rfl) ?_
        refine va_get (D := D) (ci := 6) (v := .int (iI 1)) (C := RX7) (T := TX7) (N := 19) hx hb hts hinX7 hown hK hP 0 rfl rfl 6 (by decide) hm0 (fun _ h9 => h9) rfl dX7_set_18 ?_
        refine k_if_eq (tgt := 26) hx hb dX7_set_21 (by decide) (by omega) (fun c_10 => ?_) (fun c_10 => ?_)
        · exfalso; omega
        · skip
          refine k_iconst hx hb dX7_set_24 ?_
          exact W.iret (v := iI 0) hx hb hr (fun t9 ht _ => ⟨⟨iI 0, (upr R 0 (ups (R 0) 6 1)), rfl, ⟨0, rfl, (by first | exact Or.inl ⟨(by assumption), (by first | rfl | omega), rfl⟩ | exact Or.inr (⟨(by assumption), (by first | rfl | omega), rfl⟩) : ((¬ setOK w v) ∧ (0 : Int) = 0 ∧ (upr R 0 (ups (R 0) 6 1)) = (upr R 0 (ups (R 0) 6 1))) ∨ ((setOK w v) ∧ (0 : Int) = R 1 w ∧ (upr R 0 (ups (R 0) 6 1)) = (upr (upr (upr R 0 (ups (ups (R 0) 6 0) 2 (kpN (R 0 2)))) 1 (ups (R 1) w v)) 2 (kpS (R 2) (R 1) (R 0 2)))))⟩, by rw [ht]; exact hP, hD⟩, hS.F ht⟩) hS.2.2 dX7_set_25 hlocks
      · exfalso; omega
  exact hbody s.heap [] hP hS ls hl
set_option maxHeartbeats 4000000 in
set_option maxRecDepth 100000 in
theorem c_X7_setPole (l : Launch) (D : va_G) (cy : Nat → ClassId) (sz : Nat) (a : Nat → Nat) (R : Nat → Int → Int) (x y : Int) (hI : Inv (R 1)) (hsc : 0 ≤ R 0 2 ∧ R 0 2 ≤ 4) (hrx : -2147483648 ≤ x ∧ x ≤ 2147483647) (hry : -2147483648 ≤ y ∧ y ≤ 2147483647) : Met l yX7_setPole wsX7_setPole { frames := 7, cells := 0, slots := 0, locals := 158 } (mPre (GG D cy) D (rfW cy a R) sz ([.ref (a 0), .int (iI x), .int (iI y)] : List Value)) (kQi D (rfW cy a R) sz (fun u9 : Nat → Int → Int => rfW cy a u9) (fun r9 u9 => ((¬ poleOK x y) ∧ r9 = 0 ∧ u9 = (upr R 0 (ups (R 0) 6 1))) ∨ ((poleOK x y) ∧ r9 = pcost (tPo (R 1) x y) ∧ u9 = (upr (upr (upr R 0 (ups (ups (R 0) 6 0) 2 (kpN (R 0 2)))) 1 (tPo (R 1) x y)) 2 (kpS (R 2) (R 1) (R 0 2)))))) 0 0 (va_A (rfW cy a R) sz) := by
  refine kM_start (cc := cX7_setPole) (maxL := 3) (ret := (some .int)) (by decide) rfl (Nat.le_of_ble_eq_true rfl) ?_
  intro p e s m below meth c hx hb hr hlocks hml hts hown hsz hA hG hP hD hS hin ls hl
  have hK := hG.1
  have hl : lv_has ls 3 [(0, .ref (a 0)), (1, .int (iI x)), (2, .int (iI y))] := hl
  have hinX7 : ∀ w ∈ u_ws RX7 TX7 19, w ∈ wsX7_setPole := by decide +kernel
  have hm0 := hts (.fieldLink RX7 31 "ArcPlateModel" "code" "I") (by decide +kernel)
  have hbody : ∀ (H : Heap) (locs : List Loc) (hP : va_P D vwCl (rfW cy a R) H) (hS : va_S (va_A (rfW cy a R) sz) s.heap H locs) (ls : Array Slot) (hl : lv_has ls 3 [(0, .ref (a 0)), (1, .int (iI x)), (2, .int (iI y))]), W p l e { frames := 7, cells := 0, slots := 0, locals := 158 } s m ([.ref (a 0), .int (iI x), .int (iI y)] : List Value).toArray below meth c H locs 0 0 (MQ below (kQi D (rfW cy a R) sz (fun u9 : Nat → Int → Int => rfW cy a u9) (fun r9 u9 => ((¬ poleOK x y) ∧ r9 = 0 ∧ u9 = (upr R 0 (ups (R 0) 6 1))) ∨ ((poleOK x y) ∧ r9 = pcost (tPo (R 1) x y) ∧ u9 = (upr (upr (upr R 0 (ups (ups (R 0) 6 0) 2 (kpN (R 0 2)))) 1 (tPo (R 1) x y)) 2 (kpS (R 2) (R 1) (R 0 2)))))) ([.ref (a 0), .int (iI x), .int (iI y)] : List Value).toArray s 0 0 (va_A (rfW cy a R) sz)) (F0 m 0 ls []) := by
    intro H locs hP hS ls hl
    refine lv_aload_n hx hb dX7_setPole_0 rfl (lv_at hl 0 rfl) ?_
    refine lv_iload_n hx hb dX7_setPole_1 rfl (lv_at hl 1 rfl) ?_
    refine lv_iload_n hx hb dX7_setPole_2 rfl (lv_at hl 2 rfl) ?_
    refine k_roS (As := [.int (iI x), .int (iI y)]) (rest := [.ref (a 0)]) ⟨hx, hb, hml, hown, hts⟩ (c_X7_notPole l D x y (show -2147483648 ≤ x ∧ x ≤ 2147483647 by omega) (show -2147483648 ≤ y ∧ y ≤ 2147483647 by omega)) gX7_setPole_X7_notPole rfl ⟨rfl, rfl⟩ 2 rfl (by decide +kernel) ⟨Nat.le_of_ble_eq_true rfl, Nat.le_of_ble_eq_true rfl⟩ kGT_ok trivial (fun k q h => by simp at h) hl.1 rfl (Nat.le_of_ble_eq_true rfl) ⟨Nat.le_of_ble_eq_true rfl, Nat.le_of_ble_eq_true rfl⟩ dX7_setPole_3 (fun r_1 hr_1 => ?_)
    have hr_1 : ((poleOK x y) ∧ r_1 = 0) ∨ ((¬ poleOK x y) ∧ r_1 = 2) := hr_1
    rcases hr_1 with ⟨c_2, hr_1⟩ | ⟨c_2, hr_1⟩ <;> subst hr_1
    · skip
      refine k_if_ne (tgt := 13) hx hb dX7_setPole_6 (by decide) (by omega) (fun c_3 => ?_) (fun c_3 => ?_)
      · exfalso; omega
      · skip
        refine k_iconst hx hb dX7_setPole_9 ?_
        refine lv_goto (tgt := 14) hx hb dX7_setPole_10 (by decide) ?_
        refine va_put (D := D) (ci := 6) (v := .int (iI 0)) (ty := .int) (C := RX7) (T := TX7) (N := 19) hx hb hts hinX7 tyX7 tyX7_ok nmX7 hown hK hP hD hS 0 rfl rfl 6 (by decide) hm0 (fun _ h9 => h9) rfl (by decide +kernel) rfl rfl (Nat.le_of_ble_eq_true rfl) dX7_setPole_14 (fun H locs hP hD hS => ?_)
        have hP : va_P D vwCl (rfW cy a (upr R 0 (ups (R 0) 6 0))) H := hP
        have hD : va_D (va_A (rfW cy a R) sz) (rfW cy a (upr R 0 (ups (R 0) 6 0))) := hD
        refine lv_aload_n hx hb dX7_setPole_17 rfl (lv_at hl 0 rfl) ?_
        refine va_get (D := D) (ci := 6) (v := .int (iI 0)) (C := RX7) (T := TX7) (N := 19) hx hb hts hinX7 hown hK hP 0 rfl rfl 6 (by decide) hm0 (fun _ h9 => h9) rfl dX7_setPole_18 ?_
        refine k_if_eq (tgt := 26) hx hb dX7_setPole_21 (by decide) (by omega) (fun c_4 => ?_) (fun c_4 => ?_)
        · skip
          refine lv_aload_n hx hb dX7_setPole_26 rfl (lv_at hl 0 rfl) ?_
          refine k_muv (k_runV (As := []) (rest := []) ⟨hx, hb, hml, hown, hts⟩ (c_X7_keep l D cy H.size a (upr R 0 (ups (R 0) 6 0)) (show 0 ≤ (R 0 2) ∧ (R 0 2) ≤ 4 by omega)) gX7_setPole_X7_keep rfl ⟨rfl, rfl⟩ 0 rfl (by decide +kernel) ⟨Nat.le_of_ble_eq_true rfl, Nat.le_of_ble_eq_true rfl⟩ (GG_ok D cy) hG hS (k_free hD hS hA) hP hD (va_recv hK hP (ci := 6) (q0 := 0) rfl rfl) hl.1 rfl (Nat.le_of_ble_eq_true rfl) ⟨Nat.le_of_ble_eq_true rfl, Nat.le_of_ble_eq_true rfl⟩ dX7_setPole_27) (k_free hD hS hA) hS (fun R_6 H1 locs1 hR_6 hP1 hD1 hS1 hk1 => ?_)
          have hR_6 : R_6 = (upr (upr (upr R 0 (ups (R 0) 6 0)) 0 (ups ((ups (R 0) 6 0)) 2 (kpN ((R 0 2))))) 2 (kpS ((R 2)) ((R 1)) ((R 0 2)))) := hR_6
          subst hR_6
          have hDn : va_D (va_A (rfW cy a R) sz) (rfW cy a (upr (upr R 0 (ups ((ups (R 0) 6 0)) 2 (kpN ((R 0 2))))) 2 (kpS ((R 2)) ((R 1)) ((R 0 2))))) := k_addr hD rfl
          have hPn : va_P D vwCl (rfW cy a (upr (upr R 0 (ups ((ups (R 0) 6 0)) 2 (kpN ((R 0 2))))) 2 (kpS ((R 2)) ((R 1)) ((R 0 2))))) H1 := hP1
          clear hP hD hS hP1 hD1 hk1
          have hP := hPn
          have hD := hDn
          have hS := hS1
          clear hPn hDn hS1
          generalize H1 = H at hP hS ⊢
          generalize locs1 = locs at hS ⊢
          refine lv_aload_n hx hb dX7_setPole_30 rfl (lv_at hl 0 rfl) ?_
          refine lv_iload_n hx hb dX7_setPole_31 rfl (lv_at hl 1 rfl) ?_
          refine lv_iload_n hx hb dX7_setPole_32 rfl (lv_at hl 2 rfl) ?_
          refine k_mui (k_runV (As := [.int (iI x), .int (iI y)]) (rest := []) ⟨hx, hb, hml, hown, hts⟩ (c_X7_setsPole l D cy H.size a (upr (upr R 0 (ups ((ups (R 0) 6 0)) 2 (kpN ((R 0 2))))) 2 (kpS ((R 2)) ((R 1)) ((R 0 2)))) x y hI (by assumption)) gX7_setPole_X7_setsPole rfl ⟨rfl, rfl⟩ 2 rfl (by decide +kernel) ⟨Nat.le_of_ble_eq_true rfl, Nat.le_of_ble_eq_true rfl⟩ (GG_ok D cy) hG hS (k_free hD hS hA) hP hD (va_recv hK hP (ci := 6) (q0 := 0) rfl rfl) hl.1 rfl (Nat.le_of_ble_eq_true rfl) ⟨Nat.le_of_ble_eq_true rfl, Nat.le_of_ble_eq_true rfl⟩ dX7_setPole_33) (k_free hD hS hA) hS (fun r_7 R_8 H1 locs1 hR_8 hP1 hD1 hS1 hk1 => ?_)
          have hR_8 : r_7 = pcost (tPo ((R 1)) x y) ∧ R_8 = (upr (upr (upr R 0 (ups ((ups (R 0) 6 0)) 2 (kpN ((R 0 2))))) 2 (kpS ((R 2)) ((R 1)) ((R 0 2)))) 1 (tPo ((R 1)) x y)) := hR_8
          obtain ⟨hr_7, rfl⟩ := hR_8
          have hr_7 : r_7 = pcost (tPo ((R 1)) x y) := hr_7
          subst hr_7
          have hDn : va_D (va_A (rfW cy a R) sz) (rfW cy a (upr (upr (upr R 0 (ups ((ups (R 0) 6 0)) 2 (kpN ((R 0 2))))) 1 (tPo ((R 1)) x y)) 2 (kpS ((R 2)) ((R 1)) ((R 0 2))))) := k_addr hD rfl
          have hPn : va_P D vwCl (rfW cy a (upr (upr (upr R 0 (ups ((ups (R 0) 6 0)) 2 (kpN ((R 0 2))))) 1 (tPo ((R 1)) x y)) 2 (kpS ((R 2)) ((R 1)) ((R 0 2))))) H1 := hP1
          clear hP hD hS hP1 hD1 hk1
          have hP := hPn
          have hD := hDn
          have hS := hS1
          clear hPn hDn hS1
          generalize H1 = H at hP hS ⊢
          generalize locs1 = locs at hS ⊢
          exact W.iret (v := iI (pcost (tPo ((R 1)) x y))) hx hb hr (fun t9 ht _ => ⟨⟨iI (pcost (tPo ((R 1)) x y)), (upr (upr (upr R 0 (ups ((ups (R 0) 6 0)) 2 (kpN ((R 0 2))))) 1 (tPo ((R 1)) x y)) 2 (kpS ((R 2)) ((R 1)) ((R 0 2)))), rfl, ⟨(pcost (tPo ((R 1)) x y)), rfl, (by first | exact Or.inl ⟨(by assumption), (by first | rfl | omega), rfl⟩ | exact Or.inr (⟨(by assumption), (by first | rfl | omega), rfl⟩) : ((¬ poleOK x y) ∧ (pcost (tPo ((R 1)) x y) : Int) = 0 ∧ (upr (upr (upr R 0 (ups ((ups (R 0) 6 0)) 2 (kpN ((R 0 2))))) 1 (tPo ((R 1)) x y)) 2 (kpS ((R 2)) ((R 1)) ((R 0 2)))) = (upr R 0 (ups (R 0) 6 1))) ∨ ((poleOK x y) ∧ (pcost (tPo ((R 1)) x y) : Int) = pcost (tPo (R 1) x y) ∧ (upr (upr (upr R 0 (ups ((ups (R 0) 6 0)) 2 (kpN ((R 0 2))))) 1 (tPo ((R 1)) x y)) 2 (kpS ((R 2)) ((R 1)) ((R 0 2)))) = (upr (upr (upr R 0 (ups (ups (R 0) 6 0) 2 (kpN (R 0 2)))) 1 (tPo (R 1) x y)) 2 (kpS (R 2) (R 1) (R 0 2)))))⟩, by rw [ht]; exact hP, hD⟩, hS.F ht⟩) hS.2.2 dX7_setPole_36 hlocks
        · exfalso; omega
    · skip
      refine k_if_ne (tgt := 13) hx hb dX7_setPole_6 (by decide) (by omega) (fun c_9 => ?_) (fun c_9 => ?_)
      · skip
        refine k_iconst hx hb dX7_setPole_13 ?_
        refine va_put (D := D) (ci := 6) (v := .int (iI 1)) (ty := .int) (C := RX7) (T := TX7) (N := 19) hx hb hts hinX7 tyX7 tyX7_ok nmX7 hown hK hP hD hS 0 rfl rfl 6 (by decide) hm0 (fun _ h9 => h9) rfl (by decide +kernel) rfl rfl (Nat.le_of_ble_eq_true rfl) dX7_setPole_14 (fun H locs hP hD hS => ?_)
        have hP : va_P D vwCl (rfW cy a (upr R 0 (ups (R 0) 6 1))) H := hP
        have hD : va_D (va_A (rfW cy a R) sz) (rfW cy a (upr R 0 (ups (R 0) 6 1))) := hD
        refine lv_aload_n hx hb dX7_setPole_17 rfl (lv_at hl 0 rfl) ?_
        refine va_get (D := D) (ci := 6) (v := .int (iI 1)) (C := RX7) (T := TX7) (N := 19) hx hb hts hinX7 hown hK hP 0 rfl rfl 6 (by decide) hm0 (fun _ h9 => h9) rfl dX7_setPole_18 ?_
        refine k_if_eq (tgt := 26) hx hb dX7_setPole_21 (by decide) (by omega) (fun c_10 => ?_) (fun c_10 => ?_)
        · exfalso; omega
        · skip
          refine k_iconst hx hb dX7_setPole_24 ?_
          exact W.iret (v := iI 0) hx hb hr (fun t9 ht _ => ⟨⟨iI 0, (upr R 0 (ups (R 0) 6 1)), rfl, ⟨0, rfl, (by first | exact Or.inl ⟨(by assumption), (by first | rfl | omega), rfl⟩ | exact Or.inr (⟨(by assumption), (by first | rfl | omega), rfl⟩) : ((¬ poleOK x y) ∧ (0 : Int) = 0 ∧ (upr R 0 (ups (R 0) 6 1)) = (upr R 0 (ups (R 0) 6 1))) ∨ ((poleOK x y) ∧ (0 : Int) = pcost (tPo (R 1) x y) ∧ (upr R 0 (ups (R 0) 6 1)) = (upr (upr (upr R 0 (ups (ups (R 0) 6 0) 2 (kpN (R 0 2)))) 1 (tPo (R 1) x y)) 2 (kpS (R 2) (R 1) (R 0 2)))))⟩, by rw [ht]; exact hP, hD⟩, hS.F ht⟩) hS.2.2 dX7_setPole_25 hlocks
      · exfalso; omega
  exact hbody s.heap [] hP hS ls hl
set_option maxHeartbeats 4000000 in
set_option maxRecDepth 100000 in
theorem c_X7_addStar (l : Launch) (D : va_G) (cy : Nat → ClassId) (sz : Nat) (a : Nat → Nat) (R : Nat → Int → Int) (x y z : Int) (hI : Inv (R 1)) (hsc : 0 ≤ R 0 2 ∧ R 0 2 ≤ 4) (hrx : -2147483648 ≤ x ∧ x ≤ 2147483647) (hry : -2147483648 ≤ y ∧ y ≤ 2147483647) (hrz : -2147483648 ≤ z ∧ z ≤ 2147483647) : Met l yX7_addStar wsX7_addStar { frames := 2, cells := 0, slots := 0, locals := 46 } (mPre (GG D cy) D (rfW cy a R) sz ([.ref (a 0), .int (iI x), .int (iI y), .int (iI z)] : List Value)) (kQi D (rfW cy a R) sz (fun u9 : Nat → Int → Int => rfW cy a u9) (fun r9 u9 => ((¬ starOK x y z) ∧ r9 = 0 ∧ u9 = (upr R 0 (ups (R 0) 6 1))) ∨ ((starOK x y z ∧ R 1 13 = 12) ∧ r9 = 0 ∧ u9 = (upr R 0 (ups (R 0) 6 2))) ∨ ((starOK x y z ∧ R 1 13 < 12) ∧ r9 = R 1 13 ∧ u9 = (upr (upr (upr R 0 (ups (ups (R 0) 6 0) 2 (kpN (R 0 2)))) 1 (tAS (R 1) x y z)) 2 (kpS (R 2) (R 1) (R 0 2)))))) 0 0 (va_A (rfW cy a R) sz) := by
  refine kM_start (cc := cX7_addStar) (maxL := 5) (ret := (some .int)) (by decide) rfl (Nat.le_of_ble_eq_true rfl) ?_
  intro p e s m below meth c hx hb hr hlocks hml hts hown hsz hA hG hP hD hS hin ls hl
  have hK := hG.1
  have hl : lv_has ls 5 [(0, .ref (a 0)), (1, .int (iI x)), (2, .int (iI y)), (3, .int (iI z))] := hl
  have hinX7 : ∀ w ∈ u_ws RX7 TX7 19, w ∈ wsX7_addStar := by decide +kernel
  have hm0 := hts (.fieldLink RX7 31 "ArcPlateModel" "code" "I") (by decide +kernel)
  have h12 := inv_S12 hI
  have hbody : ∀ (H : Heap) (locs : List Loc) (hP : va_P D vwCl (rfW cy a R) H) (hS : va_S (va_A (rfW cy a R) sz) s.heap H locs) (ls : Array Slot) (hl : lv_has ls 5 [(0, .ref (a 0)), (1, .int (iI x)), (2, .int (iI y)), (3, .int (iI z))]), W p l e { frames := 2, cells := 0, slots := 0, locals := 46 } s m ([.ref (a 0), .int (iI x), .int (iI y), .int (iI z)] : List Value).toArray below meth c H locs 0 0 (MQ below (kQi D (rfW cy a R) sz (fun u9 : Nat → Int → Int => rfW cy a u9) (fun r9 u9 => ((¬ starOK x y z) ∧ r9 = 0 ∧ u9 = (upr R 0 (ups (R 0) 6 1))) ∨ ((starOK x y z ∧ R 1 13 = 12) ∧ r9 = 0 ∧ u9 = (upr R 0 (ups (R 0) 6 2))) ∨ ((starOK x y z ∧ R 1 13 < 12) ∧ r9 = R 1 13 ∧ u9 = (upr (upr (upr R 0 (ups (ups (R 0) 6 0) 2 (kpN (R 0 2)))) 1 (tAS (R 1) x y z)) 2 (kpS (R 2) (R 1) (R 0 2)))))) ([.ref (a 0), .int (iI x), .int (iI y), .int (iI z)] : List Value).toArray s 0 0 (va_A (rfW cy a R) sz)) (F0 m 0 ls []) := by
    intro H locs hP hS ls hl
    refine lv_aload_n hx hb dX7_addStar_0 rfl (lv_at hl 0 rfl) ?_
    refine lv_iload_n hx hb dX7_addStar_1 rfl (lv_at hl 1 rfl) ?_
    refine lv_iload_n hx hb dX7_addStar_2 rfl (lv_at hl 2 rfl) ?_
    refine lv_iload_n hx hb dX7_addStar_3 rfl (lv_at hl 3 rfl) ?_
    refine k_roV (As := [.int (iI x), .int (iI y), .int (iI z)]) (rest := []) ⟨hx, hb, hml, hown, hts⟩ (c_X7_notStar l D cy a R x y z hI (show -2147483648 ≤ x ∧ x ≤ 2147483647 by omega) (show -2147483648 ≤ y ∧ y ≤ 2147483647 by omega) (show -2147483648 ≤ z ∧ z ≤ 2147483647 by omega)) gX7_addStar_X7_notStar rfl ⟨rfl, rfl⟩ 3 rfl (by decide +kernel) ⟨Nat.le_of_ble_eq_true rfl, Nat.le_of_ble_eq_true rfl⟩ (GG_ok D cy) ((GG_ok D cy).2.2.2 _ _ _ _ (fun _ h => h.elim) ((GG_ok D cy).1 _ _ _ _ hS.2.1 hG)) hP (va_recv hK hP (ci := 6) (q0 := 0) rfl rfl) hl.1 rfl (Nat.le_of_ble_eq_true rfl) ⟨Nat.le_of_ble_eq_true rfl, Nat.le_of_ble_eq_true rfl⟩ dX7_addStar_4 (fun r_1 hr_1 => ?_)
    have hr_1 : ((starOK x y z ∧ R 1 13 < 12) ∧ r_1 = 0) ∨ ((¬ starOK x y z) ∧ r_1 = 2) ∨ ((starOK x y z ∧ R 1 13 = 12) ∧ r_1 = 3) := hr_1
    rcases hr_1 with ⟨c_2, hr_1⟩ | ⟨c_2, hr_1⟩ | ⟨c_2, hr_1⟩ <;> subst hr_1
    · skip
      refine lv_istore (lv' := [(4, .int (iI 0)), (0, .ref (a 0)), (1, .int (iI x)), (2, .int (iI y)), (3, .int (iI z))]) hx hb dX7_addStar_7 hl (by decide) rfl (fun ls hl => ?_)
      refine lv_aload_n hx hb dX7_addStar_9 rfl (lv_at hl 1 rfl) ?_
      refine lv_iload hx hb dX7_addStar_10 (lv_at hl 0 rfl) ?_
      refine k_if_ne (tgt := 19) hx hb dX7_addStar_12 (by decide) (by omega) (fun c_3 => ?_) (fun c_3 => ?_)
      · exfalso; omega
      · skip
        refine k_iconst hx hb dX7_addStar_15 ?_
        refine lv_goto (tgt := 23) hx hb dX7_addStar_16 (by decide) ?_
        refine va_put (D := D) (ci := 6) (v := .int (iI 0)) (ty := .int) (C := RX7) (T := TX7) (N := 19) hx hb hts hinX7 tyX7 tyX7_ok nmX7 hown hK hP hD hS 0 rfl rfl 6 (by decide) hm0 (fun _ h9 => h9) rfl (by decide +kernel) rfl rfl (Nat.le_of_ble_eq_true rfl) dX7_addStar_23 (fun H locs hP hD hS => ?_)
        have hP : va_P D vwCl (rfW cy a (upr R 0 (ups (R 0) 6 0))) H := hP
        have hD : va_D (va_A (rfW cy a R) sz) (rfW cy a (upr R 0 (ups (R 0) 6 0))) := hD
        refine lv_aload_n hx hb dX7_addStar_26 rfl (lv_at hl 1 rfl) ?_
        refine va_get (D := D) (ci := 6) (v := .int (iI 0)) (C := RX7) (T := TX7) (N := 19) hx hb hts hinX7 hown hK hP 0 rfl rfl 6 (by decide) hm0 (fun _ h9 => h9) rfl dX7_addStar_27 ?_
        refine k_if_eq (tgt := 35) hx hb dX7_addStar_30 (by decide) (by omega) (fun c_4 => ?_) (fun c_4 => ?_)
        · skip
          refine lv_aload_n hx hb dX7_addStar_35 rfl (lv_at hl 1 rfl) ?_
          refine k_muv (k_runV (As := []) (rest := []) ⟨hx, hb, hml, hown, hts⟩ (c_X7_keep l D cy H.size a (upr R 0 (ups (R 0) 6 0)) (show 0 ≤ (R 0 2) ∧ (R 0 2) ≤ 4 by omega)) gX7_addStar_X7_keep rfl ⟨rfl, rfl⟩ 0 rfl (by decide +kernel) ⟨Nat.le_of_ble_eq_true rfl, Nat.le_of_ble_eq_true rfl⟩ (GG_ok D cy) hG hS (k_free hD hS hA) hP hD (va_recv hK hP (ci := 6) (q0 := 0) rfl rfl) hl.1 rfl (Nat.le_of_ble_eq_true rfl) ⟨Nat.le_of_ble_eq_true rfl, Nat.le_of_ble_eq_true rfl⟩ dX7_addStar_36) (k_free hD hS hA) hS (fun R_6 H1 locs1 hR_6 hP1 hD1 hS1 hk1 => ?_)
          have hR_6 : R_6 = (upr (upr (upr R 0 (ups (R 0) 6 0)) 0 (ups ((ups (R 0) 6 0)) 2 (kpN ((R 0 2))))) 2 (kpS ((R 2)) ((R 1)) ((R 0 2)))) := hR_6
          subst hR_6
          have hDn : va_D (va_A (rfW cy a R) sz) (rfW cy a (upr (upr R 0 (ups ((ups (R 0) 6 0)) 2 (kpN ((R 0 2))))) 2 (kpS ((R 2)) ((R 1)) ((R 0 2))))) := k_addr hD rfl
          have hPn : va_P D vwCl (rfW cy a (upr (upr R 0 (ups ((ups (R 0) 6 0)) 2 (kpN ((R 0 2))))) 2 (kpS ((R 2)) ((R 1)) ((R 0 2))))) H1 := hP1
          clear hP hD hS hP1 hD1 hk1
          have hP := hPn
          have hD := hDn
          have hS := hS1
          clear hPn hDn hS1
          generalize H1 = H at hP hS ⊢
          generalize locs1 = locs at hS ⊢
          refine lv_aload_n hx hb dX7_addStar_39 rfl (lv_at hl 1 rfl) ?_
          refine lv_iload_n hx hb dX7_addStar_40 rfl (lv_at hl 2 rfl) ?_
          refine lv_iload_n hx hb dX7_addStar_41 rfl (lv_at hl 3 rfl) ?_
          refine lv_iload_n hx hb dX7_addStar_42 rfl (lv_at hl 4 rfl) ?_
          refine k_mui (k_runV (As := [.int (iI x), .int (iI y), .int (iI z)]) (rest := []) ⟨hx, hb, hml, hown, hts⟩ (c_X7_addsStar l D cy H.size a (upr (upr R 0 (ups ((ups (R 0) 6 0)) 2 (kpN ((R 0 2))))) 2 (kpS ((R 2)) ((R 1)) ((R 0 2)))) x y z (show 0 ≤ (R 1) 13 ∧ (R 1) 13 < 12 by omega)) gX7_addStar_X7_addsStar rfl ⟨rfl, rfl⟩ 3 rfl (by decide +kernel) ⟨Nat.le_of_ble_eq_true rfl, Nat.le_of_ble_eq_true rfl⟩ (GG_ok D cy) hG hS (k_free hD hS hA) hP hD (va_recv hK hP (ci := 6) (q0 := 0) rfl rfl) hl.1 rfl (Nat.le_of_ble_eq_true rfl) ⟨Nat.le_of_ble_eq_true rfl, Nat.le_of_ble_eq_true rfl⟩ dX7_addStar_43) (k_free hD hS hA) hS (fun r_7 R_8 H1 locs1 hR_8 hP1 hD1 hS1 hk1 => ?_)
          have hR_8 : r_7 = (R 1) 13 ∧ R_8 = (upr (upr (upr R 0 (ups ((ups (R 0) 6 0)) 2 (kpN ((R 0 2))))) 2 (kpS ((R 2)) ((R 1)) ((R 0 2)))) 1 (tAS ((R 1)) x y z)) := hR_8
          obtain ⟨hr_7, rfl⟩ := hR_8
          have hr_7 : r_7 = (R 1) 13 := hr_7
          subst hr_7
          have hDn : va_D (va_A (rfW cy a R) sz) (rfW cy a (upr (upr (upr R 0 (ups ((ups (R 0) 6 0)) 2 (kpN ((R 0 2))))) 1 (tAS ((R 1)) x y z)) 2 (kpS ((R 2)) ((R 1)) ((R 0 2))))) := k_addr hD rfl
          have hPn : va_P D vwCl (rfW cy a (upr (upr (upr R 0 (ups ((ups (R 0) 6 0)) 2 (kpN ((R 0 2))))) 1 (tAS ((R 1)) x y z)) 2 (kpS ((R 2)) ((R 1)) ((R 0 2))))) H1 := hP1
          clear hP hD hS hP1 hD1 hk1
          have hP := hPn
          have hD := hDn
          have hS := hS1
          clear hPn hDn hS1
          generalize H1 = H at hP hS ⊢
          generalize locs1 = locs at hS ⊢
          exact W.iret (v := iI ((R 1) 13)) hx hb hr (fun t9 ht _ => ⟨⟨iI ((R 1) 13), (upr (upr (upr R 0 (ups ((ups (R 0) 6 0)) 2 (kpN ((R 0 2))))) 1 (tAS ((R 1)) x y z)) 2 (kpS ((R 2)) ((R 1)) ((R 0 2)))), rfl, ⟨((R 1) 13), rfl, (by first | exact Or.inl ⟨(by assumption), (by first | rfl | omega), rfl⟩ | exact Or.inr (Or.inl ⟨(by assumption), (by first | rfl | omega), rfl⟩) | exact Or.inr (Or.inr (⟨(by assumption), (by first | rfl | omega), rfl⟩)) : ((¬ starOK x y z) ∧ ((R 1) 13 : Int) = 0 ∧ (upr (upr (upr R 0 (ups ((ups (R 0) 6 0)) 2 (kpN ((R 0 2))))) 1 (tAS ((R 1)) x y z)) 2 (kpS ((R 2)) ((R 1)) ((R 0 2)))) = (upr R 0 (ups (R 0) 6 1))) ∨ ((starOK x y z ∧ R 1 13 = 12) ∧ ((R 1) 13 : Int) = 0 ∧ (upr (upr (upr R 0 (ups ((ups (R 0) 6 0)) 2 (kpN ((R 0 2))))) 1 (tAS ((R 1)) x y z)) 2 (kpS ((R 2)) ((R 1)) ((R 0 2)))) = (upr R 0 (ups (R 0) 6 2))) ∨ ((starOK x y z ∧ R 1 13 < 12) ∧ ((R 1) 13 : Int) = R 1 13 ∧ (upr (upr (upr R 0 (ups ((ups (R 0) 6 0)) 2 (kpN ((R 0 2))))) 1 (tAS ((R 1)) x y z)) 2 (kpS ((R 2)) ((R 1)) ((R 0 2)))) = (upr (upr (upr R 0 (ups (ups (R 0) 6 0) 2 (kpN (R 0 2)))) 1 (tAS (R 1) x y z)) 2 (kpS (R 2) (R 1) (R 0 2)))))⟩, by rw [ht]; exact hP, hD⟩, hS.F ht⟩) hS.2.2 dX7_addStar_46 hlocks
        · exfalso; omega
    · skip
      refine lv_istore (lv' := [(4, .int (iI 2)), (0, .ref (a 0)), (1, .int (iI x)), (2, .int (iI y)), (3, .int (iI z))]) hx hb dX7_addStar_7 hl (by decide) rfl (fun ls hl => ?_)
      refine lv_aload_n hx hb dX7_addStar_9 rfl (lv_at hl 1 rfl) ?_
      refine lv_iload hx hb dX7_addStar_10 (lv_at hl 0 rfl) ?_
      refine k_if_ne (tgt := 19) hx hb dX7_addStar_12 (by decide) (by omega) (fun c_9 => ?_) (fun c_9 => ?_)
      · skip
        refine lv_iload hx hb dX7_addStar_19 (lv_at hl 0 rfl) ?_
        refine k_iconst hx hb dX7_addStar_21 ?_
        refine k_isub hx hb dX7_addStar_22 ?_
        refine k_eqI (v := 2 - 1) (w := 1) (by decide) ?_
        refine va_put (D := D) (ci := 6) (v := .int (iI 1)) (ty := .int) (C := RX7) (T := TX7) (N := 19) hx hb hts hinX7 tyX7 tyX7_ok nmX7 hown hK hP hD hS 0 rfl rfl 6 (by decide) hm0 (fun _ h9 => h9) rfl (by decide +kernel) rfl rfl (Nat.le_of_ble_eq_true rfl) dX7_addStar_23 (fun H locs hP hD hS => ?_)
        have hP : va_P D vwCl (rfW cy a (upr R 0 (ups (R 0) 6 1))) H := hP
        have hD : va_D (va_A (rfW cy a R) sz) (rfW cy a (upr R 0 (ups (R 0) 6 1))) := hD
        refine lv_aload_n hx hb dX7_addStar_26 rfl (lv_at hl 1 rfl) ?_
        refine va_get (D := D) (ci := 6) (v := .int (iI 1)) (C := RX7) (T := TX7) (N := 19) hx hb hts hinX7 hown hK hP 0 rfl rfl 6 (by decide) hm0 (fun _ h9 => h9) rfl dX7_addStar_27 ?_
        refine k_if_eq (tgt := 35) hx hb dX7_addStar_30 (by decide) (by omega) (fun c_10 => ?_) (fun c_10 => ?_)
        · exfalso; omega
        · skip
          refine k_iconst hx hb dX7_addStar_33 ?_
          exact W.iret (v := iI 0) hx hb hr (fun t9 ht _ => ⟨⟨iI 0, (upr R 0 (ups (R 0) 6 1)), rfl, ⟨0, rfl, (by first | exact Or.inl ⟨(by assumption), (by first | rfl | omega), rfl⟩ | exact Or.inr (Or.inl ⟨(by assumption), (by first | rfl | omega), rfl⟩) | exact Or.inr (Or.inr (⟨(by assumption), (by first | rfl | omega), rfl⟩)) : ((¬ starOK x y z) ∧ (0 : Int) = 0 ∧ (upr R 0 (ups (R 0) 6 1)) = (upr R 0 (ups (R 0) 6 1))) ∨ ((starOK x y z ∧ R 1 13 = 12) ∧ (0 : Int) = 0 ∧ (upr R 0 (ups (R 0) 6 1)) = (upr R 0 (ups (R 0) 6 2))) ∨ ((starOK x y z ∧ R 1 13 < 12) ∧ (0 : Int) = R 1 13 ∧ (upr R 0 (ups (R 0) 6 1)) = (upr (upr (upr R 0 (ups (ups (R 0) 6 0) 2 (kpN (R 0 2)))) 1 (tAS (R 1) x y z)) 2 (kpS (R 2) (R 1) (R 0 2)))))⟩, by rw [ht]; exact hP, hD⟩, hS.F ht⟩) hS.2.2 dX7_addStar_34 hlocks
      · exfalso; omega
    · skip
      refine lv_istore (lv' := [(4, .int (iI 3)), (0, .ref (a 0)), (1, .int (iI x)), (2, .int (iI y)), (3, .int (iI z))]) hx hb dX7_addStar_7 hl (by decide) rfl (fun ls hl => ?_)
      refine lv_aload_n hx hb dX7_addStar_9 rfl (lv_at hl 1 rfl) ?_
      refine lv_iload hx hb dX7_addStar_10 (lv_at hl 0 rfl) ?_
      refine k_if_ne (tgt := 19) hx hb dX7_addStar_12 (by decide) (by omega) (fun c_11 => ?_) (fun c_11 => ?_)
      · skip
        refine lv_iload hx hb dX7_addStar_19 (lv_at hl 0 rfl) ?_
        refine k_iconst hx hb dX7_addStar_21 ?_
        refine k_isub hx hb dX7_addStar_22 ?_
        refine k_eqI (v := 3 - 1) (w := 2) (by decide) ?_
        refine va_put (D := D) (ci := 6) (v := .int (iI 2)) (ty := .int) (C := RX7) (T := TX7) (N := 19) hx hb hts hinX7 tyX7 tyX7_ok nmX7 hown hK hP hD hS 0 rfl rfl 6 (by decide) hm0 (fun _ h9 => h9) rfl (by decide +kernel) rfl rfl (Nat.le_of_ble_eq_true rfl) dX7_addStar_23 (fun H locs hP hD hS => ?_)
        have hP : va_P D vwCl (rfW cy a (upr R 0 (ups (R 0) 6 2))) H := hP
        have hD : va_D (va_A (rfW cy a R) sz) (rfW cy a (upr R 0 (ups (R 0) 6 2))) := hD
        refine lv_aload_n hx hb dX7_addStar_26 rfl (lv_at hl 1 rfl) ?_
        refine va_get (D := D) (ci := 6) (v := .int (iI 2)) (C := RX7) (T := TX7) (N := 19) hx hb hts hinX7 hown hK hP 0 rfl rfl 6 (by decide) hm0 (fun _ h9 => h9) rfl dX7_addStar_27 ?_
        refine k_if_eq (tgt := 35) hx hb dX7_addStar_30 (by decide) (by omega) (fun c_12 => ?_) (fun c_12 => ?_)
        · exfalso; omega
        · skip
          refine k_iconst hx hb dX7_addStar_33 ?_
          exact W.iret (v := iI 0) hx hb hr (fun t9 ht _ => ⟨⟨iI 0, (upr R 0 (ups (R 0) 6 2)), rfl, ⟨0, rfl, (by first | exact Or.inl ⟨(by assumption), (by first | rfl | omega), rfl⟩ | exact Or.inr (Or.inl ⟨(by assumption), (by first | rfl | omega), rfl⟩) | exact Or.inr (Or.inr (⟨(by assumption), (by first | rfl | omega), rfl⟩)) : ((¬ starOK x y z) ∧ (0 : Int) = 0 ∧ (upr R 0 (ups (R 0) 6 2)) = (upr R 0 (ups (R 0) 6 1))) ∨ ((starOK x y z ∧ R 1 13 = 12) ∧ (0 : Int) = 0 ∧ (upr R 0 (ups (R 0) 6 2)) = (upr R 0 (ups (R 0) 6 2))) ∨ ((starOK x y z ∧ R 1 13 < 12) ∧ (0 : Int) = R 1 13 ∧ (upr R 0 (ups (R 0) 6 2)) = (upr (upr (upr R 0 (ups (ups (R 0) 6 0) 2 (kpN (R 0 2)))) 1 (tAS (R 1) x y z)) 2 (kpS (R 2) (R 1) (R 0 2)))))⟩, by rw [ht]; exact hP, hD⟩, hS.F ht⟩) hS.2.2 dX7_addStar_34 hlocks
      · exfalso; omega
  exact hbody s.heap [] hP hS ls hl
set_option maxHeartbeats 4000000 in
set_option maxRecDepth 100000 in
theorem c_X7_undo (l : Launch) (D : va_G) (cy : Nat → ClassId) (sz : Nat) (a : Nat → Nat) (R : Nat → Int → Int)  (hsc : 0 ≤ R 0 2 ∧ R 0 2 ≤ 4) : Met l yX7_undo wsX7_undo { frames := 0, cells := 0, slots := 0, locals := 0 } (mPre (GG D cy) D (rfW cy a R) sz ([.ref (a 0)] : List Value)) (kQi D (rfW cy a R) sz (fun u9 : Nat → Int → Int => rfW cy a u9) (fun r9 u9 => ((R 0 2 = 0) ∧ r9 = 0 ∧ u9 = (upr R 0 (ups (R 0) 6 1))) ∨ ((0 < R 0 2) ∧ r9 = R 0 2 - 1 ∧ u9 = (upr (upr R 0 (ups (ups (R 0) 6 0) 2 (R 0 2 - 1))) 1 (cpyI (R 1) (page (R 2) (R 0 2 - 1)) 0 494))))) 0 0 (va_A (rfW cy a R) sz) := by
  refine kM_start (cc := cX7_undo) (maxL := 2) (ret := (some .int)) (by decide) rfl (Nat.le_of_ble_eq_true rfl) ?_
  intro p e s m below meth c hx hb hr hlocks hml hts hown hsz hA hG hP hD hS hin ls hl
  have hK := hG.1
  have hl : lv_has ls 2 [(0, .ref (a 0))] := hl
  have hinX7 : ∀ w ∈ u_ws RX7 TX7 19, w ∈ wsX7_undo := by decide +kernel
  have hm0 := hts (.fieldLink RX7 36 "ArcPlateModel" "savedCount" "I") (by decide +kernel)
  have hm1 := hts (.fieldLink RX7 31 "ArcPlateModel" "code" "I") (by decide +kernel)
  have hm2 := hts (.fieldLink RX7 7 "ArcPlateModel" "m" "[I") (by decide +kernel)
  have hm3 := hts (.fieldLink RX7 13 "ArcPlateModel" "saved" "[I") (by decide +kernel)
  have hbody : ∀ (H : Heap) (locs : List Loc) (hP : va_P D vwCl (rfW cy a R) H) (hS : va_S (va_A (rfW cy a R) sz) s.heap H locs) (ls : Array Slot) (hl : lv_has ls 2 [(0, .ref (a 0))]), W p l e { frames := 0, cells := 0, slots := 0, locals := 0 } s m ([.ref (a 0)] : List Value).toArray below meth c H locs 0 0 (MQ below (kQi D (rfW cy a R) sz (fun u9 : Nat → Int → Int => rfW cy a u9) (fun r9 u9 => ((R 0 2 = 0) ∧ r9 = 0 ∧ u9 = (upr R 0 (ups (R 0) 6 1))) ∨ ((0 < R 0 2) ∧ r9 = R 0 2 - 1 ∧ u9 = (upr (upr R 0 (ups (ups (R 0) 6 0) 2 (R 0 2 - 1))) 1 (cpyI (R 1) (page (R 2) (R 0 2 - 1)) 0 494))))) ([.ref (a 0)] : List Value).toArray s 0 0 (va_A (rfW cy a R) sz)) (F0 m 0 ls []) := by
    intro H locs hP hS ls hl
    refine lv_aload_n hx hb dX7_undo_0 rfl (lv_at hl 0 rfl) ?_
    refine lv_aload_n hx hb dX7_undo_1 rfl (lv_at hl 0 rfl) ?_
    refine va_get (D := D) (ci := 6) (v := .int (iI (R 0 2))) (C := RX7) (T := TX7) (N := 19) hx hb hts hinX7 hown hK hP 0 rfl rfl 2 (by decide) hm0 (fun _ h9 => h9) rfl dX7_undo_2 ?_
    refine k_if_ne (tgt := 12) hx hb dX7_undo_5 (by decide) (by omega) (fun c_1 => ?_) (fun c_1 => ?_)
    · skip
      refine k_iconst hx hb dX7_undo_12 ?_
      refine va_put (D := D) (ci := 6) (v := .int (iI 0)) (ty := .int) (C := RX7) (T := TX7) (N := 19) hx hb hts hinX7 tyX7 tyX7_ok nmX7 hown hK hP hD hS 0 rfl rfl 6 (by decide) hm1 (fun _ h9 => h9) rfl (by decide +kernel) rfl rfl (Nat.le_of_ble_eq_true rfl) dX7_undo_13 (fun H locs hP hD hS => ?_)
      have hP : va_P D vwCl (rfW cy a (upr R 0 (ups (R 0) 6 0))) H := hP
      have hD : va_D (va_A (rfW cy a R) sz) (rfW cy a (upr R 0 (ups (R 0) 6 0))) := hD
      refine lv_aload_n hx hb dX7_undo_16 rfl (lv_at hl 0 rfl) ?_
      refine va_get (D := D) (ci := 6) (v := .int (iI 0)) (C := RX7) (T := TX7) (N := 19) hx hb hts hinX7 hown hK hP 0 rfl rfl 6 (by decide) hm1 (fun _ h9 => h9) rfl dX7_undo_17 ?_
      refine k_if_eq (tgt := 25) hx hb dX7_undo_20 (by decide) (by omega) (fun c_2 => ?_) (fun c_2 => ?_)
      · skip
        refine lv_aload_n hx hb dX7_undo_25 rfl (lv_at hl 0 rfl) ?_
        refine lv_dup hx hb dX7_undo_26 rfl ?_
        refine va_get (D := D) (ci := 6) (v := .int (iI (R 0 2))) (C := RX7) (T := TX7) (N := 19) hx hb hts hinX7 hown hK hP 0 rfl rfl 2 (by decide) hm0 (fun _ h9 => h9) rfl dX7_undo_27 ?_
        refine k_iconst hx hb dX7_undo_30 ?_
        refine k_isub hx hb dX7_undo_31 ?_
        refine va_put (D := D) (ci := 6) (v := .int (iI ((R 0 2) - 1))) (ty := .int) (C := RX7) (T := TX7) (N := 19) hx hb hts hinX7 tyX7 tyX7_ok nmX7 hown hK hP hD hS 0 rfl rfl 2 (by decide) hm0 (fun _ h9 => h9) rfl (by decide +kernel) rfl rfl (Nat.le_of_ble_eq_true rfl) dX7_undo_32 (fun H locs hP hD hS => ?_)
        have hP : va_P D vwCl (rfW cy a (upr R 0 (ups (ups (R 0) 6 0) 2 ((R 0 2) - 1)))) H := hP
        have hD : va_D (va_A (rfW cy a R) sz) (rfW cy a (upr R 0 (ups (ups (R 0) 6 0) 2 ((R 0 2) - 1)))) := hD
        refine k_iconst hx hb dX7_undo_35 ?_
        refine lv_istore_n (lv' := [(1, .int (iI 0)), (0, .ref (a 0))]) hx hb dX7_undo_36 rfl hl (by decide) rfl (fun ls hl => ?_)
        have loop37 : ∀ (n_3 : Nat) (k : Int) (hi0 : 0 ≤ k) (hi1 : k ≤ 494) (hn : 494 - k < (n_3 : Int)) (H : Heap) (locs : List Loc) (hP : va_P D vwCl (rfW cy a (upr (upr R 0 (ups (ups (R 0) 6 0) 2 ((R 0 2) - 1))) 1 (cpyI (R 1) (page (R 2) (R 0 2 - 1)) 0 k))) H) (hD : va_D (va_A (rfW cy a R) sz) (rfW cy a (upr (upr R 0 (ups (ups (R 0) 6 0) 2 ((R 0 2) - 1))) 1 (cpyI (R 1) (page (R 2) (R 0 2 - 1)) 0 k)))) (hS : va_S (va_A (rfW cy a R) sz) s.heap H locs) (ls : Array Slot) (hl : lv_has ls 2 [(1, .int (iI k)), (0, .ref (a 0))]), W p l e { frames := 0, cells := 0, slots := 0, locals := 0 } s m ([.ref (a 0)] : List Value).toArray below meth c H locs 0 0 (MQ below (kQi D (rfW cy a R) sz (fun u9 : Nat → Int → Int => rfW cy a u9) (fun r9 u9 => ((R 0 2 = 0) ∧ r9 = 0 ∧ u9 = (upr R 0 (ups (R 0) 6 1))) ∨ ((0 < R 0 2) ∧ r9 = R 0 2 - 1 ∧ u9 = (upr (upr R 0 (ups (ups (R 0) 6 0) 2 (R 0 2 - 1))) 1 (cpyI (R 1) (page (R 2) (R 0 2 - 1)) 0 494))))) ([.ref (a 0)] : List Value).toArray s 0 0 (va_A (rfW cy a R) sz)) (F0 m 37 ls []) := by
          intro n_3
          induction n_3 with
          | zero => intro k hi0 hi1 hn H locs hP hD hS ls hl; exfalso; omega
          | succ n_3 ih37 =>
            intro k hi0 hi1 hn H locs hP hD hS ls hl
            refine lv_iload_n hx hb dX7_undo_37 rfl (lv_at hl 0 rfl) ?_
            refine k_sipush hx hb dX7_undo_38 (by decide +kernel) ?_
            refine k_icmp_ge (tgt := 71) hx hb dX7_undo_41 (by decide) (by omega) (by omega) (fun c_4 => ?_) (fun c_4 => ?_)
            · skip
              refine lv_aload_n hx hb dX7_undo_71 rfl (lv_at hl 1 rfl) ?_
              refine va_get (D := D) (ci := 6) (v := .int (iI ((R 0 2) - 1))) (C := RX7) (T := TX7) (N := 19) hx hb hts hinX7 hown hK hP 0 rfl rfl 2 (by decide) hm0 (fun _ h9 => h9) rfl dX7_undo_72 ?_
              exact W.iret (v := iI ((R 0 2) - 1)) hx hb hr (fun t9 ht _ => ⟨⟨iI ((R 0 2) - 1), (upr (upr R 0 (ups (ups (R 0) 6 0) 2 ((R 0 2) - 1))) 1 (cpyI (R 1) (page (R 2) (R 0 2 - 1)) 0 k)), rfl, ⟨((R 0 2) - 1), rfl, (by first | exact Or.inl ⟨(by omega), (by first | rfl | omega), (by rw [show (cpyI (R 1) (page (R 2) (R 0 2 - 1)) 0 k) = (R 1) from by have e9 : k = 494 := (by omega); subst e9; rfl]; exact upr_back)⟩ | exact Or.inr (⟨(by omega), (by first | rfl | omega), (by rw [show (cpyI (R 1) (page (R 2) (R 0 2 - 1)) 0 k) = (cpyI (R 1) (page (R 2) (R 0 2 - 1)) 0 494) from by have e9 : k = 494 := (by omega); subst e9; rfl])⟩) : ((R 0 2 = 0) ∧ ((R 0 2) - 1 : Int) = 0 ∧ (upr (upr R 0 (ups (ups (R 0) 6 0) 2 ((R 0 2) - 1))) 1 (cpyI (R 1) (page (R 2) (R 0 2 - 1)) 0 k)) = (upr R 0 (ups (R 0) 6 1))) ∨ ((0 < R 0 2) ∧ ((R 0 2) - 1 : Int) = R 0 2 - 1 ∧ (upr (upr R 0 (ups (ups (R 0) 6 0) 2 ((R 0 2) - 1))) 1 (cpyI (R 1) (page (R 2) (R 0 2 - 1)) 0 k)) = (upr (upr R 0 (ups (ups (R 0) 6 0) 2 (R 0 2 - 1))) 1 (cpyI (R 1) (page (R 2) (R 0 2 - 1)) 0 494))))⟩, by rw [ht]; exact hP, hD⟩, hS.F ht⟩) hS.2.2 dX7_undo_75 hlocks
            · skip
              refine lv_aload_n hx hb dX7_undo_44 rfl (lv_at hl 1 rfl) ?_
              refine va_get (D := D) (ci := 6) (v := .ref (a 1)) (C := RX7) (T := TX7) (N := 19) hx hb hts hinX7 hown hK hP 0 rfl rfl 0 (by decide) hm2 (fun _ h9 => h9) rfl dX7_undo_45 ?_
              refine lv_iload_n hx hb dX7_undo_48 rfl (lv_at hl 0 rfl) ?_
              refine lv_aload_n hx hb dX7_undo_49 rfl (lv_at hl 1 rfl) ?_
              refine va_get (D := D) (ci := 6) (v := .ref (a 2)) (C := RX7) (T := TX7) (N := 19) hx hb hts hinX7 hown hK hP 0 rfl rfl 1 (by decide) hm3 (fun _ h9 => h9) rfl dX7_undo_50 ?_
              refine k_sipush hx hb dX7_undo_53 (by decide +kernel) ?_
              refine lv_aload_n hx hb dX7_undo_56 rfl (lv_at hl 1 rfl) ?_
              refine va_get (D := D) (ci := 6) (v := .int (iI ((R 0 2) - 1))) (C := RX7) (T := TX7) (N := 19) hx hb hts hinX7 hown hK hP 0 rfl rfl 2 (by decide) hm0 (fun _ h9 => h9) rfl dX7_undo_57 ?_
              refine k_imul hx hb dX7_undo_60 ?_
              refine lv_iload_n hx hb dX7_undo_61 rfl (lv_at hl 0 rfl) ?_
              refine k_iadd hx hb dX7_undo_62 ?_
              refine k_iald hx hb hK hP 2 0 (f := R 2) rfl rfl (i := (494 * ((R 0 2) - 1)) + k) (by omega) dX7_undo_63 ?_
              refine k_iast hx hb hK hP hD hS 1 0 (f := cpyI (R 1) (page (R 2) (R 0 2 - 1)) 0 k) rfl rfl (i := k) (x := R 2 ((494 * ((R 0 2) - 1)) + k)) (by omega) dX7_undo_64 (fun H locs hP hD hS => ?_)
              have hP : va_P D vwCl (rfW cy a (upr (upr R 0 (ups (ups (R 0) 6 0) 2 ((R 0 2) - 1))) 1 (ups (cpyI (R 1) (page (R 2) (R 0 2 - 1)) 0 k) k (R 2 ((494 * ((R 0 2) - 1)) + k))))) H := hP
              have hD : va_D (va_A (rfW cy a R) sz) (rfW cy a (upr (upr R 0 (ups (ups (R 0) 6 0) 2 ((R 0 2) - 1))) 1 (ups (cpyI (R 1) (page (R 2) (R 0 2 - 1)) 0 k) k (R 2 ((494 * ((R 0 2) - 1)) + k))))) := hD
              refine lv_iinc (v := iI (k + 1)) (lv' := [(1, .int (iI (k + 1))), (0, .ref (a 0))]) hx hb dX7_undo_65 hl (k := 0) rfl (iI_add _ _) (by decide) rfl (fun ls hl => ?_)
              refine lv_goto (tgt := 37) hx hb dX7_undo_68 (by decide) ?_
              exact ih37 (k + 1)  (by omega) (by omega) (by omega) H locs (by rw [show (cpyI (R 1) (page (R 2) (R 0 2 - 1)) 0 (k + 1)) = (ups (cpyI (R 1) (page (R 2) (R 0 2 - 1)) 0 k) k (R 2 ((494 * ((R 0 2) - 1)) + k))) from by rw [cpyI_s _ _ hi0, Int.zero_add]; rfl]; exact hP) (k_addr hD rfl) hS ls (lv_sub hl [0, 1] rfl)
        exact loop37 ((494 - 0 : Int) + 1).toNat 0  (by omega) (by omega) (by omega) H locs (by rw [show (cpyI (R 1) (page (R 2) (R 0 2 - 1)) 0 0) = (R 1) from cpyI_0 _ _ _]; exact hP) (k_addr hD rfl) hS ls (lv_sub hl [0, 1] rfl)
      · exfalso; omega
    · skip
      refine k_iconst hx hb dX7_undo_8 ?_
      refine lv_goto (tgt := 13) hx hb dX7_undo_9 (by decide) ?_
      refine va_put (D := D) (ci := 6) (v := .int (iI 1)) (ty := .int) (C := RX7) (T := TX7) (N := 19) hx hb hts hinX7 tyX7 tyX7_ok nmX7 hown hK hP hD hS 0 rfl rfl 6 (by decide) hm1 (fun _ h9 => h9) rfl (by decide +kernel) rfl rfl (Nat.le_of_ble_eq_true rfl) dX7_undo_13 (fun H locs hP hD hS => ?_)
      have hP : va_P D vwCl (rfW cy a (upr R 0 (ups (R 0) 6 1))) H := hP
      have hD : va_D (va_A (rfW cy a R) sz) (rfW cy a (upr R 0 (ups (R 0) 6 1))) := hD
      refine lv_aload_n hx hb dX7_undo_16 rfl (lv_at hl 0 rfl) ?_
      refine va_get (D := D) (ci := 6) (v := .int (iI 1)) (C := RX7) (T := TX7) (N := 19) hx hb hts hinX7 hown hK hP 0 rfl rfl 6 (by decide) hm1 (fun _ h9 => h9) rfl dX7_undo_17 ?_
      refine k_if_eq (tgt := 25) hx hb dX7_undo_20 (by decide) (by omega) (fun c_5 => ?_) (fun c_5 => ?_)
      · exfalso; omega
      · skip
        refine k_iconst hx hb dX7_undo_23 ?_
        exact W.iret (v := iI 0) hx hb hr (fun t9 ht _ => ⟨⟨iI 0, (upr R 0 (ups (R 0) 6 1)), rfl, ⟨0, rfl, (by first | exact Or.inl ⟨(by omega), (by first | rfl | omega), rfl⟩ | exact Or.inr (⟨(by omega), (by first | rfl | omega), (by rw [show (R 1) = (cpyI (R 1) (page (R 2) (R 0 2 - 1)) 0 494) from by have e9 : k = 494 := (by omega); subst e9; rfl])⟩) : ((R 0 2 = 0) ∧ (0 : Int) = 0 ∧ (upr R 0 (ups (R 0) 6 1)) = (upr R 0 (ups (R 0) 6 1))) ∨ ((0 < R 0 2) ∧ (0 : Int) = R 0 2 - 1 ∧ (upr R 0 (ups (R 0) 6 1)) = (upr (upr R 0 (ups (ups (R 0) 6 0) 2 (R 0 2 - 1))) 1 (cpyI (R 1) (page (R 2) (R 0 2 - 1)) 0 494))))⟩, by rw [ht]; exact hP, hD⟩, hS.F ht⟩) hS.2.2 dX7_undo_24 hlocks
  exact hbody s.heap [] hP hS ls hl
set_option maxHeartbeats 4000000 in
set_option maxRecDepth 100000 in
theorem c_X7_setting (l : Launch) (D : va_G) (cy : Nat → ClassId) (sz : Nat) (a : Nat → Nat) (R : Nat → Int → Int) (w : Int) (hrw : -2147483648 ≤ w ∧ w ≤ 2147483647) : Met l yX7_setting wsX7_setting { frames := 1, cells := 0, slots := 0, locals := 22 } (mPre (GG D cy) D (rfW cy a R) sz ([.ref (a 0), .int (iI w)] : List Value)) (kQi D (rfW cy a R) sz (fun u9 : Nat → Int → Int => rfW cy a u9) (fun r9 u9 => ((¬ (0 ≤ w ∧ w ≤ 9)) ∧ r9 = 0 ∧ u9 = (upr R 0 (ups (R 0) 6 1))) ∨ ((0 ≤ w ∧ w ≤ 9) ∧ r9 = R 1 w ∧ u9 = (upr R 0 (ups (R 0) 6 0))))) 0 0 (va_A (rfW cy a R) sz) := by
  refine kM_start (cc := cX7_setting) (maxL := 2) (ret := (some .int)) (by decide) rfl (Nat.le_of_ble_eq_true rfl) ?_
  intro p e s m below meth c hx hb hr hlocks hml hts hown hsz hA hG hP hD hS hin ls hl
  have hK := hG.1
  have hl : lv_has ls 2 [(0, .ref (a 0)), (1, .int (iI w))] := hl
  have hinX7 : ∀ w ∈ u_ws RX7 TX7 19, w ∈ wsX7_setting := by decide +kernel
  have hm0 := hts (.fieldLink RX7 31 "ArcPlateModel" "code" "I") (by decide +kernel)
  have hm1 := hts (.fieldLink RX7 7 "ArcPlateModel" "m" "[I") (by decide +kernel)
  have hbody : ∀ (H : Heap) (locs : List Loc) (hP : va_P D vwCl (rfW cy a R) H) (hS : va_S (va_A (rfW cy a R) sz) s.heap H locs) (ls : Array Slot) (hl : lv_has ls 2 [(0, .ref (a 0)), (1, .int (iI w))]), W p l e { frames := 1, cells := 0, slots := 0, locals := 22 } s m ([.ref (a 0), .int (iI w)] : List Value).toArray below meth c H locs 0 0 (MQ below (kQi D (rfW cy a R) sz (fun u9 : Nat → Int → Int => rfW cy a u9) (fun r9 u9 => ((¬ (0 ≤ w ∧ w ≤ 9)) ∧ r9 = 0 ∧ u9 = (upr R 0 (ups (R 0) 6 1))) ∨ ((0 ≤ w ∧ w ≤ 9) ∧ r9 = R 1 w ∧ u9 = (upr R 0 (ups (R 0) 6 0))))) ([.ref (a 0), .int (iI w)] : List Value).toArray s 0 0 (va_A (rfW cy a R) sz)) (F0 m 0 ls []) := by
    intro H locs hP hS ls hl
    refine lv_aload_n hx hb dX7_setting_0 rfl (lv_at hl 0 rfl) ?_
    refine lv_iload_n hx hb dX7_setting_1 rfl (lv_at hl 1 rfl) ?_
    refine k_iconst hx hb dX7_setting_2 ?_
    refine k_bipush hx hb dX7_setting_3 (by decide +kernel) ?_
    refine k_roS (As := [.int (iI w), .int (iI 0), .int (iI 9)]) (rest := [.ref (a 0)]) ⟨hx, hb, hml, hown, hts⟩ (c_X7_in l D w 0 9 (show -2147483648 ≤ w ∧ w ≤ 2147483647 by omega) (show -2147483648 ≤ 0 ∧ 0 ≤ 2147483647 by omega) (show -2147483648 ≤ 9 ∧ 9 ≤ 2147483647 by omega)) gX7_setting_X7_in rfl ⟨rfl, rfl⟩ 3 rfl (by decide +kernel) ⟨Nat.le_of_ble_eq_true rfl, Nat.le_of_ble_eq_true rfl⟩ kGT_ok trivial (fun k q h => by simp at h) hl.1 rfl (Nat.le_of_ble_eq_true rfl) ⟨Nat.le_of_ble_eq_true rfl, Nat.le_of_ble_eq_true rfl⟩ dX7_setting_5 (fun r_1 hr_1 => ?_)
    have hr_1 : ((0 ≤ w ∧ w ≤ 9) ∧ r_1 = 1) ∨ (¬ (0 ≤ w ∧ w ≤ 9) ∧ r_1 = 0) := hr_1
    rcases hr_1 with ⟨c_2, hr_1⟩ | ⟨c_2, hr_1⟩ <;> subst hr_1
    · skip
      refine k_if_eq (tgt := 15) hx hb dX7_setting_8 (by decide) (by omega) (fun c_3 => ?_) (fun c_3 => ?_)
      · exfalso; omega
      · skip
        refine k_iconst hx hb dX7_setting_11 ?_
        refine lv_goto (tgt := 16) hx hb dX7_setting_12 (by decide) ?_
        refine va_put (D := D) (ci := 6) (v := .int (iI 0)) (ty := .int) (C := RX7) (T := TX7) (N := 19) hx hb hts hinX7 tyX7 tyX7_ok nmX7 hown hK hP hD hS 0 rfl rfl 6 (by decide) hm0 (fun _ h9 => h9) rfl (by decide +kernel) rfl rfl (Nat.le_of_ble_eq_true rfl) dX7_setting_16 (fun H locs hP hD hS => ?_)
        have hP : va_P D vwCl (rfW cy a (upr R 0 (ups (R 0) 6 0))) H := hP
        have hD : va_D (va_A (rfW cy a R) sz) (rfW cy a (upr R 0 (ups (R 0) 6 0))) := hD
        refine lv_aload_n hx hb dX7_setting_19 rfl (lv_at hl 0 rfl) ?_
        refine va_get (D := D) (ci := 6) (v := .int (iI 0)) (C := RX7) (T := TX7) (N := 19) hx hb hts hinX7 hown hK hP 0 rfl rfl 6 (by decide) hm0 (fun _ h9 => h9) rfl dX7_setting_20 ?_
        refine k_if_eq (tgt := 30) hx hb dX7_setting_23 (by decide) (by omega) (fun c_4 => ?_) (fun c_4 => ?_)
        · skip
          refine lv_aload_n hx hb dX7_setting_30 rfl (lv_at hl 0 rfl) ?_
          refine va_get (D := D) (ci := 6) (v := .ref (a 1)) (C := RX7) (T := TX7) (N := 19) hx hb hts hinX7 hown hK hP 0 rfl rfl 0 (by decide) hm1 (fun _ h9 => h9) rfl dX7_setting_31 ?_
          refine lv_iload_n hx hb dX7_setting_34 rfl (lv_at hl 1 rfl) ?_
          refine k_iald hx hb hK hP 1 0 (f := R 1) rfl rfl (i := w) (by omega) dX7_setting_35 ?_
          exact W.iret (v := iI (R 1 w)) hx hb hr (fun t9 ht _ => ⟨⟨iI (R 1 w), (upr R 0 (ups (R 0) 6 0)), rfl, ⟨(R 1 w), rfl, (by first | exact Or.inl ⟨(by omega), (by first | rfl | omega), rfl⟩ | exact Or.inr (⟨(by omega), (by first | rfl | omega), rfl⟩) : ((¬ (0 ≤ w ∧ w ≤ 9)) ∧ (R 1 w : Int) = 0 ∧ (upr R 0 (ups (R 0) 6 0)) = (upr R 0 (ups (R 0) 6 1))) ∨ ((0 ≤ w ∧ w ≤ 9) ∧ (R 1 w : Int) = R 1 w ∧ (upr R 0 (ups (R 0) 6 0)) = (upr R 0 (ups (R 0) 6 0))))⟩, by rw [ht]; exact hP, hD⟩, hS.F ht⟩) hS.2.2 dX7_setting_36 hlocks
        · exfalso; omega
    · skip
      refine k_if_eq (tgt := 15) hx hb dX7_setting_8 (by decide) (by omega) (fun c_5 => ?_) (fun c_5 => ?_)
      · skip
        refine k_iconst hx hb dX7_setting_15 ?_
        refine va_put (D := D) (ci := 6) (v := .int (iI 1)) (ty := .int) (C := RX7) (T := TX7) (N := 19) hx hb hts hinX7 tyX7 tyX7_ok nmX7 hown hK hP hD hS 0 rfl rfl 6 (by decide) hm0 (fun _ h9 => h9) rfl (by decide +kernel) rfl rfl (Nat.le_of_ble_eq_true rfl) dX7_setting_16 (fun H locs hP hD hS => ?_)
        have hP : va_P D vwCl (rfW cy a (upr R 0 (ups (R 0) 6 1))) H := hP
        have hD : va_D (va_A (rfW cy a R) sz) (rfW cy a (upr R 0 (ups (R 0) 6 1))) := hD
        refine lv_aload_n hx hb dX7_setting_19 rfl (lv_at hl 0 rfl) ?_
        refine va_get (D := D) (ci := 6) (v := .int (iI 1)) (C := RX7) (T := TX7) (N := 19) hx hb hts hinX7 hown hK hP 0 rfl rfl 6 (by decide) hm0 (fun _ h9 => h9) rfl dX7_setting_20 ?_
        refine k_if_eq (tgt := 30) hx hb dX7_setting_23 (by decide) (by omega) (fun c_6 => ?_) (fun c_6 => ?_)
        · exfalso; omega
        · skip
          refine k_iconst hx hb dX7_setting_26 ?_
          refine lv_goto (tgt := 36) hx hb dX7_setting_27 (by decide) ?_
          exact W.iret (v := iI 0) hx hb hr (fun t9 ht _ => ⟨⟨iI 0, (upr R 0 (ups (R 0) 6 1)), rfl, ⟨0, rfl, (by first | exact Or.inl ⟨(by omega), (by first | rfl | omega), rfl⟩ | exact Or.inr (⟨(by omega), (by first | rfl | omega), rfl⟩) : ((¬ (0 ≤ w ∧ w ≤ 9)) ∧ (0 : Int) = 0 ∧ (upr R 0 (ups (R 0) 6 1)) = (upr R 0 (ups (R 0) 6 1))) ∨ ((0 ≤ w ∧ w ≤ 9) ∧ (0 : Int) = R 1 w ∧ (upr R 0 (ups (R 0) 6 1)) = (upr R 0 (ups (R 0) 6 0))))⟩, by rw [ht]; exact hP, hD⟩, hS.F ht⟩) hS.2.2 dX7_setting_36 hlocks
      · exfalso; omega
  exact hbody s.heap [] hP hS ls hl
set_option maxHeartbeats 4000000 in
set_option maxRecDepth 100000 in
theorem c_X7_starAngle (l : Launch) (D : va_G) (cy : Nat → ClassId) (sz : Nat) (a : Nat → Nat) (R : Nat → Int → Int) (u f : Int) (hI : Inv (R 1)) (hru : -2147483648 ≤ u ∧ u ≤ 2147483647) (hrf : -2147483648 ≤ f ∧ f ≤ 2147483647) : Met l yX7_starAngle wsX7_starAngle { frames := 2, cells := 0, slots := 0, locals := 44 } (mPre (GG D cy) D (rfW cy a R) sz ([.ref (a 0), .int (iI u), .int (iI f)] : List Value)) (kQi D (rfW cy a R) sz (fun u9 : Nat → Int → Int => rfW cy a u9) (fun r9 u9 => ((¬ (0 ≤ u ∧ u < R 1 13)) ∧ r9 = 0 ∧ u9 = (upr R 0 (ups (R 0) 6 1))) ∨ (((0 ≤ u ∧ u < R 1 13) ∧ ¬ (0 ≤ f ∧ f ≤ 1000)) ∧ r9 = 0 ∧ u9 = (upr R 0 (ups (R 0) 6 2))) ∨ (((0 ≤ u ∧ u < R 1 13) ∧ (0 ≤ f ∧ f ≤ 1000)) ∧ r9 = stAng (R 1) (R 1 8) u f ∧ u9 = (upr R 0 (ups (R 0) 6 0))))) 0 0 (va_A (rfW cy a R) sz) := by
  refine kM_start (cc := cX7_starAngle) (maxL := 3) (ret := (some .int)) (by decide) rfl (Nat.le_of_ble_eq_true rfl) ?_
  intro p e s m below meth c hx hb hr hlocks hml hts hown hsz hA hG hP hD hS hin ls hl
  have hK := hG.1
  have hl : lv_has ls 3 [(0, .ref (a 0)), (1, .int (iI u)), (2, .int (iI f))] := hl
  have hinX7 : ∀ w ∈ u_ws RX7 TX7 19, w ∈ wsX7_starAngle := by decide +kernel
  have hm0 := hts (.fieldLink RX7 31 "ArcPlateModel" "code" "I") (by decide +kernel)
  have hbody : ∀ (H : Heap) (locs : List Loc) (hP : va_P D vwCl (rfW cy a R) H) (hS : va_S (va_A (rfW cy a R) sz) s.heap H locs) (ls : Array Slot) (hl : lv_has ls 3 [(0, .ref (a 0)), (1, .int (iI u)), (2, .int (iI f))]), W p l e { frames := 2, cells := 0, slots := 0, locals := 44 } s m ([.ref (a 0), .int (iI u), .int (iI f)] : List Value).toArray below meth c H locs 0 0 (MQ below (kQi D (rfW cy a R) sz (fun u9 : Nat → Int → Int => rfW cy a u9) (fun r9 u9 => ((¬ (0 ≤ u ∧ u < R 1 13)) ∧ r9 = 0 ∧ u9 = (upr R 0 (ups (R 0) 6 1))) ∨ (((0 ≤ u ∧ u < R 1 13) ∧ ¬ (0 ≤ f ∧ f ≤ 1000)) ∧ r9 = 0 ∧ u9 = (upr R 0 (ups (R 0) 6 2))) ∨ (((0 ≤ u ∧ u < R 1 13) ∧ (0 ≤ f ∧ f ≤ 1000)) ∧ r9 = stAng (R 1) (R 1 8) u f ∧ u9 = (upr R 0 (ups (R 0) 6 0))))) ([.ref (a 0), .int (iI u), .int (iI f)] : List Value).toArray s 0 0 (va_A (rfW cy a R) sz)) (F0 m 0 ls []) := by
    intro H locs hP hS ls hl
    refine lv_aload_n hx hb dX7_starAngle_0 rfl (lv_at hl 0 rfl) ?_
    refine lv_aload_n hx hb dX7_starAngle_1 rfl (lv_at hl 0 rfl) ?_
    refine lv_iload_n hx hb dX7_starAngle_2 rfl (lv_at hl 1 rfl) ?_
    refine k_roV (As := [.int (iI u)]) (rest := [.ref (a 0)]) ⟨hx, hb, hml, hown, hts⟩ (c_X7_isStar l D cy a R u hI (show -2147483648 ≤ u ∧ u ≤ 2147483647 by omega)) gX7_starAngle_X7_isStar rfl ⟨rfl, rfl⟩ 1 rfl (by decide +kernel) ⟨Nat.le_of_ble_eq_true rfl, Nat.le_of_ble_eq_true rfl⟩ (GG_ok D cy) ((GG_ok D cy).2.2.2 _ _ _ _ (fun _ h => h.elim) ((GG_ok D cy).1 _ _ _ _ hS.2.1 hG)) hP (va_recv hK hP (ci := 6) (q0 := 0) rfl rfl) hl.1 rfl (Nat.le_of_ble_eq_true rfl) ⟨Nat.le_of_ble_eq_true rfl, Nat.le_of_ble_eq_true rfl⟩ dX7_starAngle_3 (fun r_1 hr_1 => ?_)
    have hr_1 : ((0 ≤ u ∧ u < R 1 13) ∧ r_1 = 1) ∨ (¬ (0 ≤ u ∧ u < R 1 13) ∧ r_1 = 0) := hr_1
    rcases hr_1 with ⟨c_2, hr_1⟩ | ⟨c_2, hr_1⟩ <;> subst hr_1
    · skip
      refine k_if_ne (tgt := 13) hx hb dX7_starAngle_6 (by decide) (by omega) (fun c_3 => ?_) (fun c_3 => ?_)
      · skip
        refine lv_iload_n hx hb dX7_starAngle_13 rfl (lv_at hl 2 rfl) ?_
        refine k_iconst hx hb dX7_starAngle_14 ?_
        refine k_sipush hx hb dX7_starAngle_15 (by decide +kernel) ?_
        refine k_roS (As := [.int (iI f), .int (iI 0), .int (iI 1000)]) (rest := [.ref (a 0)]) ⟨hx, hb, hml, hown, hts⟩ (c_X7_in l D f 0 1000 (show -2147483648 ≤ f ∧ f ≤ 2147483647 by omega) (show -2147483648 ≤ 0 ∧ 0 ≤ 2147483647 by omega) (show -2147483648 ≤ 1000 ∧ 1000 ≤ 2147483647 by omega)) gX7_starAngle_X7_in rfl ⟨rfl, rfl⟩ 3 rfl (by decide +kernel) ⟨Nat.le_of_ble_eq_true rfl, Nat.le_of_ble_eq_true rfl⟩ kGT_ok trivial (fun k q h => by simp at h) hl.1 rfl (Nat.le_of_ble_eq_true rfl) ⟨Nat.le_of_ble_eq_true rfl, Nat.le_of_ble_eq_true rfl⟩ dX7_starAngle_18 (fun r_4 hr_4 => ?_)
        have hr_4 : ((0 ≤ f ∧ f ≤ 1000) ∧ r_4 = 1) ∨ (¬ (0 ≤ f ∧ f ≤ 1000) ∧ r_4 = 0) := hr_4
        rcases hr_4 with ⟨c_5, hr_4⟩ | ⟨c_5, hr_4⟩ <;> subst hr_4
        · skip
          refine k_if_eq (tgt := 28) hx hb dX7_starAngle_21 (by decide) (by omega) (fun c_6 => ?_) (fun c_6 => ?_)
          · exfalso; omega
          · skip
            refine k_iconst hx hb dX7_starAngle_24 ?_
            refine lv_goto (tgt := 29) hx hb dX7_starAngle_25 (by decide) ?_
            refine va_put (D := D) (ci := 6) (v := .int (iI 0)) (ty := .int) (C := RX7) (T := TX7) (N := 19) hx hb hts hinX7 tyX7 tyX7_ok nmX7 hown hK hP hD hS 0 rfl rfl 6 (by decide) hm0 (fun _ h9 => h9) rfl (by decide +kernel) rfl rfl (Nat.le_of_ble_eq_true rfl) dX7_starAngle_29 (fun H locs hP hD hS => ?_)
            have hP : va_P D vwCl (rfW cy a (upr R 0 (ups (R 0) 6 0))) H := hP
            have hD : va_D (va_A (rfW cy a R) sz) (rfW cy a (upr R 0 (ups (R 0) 6 0))) := hD
            refine lv_aload_n hx hb dX7_starAngle_32 rfl (lv_at hl 0 rfl) ?_
            refine va_get (D := D) (ci := 6) (v := .int (iI 0)) (C := RX7) (T := TX7) (N := 19) hx hb hts hinX7 hown hK hP 0 rfl rfl 6 (by decide) hm0 (fun _ h9 => h9) rfl dX7_starAngle_33 ?_
            refine k_if_eq (tgt := 43) hx hb dX7_starAngle_36 (by decide) (by omega) (fun c_7 => ?_) (fun c_7 => ?_)
            · skip
              refine lv_aload_n hx hb dX7_starAngle_43 rfl (lv_at hl 0 rfl) ?_
              refine lv_iload_n hx hb dX7_starAngle_44 rfl (lv_at hl 1 rfl) ?_
              refine lv_iload_n hx hb dX7_starAngle_45 rfl (lv_at hl 2 rfl) ?_
              refine k_roV (As := [.int (iI u), .int (iI f)]) (rest := []) ⟨hx, hb, hml, hown, hts⟩ (c_X7_starAngleIn l D cy a (upr R 0 (ups (R 0) 6 0)) u f hI (show 0 ≤ u by omega) (show u < (R 1) 13 by omega) (show 0 ≤ f ∧ f ≤ 1000 by omega)) gX7_starAngle_X7_starAngleIn rfl ⟨rfl, rfl⟩ 2 rfl (by decide +kernel) ⟨Nat.le_of_ble_eq_true rfl, Nat.le_of_ble_eq_true rfl⟩ (GG_ok D cy) ((GG_ok D cy).2.2.2 _ _ _ _ (fun _ h => h.elim) ((GG_ok D cy).1 _ _ _ _ hS.2.1 hG)) hP (va_recv hK hP (ci := 6) (q0 := 0) rfl rfl) hl.1 rfl (Nat.le_of_ble_eq_true rfl) ⟨Nat.le_of_ble_eq_true rfl, Nat.le_of_ble_eq_true rfl⟩ dX7_starAngle_46 (fun r_8 hr_8 => ?_)
              have hr_8 : r_8 = stAng ((R 1)) ((R 1) 8) u f := hr_8
              subst hr_8
              exact W.iret (v := iI (stAng ((R 1)) ((R 1) 8) u f)) hx hb hr (fun t9 ht _ => ⟨⟨iI (stAng ((R 1)) ((R 1) 8) u f), (upr R 0 (ups (R 0) 6 0)), rfl, ⟨(stAng ((R 1)) ((R 1) 8) u f), rfl, (by first | exact Or.inl ⟨(by omega), (by first | rfl | omega), rfl⟩ | exact Or.inr (Or.inl ⟨(by omega), (by first | rfl | omega), rfl⟩) | exact Or.inr (Or.inr (⟨(by omega), (by first | rfl | omega), rfl⟩)) : ((¬ (0 ≤ u ∧ u < R 1 13)) ∧ (stAng ((R 1)) ((R 1) 8) u f : Int) = 0 ∧ (upr R 0 (ups (R 0) 6 0)) = (upr R 0 (ups (R 0) 6 1))) ∨ (((0 ≤ u ∧ u < R 1 13) ∧ ¬ (0 ≤ f ∧ f ≤ 1000)) ∧ (stAng ((R 1)) ((R 1) 8) u f : Int) = 0 ∧ (upr R 0 (ups (R 0) 6 0)) = (upr R 0 (ups (R 0) 6 2))) ∨ (((0 ≤ u ∧ u < R 1 13) ∧ (0 ≤ f ∧ f ≤ 1000)) ∧ (stAng ((R 1)) ((R 1) 8) u f : Int) = stAng (R 1) (R 1 8) u f ∧ (upr R 0 (ups (R 0) 6 0)) = (upr R 0 (ups (R 0) 6 0))))⟩, by rw [ht]; exact hP, hD⟩, hS.F ht⟩) hS.2.2 dX7_starAngle_49 hlocks
            · exfalso; omega
        · skip
          refine k_if_eq (tgt := 28) hx hb dX7_starAngle_21 (by decide) (by omega) (fun c_9 => ?_) (fun c_9 => ?_)
          · skip
            refine k_iconst hx hb dX7_starAngle_28 ?_
            refine va_put (D := D) (ci := 6) (v := .int (iI 2)) (ty := .int) (C := RX7) (T := TX7) (N := 19) hx hb hts hinX7 tyX7 tyX7_ok nmX7 hown hK hP hD hS 0 rfl rfl 6 (by decide) hm0 (fun _ h9 => h9) rfl (by decide +kernel) rfl rfl (Nat.le_of_ble_eq_true rfl) dX7_starAngle_29 (fun H locs hP hD hS => ?_)
            have hP : va_P D vwCl (rfW cy a (upr R 0 (ups (R 0) 6 2))) H := hP
            have hD : va_D (va_A (rfW cy a R) sz) (rfW cy a (upr R 0 (ups (R 0) 6 2))) := hD
            refine lv_aload_n hx hb dX7_starAngle_32 rfl (lv_at hl 0 rfl) ?_
            refine va_get (D := D) (ci := 6) (v := .int (iI 2)) (C := RX7) (T := TX7) (N := 19) hx hb hts hinX7 hown hK hP 0 rfl rfl 6 (by decide) hm0 (fun _ h9 => h9) rfl dX7_starAngle_33 ?_
            refine k_if_eq (tgt := 43) hx hb dX7_starAngle_36 (by decide) (by omega) (fun c_10 => ?_) (fun c_10 => ?_)
            · exfalso; omega
            · skip
              refine k_iconst hx hb dX7_starAngle_39 ?_
              refine lv_goto (tgt := 49) hx hb dX7_starAngle_40 (by decide) ?_
              exact W.iret (v := iI 0) hx hb hr (fun t9 ht _ => ⟨⟨iI 0, (upr R 0 (ups (R 0) 6 2)), rfl, ⟨0, rfl, (by first | exact Or.inl ⟨(by omega), (by first | rfl | omega), rfl⟩ | exact Or.inr (Or.inl ⟨(by omega), (by first | rfl | omega), rfl⟩) | exact Or.inr (Or.inr (⟨(by omega), (by first | rfl | omega), rfl⟩)) : ((¬ (0 ≤ u ∧ u < R 1 13)) ∧ (0 : Int) = 0 ∧ (upr R 0 (ups (R 0) 6 2)) = (upr R 0 (ups (R 0) 6 1))) ∨ (((0 ≤ u ∧ u < R 1 13) ∧ ¬ (0 ≤ f ∧ f ≤ 1000)) ∧ (0 : Int) = 0 ∧ (upr R 0 (ups (R 0) 6 2)) = (upr R 0 (ups (R 0) 6 2))) ∨ (((0 ≤ u ∧ u < R 1 13) ∧ (0 ≤ f ∧ f ≤ 1000)) ∧ (0 : Int) = stAng (R 1) (R 1 8) u f ∧ (upr R 0 (ups (R 0) 6 2)) = (upr R 0 (ups (R 0) 6 0))))⟩, by rw [ht]; exact hP, hD⟩, hS.F ht⟩) hS.2.2 dX7_starAngle_49 hlocks
          · exfalso; omega
      · exfalso; omega
    · skip
      refine k_if_ne (tgt := 13) hx hb dX7_starAngle_6 (by decide) (by omega) (fun c_11 => ?_) (fun c_11 => ?_)
      · exfalso; omega
      · skip
        refine k_iconst hx hb dX7_starAngle_9 ?_
        refine lv_goto (tgt := 29) hx hb dX7_starAngle_10 (by decide) ?_
        refine va_put (D := D) (ci := 6) (v := .int (iI 1)) (ty := .int) (C := RX7) (T := TX7) (N := 19) hx hb hts hinX7 tyX7 tyX7_ok nmX7 hown hK hP hD hS 0 rfl rfl 6 (by decide) hm0 (fun _ h9 => h9) rfl (by decide +kernel) rfl rfl (Nat.le_of_ble_eq_true rfl) dX7_starAngle_29 (fun H locs hP hD hS => ?_)
        have hP : va_P D vwCl (rfW cy a (upr R 0 (ups (R 0) 6 1))) H := hP
        have hD : va_D (va_A (rfW cy a R) sz) (rfW cy a (upr R 0 (ups (R 0) 6 1))) := hD
        refine lv_aload_n hx hb dX7_starAngle_32 rfl (lv_at hl 0 rfl) ?_
        refine va_get (D := D) (ci := 6) (v := .int (iI 1)) (C := RX7) (T := TX7) (N := 19) hx hb hts hinX7 hown hK hP 0 rfl rfl 6 (by decide) hm0 (fun _ h9 => h9) rfl dX7_starAngle_33 ?_
        refine k_if_eq (tgt := 43) hx hb dX7_starAngle_36 (by decide) (by omega) (fun c_12 => ?_) (fun c_12 => ?_)
        · exfalso; omega
        · skip
          refine k_iconst hx hb dX7_starAngle_39 ?_
          refine lv_goto (tgt := 49) hx hb dX7_starAngle_40 (by decide) ?_
          exact W.iret (v := iI 0) hx hb hr (fun t9 ht _ => ⟨⟨iI 0, (upr R 0 (ups (R 0) 6 1)), rfl, ⟨0, rfl, (by first | exact Or.inl ⟨(by omega), (by first | rfl | omega), rfl⟩ | exact Or.inr (Or.inl ⟨(by omega), (by first | rfl | omega), rfl⟩) | exact Or.inr (Or.inr (⟨(by omega), (by first | rfl | omega), rfl⟩)) : ((¬ (0 ≤ u ∧ u < R 1 13)) ∧ (0 : Int) = 0 ∧ (upr R 0 (ups (R 0) 6 1)) = (upr R 0 (ups (R 0) 6 1))) ∨ (((0 ≤ u ∧ u < R 1 13) ∧ ¬ (0 ≤ f ∧ f ≤ 1000)) ∧ (0 : Int) = 0 ∧ (upr R 0 (ups (R 0) 6 1)) = (upr R 0 (ups (R 0) 6 2))) ∨ (((0 ≤ u ∧ u < R 1 13) ∧ (0 ≤ f ∧ f ≤ 1000)) ∧ (0 : Int) = stAng (R 1) (R 1 8) u f ∧ (upr R 0 (ups (R 0) 6 1)) = (upr R 0 (ups (R 0) 6 0))))⟩, by rw [ht]; exact hP, hD⟩, hS.F ht⟩) hS.2.2 dX7_starAngle_49 hlocks
  exact hbody s.heap [] hP hS ls hl
set_option maxHeartbeats 4000000 in
set_option maxRecDepth 100000 in
theorem c_X7_cost (l : Launch) (D : va_G) (cy : Nat → ClassId) (sz : Nat) (a : Nat → Nat) (R : Nat → Int → Int) (t u : Int) (hI : Inv (R 1)) (hrt : -2147483648 ≤ t ∧ t ≤ 2147483647) (hru : -2147483648 ≤ u ∧ u ≤ 2147483647) : Met l yX7_cost wsX7_cost { frames := 6, cells := 0, slots := 0, locals := 137 } (mPre (GG D cy) D (rfW cy a R) sz ([.ref (a 0), .int (iI t), .int (iI u)] : List Value)) (kQi D (rfW cy a R) sz (fun u9 : Nat → Int → Int => rfW cy a u9) (fun r9 u9 => ((¬ ((0 ≤ t ∧ t < R 1 12) ∧ 0 ≤ u ∧ u < R 1 13)) ∧ r9 = 0 ∧ u9 = (upr R 0 (ups (R 0) 6 1))) ∨ ((((0 ≤ t ∧ t < R 1 12) ∧ 0 ≤ u ∧ u < R 1 13) ∧ pts (R 1) t = 0) ∧ r9 = -1000000000 ∧ u9 = (upr R 0 (ups (R 0) 6 0))) ∨ ((((0 ≤ t ∧ t < R 1 12) ∧ 0 ≤ u ∧ u < R 1 13) ∧ 0 < pts (R 1) t) ∧ r9 = cstZ (R 1) (R 1 8) t u ∧ u9 = (upr R 0 (ups (R 0) 6 0))))) 0 0 (va_A (rfW cy a R) sz) := by
  refine kM_start (cc := cX7_cost) (maxL := 3) (ret := (some .int)) (by decide) rfl (Nat.le_of_ble_eq_true rfl) ?_
  intro p e s m below meth c hx hb hr hlocks hml hts hown hsz hA hG hP hD hS hin ls hl
  have hK := hG.1
  have hl : lv_has ls 3 [(0, .ref (a 0)), (1, .int (iI t)), (2, .int (iI u))] := hl
  have hinX7 : ∀ w ∈ u_ws RX7 TX7 19, w ∈ wsX7_cost := by decide +kernel
  have hm0 := hts (.fieldLink RX7 31 "ArcPlateModel" "code" "I") (by decide +kernel)
  have hm1 := hts (.constant RX7 109 (-1000000000)) (by decide +kernel)
  have h12 := inv_S12 hI
  have hbody : ∀ (H : Heap) (locs : List Loc) (hP : va_P D vwCl (rfW cy a R) H) (hS : va_S (va_A (rfW cy a R) sz) s.heap H locs) (ls : Array Slot) (hl : lv_has ls 3 [(0, .ref (a 0)), (1, .int (iI t)), (2, .int (iI u))]), W p l e { frames := 6, cells := 0, slots := 0, locals := 137 } s m ([.ref (a 0), .int (iI t), .int (iI u)] : List Value).toArray below meth c H locs 0 0 (MQ below (kQi D (rfW cy a R) sz (fun u9 : Nat → Int → Int => rfW cy a u9) (fun r9 u9 => ((¬ ((0 ≤ t ∧ t < R 1 12) ∧ 0 ≤ u ∧ u < R 1 13)) ∧ r9 = 0 ∧ u9 = (upr R 0 (ups (R 0) 6 1))) ∨ ((((0 ≤ t ∧ t < R 1 12) ∧ 0 ≤ u ∧ u < R 1 13) ∧ pts (R 1) t = 0) ∧ r9 = -1000000000 ∧ u9 = (upr R 0 (ups (R 0) 6 0))) ∨ ((((0 ≤ t ∧ t < R 1 12) ∧ 0 ≤ u ∧ u < R 1 13) ∧ 0 < pts (R 1) t) ∧ r9 = cstZ (R 1) (R 1 8) t u ∧ u9 = (upr R 0 (ups (R 0) 6 0))))) ([.ref (a 0), .int (iI t), .int (iI u)] : List Value).toArray s 0 0 (va_A (rfW cy a R) sz)) (F0 m 0 ls []) := by
    intro H locs hP hS ls hl
    refine lv_aload_n hx hb dX7_cost_0 rfl (lv_at hl 0 rfl) ?_
    refine lv_aload_n hx hb dX7_cost_1 rfl (lv_at hl 0 rfl) ?_
    refine lv_iload_n hx hb dX7_cost_2 rfl (lv_at hl 1 rfl) ?_
    refine k_roV (As := [.int (iI t)]) (rest := [.ref (a 0)]) ⟨hx, hb, hml, hown, hts⟩ (c_X7_isTrail l D cy a R t hI (show -2147483648 ≤ t ∧ t ≤ 2147483647 by omega)) gX7_cost_X7_isTrail rfl ⟨rfl, rfl⟩ 1 rfl (by decide +kernel) ⟨Nat.le_of_ble_eq_true rfl, Nat.le_of_ble_eq_true rfl⟩ (GG_ok D cy) ((GG_ok D cy).2.2.2 _ _ _ _ (fun _ h => h.elim) ((GG_ok D cy).1 _ _ _ _ hS.2.1 hG)) hP (va_recv hK hP (ci := 6) (q0 := 0) rfl rfl) hl.1 rfl (Nat.le_of_ble_eq_true rfl) ⟨Nat.le_of_ble_eq_true rfl, Nat.le_of_ble_eq_true rfl⟩ dX7_cost_3 (fun r_1 hr_1 => ?_)
    have hr_1 : ((0 ≤ t ∧ t < R 1 12) ∧ r_1 = 1) ∨ (¬ (0 ≤ t ∧ t < R 1 12) ∧ r_1 = 0) := hr_1
    rcases hr_1 with ⟨c_2, hr_1⟩ | ⟨c_2, hr_1⟩ <;> subst hr_1
    · skip
      refine k_if_eq (tgt := 21) hx hb dX7_cost_6 (by decide) (by omega) (fun c_3 => ?_) (fun c_3 => ?_)
      · exfalso; omega
      · skip
        refine lv_aload_n hx hb dX7_cost_9 rfl (lv_at hl 0 rfl) ?_
        refine lv_iload_n hx hb dX7_cost_10 rfl (lv_at hl 2 rfl) ?_
        refine k_roV (As := [.int (iI u)]) (rest := [.ref (a 0)]) ⟨hx, hb, hml, hown, hts⟩ (c_X7_isStar l D cy a R u hI (show -2147483648 ≤ u ∧ u ≤ 2147483647 by omega)) gX7_cost_X7_isStar rfl ⟨rfl, rfl⟩ 1 rfl (by decide +kernel) ⟨Nat.le_of_ble_eq_true rfl, Nat.le_of_ble_eq_true rfl⟩ (GG_ok D cy) ((GG_ok D cy).2.2.2 _ _ _ _ (fun _ h => h.elim) ((GG_ok D cy).1 _ _ _ _ hS.2.1 hG)) hP (va_recv hK hP (ci := 6) (q0 := 0) rfl rfl) hl.1 rfl (Nat.le_of_ble_eq_true rfl) ⟨Nat.le_of_ble_eq_true rfl, Nat.le_of_ble_eq_true rfl⟩ dX7_cost_11 (fun r_4 hr_4 => ?_)
        have hr_4 : ((0 ≤ u ∧ u < R 1 13) ∧ r_4 = 1) ∨ (¬ (0 ≤ u ∧ u < R 1 13) ∧ r_4 = 0) := hr_4
        rcases hr_4 with ⟨c_5, hr_4⟩ | ⟨c_5, hr_4⟩ <;> subst hr_4
        · skip
          refine k_if_eq (tgt := 21) hx hb dX7_cost_14 (by decide) (by omega) (fun c_6 => ?_) (fun c_6 => ?_)
          · exfalso; omega
          · skip
            refine k_iconst hx hb dX7_cost_17 ?_
            refine lv_goto (tgt := 22) hx hb dX7_cost_18 (by decide) ?_
            refine va_put (D := D) (ci := 6) (v := .int (iI 0)) (ty := .int) (C := RX7) (T := TX7) (N := 19) hx hb hts hinX7 tyX7 tyX7_ok nmX7 hown hK hP hD hS 0 rfl rfl 6 (by decide) hm0 (fun _ h9 => h9) rfl (by decide +kernel) rfl rfl (Nat.le_of_ble_eq_true rfl) dX7_cost_22 (fun H locs hP hD hS => ?_)
            have hP : va_P D vwCl (rfW cy a (upr R 0 (ups (R 0) 6 0))) H := hP
            have hD : va_D (va_A (rfW cy a R) sz) (rfW cy a (upr R 0 (ups (R 0) 6 0))) := hD
            refine lv_aload_n hx hb dX7_cost_25 rfl (lv_at hl 0 rfl) ?_
            refine va_get (D := D) (ci := 6) (v := .int (iI 0)) (C := RX7) (T := TX7) (N := 19) hx hb hts hinX7 hown hK hP 0 rfl rfl 6 (by decide) hm0 (fun _ h9 => h9) rfl dX7_cost_26 ?_
            refine k_if_eq (tgt := 36) hx hb dX7_cost_29 (by decide) (by omega) (fun c_7 => ?_) (fun c_7 => ?_)
            · skip
              refine lv_aload_n hx hb dX7_cost_36 rfl (lv_at hl 0 rfl) ?_
              refine lv_iload_n hx hb dX7_cost_37 rfl (lv_at hl 1 rfl) ?_
              refine k_roV (As := [.int (iI t)]) (rest := []) ⟨hx, hb, hml, hown, hts⟩ (c_X7_points l D cy a (upr R 0 (ups (R 0) 6 0)) t (show 0 ≤ t by omega) (show t < 12 by omega)) gX7_cost_X7_points rfl ⟨rfl, rfl⟩ 1 rfl (by decide +kernel) ⟨Nat.le_of_ble_eq_true rfl, Nat.le_of_ble_eq_true rfl⟩ (GG_ok D cy) ((GG_ok D cy).2.2.2 _ _ _ _ (fun _ h => h.elim) ((GG_ok D cy).1 _ _ _ _ hS.2.1 hG)) hP (va_recv hK hP (ci := 6) (q0 := 0) rfl rfl) hl.1 rfl (Nat.le_of_ble_eq_true rfl) ⟨Nat.le_of_ble_eq_true rfl, Nat.le_of_ble_eq_true rfl⟩ dX7_cost_38 (fun r_8 hr_8 => ?_)
              have hr_8 : r_8 = pts ((R 1)) t := hr_8
              subst hr_8
              have hp := inv_pts hI (by omega) (show t < R 1 12 by omega)
              refine k_if_ne (tgt := 49) hx hb dX7_cost_41 (by decide) (by omega) (fun c_9 => ?_) (fun c_9 => ?_)
              · skip
                refine lv_aload_n hx hb dX7_cost_49 rfl (lv_at hl 0 rfl) ?_
                refine lv_iload_n hx hb dX7_cost_50 rfl (lv_at hl 1 rfl) ?_
                refine lv_iload_n hx hb dX7_cost_51 rfl (lv_at hl 2 rfl) ?_
                refine k_roV (As := [.int (iI t), .int (iI u)]) (rest := []) ⟨hx, hb, hml, hown, hts⟩ (c_X7_costOf l D cy a (upr R 0 (ups (R 0) 6 0)) t u hI (show 0 ≤ t by omega) (show t < (R 1) 12 by omega) (show 0 < pts ((R 1)) t by omega) (show 0 ≤ u by omega) (show u < (R 1) 13 by omega)) gX7_cost_X7_costOf rfl ⟨rfl, rfl⟩ 2 rfl (by decide +kernel) ⟨Nat.le_of_ble_eq_true rfl, Nat.le_of_ble_eq_true rfl⟩ (GG_ok D cy) ((GG_ok D cy).2.2.2 _ _ _ _ (fun _ h => h.elim) ((GG_ok D cy).1 _ _ _ _ hS.2.1 hG)) hP (va_recv hK hP (ci := 6) (q0 := 0) rfl rfl) hl.1 rfl (Nat.le_of_ble_eq_true rfl) ⟨Nat.le_of_ble_eq_true rfl, Nat.le_of_ble_eq_true rfl⟩ dX7_cost_52 (fun r_10 hr_10 => ?_)
                have hr_10 : r_10 = cstZ ((R 1)) ((R 1) 8) t u := hr_10
                subst hr_10
                exact W.iret (v := iI (cstZ ((R 1)) ((R 1) 8) t u)) hx hb hr (fun t9 ht _ => ⟨⟨iI (cstZ ((R 1)) ((R 1) 8) t u), (upr R 0 (ups (R 0) 6 0)), rfl, ⟨(cstZ ((R 1)) ((R 1) 8) t u), rfl, (by first | exact Or.inl ⟨(by omega), (by first | rfl | omega), rfl⟩ | exact Or.inr (Or.inl ⟨(by omega), (by first | rfl | omega), rfl⟩) | exact Or.inr (Or.inr (⟨(by omega), (by first | rfl | omega), rfl⟩)) : ((¬ ((0 ≤ t ∧ t < R 1 12) ∧ 0 ≤ u ∧ u < R 1 13)) ∧ (cstZ ((R 1)) ((R 1) 8) t u : Int) = 0 ∧ (upr R 0 (ups (R 0) 6 0)) = (upr R 0 (ups (R 0) 6 1))) ∨ ((((0 ≤ t ∧ t < R 1 12) ∧ 0 ≤ u ∧ u < R 1 13) ∧ pts (R 1) t = 0) ∧ (cstZ ((R 1)) ((R 1) 8) t u : Int) = -1000000000 ∧ (upr R 0 (ups (R 0) 6 0)) = (upr R 0 (ups (R 0) 6 0))) ∨ ((((0 ≤ t ∧ t < R 1 12) ∧ 0 ≤ u ∧ u < R 1 13) ∧ 0 < pts (R 1) t) ∧ (cstZ ((R 1)) ((R 1) 8) t u : Int) = cstZ (R 1) (R 1 8) t u ∧ (upr R 0 (ups (R 0) 6 0)) = (upr R 0 (ups (R 0) 6 0))))⟩, by rw [ht]; exact hP, hD⟩, hS.F ht⟩) hS.2.2 dX7_cost_55 hlocks
              · skip
                refine k_ldc (z := (-1000000000)) hx hb hown hm1 (by decide +kernel) dX7_cost_44 ?_
                refine lv_goto (tgt := 55) hx hb dX7_cost_46 (by decide) ?_
                exact W.iret (v := iI (-1000000000)) hx hb hr (fun t9 ht _ => ⟨⟨iI (-1000000000), (upr R 0 (ups (R 0) 6 0)), rfl, ⟨(-1000000000), rfl, (by first | exact Or.inl ⟨(by omega), (by first | rfl | omega), rfl⟩ | exact Or.inr (Or.inl ⟨(by omega), (by first | rfl | omega), rfl⟩) | exact Or.inr (Or.inr (⟨(by omega), (by first | rfl | omega), rfl⟩)) : ((¬ ((0 ≤ t ∧ t < R 1 12) ∧ 0 ≤ u ∧ u < R 1 13)) ∧ ((-1000000000) : Int) = 0 ∧ (upr R 0 (ups (R 0) 6 0)) = (upr R 0 (ups (R 0) 6 1))) ∨ ((((0 ≤ t ∧ t < R 1 12) ∧ 0 ≤ u ∧ u < R 1 13) ∧ pts (R 1) t = 0) ∧ ((-1000000000) : Int) = -1000000000 ∧ (upr R 0 (ups (R 0) 6 0)) = (upr R 0 (ups (R 0) 6 0))) ∨ ((((0 ≤ t ∧ t < R 1 12) ∧ 0 ≤ u ∧ u < R 1 13) ∧ 0 < pts (R 1) t) ∧ ((-1000000000) : Int) = cstZ (R 1) (R 1 8) t u ∧ (upr R 0 (ups (R 0) 6 0)) = (upr R 0 (ups (R 0) 6 0))))⟩, by rw [ht]; exact hP, hD⟩, hS.F ht⟩) hS.2.2 dX7_cost_55 hlocks
            · exfalso; omega
        · skip
          refine k_if_eq (tgt := 21) hx hb dX7_cost_14 (by decide) (by omega) (fun c_11 => ?_) (fun c_11 => ?_)
          · skip
            refine k_iconst hx hb dX7_cost_21 ?_
            refine va_put (D := D) (ci := 6) (v := .int (iI 1)) (ty := .int) (C := RX7) (T := TX7) (N := 19) hx hb hts hinX7 tyX7 tyX7_ok nmX7 hown hK hP hD hS 0 rfl rfl 6 (by decide) hm0 (fun _ h9 => h9) rfl (by decide +kernel) rfl rfl (Nat.le_of_ble_eq_true rfl) dX7_cost_22 (fun H locs hP hD hS => ?_)
            have hP : va_P D vwCl (rfW cy a (upr R 0 (ups (R 0) 6 1))) H := hP
            have hD : va_D (va_A (rfW cy a R) sz) (rfW cy a (upr R 0 (ups (R 0) 6 1))) := hD
            refine lv_aload_n hx hb dX7_cost_25 rfl (lv_at hl 0 rfl) ?_
            refine va_get (D := D) (ci := 6) (v := .int (iI 1)) (C := RX7) (T := TX7) (N := 19) hx hb hts hinX7 hown hK hP 0 rfl rfl 6 (by decide) hm0 (fun _ h9 => h9) rfl dX7_cost_26 ?_
            refine k_if_eq (tgt := 36) hx hb dX7_cost_29 (by decide) (by omega) (fun c_12 => ?_) (fun c_12 => ?_)
            · exfalso; omega
            · skip
              refine k_iconst hx hb dX7_cost_32 ?_
              refine lv_goto (tgt := 55) hx hb dX7_cost_33 (by decide) ?_
              exact W.iret (v := iI 0) hx hb hr (fun t9 ht _ => ⟨⟨iI 0, (upr R 0 (ups (R 0) 6 1)), rfl, ⟨0, rfl, (by first | exact Or.inl ⟨(by omega), (by first | rfl | omega), rfl⟩ | exact Or.inr (Or.inl ⟨(by omega), (by first | rfl | omega), rfl⟩) | exact Or.inr (Or.inr (⟨(by omega), (by first | rfl | omega), rfl⟩)) : ((¬ ((0 ≤ t ∧ t < R 1 12) ∧ 0 ≤ u ∧ u < R 1 13)) ∧ (0 : Int) = 0 ∧ (upr R 0 (ups (R 0) 6 1)) = (upr R 0 (ups (R 0) 6 1))) ∨ ((((0 ≤ t ∧ t < R 1 12) ∧ 0 ≤ u ∧ u < R 1 13) ∧ pts (R 1) t = 0) ∧ (0 : Int) = -1000000000 ∧ (upr R 0 (ups (R 0) 6 1)) = (upr R 0 (ups (R 0) 6 0))) ∨ ((((0 ≤ t ∧ t < R 1 12) ∧ 0 ≤ u ∧ u < R 1 13) ∧ 0 < pts (R 1) t) ∧ (0 : Int) = cstZ (R 1) (R 1 8) t u ∧ (upr R 0 (ups (R 0) 6 1)) = (upr R 0 (ups (R 0) 6 0))))⟩, by rw [ht]; exact hP, hD⟩, hS.F ht⟩) hS.2.2 dX7_cost_55 hlocks
          · exfalso; omega
    · skip
      refine k_if_eq (tgt := 21) hx hb dX7_cost_6 (by decide) (by omega) (fun c_13 => ?_) (fun c_13 => ?_)
      · skip
        refine k_iconst hx hb dX7_cost_21 ?_
        refine va_put (D := D) (ci := 6) (v := .int (iI 1)) (ty := .int) (C := RX7) (T := TX7) (N := 19) hx hb hts hinX7 tyX7 tyX7_ok nmX7 hown hK hP hD hS 0 rfl rfl 6 (by decide) hm0 (fun _ h9 => h9) rfl (by decide +kernel) rfl rfl (Nat.le_of_ble_eq_true rfl) dX7_cost_22 (fun H locs hP hD hS => ?_)
        have hP : va_P D vwCl (rfW cy a (upr R 0 (ups (R 0) 6 1))) H := hP
        have hD : va_D (va_A (rfW cy a R) sz) (rfW cy a (upr R 0 (ups (R 0) 6 1))) := hD
        refine lv_aload_n hx hb dX7_cost_25 rfl (lv_at hl 0 rfl) ?_
        refine va_get (D := D) (ci := 6) (v := .int (iI 1)) (C := RX7) (T := TX7) (N := 19) hx hb hts hinX7 hown hK hP 0 rfl rfl 6 (by decide) hm0 (fun _ h9 => h9) rfl dX7_cost_26 ?_
        refine k_if_eq (tgt := 36) hx hb dX7_cost_29 (by decide) (by omega) (fun c_14 => ?_) (fun c_14 => ?_)
        · exfalso; omega
        · skip
          refine k_iconst hx hb dX7_cost_32 ?_
          refine lv_goto (tgt := 55) hx hb dX7_cost_33 (by decide) ?_
          exact W.iret (v := iI 0) hx hb hr (fun t9 ht _ => ⟨⟨iI 0, (upr R 0 (ups (R 0) 6 1)), rfl, ⟨0, rfl, (by first | exact Or.inl ⟨(by omega), (by first | rfl | omega), rfl⟩ | exact Or.inr (Or.inl ⟨(by omega), (by first | rfl | omega), rfl⟩) | exact Or.inr (Or.inr (⟨(by omega), (by first | rfl | omega), rfl⟩)) : ((¬ ((0 ≤ t ∧ t < R 1 12) ∧ 0 ≤ u ∧ u < R 1 13)) ∧ (0 : Int) = 0 ∧ (upr R 0 (ups (R 0) 6 1)) = (upr R 0 (ups (R 0) 6 1))) ∨ ((((0 ≤ t ∧ t < R 1 12) ∧ 0 ≤ u ∧ u < R 1 13) ∧ pts (R 1) t = 0) ∧ (0 : Int) = -1000000000 ∧ (upr R 0 (ups (R 0) 6 1)) = (upr R 0 (ups (R 0) 6 0))) ∨ ((((0 ≤ t ∧ t < R 1 12) ∧ 0 ≤ u ∧ u < R 1 13) ∧ 0 < pts (R 1) t) ∧ (0 : Int) = cstZ (R 1) (R 1 8) t u ∧ (upr R 0 (ups (R 0) 6 1)) = (upr R 0 (ups (R 0) 6 0))))⟩, by rw [ht]; exact hP, hD⟩, hS.F ht⟩) hS.2.2 dX7_cost_55 hlocks
      · exfalso; omega
  exact hbody s.heap [] hP hS ls hl
set_option maxHeartbeats 4000000 in
set_option maxRecDepth 100000 in
theorem c_X7_point (l : Launch) (D : va_G) (cy : Nat → ClassId) (sz : Nat) (a : Nat → Nat) (R : Nat → Int → Int) (t q w : Int) (hI : Inv (R 1)) (hrt : -2147483648 ≤ t ∧ t ≤ 2147483647) (hrq : -2147483648 ≤ q ∧ q ≤ 2147483647) (hrw : -2147483648 ≤ w ∧ w ≤ 2147483647) : Met l yX7_point wsX7_point { frames := 5, cells := 0, slots := 0, locals := 112 } (mPre (GG D cy) D (rfW cy a R) sz ([.ref (a 0), .int (iI t), .int (iI q), .int (iI w)] : List Value)) (kQi D (rfW cy a R) sz (fun u9 : Nat → Int → Int => rfW cy a u9) (fun r9 u9 => ((¬ ((0 ≤ t ∧ t < R 1 12) ∧ 0 ≤ q ∧ q < pts (R 1) t)) ∧ r9 = 0 ∧ u9 = (upr R 0 (ups (R 0) 6 1))) ∨ ((((0 ≤ t ∧ t < R 1 12) ∧ 0 ≤ q ∧ q < pts (R 1) t) ∧ ¬ (0 ≤ w ∧ w ≤ 6)) ∧ r9 = 0 ∧ u9 = (upr R 0 (ups (R 0) 6 2))) ∨ ((((0 ≤ t ∧ t < R 1 12) ∧ 0 ≤ q ∧ q < pts (R 1) t) ∧ (0 ≤ w ∧ w ≤ 6)) ∧ r9 = ptV (R 1) t q w ∧ u9 = (upr R 0 (ups (R 0) 6 0))))) 0 0 (va_A (rfW cy a R) sz) := by
  refine kM_start (cc := cX7_point) (maxL := 4) (ret := (some .int)) (by decide) rfl (Nat.le_of_ble_eq_true rfl) ?_
  intro p e s m below meth c hx hb hr hlocks hml hts hown hsz hA hG hP hD hS hin ls hl
  have hK := hG.1
  have hl : lv_has ls 4 [(0, .ref (a 0)), (1, .int (iI t)), (2, .int (iI q)), (3, .int (iI w))] := hl
  have hinX7 : ∀ w ∈ u_ws RX7 TX7 19, w ∈ wsX7_point := by decide +kernel
  have hm0 := hts (.fieldLink RX7 31 "ArcPlateModel" "code" "I") (by decide +kernel)
  have hbody : ∀ (H : Heap) (locs : List Loc) (hP : va_P D vwCl (rfW cy a R) H) (hS : va_S (va_A (rfW cy a R) sz) s.heap H locs) (ls : Array Slot) (hl : lv_has ls 4 [(0, .ref (a 0)), (1, .int (iI t)), (2, .int (iI q)), (3, .int (iI w))]), W p l e { frames := 5, cells := 0, slots := 0, locals := 112 } s m ([.ref (a 0), .int (iI t), .int (iI q), .int (iI w)] : List Value).toArray below meth c H locs 0 0 (MQ below (kQi D (rfW cy a R) sz (fun u9 : Nat → Int → Int => rfW cy a u9) (fun r9 u9 => ((¬ ((0 ≤ t ∧ t < R 1 12) ∧ 0 ≤ q ∧ q < pts (R 1) t)) ∧ r9 = 0 ∧ u9 = (upr R 0 (ups (R 0) 6 1))) ∨ ((((0 ≤ t ∧ t < R 1 12) ∧ 0 ≤ q ∧ q < pts (R 1) t) ∧ ¬ (0 ≤ w ∧ w ≤ 6)) ∧ r9 = 0 ∧ u9 = (upr R 0 (ups (R 0) 6 2))) ∨ ((((0 ≤ t ∧ t < R 1 12) ∧ 0 ≤ q ∧ q < pts (R 1) t) ∧ (0 ≤ w ∧ w ≤ 6)) ∧ r9 = ptV (R 1) t q w ∧ u9 = (upr R 0 (ups (R 0) 6 0))))) ([.ref (a 0), .int (iI t), .int (iI q), .int (iI w)] : List Value).toArray s 0 0 (va_A (rfW cy a R) sz)) (F0 m 0 ls []) := by
    intro H locs hP hS ls hl
    refine lv_aload_n hx hb dX7_point_0 rfl (lv_at hl 0 rfl) ?_
    refine lv_aload_n hx hb dX7_point_1 rfl (lv_at hl 0 rfl) ?_
    refine lv_iload_n hx hb dX7_point_2 rfl (lv_at hl 1 rfl) ?_
    refine lv_iload_n hx hb dX7_point_3 rfl (lv_at hl 2 rfl) ?_
    refine k_roV (As := [.int (iI t), .int (iI q)]) (rest := [.ref (a 0)]) ⟨hx, hb, hml, hown, hts⟩ (c_X7_isPoint l D cy a R t q hI (show -2147483648 ≤ t ∧ t ≤ 2147483647 by omega) (show -2147483648 ≤ q ∧ q ≤ 2147483647 by omega)) gX7_point_X7_isPoint rfl ⟨rfl, rfl⟩ 2 rfl (by decide +kernel) ⟨Nat.le_of_ble_eq_true rfl, Nat.le_of_ble_eq_true rfl⟩ (GG_ok D cy) ((GG_ok D cy).2.2.2 _ _ _ _ (fun _ h => h.elim) ((GG_ok D cy).1 _ _ _ _ hS.2.1 hG)) hP (va_recv hK hP (ci := 6) (q0 := 0) rfl rfl) hl.1 rfl (Nat.le_of_ble_eq_true rfl) ⟨Nat.le_of_ble_eq_true rfl, Nat.le_of_ble_eq_true rfl⟩ dX7_point_4 (fun r_1 hr_1 => ?_)
    have hr_1 : (((0 ≤ t ∧ t < R 1 12) ∧ 0 ≤ q ∧ q < pts (R 1) t) ∧ r_1 = 1) ∨ (¬ ((0 ≤ t ∧ t < R 1 12) ∧ 0 ≤ q ∧ q < pts (R 1) t) ∧ r_1 = 0) := hr_1
    rcases hr_1 with ⟨c_2, hr_1⟩ | ⟨c_2, hr_1⟩ <;> subst hr_1
    · skip
      refine k_if_ne (tgt := 14) hx hb dX7_point_7 (by decide) (by omega) (fun c_3 => ?_) (fun c_3 => ?_)
      · skip
        refine lv_iload_n hx hb dX7_point_14 rfl (lv_at hl 3 rfl) ?_
        refine k_iconst hx hb dX7_point_15 ?_
        refine k_bipush hx hb dX7_point_16 (by decide +kernel) ?_
        refine k_roS (As := [.int (iI w), .int (iI 0), .int (iI 6)]) (rest := [.ref (a 0)]) ⟨hx, hb, hml, hown, hts⟩ (c_X7_in l D w 0 6 (show -2147483648 ≤ w ∧ w ≤ 2147483647 by omega) (show -2147483648 ≤ 0 ∧ 0 ≤ 2147483647 by omega) (show -2147483648 ≤ 6 ∧ 6 ≤ 2147483647 by omega)) gX7_point_X7_in rfl ⟨rfl, rfl⟩ 3 rfl (by decide +kernel) ⟨Nat.le_of_ble_eq_true rfl, Nat.le_of_ble_eq_true rfl⟩ kGT_ok trivial (fun k q h => by simp at h) hl.1 rfl (Nat.le_of_ble_eq_true rfl) ⟨Nat.le_of_ble_eq_true rfl, Nat.le_of_ble_eq_true rfl⟩ dX7_point_18 (fun r_4 hr_4 => ?_)
        have hr_4 : ((0 ≤ w ∧ w ≤ 6) ∧ r_4 = 1) ∨ (¬ (0 ≤ w ∧ w ≤ 6) ∧ r_4 = 0) := hr_4
        rcases hr_4 with ⟨c_5, hr_4⟩ | ⟨c_5, hr_4⟩ <;> subst hr_4
        · skip
          refine k_if_eq (tgt := 28) hx hb dX7_point_21 (by decide) (by omega) (fun c_6 => ?_) (fun c_6 => ?_)
          · exfalso; omega
          · skip
            refine k_iconst hx hb dX7_point_24 ?_
            refine lv_goto (tgt := 29) hx hb dX7_point_25 (by decide) ?_
            refine va_put (D := D) (ci := 6) (v := .int (iI 0)) (ty := .int) (C := RX7) (T := TX7) (N := 19) hx hb hts hinX7 tyX7 tyX7_ok nmX7 hown hK hP hD hS 0 rfl rfl 6 (by decide) hm0 (fun _ h9 => h9) rfl (by decide +kernel) rfl rfl (Nat.le_of_ble_eq_true rfl) dX7_point_29 (fun H locs hP hD hS => ?_)
            have hP : va_P D vwCl (rfW cy a (upr R 0 (ups (R 0) 6 0))) H := hP
            have hD : va_D (va_A (rfW cy a R) sz) (rfW cy a (upr R 0 (ups (R 0) 6 0))) := hD
            refine lv_aload_n hx hb dX7_point_32 rfl (lv_at hl 0 rfl) ?_
            refine va_get (D := D) (ci := 6) (v := .int (iI 0)) (C := RX7) (T := TX7) (N := 19) hx hb hts hinX7 hown hK hP 0 rfl rfl 6 (by decide) hm0 (fun _ h9 => h9) rfl dX7_point_33 ?_
            refine k_if_eq (tgt := 43) hx hb dX7_point_36 (by decide) (by omega) (fun c_7 => ?_) (fun c_7 => ?_)
            · skip
              refine lv_aload_n hx hb dX7_point_43 rfl (lv_at hl 0 rfl) ?_
              refine lv_iload_n hx hb dX7_point_44 rfl (lv_at hl 1 rfl) ?_
              refine lv_iload_n hx hb dX7_point_45 rfl (lv_at hl 2 rfl) ?_
              refine lv_iload_n hx hb dX7_point_46 rfl (lv_at hl 3 rfl) ?_
              refine k_roV (As := [.int (iI t), .int (iI q), .int (iI w)]) (rest := []) ⟨hx, hb, hml, hown, hts⟩ (c_X7_pointOf l D cy a (upr R 0 (ups (R 0) 6 0)) t q w hI (show 0 ≤ t by omega) (show t < (R 1) 12 by omega) (show 0 ≤ q by omega) (show q < pts ((R 1)) t by omega) (show 0 ≤ w ∧ w ≤ 6 by omega)) gX7_point_X7_pointOf rfl ⟨rfl, rfl⟩ 3 rfl (by decide +kernel) ⟨Nat.le_of_ble_eq_true rfl, Nat.le_of_ble_eq_true rfl⟩ (GG_ok D cy) ((GG_ok D cy).2.2.2 _ _ _ _ (fun _ h => h.elim) ((GG_ok D cy).1 _ _ _ _ hS.2.1 hG)) hP (va_recv hK hP (ci := 6) (q0 := 0) rfl rfl) hl.1 rfl (Nat.le_of_ble_eq_true rfl) ⟨Nat.le_of_ble_eq_true rfl, Nat.le_of_ble_eq_true rfl⟩ dX7_point_47 (fun r_8 hr_8 => ?_)
              have hr_8 : r_8 = ptV ((R 1)) t q w := hr_8
              subst hr_8
              exact W.iret (v := iI (ptV ((R 1)) t q w)) hx hb hr (fun t9 ht _ => ⟨⟨iI (ptV ((R 1)) t q w), (upr R 0 (ups (R 0) 6 0)), rfl, ⟨(ptV ((R 1)) t q w), rfl, (by first | exact Or.inl ⟨(by omega), (by first | rfl | omega), rfl⟩ | exact Or.inr (Or.inl ⟨(by omega), (by first | rfl | omega), rfl⟩) | exact Or.inr (Or.inr (⟨(by omega), (by first | rfl | omega), rfl⟩)) : ((¬ ((0 ≤ t ∧ t < R 1 12) ∧ 0 ≤ q ∧ q < pts (R 1) t)) ∧ (ptV ((R 1)) t q w : Int) = 0 ∧ (upr R 0 (ups (R 0) 6 0)) = (upr R 0 (ups (R 0) 6 1))) ∨ ((((0 ≤ t ∧ t < R 1 12) ∧ 0 ≤ q ∧ q < pts (R 1) t) ∧ ¬ (0 ≤ w ∧ w ≤ 6)) ∧ (ptV ((R 1)) t q w : Int) = 0 ∧ (upr R 0 (ups (R 0) 6 0)) = (upr R 0 (ups (R 0) 6 2))) ∨ ((((0 ≤ t ∧ t < R 1 12) ∧ 0 ≤ q ∧ q < pts (R 1) t) ∧ (0 ≤ w ∧ w ≤ 6)) ∧ (ptV ((R 1)) t q w : Int) = ptV (R 1) t q w ∧ (upr R 0 (ups (R 0) 6 0)) = (upr R 0 (ups (R 0) 6 0))))⟩, by rw [ht]; exact hP, hD⟩, hS.F ht⟩) hS.2.2 dX7_point_50 hlocks
            · exfalso; omega
        · skip
          refine k_if_eq (tgt := 28) hx hb dX7_point_21 (by decide) (by omega) (fun c_9 => ?_) (fun c_9 => ?_)
          · skip
            refine k_iconst hx hb dX7_point_28 ?_
            refine va_put (D := D) (ci := 6) (v := .int (iI 2)) (ty := .int) (C := RX7) (T := TX7) (N := 19) hx hb hts hinX7 tyX7 tyX7_ok nmX7 hown hK hP hD hS 0 rfl rfl 6 (by decide) hm0 (fun _ h9 => h9) rfl (by decide +kernel) rfl rfl (Nat.le_of_ble_eq_true rfl) dX7_point_29 (fun H locs hP hD hS => ?_)
            have hP : va_P D vwCl (rfW cy a (upr R 0 (ups (R 0) 6 2))) H := hP
            have hD : va_D (va_A (rfW cy a R) sz) (rfW cy a (upr R 0 (ups (R 0) 6 2))) := hD
            refine lv_aload_n hx hb dX7_point_32 rfl (lv_at hl 0 rfl) ?_
            refine va_get (D := D) (ci := 6) (v := .int (iI 2)) (C := RX7) (T := TX7) (N := 19) hx hb hts hinX7 hown hK hP 0 rfl rfl 6 (by decide) hm0 (fun _ h9 => h9) rfl dX7_point_33 ?_
            refine k_if_eq (tgt := 43) hx hb dX7_point_36 (by decide) (by omega) (fun c_10 => ?_) (fun c_10 => ?_)
            · exfalso; omega
            · skip
              refine k_iconst hx hb dX7_point_39 ?_
              refine lv_goto (tgt := 50) hx hb dX7_point_40 (by decide) ?_
              exact W.iret (v := iI 0) hx hb hr (fun t9 ht _ => ⟨⟨iI 0, (upr R 0 (ups (R 0) 6 2)), rfl, ⟨0, rfl, (by first | exact Or.inl ⟨(by omega), (by first | rfl | omega), rfl⟩ | exact Or.inr (Or.inl ⟨(by omega), (by first | rfl | omega), rfl⟩) | exact Or.inr (Or.inr (⟨(by omega), (by first | rfl | omega), rfl⟩)) : ((¬ ((0 ≤ t ∧ t < R 1 12) ∧ 0 ≤ q ∧ q < pts (R 1) t)) ∧ (0 : Int) = 0 ∧ (upr R 0 (ups (R 0) 6 2)) = (upr R 0 (ups (R 0) 6 1))) ∨ ((((0 ≤ t ∧ t < R 1 12) ∧ 0 ≤ q ∧ q < pts (R 1) t) ∧ ¬ (0 ≤ w ∧ w ≤ 6)) ∧ (0 : Int) = 0 ∧ (upr R 0 (ups (R 0) 6 2)) = (upr R 0 (ups (R 0) 6 2))) ∨ ((((0 ≤ t ∧ t < R 1 12) ∧ 0 ≤ q ∧ q < pts (R 1) t) ∧ (0 ≤ w ∧ w ≤ 6)) ∧ (0 : Int) = ptV (R 1) t q w ∧ (upr R 0 (ups (R 0) 6 2)) = (upr R 0 (ups (R 0) 6 0))))⟩, by rw [ht]; exact hP, hD⟩, hS.F ht⟩) hS.2.2 dX7_point_50 hlocks
          · exfalso; omega
      · exfalso; omega
    · skip
      refine k_if_ne (tgt := 14) hx hb dX7_point_7 (by decide) (by omega) (fun c_11 => ?_) (fun c_11 => ?_)
      · exfalso; omega
      · skip
        refine k_iconst hx hb dX7_point_10 ?_
        refine lv_goto (tgt := 29) hx hb dX7_point_11 (by decide) ?_
        refine va_put (D := D) (ci := 6) (v := .int (iI 1)) (ty := .int) (C := RX7) (T := TX7) (N := 19) hx hb hts hinX7 tyX7 tyX7_ok nmX7 hown hK hP hD hS 0 rfl rfl 6 (by decide) hm0 (fun _ h9 => h9) rfl (by decide +kernel) rfl rfl (Nat.le_of_ble_eq_true rfl) dX7_point_29 (fun H locs hP hD hS => ?_)
        have hP : va_P D vwCl (rfW cy a (upr R 0 (ups (R 0) 6 1))) H := hP
        have hD : va_D (va_A (rfW cy a R) sz) (rfW cy a (upr R 0 (ups (R 0) 6 1))) := hD
        refine lv_aload_n hx hb dX7_point_32 rfl (lv_at hl 0 rfl) ?_
        refine va_get (D := D) (ci := 6) (v := .int (iI 1)) (C := RX7) (T := TX7) (N := 19) hx hb hts hinX7 hown hK hP 0 rfl rfl 6 (by decide) hm0 (fun _ h9 => h9) rfl dX7_point_33 ?_
        refine k_if_eq (tgt := 43) hx hb dX7_point_36 (by decide) (by omega) (fun c_12 => ?_) (fun c_12 => ?_)
        · exfalso; omega
        · skip
          refine k_iconst hx hb dX7_point_39 ?_
          refine lv_goto (tgt := 50) hx hb dX7_point_40 (by decide) ?_
          exact W.iret (v := iI 0) hx hb hr (fun t9 ht _ => ⟨⟨iI 0, (upr R 0 (ups (R 0) 6 1)), rfl, ⟨0, rfl, (by first | exact Or.inl ⟨(by omega), (by first | rfl | omega), rfl⟩ | exact Or.inr (Or.inl ⟨(by omega), (by first | rfl | omega), rfl⟩) | exact Or.inr (Or.inr (⟨(by omega), (by first | rfl | omega), rfl⟩)) : ((¬ ((0 ≤ t ∧ t < R 1 12) ∧ 0 ≤ q ∧ q < pts (R 1) t)) ∧ (0 : Int) = 0 ∧ (upr R 0 (ups (R 0) 6 1)) = (upr R 0 (ups (R 0) 6 1))) ∨ ((((0 ≤ t ∧ t < R 1 12) ∧ 0 ≤ q ∧ q < pts (R 1) t) ∧ ¬ (0 ≤ w ∧ w ≤ 6)) ∧ (0 : Int) = 0 ∧ (upr R 0 (ups (R 0) 6 1)) = (upr R 0 (ups (R 0) 6 2))) ∨ ((((0 ≤ t ∧ t < R 1 12) ∧ 0 ≤ q ∧ q < pts (R 1) t) ∧ (0 ≤ w ∧ w ≤ 6)) ∧ (0 : Int) = ptV (R 1) t q w ∧ (upr R 0 (ups (R 0) 6 1)) = (upr R 0 (ups (R 0) 6 0))))⟩, by rw [ht]; exact hP, hD⟩, hS.F ht⟩) hS.2.2 dX7_point_50 hlocks
  exact hbody s.heap [] hP hS ls hl
set_option maxHeartbeats 4000000 in
set_option maxRecDepth 100000 in
theorem c_X7_costAt (l : Launch) (D : va_G) (cy : Nat → ClassId) (sz : Nat) (a : Nat → Nat) (R : Nat → Int → Int) (x y : Int) (hI : Inv (R 1)) (hrx : -2147483648 ≤ x ∧ x ≤ 2147483647) (hry : -2147483648 ≤ y ∧ y ≤ 2147483647) : Met l yX7_costAt wsX7_costAt { frames := 7, cells := 0, slots := 0, locals := 158 } (mPre (GG D cy) D (rfW cy a R) sz ([.ref (a 0), .int (iI x), .int (iI y)] : List Value)) (kQi D (rfW cy a R) sz (fun u9 : Nat → Int → Int => rfW cy a u9) (fun r9 u9 => ((¬ poleOK x y) ∧ r9 = 0 ∧ u9 = (upr R 0 (ups (R 0) 6 1))) ∨ ((poleOK x y) ∧ r9 = pcost (tPo (R 1) x y) ∧ u9 = (upr (upr R 0 (ups (R 0) 6 0)) 1 (R 1))))) 0 0 (va_A (rfW cy a R) sz) := by
  refine kM_start (cc := cX7_costAt) (maxL := 6) (ret := (some .int)) (by decide) rfl (Nat.le_of_ble_eq_true rfl) ?_
  intro p e s m below meth c hx hb hr hlocks hml hts hown hsz hA hG hP hD hS hin ls hl
  have hK := hG.1
  have hl : lv_has ls 6 [(0, .ref (a 0)), (1, .int (iI x)), (2, .int (iI y))] := hl
  have hinX7 : ∀ w ∈ u_ws RX7 TX7 19, w ∈ wsX7_costAt := by decide +kernel
  have hm0 := hts (.fieldLink RX7 31 "ArcPlateModel" "code" "I") (by decide +kernel)
  have hm1 := hts (.fieldLink RX7 7 "ArcPlateModel" "m" "[I") (by decide +kernel)
  have hbody : ∀ (H : Heap) (locs : List Loc) (hP : va_P D vwCl (rfW cy a R) H) (hS : va_S (va_A (rfW cy a R) sz) s.heap H locs) (ls : Array Slot) (hl : lv_has ls 6 [(0, .ref (a 0)), (1, .int (iI x)), (2, .int (iI y))]), W p l e { frames := 7, cells := 0, slots := 0, locals := 158 } s m ([.ref (a 0), .int (iI x), .int (iI y)] : List Value).toArray below meth c H locs 0 0 (MQ below (kQi D (rfW cy a R) sz (fun u9 : Nat → Int → Int => rfW cy a u9) (fun r9 u9 => ((¬ poleOK x y) ∧ r9 = 0 ∧ u9 = (upr R 0 (ups (R 0) 6 1))) ∨ ((poleOK x y) ∧ r9 = pcost (tPo (R 1) x y) ∧ u9 = (upr (upr R 0 (ups (R 0) 6 0)) 1 (R 1))))) ([.ref (a 0), .int (iI x), .int (iI y)] : List Value).toArray s 0 0 (va_A (rfW cy a R) sz)) (F0 m 0 ls []) := by
    intro H locs hP hS ls hl
    refine lv_aload_n hx hb dX7_costAt_0 rfl (lv_at hl 0 rfl) ?_
    refine lv_iload_n hx hb dX7_costAt_1 rfl (lv_at hl 1 rfl) ?_
    refine lv_iload_n hx hb dX7_costAt_2 rfl (lv_at hl 2 rfl) ?_
    refine k_roS (As := [.int (iI x), .int (iI y)]) (rest := [.ref (a 0)]) ⟨hx, hb, hml, hown, hts⟩ (c_X7_isPole l D x y (show -2147483648 ≤ x ∧ x ≤ 2147483647 by omega) (show -2147483648 ≤ y ∧ y ≤ 2147483647 by omega)) gX7_costAt_X7_isPole rfl ⟨rfl, rfl⟩ 2 rfl (by decide +kernel) ⟨Nat.le_of_ble_eq_true rfl, Nat.le_of_ble_eq_true rfl⟩ kGT_ok trivial (fun k q h => by simp at h) hl.1 rfl (Nat.le_of_ble_eq_true rfl) ⟨Nat.le_of_ble_eq_true rfl, Nat.le_of_ble_eq_true rfl⟩ dX7_costAt_3 (fun r_1 hr_1 => ?_)
    have hr_1 : ((poleOK x y) ∧ r_1 = 1) ∨ (¬ (poleOK x y) ∧ r_1 = 0) := hr_1
    rcases hr_1 with ⟨c_2, hr_1⟩ | ⟨c_2, hr_1⟩ <;> subst hr_1
    · skip
      refine k_if_eq (tgt := 13) hx hb dX7_costAt_6 (by decide) (by omega) (fun c_3 => ?_) (fun c_3 => ?_)
      · exfalso; omega
      · skip
        refine k_iconst hx hb dX7_costAt_9 ?_
        refine lv_goto (tgt := 14) hx hb dX7_costAt_10 (by decide) ?_
        refine va_put (D := D) (ci := 6) (v := .int (iI 0)) (ty := .int) (C := RX7) (T := TX7) (N := 19) hx hb hts hinX7 tyX7 tyX7_ok nmX7 hown hK hP hD hS 0 rfl rfl 6 (by decide) hm0 (fun _ h9 => h9) rfl (by decide +kernel) rfl rfl (Nat.le_of_ble_eq_true rfl) dX7_costAt_14 (fun H locs hP hD hS => ?_)
        have hP : va_P D vwCl (rfW cy a (upr R 0 (ups (R 0) 6 0))) H := hP
        have hD : va_D (va_A (rfW cy a R) sz) (rfW cy a (upr R 0 (ups (R 0) 6 0))) := hD
        refine lv_aload_n hx hb dX7_costAt_17 rfl (lv_at hl 0 rfl) ?_
        refine va_get (D := D) (ci := 6) (v := .int (iI 0)) (C := RX7) (T := TX7) (N := 19) hx hb hts hinX7 hown hK hP 0 rfl rfl 6 (by decide) hm0 (fun _ h9 => h9) rfl dX7_costAt_18 ?_
        refine k_if_eq (tgt := 26) hx hb dX7_costAt_21 (by decide) (by omega) (fun c_4 => ?_) (fun c_4 => ?_)
        · skip
          refine lv_aload_n hx hb dX7_costAt_26 rfl (lv_at hl 0 rfl) ?_
          refine va_get (D := D) (ci := 6) (v := .ref (a 1)) (C := RX7) (T := TX7) (N := 19) hx hb hts hinX7 hown hK hP 0 rfl rfl 0 (by decide) hm1 (fun _ h9 => h9) rfl dX7_costAt_27 ?_
          refine k_bipush hx hb dX7_costAt_30 (by decide +kernel) ?_
          refine k_iald hx hb hK hP 1 0 (f := R 1) rfl rfl (i := 10) (by omega) dX7_costAt_32 ?_
          refine lv_istore_n (lv' := [(3, .int (iI (R 1 10))), (0, .ref (a 0)), (1, .int (iI x)), (2, .int (iI y))]) hx hb dX7_costAt_33 rfl hl (by decide) rfl (fun ls hl => ?_)
          refine lv_aload_n hx hb dX7_costAt_34 rfl (lv_at hl 1 rfl) ?_
          refine va_get (D := D) (ci := 6) (v := .ref (a 1)) (C := RX7) (T := TX7) (N := 19) hx hb hts hinX7 hown hK hP 0 rfl rfl 0 (by decide) hm1 (fun _ h9 => h9) rfl dX7_costAt_35 ?_
          refine k_bipush hx hb dX7_costAt_38 (by decide +kernel) ?_
          refine k_iald hx hb hK hP 1 0 (f := R 1) rfl rfl (i := 11) (by omega) dX7_costAt_40 ?_
          refine lv_istore (lv' := [(4, .int (iI (R 1 11))), (3, .int (iI (R 1 10))), (0, .ref (a 0)), (1, .int (iI x)), (2, .int (iI y))]) hx hb dX7_costAt_41 hl (by decide) rfl (fun ls hl => ?_)
          refine lv_aload_n hx hb dX7_costAt_43 rfl (lv_at hl 2 rfl) ?_
          refine lv_iload_n hx hb dX7_costAt_44 rfl (lv_at hl 3 rfl) ?_
          refine lv_iload_n hx hb dX7_costAt_45 rfl (lv_at hl 4 rfl) ?_
          refine k_mui (k_runV (As := [.int (iI x), .int (iI y)]) (rest := []) ⟨hx, hb, hml, hown, hts⟩ (c_X7_setsPole l D cy H.size a (upr R 0 (ups (R 0) 6 0)) x y hI (by assumption)) gX7_costAt_X7_setsPole rfl ⟨rfl, rfl⟩ 2 rfl (by decide +kernel) ⟨Nat.le_of_ble_eq_true rfl, Nat.le_of_ble_eq_true rfl⟩ (GG_ok D cy) hG hS (k_free hD hS hA) hP hD (va_recv hK hP (ci := 6) (q0 := 0) rfl rfl) hl.1 rfl (Nat.le_of_ble_eq_true rfl) ⟨Nat.le_of_ble_eq_true rfl, Nat.le_of_ble_eq_true rfl⟩ dX7_costAt_46) (k_free hD hS hA) hS (fun r_5 R_6 H1 locs1 hR_6 hP1 hD1 hS1 hk1 => ?_)
          have hR_6 : r_5 = pcost (tPo ((R 1)) x y) ∧ R_6 = (upr (upr R 0 (ups (R 0) 6 0)) 1 (tPo ((R 1)) x y)) := hR_6
          obtain ⟨hr_5, rfl⟩ := hR_6
          have hr_5 : r_5 = pcost (tPo ((R 1)) x y) := hr_5
          subst hr_5
          have hDn : va_D (va_A (rfW cy a R) sz) (rfW cy a (upr (upr R 0 (ups (R 0) 6 0)) 1 (tPo ((R 1)) x y))) := k_addr hD rfl
          have hPn : va_P D vwCl (rfW cy a (upr (upr R 0 (ups (R 0) 6 0)) 1 (tPo ((R 1)) x y))) H1 := hP1
          clear hP hD hS hP1 hD1 hk1
          have hP := hPn
          have hD := hDn
          have hS := hS1
          clear hPn hDn hS1
          generalize H1 = H at hP hS ⊢
          generalize locs1 = locs at hS ⊢
          refine lv_istore (lv' := [(5, .int (iI (pcost (tPo ((R 1)) x y)))), (4, .int (iI (R 1 11))), (3, .int (iI (R 1 10))), (0, .ref (a 0)), (1, .int (iI x)), (2, .int (iI y))]) hx hb dX7_costAt_49 hl (by decide) rfl (fun ls hl => ?_)
          refine lv_aload_n hx hb dX7_costAt_51 rfl (lv_at hl 3 rfl) ?_
          refine va_get (D := D) (ci := 6) (v := .ref (a 1)) (C := RX7) (T := TX7) (N := 19) hx hb hts hinX7 hown hK hP 0 rfl rfl 0 (by decide) hm1 (fun _ h9 => h9) rfl dX7_costAt_52 ?_
          refine k_bipush hx hb dX7_costAt_55 (by decide +kernel) ?_
          refine lv_iload_n hx hb dX7_costAt_57 rfl (lv_at hl 2 rfl) ?_
          refine k_iast hx hb hK hP hD hS 1 0 (f := tPo ((R 1)) x y) rfl rfl (i := 10) (x := R 1 10) (by omega) dX7_costAt_58 (fun H locs hP hD hS => ?_)
          have hP : va_P D vwCl (rfW cy a (upr (upr R 0 (ups (R 0) 6 0)) 1 (ups (tPo ((R 1)) x y) 10 (R 1 10)))) H := hP
          have hD : va_D (va_A (rfW cy a R) sz) (rfW cy a (upr (upr R 0 (ups (R 0) 6 0)) 1 (ups (tPo ((R 1)) x y) 10 (R 1 10)))) := hD
          refine lv_aload_n hx hb dX7_costAt_59 rfl (lv_at hl 3 rfl) ?_
          refine va_get (D := D) (ci := 6) (v := .ref (a 1)) (C := RX7) (T := TX7) (N := 19) hx hb hts hinX7 hown hK hP 0 rfl rfl 0 (by decide) hm1 (fun _ h9 => h9) rfl dX7_costAt_60 ?_
          refine k_bipush hx hb dX7_costAt_63 (by decide +kernel) ?_
          refine lv_iload hx hb dX7_costAt_65 (lv_at hl 1 rfl) ?_
          refine k_iast hx hb hK hP hD hS 1 0 (f := ups (tPo ((R 1)) x y) 10 (R 1 10)) rfl rfl (i := 11) (x := R 1 11) (by omega) dX7_costAt_67 (fun H locs hP hD hS => ?_)
          have hP : va_P D vwCl (rfW cy a (upr (upr R 0 (ups (R 0) 6 0)) 1 (ups (ups (tPo ((R 1)) x y) 10 (R 1 10)) 11 (R 1 11)))) H := hP
          have hD : va_D (va_A (rfW cy a R) sz) (rfW cy a (upr (upr R 0 (ups (R 0) 6 0)) 1 (ups (ups (tPo ((R 1)) x y) 10 (R 1 10)) 11 (R 1 11)))) := hD
          refine lv_iload hx hb dX7_costAt_68 (lv_at hl 0 rfl) ?_
          exact W.iret (v := iI (pcost (tPo ((R 1)) x y))) hx hb hr (fun t9 ht _ => ⟨⟨iI (pcost (tPo ((R 1)) x y)), (upr (upr R 0 (ups (R 0) 6 0)) 1 (ups (ups (tPo ((R 1)) x y) 10 (R 1 10)) 11 (R 1 11))), rfl, ⟨(pcost (tPo ((R 1)) x y)), rfl, (by first | exact Or.inl ⟨(by assumption), (by first | rfl | omega), (by rw [show (ups (ups (tPo ((R 1)) x y) 10 (R 1 10)) 11 (R 1 11)) = (R 1) from tPo_back (R 1) x y]; exact upr_back)⟩ | exact Or.inr (⟨(by assumption), (by first | rfl | omega), (by rw [show (ups (ups (tPo ((R 1)) x y) 10 (R 1 10)) 11 (R 1 11)) = (R 1) from tPo_back (R 1) x y])⟩) : ((¬ poleOK x y) ∧ (pcost (tPo ((R 1)) x y) : Int) = 0 ∧ (upr (upr R 0 (ups (R 0) 6 0)) 1 (ups (ups (tPo ((R 1)) x y) 10 (R 1 10)) 11 (R 1 11))) = (upr R 0 (ups (R 0) 6 1))) ∨ ((poleOK x y) ∧ (pcost (tPo ((R 1)) x y) : Int) = pcost (tPo (R 1) x y) ∧ (upr (upr R 0 (ups (R 0) 6 0)) 1 (ups (ups (tPo ((R 1)) x y) 10 (R 1 10)) 11 (R 1 11))) = (upr (upr R 0 (ups (R 0) 6 0)) 1 (R 1))))⟩, by rw [ht]; exact hP, hD⟩, hS.F ht⟩) hS.2.2 dX7_costAt_70 hlocks
        · exfalso; omega
    · skip
      refine k_if_eq (tgt := 13) hx hb dX7_costAt_6 (by decide) (by omega) (fun c_7 => ?_) (fun c_7 => ?_)
      · skip
        refine k_iconst hx hb dX7_costAt_13 ?_
        refine va_put (D := D) (ci := 6) (v := .int (iI 1)) (ty := .int) (C := RX7) (T := TX7) (N := 19) hx hb hts hinX7 tyX7 tyX7_ok nmX7 hown hK hP hD hS 0 rfl rfl 6 (by decide) hm0 (fun _ h9 => h9) rfl (by decide +kernel) rfl rfl (Nat.le_of_ble_eq_true rfl) dX7_costAt_14 (fun H locs hP hD hS => ?_)
        have hP : va_P D vwCl (rfW cy a (upr R 0 (ups (R 0) 6 1))) H := hP
        have hD : va_D (va_A (rfW cy a R) sz) (rfW cy a (upr R 0 (ups (R 0) 6 1))) := hD
        refine lv_aload_n hx hb dX7_costAt_17 rfl (lv_at hl 0 rfl) ?_
        refine va_get (D := D) (ci := 6) (v := .int (iI 1)) (C := RX7) (T := TX7) (N := 19) hx hb hts hinX7 hown hK hP 0 rfl rfl 6 (by decide) hm0 (fun _ h9 => h9) rfl dX7_costAt_18 ?_
        refine k_if_eq (tgt := 26) hx hb dX7_costAt_21 (by decide) (by omega) (fun c_8 => ?_) (fun c_8 => ?_)
        · exfalso; omega
        · skip
          refine k_iconst hx hb dX7_costAt_24 ?_
          exact W.iret (v := iI 0) hx hb hr (fun t9 ht _ => ⟨⟨iI 0, (upr R 0 (ups (R 0) 6 1)), rfl, ⟨0, rfl, (by first | exact Or.inl ⟨(by assumption), (by first | rfl | omega), rfl⟩ | exact Or.inr (⟨(by assumption), (by first | rfl | omega), rfl⟩) : ((¬ poleOK x y) ∧ (0 : Int) = 0 ∧ (upr R 0 (ups (R 0) 6 1)) = (upr R 0 (ups (R 0) 6 1))) ∨ ((poleOK x y) ∧ (0 : Int) = pcost (tPo (R 1) x y) ∧ (upr R 0 (ups (R 0) 6 1)) = (upr (upr R 0 (ups (R 0) 6 0)) 1 (R 1))))⟩, by rw [ht]; exact hP, hD⟩, hS.F ht⟩) hS.2.2 dX7_costAt_25 hlocks
      · exfalso; omega
  exact hbody s.heap [] hP hS ls hl
