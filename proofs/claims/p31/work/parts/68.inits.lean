theorem q4_up (w x y z : Nat) : va_up (va_up (va_up (va_up (fun _ => none) 0 (some w)) 1 (some x)) 2 (some y)) 3 (some z) = q4 w x y z := by
  funext j
  rcases j with _ | _ | _ | _ | j <;> rfl
def m00 : Int → Int := ups (ups (ups (ups (ups (ups (ups (ups (ups (fun _ => 0) 0 250) 3 5) 4 1000) 5 50) 6 100) 7 1000) 9 3) 10 2000) 11 2000
def rf0 : Nat → Int → Int := fun i => cond (Nat.beq i 1) m00 (fun _ => 0)
set_option maxHeartbeats 4000000 in
set_option maxRecDepth 100000 in
theorem c_X4_init (l : Launch) (D : va_G) (cy : Nat → ClassId) (sz : Nat) (h0 : Nat) : Met l yX4_init wsX4_init { frames := 2, cells := 8, slots := 490, locals := 80 } (mPre (GI D cy) D [(h0, .inr (3, [.int 0, .int 0, .int 0, .int 0, .null, .null, .null, .null, .null, .null, .null, .null]))] sz [.ref h0]) (kQv D [(h0, .inr (3, [.int 0, .int 0, .int 0, .int 0, .null, .null, .null, .null, .null, .null, .null, .null]))] sz (fun a : Nat → Nat => plW cy a pl0) (fun a => a 0 = h0)) 8 490 (va_A [(h0, .inr (3, [.int 0, .int 0, .int 0, .int 0, .null, .null, .null, .null, .null, .null, .null, .null]))] sz) := by
  refine kM_start (cc := cX4_init) (maxL := 1) (ret := none) (by decide) rfl (Nat.le_of_ble_eq_true rfl) ?_
  intro p e s m below meth c hx hb hr hlocks hml hts hown hsz hA hG hP hD hS hin ls hl
  have hK := hG.1.1
  have hin2 := hin rfl
  have hl : lv_has ls 1 [(0, .ref h0)] := hl
  have hinX4 : ∀ w ∈ u_ws RX4 TX4 12, w ∈ wsX4_init := by decide +kernel
  have hbody : ∀ (A : Nat → Prop) (H : Heap) (locs : List Loc) (hA : ∀ q : Nat, s.heap.size ≤ q → A q) (hG : GI D cy A s s.heap) (hP : va_P D vwCl [(h0, .inr (3, [.int 0, .int 0, .int 0, .int 0, .null, .null, .null, .null, .null, .null, .null, .null]))] H) (hD : va_D A [(h0, .inr (3, [.int 0, .int 0, .int 0, .int 0, .null, .null, .null, .null, .null, .null, .null, .null]))]) (hS : va_S A s.heap H locs) (hAe : va_A [(h0, .inr (3, [.int 0, .int 0, .int 0, .int 0, .null, .null, .null, .null, .null, .null, .null, .null]))] sz = A), W p l e { frames := 2, cells := 8, slots := 490, locals := 80 } s m ([Value.ref h0] : List Value).toArray below meth c H locs 0 0 (MQ below (kQv D [(h0, .inr (3, [.int 0, .int 0, .int 0, .int 0, .null, .null, .null, .null, .null, .null, .null, .null]))] sz (fun a : Nat → Nat => plW cy a pl0) (fun a => a 0 = h0)) ([Value.ref h0] : List Value).toArray s 8 490 (va_A [(h0, .inr (3, [.int 0, .int 0, .int 0, .int 0, .null, .null, .null, .null, .null, .null, .null, .null]))] sz)) (F0 m 0 ls []) := by
    intro A H locs hA hG hP hD hS hAe
    refine lv_aload_n hx hb dX4_init_0 rfl (lv_at hl 0 rfl) ?_
    refine W.objInit hx hb hown (hts (.methodLink RX4 3 objectInit) (by decide +kernel)) (hts (.instanceMethod objectInit) (by decide +kernel)) (hts _ (List.mem_of_getElem? (i := 3) rfl)) rfl (by rw [hml]; exact hl.1) rfl dX4_init_1 (Nat.le_of_ble_eq_true rfl) (Nat.le_of_ble_eq_true rfl) ?_
    refine W.eq (g2 := F0 m 4 ls []) rfl ?_
    refine lv_aload_n hx hb dX4_init_4 rfl (lv_at hl 0 rfl) ?_
    refine k_iconst hx hb dX4_init_5 ?_
    refine va_put (D := D) (ci := 3) (v := .int (iI 0)) (ty := .int) (C := RX4) (T := TX4) (N := 12) hx hb hts hinX4 tyX4 tyX4_ok nmX4 hown hK hP hD hS 0 rfl rfl 0 (by decide) (hts (.fieldLink RX4 9 "ArcPlate$Plate" "trails" "I") (by decide +kernel)) (fun _ h9 => h9) rfl (by decide +kernel) rfl rfl (Nat.le_of_ble_eq_true rfl) dX4_init_6 (fun H locs hP hD hS => ?_)
    have hP : va_P D vwCl ([(h0, .inr (3, [.int (iI 0), .int 0, .int 0, .int 0, .null, .null, .null, .null, .null, .null, .null, .null]))] : va_W) H := hP
    have hD : va_D A ([(h0, .inr (3, [.int (iI 0), .int 0, .int 0, .int 0, .null, .null, .null, .null, .null, .null, .null, .null]))] : va_W) := hD
    refine lv_aload_n hx hb dX4_init_9 rfl (lv_at hl 0 rfl) ?_
    refine k_iconst hx hb dX4_init_10 ?_
    refine va_put (D := D) (ci := 3) (v := .int (iI 0)) (ty := .int) (C := RX4) (T := TX4) (N := 12) hx hb hts hinX4 tyX4 tyX4_ok nmX4 hown hK hP hD hS 0 rfl rfl 1 (by decide) (hts (.fieldLink RX4 15 "ArcPlate$Plate" "stars" "I") (by decide +kernel)) (fun _ h9 => h9) rfl (by decide +kernel) rfl rfl (Nat.le_of_ble_eq_true rfl) dX4_init_11 (fun H locs hP hD hS => ?_)
    have hP : va_P D vwCl ([(h0, .inr (3, [.int (iI 0), .int (iI 0), .int 0, .int 0, .null, .null, .null, .null, .null, .null, .null, .null]))] : va_W) H := hP
    have hD : va_D A ([(h0, .inr (3, [.int (iI 0), .int (iI 0), .int 0, .int 0, .null, .null, .null, .null, .null, .null, .null, .null]))] : va_W) := hD
    refine lv_aload_n hx hb dX4_init_14 rfl (lv_at hl 0 rfl) ?_
    refine k_sipush hx hb dX4_init_15 (by decide) ?_
    refine va_put (D := D) (ci := 3) (v := .int (iI 2000)) (ty := .int) (C := RX4) (T := TX4) (N := 12) hx hb hts hinX4 tyX4 tyX4_ok nmX4 hown hK hP hD hS 0 rfl rfl 2 (by decide) (hts (.fieldLink RX4 18 "ArcPlate$Plate" "poleX" "I") (by decide +kernel)) (fun _ h9 => h9) rfl (by decide +kernel) rfl rfl (Nat.le_of_ble_eq_true rfl) dX4_init_18 (fun H locs hP hD hS => ?_)
    have hP : va_P D vwCl ([(h0, .inr (3, [.int (iI 0), .int (iI 0), .int (iI 2000), .int 0, .null, .null, .null, .null, .null, .null, .null, .null]))] : va_W) H := hP
    have hD : va_D A ([(h0, .inr (3, [.int (iI 0), .int (iI 0), .int (iI 2000), .int 0, .null, .null, .null, .null, .null, .null, .null, .null]))] : va_W) := hD
    refine lv_aload_n hx hb dX4_init_21 rfl (lv_at hl 0 rfl) ?_
    refine k_sipush hx hb dX4_init_22 (by decide) ?_
    refine va_put (D := D) (ci := 3) (v := .int (iI 2000)) (ty := .int) (C := RX4) (T := TX4) (N := 12) hx hb hts hinX4 tyX4 tyX4_ok nmX4 hown hK hP hD hS 0 rfl rfl 3 (by decide) (hts (.fieldLink RX4 21 "ArcPlate$Plate" "poleY" "I") (by decide +kernel)) (fun _ h9 => h9) rfl (by decide +kernel) rfl rfl (Nat.le_of_ble_eq_true rfl) dX4_init_25 (fun H locs hP hD hS => ?_)
    have hP : va_P D vwCl ([(h0, .inr (3, [.int (iI 0), .int (iI 0), .int (iI 2000), .int (iI 2000), .null, .null, .null, .null, .null, .null, .null, .null]))] : va_W) H := hP
    have hD : va_D A ([(h0, .inr (3, [.int (iI 0), .int (iI 0), .int (iI 2000), .int (iI 2000), .null, .null, .null, .null, .null, .null, .null, .null]))] : va_W) := hD
    refine lv_aload_n hx hb dX4_init_28 rfl (lv_at hl 0 rfl) ?_
    refine k_bipush hx hb dX4_init_29 (by decide) ?_
    refine k_newT (ty := .int) hx hb rfl (hts (.arrayClass .int) (by decide +kernel)) rfl 0 rfl (fun _ _ => ra_int) hK hP hD hS hA (n := 12) (N := 12) rfl (by decide) (Nat.le_of_ble_eq_true rfl) (Nat.le_of_ble_eq_true rfl) (Nat.le_of_ble_eq_true rfl) dX4_init_31 (fun q1 H hP hD hS => ?_)
    have hP : va_P D vwCl ([(h0, .inr (3, [.int (iI 0), .int (iI 0), .int (iI 2000), .int (iI 2000), .null, .null, .null, .null, .null, .null, .null, .null])), (q1, .inl (cy 0, 12, .inl (aI (fun _ => 0))))] : va_W) H := hP
    have hD : va_D A ([(h0, .inr (3, [.int (iI 0), .int (iI 0), .int (iI 2000), .int (iI 2000), .null, .null, .null, .null, .null, .null, .null, .null])), (q1, .inl (cy 0, 12, .inl (aI (fun _ => 0))))] : va_W) := hD
    refine va_putF (D := D) (ci := 3) (v := .ref q1) (ty := (.array .int)) (C := RX4) (T := TX4) (N := 12) hx hb hts hinX4 tyX4 tyX4_ok nmX4 hown hK hP hD hS 0 rfl rfl 4 (by decide) (hts (.fieldLink RX4 24 "ArcPlate$Plate" "points" "[I") (by decide +kernel)) (fun _ h9 => h9) rfl hin2 rfl (by decide +kernel) rfl rfl (Nat.le_of_ble_eq_true rfl) dX4_init_33 (fun H locs hP hD hS => ?_)
    have hP : va_P D vwCl ([(h0, .inr (3, [.int (iI 0), .int (iI 0), .int (iI 2000), .int (iI 2000), .ref q1, .null, .null, .null, .null, .null, .null, .null])), (q1, .inl (cy 0, 12, .inl (aI (fun _ => 0))))] : va_W) H := hP
    have hD : va_D A ([(h0, .inr (3, [.int (iI 0), .int (iI 0), .int (iI 2000), .int (iI 2000), .ref q1, .null, .null, .null, .null, .null, .null, .null])), (q1, .inl (cy 0, 12, .inl (aI (fun _ => 0))))] : va_W) := hD
    refine lv_aload_n hx hb dX4_init_36 rfl (lv_at hl 0 rfl) ?_
    refine k_sipush hx hb dX4_init_37 (by decide) ?_
    refine k_newT (ty := .int) hx hb rfl (hts (.arrayClass .int) (by decide +kernel)) rfl 0 rfl (fun _ _ => ra_int) hK hP hD hS hA (n := 144) (N := 144) rfl (by decide) (Nat.le_of_ble_eq_true rfl) (Nat.le_of_ble_eq_true rfl) (Nat.le_of_ble_eq_true rfl) dX4_init_40 (fun q2 H hP hD hS => ?_)
    have hP : va_P D vwCl ([(h0, .inr (3, [.int (iI 0), .int (iI 0), .int (iI 2000), .int (iI 2000), .ref q1, .null, .null, .null, .null, .null, .null, .null])), (q1, .inl (cy 0, 12, .inl (aI (fun _ => 0)))), (q2, .inl (cy 0, 144, .inl (aI (fun _ => 0))))] : va_W) H := hP
    have hD : va_D A ([(h0, .inr (3, [.int (iI 0), .int (iI 0), .int (iI 2000), .int (iI 2000), .ref q1, .null, .null, .null, .null, .null, .null, .null])), (q1, .inl (cy 0, 12, .inl (aI (fun _ => 0)))), (q2, .inl (cy 0, 144, .inl (aI (fun _ => 0))))] : va_W) := hD
    refine va_putF (D := D) (ci := 3) (v := .ref q2) (ty := (.array .int)) (C := RX4) (T := TX4) (N := 12) hx hb hts hinX4 tyX4 tyX4_ok nmX4 hown hK hP hD hS 0 rfl rfl 5 (by decide) (hts (.fieldLink RX4 28 "ArcPlate$Plate" "frames" "[I") (by decide +kernel)) (fun _ h9 => h9) rfl hin2 rfl (by decide +kernel) rfl rfl (Nat.le_of_ble_eq_true rfl) dX4_init_42 (fun H locs hP hD hS => ?_)
    have hP : va_P D vwCl ([(h0, .inr (3, [.int (iI 0), .int (iI 0), .int (iI 2000), .int (iI 2000), .ref q1, .ref q2, .null, .null, .null, .null, .null, .null])), (q1, .inl (cy 0, 12, .inl (aI (fun _ => 0)))), (q2, .inl (cy 0, 144, .inl (aI (fun _ => 0))))] : va_W) H := hP
    have hD : va_D A ([(h0, .inr (3, [.int (iI 0), .int (iI 0), .int (iI 2000), .int (iI 2000), .ref q1, .ref q2, .null, .null, .null, .null, .null, .null])), (q1, .inl (cy 0, 12, .inl (aI (fun _ => 0)))), (q2, .inl (cy 0, 144, .inl (aI (fun _ => 0))))] : va_W) := hD
    refine lv_aload_n hx hb dX4_init_45 rfl (lv_at hl 0 rfl) ?_
    refine k_sipush hx hb dX4_init_46 (by decide) ?_
    refine k_newT (ty := .int) hx hb rfl (hts (.arrayClass .int) (by decide +kernel)) rfl 0 rfl (fun _ _ => ra_int) hK hP hD hS hA (n := 144) (N := 144) rfl (by decide) (Nat.le_of_ble_eq_true rfl) (Nat.le_of_ble_eq_true rfl) (Nat.le_of_ble_eq_true rfl) dX4_init_49 (fun q3 H hP hD hS => ?_)
    have hP : va_P D vwCl ([(h0, .inr (3, [.int (iI 0), .int (iI 0), .int (iI 2000), .int (iI 2000), .ref q1, .ref q2, .null, .null, .null, .null, .null, .null])), (q1, .inl (cy 0, 12, .inl (aI (fun _ => 0)))), (q2, .inl (cy 0, 144, .inl (aI (fun _ => 0)))), (q3, .inl (cy 0, 144, .inl (aI (fun _ => 0))))] : va_W) H := hP
    have hD : va_D A ([(h0, .inr (3, [.int (iI 0), .int (iI 0), .int (iI 2000), .int (iI 2000), .ref q1, .ref q2, .null, .null, .null, .null, .null, .null])), (q1, .inl (cy 0, 12, .inl (aI (fun _ => 0)))), (q2, .inl (cy 0, 144, .inl (aI (fun _ => 0)))), (q3, .inl (cy 0, 144, .inl (aI (fun _ => 0))))] : va_W) := hD
    refine va_putF (D := D) (ci := 3) (v := .ref q3) (ty := (.array .int)) (C := RX4) (T := TX4) (N := 12) hx hb hts hinX4 tyX4 tyX4_ok nmX4 hown hK hP hD hS 0 rfl rfl 6 (by decide) (hts (.fieldLink RX4 31 "ArcPlate$Plate" "xs" "[I") (by decide +kernel)) (fun _ h9 => h9) rfl hin2 rfl (by decide +kernel) rfl rfl (Nat.le_of_ble_eq_true rfl) dX4_init_51 (fun H locs hP hD hS => ?_)
    have hP : va_P D vwCl ([(h0, .inr (3, [.int (iI 0), .int (iI 0), .int (iI 2000), .int (iI 2000), .ref q1, .ref q2, .ref q3, .null, .null, .null, .null, .null])), (q1, .inl (cy 0, 12, .inl (aI (fun _ => 0)))), (q2, .inl (cy 0, 144, .inl (aI (fun _ => 0)))), (q3, .inl (cy 0, 144, .inl (aI (fun _ => 0))))] : va_W) H := hP
    have hD : va_D A ([(h0, .inr (3, [.int (iI 0), .int (iI 0), .int (iI 2000), .int (iI 2000), .ref q1, .ref q2, .ref q3, .null, .null, .null, .null, .null])), (q1, .inl (cy 0, 12, .inl (aI (fun _ => 0)))), (q2, .inl (cy 0, 144, .inl (aI (fun _ => 0)))), (q3, .inl (cy 0, 144, .inl (aI (fun _ => 0))))] : va_W) := hD
    refine lv_aload_n hx hb dX4_init_54 rfl (lv_at hl 0 rfl) ?_
    refine k_sipush hx hb dX4_init_55 (by decide) ?_
    refine k_newT (ty := .int) hx hb rfl (hts (.arrayClass .int) (by decide +kernel)) rfl 0 rfl (fun _ _ => ra_int) hK hP hD hS hA (n := 144) (N := 144) rfl (by decide) (Nat.le_of_ble_eq_true rfl) (Nat.le_of_ble_eq_true rfl) (Nat.le_of_ble_eq_true rfl) dX4_init_58 (fun q4 H hP hD hS => ?_)
    have hP : va_P D vwCl ([(h0, .inr (3, [.int (iI 0), .int (iI 0), .int (iI 2000), .int (iI 2000), .ref q1, .ref q2, .ref q3, .null, .null, .null, .null, .null])), (q1, .inl (cy 0, 12, .inl (aI (fun _ => 0)))), (q2, .inl (cy 0, 144, .inl (aI (fun _ => 0)))), (q3, .inl (cy 0, 144, .inl (aI (fun _ => 0)))), (q4, .inl (cy 0, 144, .inl (aI (fun _ => 0))))] : va_W) H := hP
    have hD : va_D A ([(h0, .inr (3, [.int (iI 0), .int (iI 0), .int (iI 2000), .int (iI 2000), .ref q1, .ref q2, .ref q3, .null, .null, .null, .null, .null])), (q1, .inl (cy 0, 12, .inl (aI (fun _ => 0)))), (q2, .inl (cy 0, 144, .inl (aI (fun _ => 0)))), (q3, .inl (cy 0, 144, .inl (aI (fun _ => 0)))), (q4, .inl (cy 0, 144, .inl (aI (fun _ => 0))))] : va_W) := hD
    refine va_putF (D := D) (ci := 3) (v := .ref q4) (ty := (.array .int)) (C := RX4) (T := TX4) (N := 12) hx hb hts hinX4 tyX4 tyX4_ok nmX4 hown hK hP hD hS 0 rfl rfl 7 (by decide) (hts (.fieldLink RX4 34 "ArcPlate$Plate" "ys" "[I") (by decide +kernel)) (fun _ h9 => h9) rfl hin2 rfl (by decide +kernel) rfl rfl (Nat.le_of_ble_eq_true rfl) dX4_init_60 (fun H locs hP hD hS => ?_)
    have hP : va_P D vwCl ([(h0, .inr (3, [.int (iI 0), .int (iI 0), .int (iI 2000), .int (iI 2000), .ref q1, .ref q2, .ref q3, .ref q4, .null, .null, .null, .null])), (q1, .inl (cy 0, 12, .inl (aI (fun _ => 0)))), (q2, .inl (cy 0, 144, .inl (aI (fun _ => 0)))), (q3, .inl (cy 0, 144, .inl (aI (fun _ => 0)))), (q4, .inl (cy 0, 144, .inl (aI (fun _ => 0))))] : va_W) H := hP
    have hD : va_D A ([(h0, .inr (3, [.int (iI 0), .int (iI 0), .int (iI 2000), .int (iI 2000), .ref q1, .ref q2, .ref q3, .ref q4, .null, .null, .null, .null])), (q1, .inl (cy 0, 12, .inl (aI (fun _ => 0)))), (q2, .inl (cy 0, 144, .inl (aI (fun _ => 0)))), (q3, .inl (cy 0, 144, .inl (aI (fun _ => 0)))), (q4, .inl (cy 0, 144, .inl (aI (fun _ => 0))))] : va_W) := hD
    refine lv_aload_n hx hb dX4_init_63 rfl (lv_at hl 0 rfl) ?_
    refine k_bipush hx hb dX4_init_64 (by decide) ?_
    refine k_newT (ty := .int) hx hb rfl (hts (.arrayClass .int) (by decide +kernel)) rfl 0 rfl (fun _ _ => ra_int) hK hP hD hS hA (n := 12) (N := 12) rfl (by decide) (Nat.le_of_ble_eq_true rfl) (Nat.le_of_ble_eq_true rfl) (Nat.le_of_ble_eq_true rfl) dX4_init_66 (fun q5 H hP hD hS => ?_)
    have hP : va_P D vwCl ([(h0, .inr (3, [.int (iI 0), .int (iI 0), .int (iI 2000), .int (iI 2000), .ref q1, .ref q2, .ref q3, .ref q4, .null, .null, .null, .null])), (q1, .inl (cy 0, 12, .inl (aI (fun _ => 0)))), (q2, .inl (cy 0, 144, .inl (aI (fun _ => 0)))), (q3, .inl (cy 0, 144, .inl (aI (fun _ => 0)))), (q4, .inl (cy 0, 144, .inl (aI (fun _ => 0)))), (q5, .inl (cy 0, 12, .inl (aI (fun _ => 0))))] : va_W) H := hP
    have hD : va_D A ([(h0, .inr (3, [.int (iI 0), .int (iI 0), .int (iI 2000), .int (iI 2000), .ref q1, .ref q2, .ref q3, .ref q4, .null, .null, .null, .null])), (q1, .inl (cy 0, 12, .inl (aI (fun _ => 0)))), (q2, .inl (cy 0, 144, .inl (aI (fun _ => 0)))), (q3, .inl (cy 0, 144, .inl (aI (fun _ => 0)))), (q4, .inl (cy 0, 144, .inl (aI (fun _ => 0)))), (q5, .inl (cy 0, 12, .inl (aI (fun _ => 0))))] : va_W) := hD
    refine va_putF (D := D) (ci := 3) (v := .ref q5) (ty := (.array .int)) (C := RX4) (T := TX4) (N := 12) hx hb hts hinX4 tyX4 tyX4_ok nmX4 hown hK hP hD hS 0 rfl rfl 8 (by decide) (hts (.fieldLink RX4 37 "ArcPlate$Plate" "radii" "[I") (by decide +kernel)) (fun _ h9 => h9) rfl hin2 rfl (by decide +kernel) rfl rfl (Nat.le_of_ble_eq_true rfl) dX4_init_68 (fun H locs hP hD hS => ?_)
    have hP : va_P D vwCl ([(h0, .inr (3, [.int (iI 0), .int (iI 0), .int (iI 2000), .int (iI 2000), .ref q1, .ref q2, .ref q3, .ref q4, .ref q5, .null, .null, .null])), (q1, .inl (cy 0, 12, .inl (aI (fun _ => 0)))), (q2, .inl (cy 0, 144, .inl (aI (fun _ => 0)))), (q3, .inl (cy 0, 144, .inl (aI (fun _ => 0)))), (q4, .inl (cy 0, 144, .inl (aI (fun _ => 0)))), (q5, .inl (cy 0, 12, .inl (aI (fun _ => 0))))] : va_W) H := hP
    have hD : va_D A ([(h0, .inr (3, [.int (iI 0), .int (iI 0), .int (iI 2000), .int (iI 2000), .ref q1, .ref q2, .ref q3, .ref q4, .ref q5, .null, .null, .null])), (q1, .inl (cy 0, 12, .inl (aI (fun _ => 0)))), (q2, .inl (cy 0, 144, .inl (aI (fun _ => 0)))), (q3, .inl (cy 0, 144, .inl (aI (fun _ => 0)))), (q4, .inl (cy 0, 144, .inl (aI (fun _ => 0)))), (q5, .inl (cy 0, 12, .inl (aI (fun _ => 0))))] : va_W) := hD
    refine lv_aload_n hx hb dX4_init_71 rfl (lv_at hl 0 rfl) ?_
    refine k_bipush hx hb dX4_init_72 (by decide) ?_
    refine k_newT (ty := .int) hx hb rfl (hts (.arrayClass .int) (by decide +kernel)) rfl 0 rfl (fun _ _ => ra_int) hK hP hD hS hA (n := 12) (N := 12) rfl (by decide) (Nat.le_of_ble_eq_true rfl) (Nat.le_of_ble_eq_true rfl) (Nat.le_of_ble_eq_true rfl) dX4_init_74 (fun q6 H hP hD hS => ?_)
    have hP : va_P D vwCl ([(h0, .inr (3, [.int (iI 0), .int (iI 0), .int (iI 2000), .int (iI 2000), .ref q1, .ref q2, .ref q3, .ref q4, .ref q5, .null, .null, .null])), (q1, .inl (cy 0, 12, .inl (aI (fun _ => 0)))), (q2, .inl (cy 0, 144, .inl (aI (fun _ => 0)))), (q3, .inl (cy 0, 144, .inl (aI (fun _ => 0)))), (q4, .inl (cy 0, 144, .inl (aI (fun _ => 0)))), (q5, .inl (cy 0, 12, .inl (aI (fun _ => 0)))), (q6, .inl (cy 0, 12, .inl (aI (fun _ => 0))))] : va_W) H := hP
    have hD : va_D A ([(h0, .inr (3, [.int (iI 0), .int (iI 0), .int (iI 2000), .int (iI 2000), .ref q1, .ref q2, .ref q3, .ref q4, .ref q5, .null, .null, .null])), (q1, .inl (cy 0, 12, .inl (aI (fun _ => 0)))), (q2, .inl (cy 0, 144, .inl (aI (fun _ => 0)))), (q3, .inl (cy 0, 144, .inl (aI (fun _ => 0)))), (q4, .inl (cy 0, 144, .inl (aI (fun _ => 0)))), (q5, .inl (cy 0, 12, .inl (aI (fun _ => 0)))), (q6, .inl (cy 0, 12, .inl (aI (fun _ => 0))))] : va_W) := hD
    refine va_putF (D := D) (ci := 3) (v := .ref q6) (ty := (.array .int)) (C := RX4) (T := TX4) (N := 12) hx hb hts hinX4 tyX4 tyX4_ok nmX4 hown hK hP hD hS 0 rfl rfl 9 (by decide) (hts (.fieldLink RX4 40 "ArcPlate$Plate" "angles" "[I") (by decide +kernel)) (fun _ h9 => h9) rfl hin2 rfl (by decide +kernel) rfl rfl (Nat.le_of_ble_eq_true rfl) dX4_init_76 (fun H locs hP hD hS => ?_)
    have hP : va_P D vwCl ([(h0, .inr (3, [.int (iI 0), .int (iI 0), .int (iI 2000), .int (iI 2000), .ref q1, .ref q2, .ref q3, .ref q4, .ref q5, .ref q6, .null, .null])), (q1, .inl (cy 0, 12, .inl (aI (fun _ => 0)))), (q2, .inl (cy 0, 144, .inl (aI (fun _ => 0)))), (q3, .inl (cy 0, 144, .inl (aI (fun _ => 0)))), (q4, .inl (cy 0, 144, .inl (aI (fun _ => 0)))), (q5, .inl (cy 0, 12, .inl (aI (fun _ => 0)))), (q6, .inl (cy 0, 12, .inl (aI (fun _ => 0))))] : va_W) H := hP
    have hD : va_D A ([(h0, .inr (3, [.int (iI 0), .int (iI 0), .int (iI 2000), .int (iI 2000), .ref q1, .ref q2, .ref q3, .ref q4, .ref q5, .ref q6, .null, .null])), (q1, .inl (cy 0, 12, .inl (aI (fun _ => 0)))), (q2, .inl (cy 0, 144, .inl (aI (fun _ => 0)))), (q3, .inl (cy 0, 144, .inl (aI (fun _ => 0)))), (q4, .inl (cy 0, 144, .inl (aI (fun _ => 0)))), (q5, .inl (cy 0, 12, .inl (aI (fun _ => 0)))), (q6, .inl (cy 0, 12, .inl (aI (fun _ => 0))))] : va_W) := hD
    refine lv_aload_n hx hb dX4_init_79 rfl (lv_at hl 0 rfl) ?_
    refine k_bipush hx hb dX4_init_80 (by decide) ?_
    refine k_newT (ty := .int) hx hb rfl (hts (.arrayClass .int) (by decide +kernel)) rfl 0 rfl (fun _ _ => ra_int) hK hP hD hS hA (n := 12) (N := 12) rfl (by decide) (Nat.le_of_ble_eq_true rfl) (Nat.le_of_ble_eq_true rfl) (Nat.le_of_ble_eq_true rfl) dX4_init_82 (fun q7 H hP hD hS => ?_)
    have hP : va_P D vwCl ([(h0, .inr (3, [.int (iI 0), .int (iI 0), .int (iI 2000), .int (iI 2000), .ref q1, .ref q2, .ref q3, .ref q4, .ref q5, .ref q6, .null, .null])), (q1, .inl (cy 0, 12, .inl (aI (fun _ => 0)))), (q2, .inl (cy 0, 144, .inl (aI (fun _ => 0)))), (q3, .inl (cy 0, 144, .inl (aI (fun _ => 0)))), (q4, .inl (cy 0, 144, .inl (aI (fun _ => 0)))), (q5, .inl (cy 0, 12, .inl (aI (fun _ => 0)))), (q6, .inl (cy 0, 12, .inl (aI (fun _ => 0)))), (q7, .inl (cy 0, 12, .inl (aI (fun _ => 0))))] : va_W) H := hP
    have hD : va_D A ([(h0, .inr (3, [.int (iI 0), .int (iI 0), .int (iI 2000), .int (iI 2000), .ref q1, .ref q2, .ref q3, .ref q4, .ref q5, .ref q6, .null, .null])), (q1, .inl (cy 0, 12, .inl (aI (fun _ => 0)))), (q2, .inl (cy 0, 144, .inl (aI (fun _ => 0)))), (q3, .inl (cy 0, 144, .inl (aI (fun _ => 0)))), (q4, .inl (cy 0, 144, .inl (aI (fun _ => 0)))), (q5, .inl (cy 0, 12, .inl (aI (fun _ => 0)))), (q6, .inl (cy 0, 12, .inl (aI (fun _ => 0)))), (q7, .inl (cy 0, 12, .inl (aI (fun _ => 0))))] : va_W) := hD
    refine va_putF (D := D) (ci := 3) (v := .ref q7) (ty := (.array .int)) (C := RX4) (T := TX4) (N := 12) hx hb hts hinX4 tyX4 tyX4_ok nmX4 hown hK hP hD hS 0 rfl rfl 10 (by decide) (hts (.fieldLink RX4 43 "ArcPlate$Plate" "lights" "[I") (by decide +kernel)) (fun _ h9 => h9) rfl hin2 rfl (by decide +kernel) rfl rfl (Nat.le_of_ble_eq_true rfl) dX4_init_84 (fun H locs hP hD hS => ?_)
    have hP : va_P D vwCl ([(h0, .inr (3, [.int (iI 0), .int (iI 0), .int (iI 2000), .int (iI 2000), .ref q1, .ref q2, .ref q3, .ref q4, .ref q5, .ref q6, .ref q7, .null])), (q1, .inl (cy 0, 12, .inl (aI (fun _ => 0)))), (q2, .inl (cy 0, 144, .inl (aI (fun _ => 0)))), (q3, .inl (cy 0, 144, .inl (aI (fun _ => 0)))), (q4, .inl (cy 0, 144, .inl (aI (fun _ => 0)))), (q5, .inl (cy 0, 12, .inl (aI (fun _ => 0)))), (q6, .inl (cy 0, 12, .inl (aI (fun _ => 0)))), (q7, .inl (cy 0, 12, .inl (aI (fun _ => 0))))] : va_W) H := hP
    have hD : va_D A ([(h0, .inr (3, [.int (iI 0), .int (iI 0), .int (iI 2000), .int (iI 2000), .ref q1, .ref q2, .ref q3, .ref q4, .ref q5, .ref q6, .ref q7, .null])), (q1, .inl (cy 0, 12, .inl (aI (fun _ => 0)))), (q2, .inl (cy 0, 144, .inl (aI (fun _ => 0)))), (q3, .inl (cy 0, 144, .inl (aI (fun _ => 0)))), (q4, .inl (cy 0, 144, .inl (aI (fun _ => 0)))), (q5, .inl (cy 0, 12, .inl (aI (fun _ => 0)))), (q6, .inl (cy 0, 12, .inl (aI (fun _ => 0)))), (q7, .inl (cy 0, 12, .inl (aI (fun _ => 0))))] : va_W) := hD
    refine lv_aload_n hx hb dX4_init_87 rfl (lv_at hl 0 rfl) ?_
    obtain ⟨t, hZt, hTt⟩ := hG.2.2.2
    refine va_gets hx hb hZt hS hown (hts (.fieldLink RX4 46 "ArcPlate$Plate" "AT_FIRST" "[I") (by decide +kernel)) (fun _ h9 => h9) dX4_init_88 ?_
    refine k_cloneT hx hb (hml.trans hl.1.symm) hown (hts (.methodLink RX4 49 ⟨"[I", "clone", "()Ljava/lang/Object;"⟩) (by decide +kernel)) (hts (.sameMethod "[I" "java/lang/Object" "clone" "()Ljava/lang/Object;") (by decide +kernel)) (hts (.native ⟨"java/lang/Object", "clone", "()Ljava/lang/Object;"⟩) (by decide +kernel)) (hts (.instanceMethod ⟨"java/lang/Object", "clone", "()Ljava/lang/Object;"⟩) (by decide +kernel)) (hts (.selects "[I" ⟨"[I", "clone", "()Ljava/lang/Object;"⟩ ⟨"java/lang/Object", "clone", "()Ljava/lang/Object;"⟩) (by decide +kernel)) hG.2.1 hK hP hD hS hA hTt (Nat.le_of_ble_eq_true rfl) (Nat.le_of_ble_eq_true rfl) (Nat.le_of_ble_eq_true rfl) (Nat.le_of_ble_eq_true rfl) dX4_init_91 (fun q8 H hP hD hS => ?_)
    have hP : va_P D vwCl ([(h0, .inr (3, [.int (iI 0), .int (iI 0), .int (iI 2000), .int (iI 2000), .ref q1, .ref q2, .ref q3, .ref q4, .ref q5, .ref q6, .ref q7, .null])), (q1, .inl (cy 0, 12, .inl (aI (fun _ => 0)))), (q2, .inl (cy 0, 144, .inl (aI (fun _ => 0)))), (q3, .inl (cy 0, 144, .inl (aI (fun _ => 0)))), (q4, .inl (cy 0, 144, .inl (aI (fun _ => 0)))), (q5, .inl (cy 0, 12, .inl (aI (fun _ => 0)))), (q6, .inl (cy 0, 12, .inl (aI (fun _ => 0)))), (q7, .inl (cy 0, 12, .inl (aI (fun _ => 0)))), (q8, .inl (cy 0, 10, .inl (aI (atFirst))))] : va_W) H := hP
    have hD : va_D A ([(h0, .inr (3, [.int (iI 0), .int (iI 0), .int (iI 2000), .int (iI 2000), .ref q1, .ref q2, .ref q3, .ref q4, .ref q5, .ref q6, .ref q7, .null])), (q1, .inl (cy 0, 12, .inl (aI (fun _ => 0)))), (q2, .inl (cy 0, 144, .inl (aI (fun _ => 0)))), (q3, .inl (cy 0, 144, .inl (aI (fun _ => 0)))), (q4, .inl (cy 0, 144, .inl (aI (fun _ => 0)))), (q5, .inl (cy 0, 12, .inl (aI (fun _ => 0)))), (q6, .inl (cy 0, 12, .inl (aI (fun _ => 0)))), (q7, .inl (cy 0, 12, .inl (aI (fun _ => 0)))), (q8, .inl (cy 0, 10, .inl (aI (atFirst))))] : va_W) := hD
    refine va_castA hx hb hown (hts (.classLink RX4 50 "[I") (by decide +kernel)) hP 8 rfl (nm_int hK) dX4_init_94 ?_
    refine va_putF (D := D) (ci := 3) (v := .ref q8) (ty := (.array .int)) (C := RX4) (T := TX4) (N := 12) hx hb hts hinX4 tyX4 tyX4_ok nmX4 hown hK hP hD hS 0 rfl rfl 11 (by decide) (hts (.fieldLink RX4 54 "ArcPlate$Plate" "settings" "[I") (by decide +kernel)) (fun _ h9 => h9) rfl hin2 rfl (by decide +kernel) rfl rfl (Nat.le_of_ble_eq_true rfl) dX4_init_97 (fun H locs hP hD hS => ?_)
    have hP : va_P D vwCl ([(h0, .inr (3, [.int (iI 0), .int (iI 0), .int (iI 2000), .int (iI 2000), .ref q1, .ref q2, .ref q3, .ref q4, .ref q5, .ref q6, .ref q7, .ref q8])), (q1, .inl (cy 0, 12, .inl (aI (fun _ => 0)))), (q2, .inl (cy 0, 144, .inl (aI (fun _ => 0)))), (q3, .inl (cy 0, 144, .inl (aI (fun _ => 0)))), (q4, .inl (cy 0, 144, .inl (aI (fun _ => 0)))), (q5, .inl (cy 0, 12, .inl (aI (fun _ => 0)))), (q6, .inl (cy 0, 12, .inl (aI (fun _ => 0)))), (q7, .inl (cy 0, 12, .inl (aI (fun _ => 0)))), (q8, .inl (cy 0, 10, .inl (aI (atFirst))))] : va_W) H := hP
    have hD : va_D A ([(h0, .inr (3, [.int (iI 0), .int (iI 0), .int (iI 2000), .int (iI 2000), .ref q1, .ref q2, .ref q3, .ref q4, .ref q5, .ref q6, .ref q7, .ref q8])), (q1, .inl (cy 0, 12, .inl (aI (fun _ => 0)))), (q2, .inl (cy 0, 144, .inl (aI (fun _ => 0)))), (q3, .inl (cy 0, 144, .inl (aI (fun _ => 0)))), (q4, .inl (cy 0, 144, .inl (aI (fun _ => 0)))), (q5, .inl (cy 0, 12, .inl (aI (fun _ => 0)))), (q6, .inl (cy 0, 12, .inl (aI (fun _ => 0)))), (q7, .inl (cy 0, 12, .inl (aI (fun _ => 0)))), (q8, .inl (cy 0, 10, .inl (aI (atFirst))))] : va_W) := hD
    have hP9 : va_P D vwCl (plW cy (fun i => [h0, q1, q2, q3, q4, q5, q6, q7, q8].getD (i - 0) 0) pl0) H := hP
    have hD9 : va_D A (plW cy (fun i => [h0, q1, q2, q3, q4, q5, q6, q7, q8].getD (i - 0) 0) pl0) := hD
    exact W.vret hx hb hr (fun t9 ht _ => ⟨⟨(fun i => [h0, q1, q2, q3, q4, q5, q6, q7, q8].getD (i - 0) 0), rfl, rfl, by rw [ht]; exact hP9, by rw [hAe]; exact hD9⟩, by rw [hAe]; exact hS.F ht⟩) (by rw [hAe]; exact hS.2.2) dX4_init_100 hlocks
  exact hbody _ s.heap [] hA hG hP hD hS rfl
set_option maxHeartbeats 4000000 in
set_option maxRecDepth 100000 in
theorem c_X1_init (l : Launch) (D : va_G) (cy : Nat → ClassId) (sz : Nat) (h0 : Nat) : Met l yX1_init wsX1_init { frames := 2, cells := 8, slots := 96, locals := 80 } (mPre (GI D cy) D [(h0, .inr (0, [.null, .null, .null, .null, .null, .null, .null, .null]))] sz [.ref h0]) (kQv D [(h0, .inr (0, [.null, .null, .null, .null, .null, .null, .null, .null]))] sz (fun a : Nat → Nat => fgW cy a zr0) (fun a => a 20 = h0)) 8 96 (va_A [(h0, .inr (0, [.null, .null, .null, .null, .null, .null, .null, .null]))] sz) := by
  refine kM_start (cc := cX1_init) (maxL := 1) (ret := none) (by decide) rfl (Nat.le_of_ble_eq_true rfl) ?_
  intro p e s m below meth c hx hb hr hlocks hml hts hown hsz hA hG hP hD hS hin ls hl
  have hK := hG.1.1
  have hin2 := hin rfl
  have hl : lv_has ls 1 [(0, .ref h0)] := hl
  have hinX1 : ∀ w ∈ u_ws RX1 TX1 8, w ∈ wsX1_init := by decide +kernel
  have hbody : ∀ (A : Nat → Prop) (H : Heap) (locs : List Loc) (hA : ∀ q : Nat, s.heap.size ≤ q → A q) (hG : GI D cy A s s.heap) (hP : va_P D vwCl [(h0, .inr (0, [.null, .null, .null, .null, .null, .null, .null, .null]))] H) (hD : va_D A [(h0, .inr (0, [.null, .null, .null, .null, .null, .null, .null, .null]))]) (hS : va_S A s.heap H locs) (hAe : va_A [(h0, .inr (0, [.null, .null, .null, .null, .null, .null, .null, .null]))] sz = A), W p l e { frames := 2, cells := 8, slots := 96, locals := 80 } s m ([Value.ref h0] : List Value).toArray below meth c H locs 0 0 (MQ below (kQv D [(h0, .inr (0, [.null, .null, .null, .null, .null, .null, .null, .null]))] sz (fun a : Nat → Nat => fgW cy a zr0) (fun a => a 20 = h0)) ([Value.ref h0] : List Value).toArray s 8 96 (va_A [(h0, .inr (0, [.null, .null, .null, .null, .null, .null, .null, .null]))] sz)) (F0 m 0 ls []) := by
    intro A H locs hA hG hP hD hS hAe
    refine lv_aload_n hx hb dX1_init_0 rfl (lv_at hl 0 rfl) ?_
    refine W.objInit hx hb hown (hts (.methodLink RX1 3 objectInit) (by decide +kernel)) (hts (.instanceMethod objectInit) (by decide +kernel)) (hts _ (List.mem_of_getElem? (i := 3) rfl)) rfl (by rw [hml]; exact hl.1) rfl dX1_init_1 (Nat.le_of_ble_eq_true rfl) (Nat.le_of_ble_eq_true rfl) ?_
    refine W.eq (g2 := F0 m 4 ls []) rfl ?_
    refine lv_aload_n hx hb dX1_init_4 rfl (lv_at hl 0 rfl) ?_
    refine k_bipush hx hb dX1_init_5 (by decide) ?_
    refine k_newT (ty := .int) hx hb rfl (hts (.arrayClass .int) (by decide +kernel)) rfl 0 rfl (fun _ _ => ra_int) hK hP hD hS hA (n := 12) (N := 12) rfl (by decide) (Nat.le_of_ble_eq_true rfl) (Nat.le_of_ble_eq_true rfl) (Nat.le_of_ble_eq_true rfl) dX1_init_7 (fun q1 H hP hD hS => ?_)
    have hP : va_P D vwCl ([(h0, .inr (0, [.null, .null, .null, .null, .null, .null, .null, .null])), (q1, .inl (cy 0, 12, .inl (aI (fun _ => 0))))] : va_W) H := hP
    have hD : va_D A ([(h0, .inr (0, [.null, .null, .null, .null, .null, .null, .null, .null])), (q1, .inl (cy 0, 12, .inl (aI (fun _ => 0))))] : va_W) := hD
    refine va_putF (D := D) (ci := 0) (v := .ref q1) (ty := (.array .int)) (C := RX1) (T := TX1) (N := 8) hx hb hts hinX1 tyX1 tyX1_ok nmX1 hown hK hP hD hS 0 rfl rfl 0 (by decide) (hts (.fieldLink RX1 9 "ArcPlate$Figures" "radius" "[I") (by decide +kernel)) (fun _ h9 => h9) rfl hin2 rfl (by decide +kernel) rfl rfl (Nat.le_of_ble_eq_true rfl) dX1_init_9 (fun H locs hP hD hS => ?_)
    have hP : va_P D vwCl ([(h0, .inr (0, [.ref q1, .null, .null, .null, .null, .null, .null, .null])), (q1, .inl (cy 0, 12, .inl (aI (fun _ => 0))))] : va_W) H := hP
    have hD : va_D A ([(h0, .inr (0, [.ref q1, .null, .null, .null, .null, .null, .null, .null])), (q1, .inl (cy 0, 12, .inl (aI (fun _ => 0))))] : va_W) := hD
    refine lv_aload_n hx hb dX1_init_12 rfl (lv_at hl 0 rfl) ?_
    refine k_bipush hx hb dX1_init_13 (by decide) ?_
    refine k_newT (ty := .int) hx hb rfl (hts (.arrayClass .int) (by decide +kernel)) rfl 0 rfl (fun _ _ => ra_int) hK hP hD hS hA (n := 12) (N := 12) rfl (by decide) (Nat.le_of_ble_eq_true rfl) (Nat.le_of_ble_eq_true rfl) (Nat.le_of_ble_eq_true rfl) dX1_init_15 (fun q2 H hP hD hS => ?_)
    have hP : va_P D vwCl ([(h0, .inr (0, [.ref q1, .null, .null, .null, .null, .null, .null, .null])), (q1, .inl (cy 0, 12, .inl (aI (fun _ => 0)))), (q2, .inl (cy 0, 12, .inl (aI (fun _ => 0))))] : va_W) H := hP
    have hD : va_D A ([(h0, .inr (0, [.ref q1, .null, .null, .null, .null, .null, .null, .null])), (q1, .inl (cy 0, 12, .inl (aI (fun _ => 0)))), (q2, .inl (cy 0, 12, .inl (aI (fun _ => 0))))] : va_W) := hD
    refine va_putF (D := D) (ci := 0) (v := .ref q2) (ty := (.array .int)) (C := RX1) (T := TX1) (N := 8) hx hb hts hinX1 tyX1 tyX1_ok nmX1 hown hK hP hD hS 0 rfl rfl 1 (by decide) (hts (.fieldLink RX1 15 "ArcPlate$Figures" "spread" "[I") (by decide +kernel)) (fun _ h9 => h9) rfl hin2 rfl (by decide +kernel) rfl rfl (Nat.le_of_ble_eq_true rfl) dX1_init_17 (fun H locs hP hD hS => ?_)
    have hP : va_P D vwCl ([(h0, .inr (0, [.ref q1, .ref q2, .null, .null, .null, .null, .null, .null])), (q1, .inl (cy 0, 12, .inl (aI (fun _ => 0)))), (q2, .inl (cy 0, 12, .inl (aI (fun _ => 0))))] : va_W) H := hP
    have hD : va_D A ([(h0, .inr (0, [.ref q1, .ref q2, .null, .null, .null, .null, .null, .null])), (q1, .inl (cy 0, 12, .inl (aI (fun _ => 0)))), (q2, .inl (cy 0, 12, .inl (aI (fun _ => 0))))] : va_W) := hD
    refine lv_aload_n hx hb dX1_init_20 rfl (lv_at hl 0 rfl) ?_
    refine k_bipush hx hb dX1_init_21 (by decide) ?_
    refine k_newT (ty := .int) hx hb rfl (hts (.arrayClass .int) (by decide +kernel)) rfl 0 rfl (fun _ _ => ra_int) hK hP hD hS hA (n := 12) (N := 12) rfl (by decide) (Nat.le_of_ble_eq_true rfl) (Nat.le_of_ble_eq_true rfl) (Nat.le_of_ble_eq_true rfl) dX1_init_23 (fun q3 H hP hD hS => ?_)
    have hP : va_P D vwCl ([(h0, .inr (0, [.ref q1, .ref q2, .null, .null, .null, .null, .null, .null])), (q1, .inl (cy 0, 12, .inl (aI (fun _ => 0)))), (q2, .inl (cy 0, 12, .inl (aI (fun _ => 0)))), (q3, .inl (cy 0, 12, .inl (aI (fun _ => 0))))] : va_W) H := hP
    have hD : va_D A ([(h0, .inr (0, [.ref q1, .ref q2, .null, .null, .null, .null, .null, .null])), (q1, .inl (cy 0, 12, .inl (aI (fun _ => 0)))), (q2, .inl (cy 0, 12, .inl (aI (fun _ => 0)))), (q3, .inl (cy 0, 12, .inl (aI (fun _ => 0))))] : va_W) := hD
    refine va_putF (D := D) (ci := 0) (v := .ref q3) (ty := (.array .int)) (C := RX1) (T := TX1) (N := 8) hx hb hts hinX1 tyX1 tyX1_ok nmX1 hown hK hP hD hS 0 rfl rfl 2 (by decide) (hts (.fieldLink RX1 18 "ArcPlate$Figures" "sweep" "[I") (by decide +kernel)) (fun _ h9 => h9) rfl hin2 rfl (by decide +kernel) rfl rfl (Nat.le_of_ble_eq_true rfl) dX1_init_25 (fun H locs hP hD hS => ?_)
    have hP : va_P D vwCl ([(h0, .inr (0, [.ref q1, .ref q2, .ref q3, .null, .null, .null, .null, .null])), (q1, .inl (cy 0, 12, .inl (aI (fun _ => 0)))), (q2, .inl (cy 0, 12, .inl (aI (fun _ => 0)))), (q3, .inl (cy 0, 12, .inl (aI (fun _ => 0))))] : va_W) H := hP
    have hD : va_D A ([(h0, .inr (0, [.ref q1, .ref q2, .ref q3, .null, .null, .null, .null, .null])), (q1, .inl (cy 0, 12, .inl (aI (fun _ => 0)))), (q2, .inl (cy 0, 12, .inl (aI (fun _ => 0)))), (q3, .inl (cy 0, 12, .inl (aI (fun _ => 0))))] : va_W) := hD
    refine lv_aload_n hx hb dX1_init_28 rfl (lv_at hl 0 rfl) ?_
    refine k_bipush hx hb dX1_init_29 (by decide) ?_
    refine k_newT (ty := .int) hx hb rfl (hts (.arrayClass .int) (by decide +kernel)) rfl 0 rfl (fun _ _ => ra_int) hK hP hD hS hA (n := 12) (N := 12) rfl (by decide) (Nat.le_of_ble_eq_true rfl) (Nat.le_of_ble_eq_true rfl) (Nat.le_of_ble_eq_true rfl) dX1_init_31 (fun q4 H hP hD hS => ?_)
    have hP : va_P D vwCl ([(h0, .inr (0, [.ref q1, .ref q2, .ref q3, .null, .null, .null, .null, .null])), (q1, .inl (cy 0, 12, .inl (aI (fun _ => 0)))), (q2, .inl (cy 0, 12, .inl (aI (fun _ => 0)))), (q3, .inl (cy 0, 12, .inl (aI (fun _ => 0)))), (q4, .inl (cy 0, 12, .inl (aI (fun _ => 0))))] : va_W) H := hP
    have hD : va_D A ([(h0, .inr (0, [.ref q1, .ref q2, .ref q3, .null, .null, .null, .null, .null])), (q1, .inl (cy 0, 12, .inl (aI (fun _ => 0)))), (q2, .inl (cy 0, 12, .inl (aI (fun _ => 0)))), (q3, .inl (cy 0, 12, .inl (aI (fun _ => 0)))), (q4, .inl (cy 0, 12, .inl (aI (fun _ => 0))))] : va_W) := hD
    refine va_putF (D := D) (ci := 0) (v := .ref q4) (ty := (.array .int)) (C := RX1) (T := TX1) (N := 8) hx hb hts hinX1 tyX1 tyX1_ok nmX1 hown hK hP hD hS 0 rfl rfl 3 (by decide) (hts (.fieldLink RX1 21 "ArcPlate$Figures" "expected" "[I") (by decide +kernel)) (fun _ h9 => h9) rfl hin2 rfl (by decide +kernel) rfl rfl (Nat.le_of_ble_eq_true rfl) dX1_init_33 (fun H locs hP hD hS => ?_)
    have hP : va_P D vwCl ([(h0, .inr (0, [.ref q1, .ref q2, .ref q3, .ref q4, .null, .null, .null, .null])), (q1, .inl (cy 0, 12, .inl (aI (fun _ => 0)))), (q2, .inl (cy 0, 12, .inl (aI (fun _ => 0)))), (q3, .inl (cy 0, 12, .inl (aI (fun _ => 0)))), (q4, .inl (cy 0, 12, .inl (aI (fun _ => 0))))] : va_W) H := hP
    have hD : va_D A ([(h0, .inr (0, [.ref q1, .ref q2, .ref q3, .ref q4, .null, .null, .null, .null])), (q1, .inl (cy 0, 12, .inl (aI (fun _ => 0)))), (q2, .inl (cy 0, 12, .inl (aI (fun _ => 0)))), (q3, .inl (cy 0, 12, .inl (aI (fun _ => 0)))), (q4, .inl (cy 0, 12, .inl (aI (fun _ => 0))))] : va_W) := hD
    refine lv_aload_n hx hb dX1_init_36 rfl (lv_at hl 0 rfl) ?_
    refine k_bipush hx hb dX1_init_37 (by decide) ?_
    refine k_newT (ty := .int) hx hb rfl (hts (.arrayClass .int) (by decide +kernel)) rfl 0 rfl (fun _ _ => ra_int) hK hP hD hS hA (n := 12) (N := 12) rfl (by decide) (Nat.le_of_ble_eq_true rfl) (Nat.le_of_ble_eq_true rfl) (Nat.le_of_ble_eq_true rfl) dX1_init_39 (fun q5 H hP hD hS => ?_)
    have hP : va_P D vwCl ([(h0, .inr (0, [.ref q1, .ref q2, .ref q3, .ref q4, .null, .null, .null, .null])), (q1, .inl (cy 0, 12, .inl (aI (fun _ => 0)))), (q2, .inl (cy 0, 12, .inl (aI (fun _ => 0)))), (q3, .inl (cy 0, 12, .inl (aI (fun _ => 0)))), (q4, .inl (cy 0, 12, .inl (aI (fun _ => 0)))), (q5, .inl (cy 0, 12, .inl (aI (fun _ => 0))))] : va_W) H := hP
    have hD : va_D A ([(h0, .inr (0, [.ref q1, .ref q2, .ref q3, .ref q4, .null, .null, .null, .null])), (q1, .inl (cy 0, 12, .inl (aI (fun _ => 0)))), (q2, .inl (cy 0, 12, .inl (aI (fun _ => 0)))), (q3, .inl (cy 0, 12, .inl (aI (fun _ => 0)))), (q4, .inl (cy 0, 12, .inl (aI (fun _ => 0)))), (q5, .inl (cy 0, 12, .inl (aI (fun _ => 0))))] : va_W) := hD
    refine va_putF (D := D) (ci := 0) (v := .ref q5) (ty := (.array .int)) (C := RX1) (T := TX1) (N := 8) hx hb hts hinX1 tyX1 tyX1_ok nmX1 hown hK hP hD hS 0 rfl rfl 4 (by decide) (hts (.fieldLink RX1 24 "ArcPlate$Figures" "misfit" "[I") (by decide +kernel)) (fun _ h9 => h9) rfl hin2 rfl (by decide +kernel) rfl rfl (Nat.le_of_ble_eq_true rfl) dX1_init_41 (fun H locs hP hD hS => ?_)
    have hP : va_P D vwCl ([(h0, .inr (0, [.ref q1, .ref q2, .ref q3, .ref q4, .ref q5, .null, .null, .null])), (q1, .inl (cy 0, 12, .inl (aI (fun _ => 0)))), (q2, .inl (cy 0, 12, .inl (aI (fun _ => 0)))), (q3, .inl (cy 0, 12, .inl (aI (fun _ => 0)))), (q4, .inl (cy 0, 12, .inl (aI (fun _ => 0)))), (q5, .inl (cy 0, 12, .inl (aI (fun _ => 0))))] : va_W) H := hP
    have hD : va_D A ([(h0, .inr (0, [.ref q1, .ref q2, .ref q3, .ref q4, .ref q5, .null, .null, .null])), (q1, .inl (cy 0, 12, .inl (aI (fun _ => 0)))), (q2, .inl (cy 0, 12, .inl (aI (fun _ => 0)))), (q3, .inl (cy 0, 12, .inl (aI (fun _ => 0)))), (q4, .inl (cy 0, 12, .inl (aI (fun _ => 0)))), (q5, .inl (cy 0, 12, .inl (aI (fun _ => 0))))] : va_W) := hD
    refine lv_aload_n hx hb dX1_init_44 rfl (lv_at hl 0 rfl) ?_
    refine k_bipush hx hb dX1_init_45 (by decide) ?_
    refine k_newT (ty := .int) hx hb rfl (hts (.arrayClass .int) (by decide +kernel)) rfl 0 rfl (fun _ _ => ra_int) hK hP hD hS hA (n := 12) (N := 12) rfl (by decide) (Nat.le_of_ble_eq_true rfl) (Nat.le_of_ble_eq_true rfl) (Nat.le_of_ble_eq_true rfl) dX1_init_47 (fun q6 H hP hD hS => ?_)
    have hP : va_P D vwCl ([(h0, .inr (0, [.ref q1, .ref q2, .ref q3, .ref q4, .ref q5, .null, .null, .null])), (q1, .inl (cy 0, 12, .inl (aI (fun _ => 0)))), (q2, .inl (cy 0, 12, .inl (aI (fun _ => 0)))), (q3, .inl (cy 0, 12, .inl (aI (fun _ => 0)))), (q4, .inl (cy 0, 12, .inl (aI (fun _ => 0)))), (q5, .inl (cy 0, 12, .inl (aI (fun _ => 0)))), (q6, .inl (cy 0, 12, .inl (aI (fun _ => 0))))] : va_W) H := hP
    have hD : va_D A ([(h0, .inr (0, [.ref q1, .ref q2, .ref q3, .ref q4, .ref q5, .null, .null, .null])), (q1, .inl (cy 0, 12, .inl (aI (fun _ => 0)))), (q2, .inl (cy 0, 12, .inl (aI (fun _ => 0)))), (q3, .inl (cy 0, 12, .inl (aI (fun _ => 0)))), (q4, .inl (cy 0, 12, .inl (aI (fun _ => 0)))), (q5, .inl (cy 0, 12, .inl (aI (fun _ => 0)))), (q6, .inl (cy 0, 12, .inl (aI (fun _ => 0))))] : va_W) := hD
    refine va_putF (D := D) (ci := 0) (v := .ref q6) (ty := (.array .int)) (C := RX1) (T := TX1) (N := 8) hx hb hts hinX1 tyX1 tyX1_ok nmX1 hown hK hP hD hS 0 rfl rfl 5 (by decide) (hts (.fieldLink RX1 27 "ArcPlate$Figures" "gaps" "[I") (by decide +kernel)) (fun _ h9 => h9) rfl hin2 rfl (by decide +kernel) rfl rfl (Nat.le_of_ble_eq_true rfl) dX1_init_49 (fun H locs hP hD hS => ?_)
    have hP : va_P D vwCl ([(h0, .inr (0, [.ref q1, .ref q2, .ref q3, .ref q4, .ref q5, .ref q6, .null, .null])), (q1, .inl (cy 0, 12, .inl (aI (fun _ => 0)))), (q2, .inl (cy 0, 12, .inl (aI (fun _ => 0)))), (q3, .inl (cy 0, 12, .inl (aI (fun _ => 0)))), (q4, .inl (cy 0, 12, .inl (aI (fun _ => 0)))), (q5, .inl (cy 0, 12, .inl (aI (fun _ => 0)))), (q6, .inl (cy 0, 12, .inl (aI (fun _ => 0))))] : va_W) H := hP
    have hD : va_D A ([(h0, .inr (0, [.ref q1, .ref q2, .ref q3, .ref q4, .ref q5, .ref q6, .null, .null])), (q1, .inl (cy 0, 12, .inl (aI (fun _ => 0)))), (q2, .inl (cy 0, 12, .inl (aI (fun _ => 0)))), (q3, .inl (cy 0, 12, .inl (aI (fun _ => 0)))), (q4, .inl (cy 0, 12, .inl (aI (fun _ => 0)))), (q5, .inl (cy 0, 12, .inl (aI (fun _ => 0)))), (q6, .inl (cy 0, 12, .inl (aI (fun _ => 0))))] : va_W) := hD
    refine lv_aload_n hx hb dX1_init_52 rfl (lv_at hl 0 rfl) ?_
    refine k_bipush hx hb dX1_init_53 (by decide) ?_
    refine k_newT (ty := .int) hx hb rfl (hts (.arrayClass .int) (by decide +kernel)) rfl 0 rfl (fun _ _ => ra_int) hK hP hD hS hA (n := 12) (N := 12) rfl (by decide) (Nat.le_of_ble_eq_true rfl) (Nat.le_of_ble_eq_true rfl) (Nat.le_of_ble_eq_true rfl) dX1_init_55 (fun q7 H hP hD hS => ?_)
    have hP : va_P D vwCl ([(h0, .inr (0, [.ref q1, .ref q2, .ref q3, .ref q4, .ref q5, .ref q6, .null, .null])), (q1, .inl (cy 0, 12, .inl (aI (fun _ => 0)))), (q2, .inl (cy 0, 12, .inl (aI (fun _ => 0)))), (q3, .inl (cy 0, 12, .inl (aI (fun _ => 0)))), (q4, .inl (cy 0, 12, .inl (aI (fun _ => 0)))), (q5, .inl (cy 0, 12, .inl (aI (fun _ => 0)))), (q6, .inl (cy 0, 12, .inl (aI (fun _ => 0)))), (q7, .inl (cy 0, 12, .inl (aI (fun _ => 0))))] : va_W) H := hP
    have hD : va_D A ([(h0, .inr (0, [.ref q1, .ref q2, .ref q3, .ref q4, .ref q5, .ref q6, .null, .null])), (q1, .inl (cy 0, 12, .inl (aI (fun _ => 0)))), (q2, .inl (cy 0, 12, .inl (aI (fun _ => 0)))), (q3, .inl (cy 0, 12, .inl (aI (fun _ => 0)))), (q4, .inl (cy 0, 12, .inl (aI (fun _ => 0)))), (q5, .inl (cy 0, 12, .inl (aI (fun _ => 0)))), (q6, .inl (cy 0, 12, .inl (aI (fun _ => 0)))), (q7, .inl (cy 0, 12, .inl (aI (fun _ => 0))))] : va_W) := hD
    refine va_putF (D := D) (ci := 0) (v := .ref q7) (ty := (.array .int)) (C := RX1) (T := TX1) (N := 8) hx hb hts hinX1 tyX1 tyX1_ok nmX1 hown hK hP hD hS 0 rfl rfl 6 (by decide) (hts (.fieldLink RX1 30 "ArcPlate$Figures" "firstAngle" "[I") (by decide +kernel)) (fun _ h9 => h9) rfl hin2 rfl (by decide +kernel) rfl rfl (Nat.le_of_ble_eq_true rfl) dX1_init_57 (fun H locs hP hD hS => ?_)
    have hP : va_P D vwCl ([(h0, .inr (0, [.ref q1, .ref q2, .ref q3, .ref q4, .ref q5, .ref q6, .ref q7, .null])), (q1, .inl (cy 0, 12, .inl (aI (fun _ => 0)))), (q2, .inl (cy 0, 12, .inl (aI (fun _ => 0)))), (q3, .inl (cy 0, 12, .inl (aI (fun _ => 0)))), (q4, .inl (cy 0, 12, .inl (aI (fun _ => 0)))), (q5, .inl (cy 0, 12, .inl (aI (fun _ => 0)))), (q6, .inl (cy 0, 12, .inl (aI (fun _ => 0)))), (q7, .inl (cy 0, 12, .inl (aI (fun _ => 0))))] : va_W) H := hP
    have hD : va_D A ([(h0, .inr (0, [.ref q1, .ref q2, .ref q3, .ref q4, .ref q5, .ref q6, .ref q7, .null])), (q1, .inl (cy 0, 12, .inl (aI (fun _ => 0)))), (q2, .inl (cy 0, 12, .inl (aI (fun _ => 0)))), (q3, .inl (cy 0, 12, .inl (aI (fun _ => 0)))), (q4, .inl (cy 0, 12, .inl (aI (fun _ => 0)))), (q5, .inl (cy 0, 12, .inl (aI (fun _ => 0)))), (q6, .inl (cy 0, 12, .inl (aI (fun _ => 0)))), (q7, .inl (cy 0, 12, .inl (aI (fun _ => 0))))] : va_W) := hD
    refine lv_aload_n hx hb dX1_init_60 rfl (lv_at hl 0 rfl) ?_
    refine k_bipush hx hb dX1_init_61 (by decide) ?_
    refine k_newT (ty := .boolean) hx hb rfl (hts (.arrayClass .boolean) (by decide +kernel)) rfl 2 rfl (fun _ _ => ra_bool) hK hP hD hS hA (n := 12) (N := 12) rfl (by decide) (Nat.le_of_ble_eq_true rfl) (Nat.le_of_ble_eq_true rfl) (Nat.le_of_ble_eq_true rfl) dX1_init_63 (fun q8 H hP hD hS => ?_)
    have hP : va_P D vwCl ([(h0, .inr (0, [.ref q1, .ref q2, .ref q3, .ref q4, .ref q5, .ref q6, .ref q7, .null])), (q1, .inl (cy 0, 12, .inl (aI (fun _ => 0)))), (q2, .inl (cy 0, 12, .inl (aI (fun _ => 0)))), (q3, .inl (cy 0, 12, .inl (aI (fun _ => 0)))), (q4, .inl (cy 0, 12, .inl (aI (fun _ => 0)))), (q5, .inl (cy 0, 12, .inl (aI (fun _ => 0)))), (q6, .inl (cy 0, 12, .inl (aI (fun _ => 0)))), (q7, .inl (cy 0, 12, .inl (aI (fun _ => 0)))), (q8, .inl (cy 2, 12, .inl (aI (fun _ => 0))))] : va_W) H := hP
    have hD : va_D A ([(h0, .inr (0, [.ref q1, .ref q2, .ref q3, .ref q4, .ref q5, .ref q6, .ref q7, .null])), (q1, .inl (cy 0, 12, .inl (aI (fun _ => 0)))), (q2, .inl (cy 0, 12, .inl (aI (fun _ => 0)))), (q3, .inl (cy 0, 12, .inl (aI (fun _ => 0)))), (q4, .inl (cy 0, 12, .inl (aI (fun _ => 0)))), (q5, .inl (cy 0, 12, .inl (aI (fun _ => 0)))), (q6, .inl (cy 0, 12, .inl (aI (fun _ => 0)))), (q7, .inl (cy 0, 12, .inl (aI (fun _ => 0)))), (q8, .inl (cy 2, 12, .inl (aI (fun _ => 0))))] : va_W) := hD
    refine va_putF (D := D) (ci := 0) (v := .ref q8) (ty := (.array .boolean)) (C := RX1) (T := TX1) (N := 8) hx hb hts hinX1 tyX1 tyX1_ok nmX1 hown hK hP hD hS 0 rfl rfl 7 (by decide) (hts (.fieldLink RX1 33 "ArcPlate$Figures" "good" "[Z") (by decide +kernel)) (fun _ h9 => h9) rfl hin2 rfl (by decide +kernel) rfl rfl (Nat.le_of_ble_eq_true rfl) dX1_init_65 (fun H locs hP hD hS => ?_)
    have hP : va_P D vwCl ([(h0, .inr (0, [.ref q1, .ref q2, .ref q3, .ref q4, .ref q5, .ref q6, .ref q7, .ref q8])), (q1, .inl (cy 0, 12, .inl (aI (fun _ => 0)))), (q2, .inl (cy 0, 12, .inl (aI (fun _ => 0)))), (q3, .inl (cy 0, 12, .inl (aI (fun _ => 0)))), (q4, .inl (cy 0, 12, .inl (aI (fun _ => 0)))), (q5, .inl (cy 0, 12, .inl (aI (fun _ => 0)))), (q6, .inl (cy 0, 12, .inl (aI (fun _ => 0)))), (q7, .inl (cy 0, 12, .inl (aI (fun _ => 0)))), (q8, .inl (cy 2, 12, .inl (aI (fun _ => 0))))] : va_W) H := hP
    have hD : va_D A ([(h0, .inr (0, [.ref q1, .ref q2, .ref q3, .ref q4, .ref q5, .ref q6, .ref q7, .ref q8])), (q1, .inl (cy 0, 12, .inl (aI (fun _ => 0)))), (q2, .inl (cy 0, 12, .inl (aI (fun _ => 0)))), (q3, .inl (cy 0, 12, .inl (aI (fun _ => 0)))), (q4, .inl (cy 0, 12, .inl (aI (fun _ => 0)))), (q5, .inl (cy 0, 12, .inl (aI (fun _ => 0)))), (q6, .inl (cy 0, 12, .inl (aI (fun _ => 0)))), (q7, .inl (cy 0, 12, .inl (aI (fun _ => 0)))), (q8, .inl (cy 2, 12, .inl (aI (fun _ => 0))))] : va_W) := hD
    have hP9 : va_P D vwCl (fgW cy (fun i => [h0, q1, q2, q3, q4, q5, q6, q7, q8].getD (i - 20) 0) zr0) H := hP
    have hD9 : va_D A (fgW cy (fun i => [h0, q1, q2, q3, q4, q5, q6, q7, q8].getD (i - 20) 0) zr0) := hD
    exact W.vret hx hb hr (fun t9 ht _ => ⟨⟨(fun i => [h0, q1, q2, q3, q4, q5, q6, q7, q8].getD (i - 20) 0), rfl, rfl, by rw [ht]; exact hP9, by rw [hAe]; exact hD9⟩, by rw [hAe]; exact hS.F ht⟩) (by rw [hAe]; exact hS.2.2) dX1_init_68 hlocks
  exact hbody _ s.heap [] hA hG hP hD hS rfl
set_option maxHeartbeats 4000000 in
set_option maxRecDepth 100000 in
theorem c_X3_init (l : Launch) (D : va_G) (cy : Nat → ClassId) (sz : Nat) (h0 : Nat) : Met l yX3_init wsX3_init { frames := 2, cells := 6, slots := 468, locals := 80 } (mPre (GI D cy) D [(h0, .inr (2, [.null, .null, .null, .int 0, .int 0, .null, .null, .null, .int 0]))] sz [.ref h0]) (kQv D [(h0, .inr (2, [.null, .null, .null, .int 0, .int 0, .null, .null, .null, .int 0]))] sz (fun a : Nat → Nat => maW cy a zr0) (fun a => a 30 = h0)) 6 468 (va_A [(h0, .inr (2, [.null, .null, .null, .int 0, .int 0, .null, .null, .null, .int 0]))] sz) := by
  refine kM_start (cc := cX3_init) (maxL := 1) (ret := none) (by decide) rfl (Nat.le_of_ble_eq_true rfl) ?_
  intro p e s m below meth c hx hb hr hlocks hml hts hown hsz hA hG hP hD hS hin ls hl
  have hK := hG.1.1
  have hin2 := hin rfl
  have hl : lv_has ls 1 [(0, .ref h0)] := hl
  have hinX3 : ∀ w ∈ u_ws RX3 TX3 9, w ∈ wsX3_init := by decide +kernel
  have hbody : ∀ (A : Nat → Prop) (H : Heap) (locs : List Loc) (hA : ∀ q : Nat, s.heap.size ≤ q → A q) (hG : GI D cy A s s.heap) (hP : va_P D vwCl [(h0, .inr (2, [.null, .null, .null, .int 0, .int 0, .null, .null, .null, .int 0]))] H) (hD : va_D A [(h0, .inr (2, [.null, .null, .null, .int 0, .int 0, .null, .null, .null, .int 0]))]) (hS : va_S A s.heap H locs) (hAe : va_A [(h0, .inr (2, [.null, .null, .null, .int 0, .int 0, .null, .null, .null, .int 0]))] sz = A), W p l e { frames := 2, cells := 6, slots := 468, locals := 80 } s m ([Value.ref h0] : List Value).toArray below meth c H locs 0 0 (MQ below (kQv D [(h0, .inr (2, [.null, .null, .null, .int 0, .int 0, .null, .null, .null, .int 0]))] sz (fun a : Nat → Nat => maW cy a zr0) (fun a => a 30 = h0)) ([Value.ref h0] : List Value).toArray s 6 468 (va_A [(h0, .inr (2, [.null, .null, .null, .int 0, .int 0, .null, .null, .null, .int 0]))] sz)) (F0 m 0 ls []) := by
    intro A H locs hA hG hP hD hS hAe
    refine lv_aload_n hx hb dX3_init_0 rfl (lv_at hl 0 rfl) ?_
    refine W.objInit hx hb hown (hts (.methodLink RX3 3 objectInit) (by decide +kernel)) (hts (.instanceMethod objectInit) (by decide +kernel)) (hts _ (List.mem_of_getElem? (i := 3) rfl)) rfl (by rw [hml]; exact hl.1) rfl dX3_init_1 (Nat.le_of_ble_eq_true rfl) (Nat.le_of_ble_eq_true rfl) ?_
    refine W.eq (g2 := F0 m 4 ls []) rfl ?_
    refine lv_aload_n hx hb dX3_init_4 rfl (lv_at hl 0 rfl) ?_
    refine k_bipush hx hb dX3_init_5 (by decide) ?_
    refine k_newT (ty := .int) hx hb rfl (hts (.arrayClass .int) (by decide +kernel)) rfl 0 rfl (fun _ _ => ra_int) hK hP hD hS hA (n := 12) (N := 12) rfl (by decide) (Nat.le_of_ble_eq_true rfl) (Nat.le_of_ble_eq_true rfl) (Nat.le_of_ble_eq_true rfl) dX3_init_7 (fun q1 H hP hD hS => ?_)
    have hP : va_P D vwCl ([(h0, .inr (2, [.null, .null, .null, .int 0, .int 0, .null, .null, .null, .int 0])), (q1, .inl (cy 0, 12, .inl (aI (fun _ => 0))))] : va_W) H := hP
    have hD : va_D A ([(h0, .inr (2, [.null, .null, .null, .int 0, .int 0, .null, .null, .null, .int 0])), (q1, .inl (cy 0, 12, .inl (aI (fun _ => 0))))] : va_W) := hD
    refine va_putF (D := D) (ci := 2) (v := .ref q1) (ty := (.array .int)) (C := RX3) (T := TX3) (N := 9) hx hb hts hinX3 tyX3 tyX3_ok nmX3 hown hK hP hD hS 0 rfl rfl 0 (by decide) (hts (.fieldLink RX3 9 "ArcPlate$Matching" "starOf" "[I") (by decide +kernel)) (fun _ h9 => h9) rfl hin2 rfl (by decide +kernel) rfl rfl (Nat.le_of_ble_eq_true rfl) dX3_init_9 (fun H locs hP hD hS => ?_)
    have hP : va_P D vwCl ([(h0, .inr (2, [.ref q1, .null, .null, .int 0, .int 0, .null, .null, .null, .int 0])), (q1, .inl (cy 0, 12, .inl (aI (fun _ => 0))))] : va_W) H := hP
    have hD : va_D A ([(h0, .inr (2, [.ref q1, .null, .null, .int 0, .int 0, .null, .null, .null, .int 0])), (q1, .inl (cy 0, 12, .inl (aI (fun _ => 0))))] : va_W) := hD
    refine lv_aload_n hx hb dX3_init_12 rfl (lv_at hl 0 rfl) ?_
    refine k_bipush hx hb dX3_init_13 (by decide) ?_
    refine k_newT (ty := .int) hx hb rfl (hts (.arrayClass .int) (by decide +kernel)) rfl 0 rfl (fun _ _ => ra_int) hK hP hD hS hA (n := 12) (N := 12) rfl (by decide) (Nat.le_of_ble_eq_true rfl) (Nat.le_of_ble_eq_true rfl) (Nat.le_of_ble_eq_true rfl) dX3_init_15 (fun q2 H hP hD hS => ?_)
    have hP : va_P D vwCl ([(h0, .inr (2, [.ref q1, .null, .null, .int 0, .int 0, .null, .null, .null, .int 0])), (q1, .inl (cy 0, 12, .inl (aI (fun _ => 0)))), (q2, .inl (cy 0, 12, .inl (aI (fun _ => 0))))] : va_W) H := hP
    have hD : va_D A ([(h0, .inr (2, [.ref q1, .null, .null, .int 0, .int 0, .null, .null, .null, .int 0])), (q1, .inl (cy 0, 12, .inl (aI (fun _ => 0)))), (q2, .inl (cy 0, 12, .inl (aI (fun _ => 0))))] : va_W) := hD
    refine va_putF (D := D) (ci := 2) (v := .ref q2) (ty := (.array .int)) (C := RX3) (T := TX3) (N := 9) hx hb hts hinX3 tyX3 tyX3_ok nmX3 hown hK hP hD hS 0 rfl rfl 1 (by decide) (hts (.fieldLink RX3 15 "ArcPlate$Matching" "trailOf" "[I") (by decide +kernel)) (fun _ h9 => h9) rfl hin2 rfl (by decide +kernel) rfl rfl (Nat.le_of_ble_eq_true rfl) dX3_init_17 (fun H locs hP hD hS => ?_)
    have hP : va_P D vwCl ([(h0, .inr (2, [.ref q1, .ref q2, .null, .int 0, .int 0, .null, .null, .null, .int 0])), (q1, .inl (cy 0, 12, .inl (aI (fun _ => 0)))), (q2, .inl (cy 0, 12, .inl (aI (fun _ => 0))))] : va_W) H := hP
    have hD : va_D A ([(h0, .inr (2, [.ref q1, .ref q2, .null, .int 0, .int 0, .null, .null, .null, .int 0])), (q1, .inl (cy 0, 12, .inl (aI (fun _ => 0)))), (q2, .inl (cy 0, 12, .inl (aI (fun _ => 0))))] : va_W) := hD
    refine lv_aload_n hx hb dX3_init_20 rfl (lv_at hl 0 rfl) ?_
    refine k_bipush hx hb dX3_init_21 (by decide) ?_
    refine k_newT (ty := .int) hx hb rfl (hts (.arrayClass .int) (by decide +kernel)) rfl 0 rfl (fun _ _ => ra_int) hK hP hD hS hA (n := 12) (N := 12) rfl (by decide) (Nat.le_of_ble_eq_true rfl) (Nat.le_of_ble_eq_true rfl) (Nat.le_of_ble_eq_true rfl) dX3_init_23 (fun q3 H hP hD hS => ?_)
    have hP : va_P D vwCl ([(h0, .inr (2, [.ref q1, .ref q2, .null, .int 0, .int 0, .null, .null, .null, .int 0])), (q1, .inl (cy 0, 12, .inl (aI (fun _ => 0)))), (q2, .inl (cy 0, 12, .inl (aI (fun _ => 0)))), (q3, .inl (cy 0, 12, .inl (aI (fun _ => 0))))] : va_W) H := hP
    have hD : va_D A ([(h0, .inr (2, [.ref q1, .ref q2, .null, .int 0, .int 0, .null, .null, .null, .int 0])), (q1, .inl (cy 0, 12, .inl (aI (fun _ => 0)))), (q2, .inl (cy 0, 12, .inl (aI (fun _ => 0)))), (q3, .inl (cy 0, 12, .inl (aI (fun _ => 0))))] : va_W) := hD
    refine va_putF (D := D) (ci := 2) (v := .ref q3) (ty := (.array .int)) (C := RX3) (T := TX3) (N := 9) hx hb hts hinX3 tyX3 tyX3_ok nmX3 hown hK hP hD hS 0 rfl rfl 2 (by decide) (hts (.fieldLink RX3 18 "ArcPlate$Matching" "costOf" "[I") (by decide +kernel)) (fun _ h9 => h9) rfl hin2 rfl (by decide +kernel) rfl rfl (Nat.le_of_ble_eq_true rfl) dX3_init_25 (fun H locs hP hD hS => ?_)
    have hP : va_P D vwCl ([(h0, .inr (2, [.ref q1, .ref q2, .ref q3, .int 0, .int 0, .null, .null, .null, .int 0])), (q1, .inl (cy 0, 12, .inl (aI (fun _ => 0)))), (q2, .inl (cy 0, 12, .inl (aI (fun _ => 0)))), (q3, .inl (cy 0, 12, .inl (aI (fun _ => 0))))] : va_W) H := hP
    have hD : va_D A ([(h0, .inr (2, [.ref q1, .ref q2, .ref q3, .int 0, .int 0, .null, .null, .null, .int 0])), (q1, .inl (cy 0, 12, .inl (aI (fun _ => 0)))), (q2, .inl (cy 0, 12, .inl (aI (fun _ => 0)))), (q3, .inl (cy 0, 12, .inl (aI (fun _ => 0))))] : va_W) := hD
    refine lv_aload_n hx hb dX3_init_28 rfl (lv_at hl 0 rfl) ?_
    refine k_iconst hx hb dX3_init_29 ?_
    refine va_put (D := D) (ci := 2) (v := .int (iI 0)) (ty := .int) (C := RX3) (T := TX3) (N := 9) hx hb hts hinX3 tyX3 tyX3_ok nmX3 hown hK hP hD hS 0 rfl rfl 3 (by decide) (hts (.fieldLink RX3 21 "ArcPlate$Matching" "matches" "I") (by decide +kernel)) (fun _ h9 => h9) rfl (by decide +kernel) rfl rfl (Nat.le_of_ble_eq_true rfl) dX3_init_30 (fun H locs hP hD hS => ?_)
    have hP : va_P D vwCl ([(h0, .inr (2, [.ref q1, .ref q2, .ref q3, .int (iI 0), .int 0, .null, .null, .null, .int 0])), (q1, .inl (cy 0, 12, .inl (aI (fun _ => 0)))), (q2, .inl (cy 0, 12, .inl (aI (fun _ => 0)))), (q3, .inl (cy 0, 12, .inl (aI (fun _ => 0))))] : va_W) H := hP
    have hD : va_D A ([(h0, .inr (2, [.ref q1, .ref q2, .ref q3, .int (iI 0), .int 0, .null, .null, .null, .int 0])), (q1, .inl (cy 0, 12, .inl (aI (fun _ => 0)))), (q2, .inl (cy 0, 12, .inl (aI (fun _ => 0)))), (q3, .inl (cy 0, 12, .inl (aI (fun _ => 0))))] : va_W) := hD
    refine lv_aload_n hx hb dX3_init_33 rfl (lv_at hl 0 rfl) ?_
    refine k_iconst hx hb dX3_init_34 ?_
    refine va_put (D := D) (ci := 2) (v := .int (iI 0)) (ty := .int) (C := RX3) (T := TX3) (N := 9) hx hb hts hinX3 tyX3 tyX3_ok nmX3 hown hK hP hD hS 0 rfl rfl 4 (by decide) (hts (.fieldLink RX3 25 "ArcPlate$Matching" "sum" "I") (by decide +kernel)) (fun _ h9 => h9) rfl (by decide +kernel) rfl rfl (Nat.le_of_ble_eq_true rfl) dX3_init_35 (fun H locs hP hD hS => ?_)
    have hP : va_P D vwCl ([(h0, .inr (2, [.ref q1, .ref q2, .ref q3, .int (iI 0), .int (iI 0), .null, .null, .null, .int 0])), (q1, .inl (cy 0, 12, .inl (aI (fun _ => 0)))), (q2, .inl (cy 0, 12, .inl (aI (fun _ => 0)))), (q3, .inl (cy 0, 12, .inl (aI (fun _ => 0))))] : va_W) H := hP
    have hD : va_D A ([(h0, .inr (2, [.ref q1, .ref q2, .ref q3, .int (iI 0), .int (iI 0), .null, .null, .null, .int 0])), (q1, .inl (cy 0, 12, .inl (aI (fun _ => 0)))), (q2, .inl (cy 0, 12, .inl (aI (fun _ => 0)))), (q3, .inl (cy 0, 12, .inl (aI (fun _ => 0))))] : va_W) := hD
    refine lv_aload_n hx hb dX3_init_38 rfl (lv_at hl 0 rfl) ?_
    refine k_sipush hx hb dX3_init_39 (by decide) ?_
    refine k_newT (ty := .int) hx hb rfl (hts (.arrayClass .int) (by decide +kernel)) rfl 0 rfl (fun _ _ => ra_int) hK hP hD hS hA (n := 144) (N := 144) rfl (by decide) (Nat.le_of_ble_eq_true rfl) (Nat.le_of_ble_eq_true rfl) (Nat.le_of_ble_eq_true rfl) dX3_init_42 (fun q4 H hP hD hS => ?_)
    have hP : va_P D vwCl ([(h0, .inr (2, [.ref q1, .ref q2, .ref q3, .int (iI 0), .int (iI 0), .null, .null, .null, .int 0])), (q1, .inl (cy 0, 12, .inl (aI (fun _ => 0)))), (q2, .inl (cy 0, 12, .inl (aI (fun _ => 0)))), (q3, .inl (cy 0, 12, .inl (aI (fun _ => 0)))), (q4, .inl (cy 0, 144, .inl (aI (fun _ => 0))))] : va_W) H := hP
    have hD : va_D A ([(h0, .inr (2, [.ref q1, .ref q2, .ref q3, .int (iI 0), .int (iI 0), .null, .null, .null, .int 0])), (q1, .inl (cy 0, 12, .inl (aI (fun _ => 0)))), (q2, .inl (cy 0, 12, .inl (aI (fun _ => 0)))), (q3, .inl (cy 0, 12, .inl (aI (fun _ => 0)))), (q4, .inl (cy 0, 144, .inl (aI (fun _ => 0))))] : va_W) := hD
    refine va_putF (D := D) (ci := 2) (v := .ref q4) (ty := (.array .int)) (C := RX3) (T := TX3) (N := 9) hx hb hts hinX3 tyX3 tyX3_ok nmX3 hown hK hP hD hS 0 rfl rfl 5 (by decide) (hts (.fieldLink RX3 28 "ArcPlate$Matching" "pairTrail" "[I") (by decide +kernel)) (fun _ h9 => h9) rfl hin2 rfl (by decide +kernel) rfl rfl (Nat.le_of_ble_eq_true rfl) dX3_init_44 (fun H locs hP hD hS => ?_)
    have hP : va_P D vwCl ([(h0, .inr (2, [.ref q1, .ref q2, .ref q3, .int (iI 0), .int (iI 0), .ref q4, .null, .null, .int 0])), (q1, .inl (cy 0, 12, .inl (aI (fun _ => 0)))), (q2, .inl (cy 0, 12, .inl (aI (fun _ => 0)))), (q3, .inl (cy 0, 12, .inl (aI (fun _ => 0)))), (q4, .inl (cy 0, 144, .inl (aI (fun _ => 0))))] : va_W) H := hP
    have hD : va_D A ([(h0, .inr (2, [.ref q1, .ref q2, .ref q3, .int (iI 0), .int (iI 0), .ref q4, .null, .null, .int 0])), (q1, .inl (cy 0, 12, .inl (aI (fun _ => 0)))), (q2, .inl (cy 0, 12, .inl (aI (fun _ => 0)))), (q3, .inl (cy 0, 12, .inl (aI (fun _ => 0)))), (q4, .inl (cy 0, 144, .inl (aI (fun _ => 0))))] : va_W) := hD
    refine lv_aload_n hx hb dX3_init_47 rfl (lv_at hl 0 rfl) ?_
    refine k_sipush hx hb dX3_init_48 (by decide) ?_
    refine k_newT (ty := .int) hx hb rfl (hts (.arrayClass .int) (by decide +kernel)) rfl 0 rfl (fun _ _ => ra_int) hK hP hD hS hA (n := 144) (N := 144) rfl (by decide) (Nat.le_of_ble_eq_true rfl) (Nat.le_of_ble_eq_true rfl) (Nat.le_of_ble_eq_true rfl) dX3_init_51 (fun q5 H hP hD hS => ?_)
    have hP : va_P D vwCl ([(h0, .inr (2, [.ref q1, .ref q2, .ref q3, .int (iI 0), .int (iI 0), .ref q4, .null, .null, .int 0])), (q1, .inl (cy 0, 12, .inl (aI (fun _ => 0)))), (q2, .inl (cy 0, 12, .inl (aI (fun _ => 0)))), (q3, .inl (cy 0, 12, .inl (aI (fun _ => 0)))), (q4, .inl (cy 0, 144, .inl (aI (fun _ => 0)))), (q5, .inl (cy 0, 144, .inl (aI (fun _ => 0))))] : va_W) H := hP
    have hD : va_D A ([(h0, .inr (2, [.ref q1, .ref q2, .ref q3, .int (iI 0), .int (iI 0), .ref q4, .null, .null, .int 0])), (q1, .inl (cy 0, 12, .inl (aI (fun _ => 0)))), (q2, .inl (cy 0, 12, .inl (aI (fun _ => 0)))), (q3, .inl (cy 0, 12, .inl (aI (fun _ => 0)))), (q4, .inl (cy 0, 144, .inl (aI (fun _ => 0)))), (q5, .inl (cy 0, 144, .inl (aI (fun _ => 0))))] : va_W) := hD
    refine va_putF (D := D) (ci := 2) (v := .ref q5) (ty := (.array .int)) (C := RX3) (T := TX3) (N := 9) hx hb hts hinX3 tyX3 tyX3_ok nmX3 hown hK hP hD hS 0 rfl rfl 6 (by decide) (hts (.fieldLink RX3 31 "ArcPlate$Matching" "pairStar" "[I") (by decide +kernel)) (fun _ h9 => h9) rfl hin2 rfl (by decide +kernel) rfl rfl (Nat.le_of_ble_eq_true rfl) dX3_init_53 (fun H locs hP hD hS => ?_)
    have hP : va_P D vwCl ([(h0, .inr (2, [.ref q1, .ref q2, .ref q3, .int (iI 0), .int (iI 0), .ref q4, .ref q5, .null, .int 0])), (q1, .inl (cy 0, 12, .inl (aI (fun _ => 0)))), (q2, .inl (cy 0, 12, .inl (aI (fun _ => 0)))), (q3, .inl (cy 0, 12, .inl (aI (fun _ => 0)))), (q4, .inl (cy 0, 144, .inl (aI (fun _ => 0)))), (q5, .inl (cy 0, 144, .inl (aI (fun _ => 0))))] : va_W) H := hP
    have hD : va_D A ([(h0, .inr (2, [.ref q1, .ref q2, .ref q3, .int (iI 0), .int (iI 0), .ref q4, .ref q5, .null, .int 0])), (q1, .inl (cy 0, 12, .inl (aI (fun _ => 0)))), (q2, .inl (cy 0, 12, .inl (aI (fun _ => 0)))), (q3, .inl (cy 0, 12, .inl (aI (fun _ => 0)))), (q4, .inl (cy 0, 144, .inl (aI (fun _ => 0)))), (q5, .inl (cy 0, 144, .inl (aI (fun _ => 0))))] : va_W) := hD
    refine lv_aload_n hx hb dX3_init_56 rfl (lv_at hl 0 rfl) ?_
    refine k_sipush hx hb dX3_init_57 (by decide) ?_
    refine k_newT (ty := .int) hx hb rfl (hts (.arrayClass .int) (by decide +kernel)) rfl 0 rfl (fun _ _ => ra_int) hK hP hD hS hA (n := 144) (N := 144) rfl (by decide) (Nat.le_of_ble_eq_true rfl) (Nat.le_of_ble_eq_true rfl) (Nat.le_of_ble_eq_true rfl) dX3_init_60 (fun q6 H hP hD hS => ?_)
    have hP : va_P D vwCl ([(h0, .inr (2, [.ref q1, .ref q2, .ref q3, .int (iI 0), .int (iI 0), .ref q4, .ref q5, .null, .int 0])), (q1, .inl (cy 0, 12, .inl (aI (fun _ => 0)))), (q2, .inl (cy 0, 12, .inl (aI (fun _ => 0)))), (q3, .inl (cy 0, 12, .inl (aI (fun _ => 0)))), (q4, .inl (cy 0, 144, .inl (aI (fun _ => 0)))), (q5, .inl (cy 0, 144, .inl (aI (fun _ => 0)))), (q6, .inl (cy 0, 144, .inl (aI (fun _ => 0))))] : va_W) H := hP
    have hD : va_D A ([(h0, .inr (2, [.ref q1, .ref q2, .ref q3, .int (iI 0), .int (iI 0), .ref q4, .ref q5, .null, .int 0])), (q1, .inl (cy 0, 12, .inl (aI (fun _ => 0)))), (q2, .inl (cy 0, 12, .inl (aI (fun _ => 0)))), (q3, .inl (cy 0, 12, .inl (aI (fun _ => 0)))), (q4, .inl (cy 0, 144, .inl (aI (fun _ => 0)))), (q5, .inl (cy 0, 144, .inl (aI (fun _ => 0)))), (q6, .inl (cy 0, 144, .inl (aI (fun _ => 0))))] : va_W) := hD
    refine va_putF (D := D) (ci := 2) (v := .ref q6) (ty := (.array .int)) (C := RX3) (T := TX3) (N := 9) hx hb hts hinX3 tyX3 tyX3_ok nmX3 hown hK hP hD hS 0 rfl rfl 7 (by decide) (hts (.fieldLink RX3 34 "ArcPlate$Matching" "pairCosts" "[I") (by decide +kernel)) (fun _ h9 => h9) rfl hin2 rfl (by decide +kernel) rfl rfl (Nat.le_of_ble_eq_true rfl) dX3_init_62 (fun H locs hP hD hS => ?_)
    have hP : va_P D vwCl ([(h0, .inr (2, [.ref q1, .ref q2, .ref q3, .int (iI 0), .int (iI 0), .ref q4, .ref q5, .ref q6, .int 0])), (q1, .inl (cy 0, 12, .inl (aI (fun _ => 0)))), (q2, .inl (cy 0, 12, .inl (aI (fun _ => 0)))), (q3, .inl (cy 0, 12, .inl (aI (fun _ => 0)))), (q4, .inl (cy 0, 144, .inl (aI (fun _ => 0)))), (q5, .inl (cy 0, 144, .inl (aI (fun _ => 0)))), (q6, .inl (cy 0, 144, .inl (aI (fun _ => 0))))] : va_W) H := hP
    have hD : va_D A ([(h0, .inr (2, [.ref q1, .ref q2, .ref q3, .int (iI 0), .int (iI 0), .ref q4, .ref q5, .ref q6, .int 0])), (q1, .inl (cy 0, 12, .inl (aI (fun _ => 0)))), (q2, .inl (cy 0, 12, .inl (aI (fun _ => 0)))), (q3, .inl (cy 0, 12, .inl (aI (fun _ => 0)))), (q4, .inl (cy 0, 144, .inl (aI (fun _ => 0)))), (q5, .inl (cy 0, 144, .inl (aI (fun _ => 0)))), (q6, .inl (cy 0, 144, .inl (aI (fun _ => 0))))] : va_W) := hD
    refine lv_aload_n hx hb dX3_init_65 rfl (lv_at hl 0 rfl) ?_
    refine k_iconst hx hb dX3_init_66 ?_
    refine va_put (D := D) (ci := 2) (v := .int (iI 0)) (ty := .int) (C := RX3) (T := TX3) (N := 9) hx hb hts hinX3 tyX3 tyX3_ok nmX3 hown hK hP hD hS 0 rfl rfl 8 (by decide) (hts (.fieldLink RX3 37 "ArcPlate$Matching" "pairs" "I") (by decide +kernel)) (fun _ h9 => h9) rfl (by decide +kernel) rfl rfl (Nat.le_of_ble_eq_true rfl) dX3_init_67 (fun H locs hP hD hS => ?_)
    have hP : va_P D vwCl ([(h0, .inr (2, [.ref q1, .ref q2, .ref q3, .int (iI 0), .int (iI 0), .ref q4, .ref q5, .ref q6, .int (iI 0)])), (q1, .inl (cy 0, 12, .inl (aI (fun _ => 0)))), (q2, .inl (cy 0, 12, .inl (aI (fun _ => 0)))), (q3, .inl (cy 0, 12, .inl (aI (fun _ => 0)))), (q4, .inl (cy 0, 144, .inl (aI (fun _ => 0)))), (q5, .inl (cy 0, 144, .inl (aI (fun _ => 0)))), (q6, .inl (cy 0, 144, .inl (aI (fun _ => 0))))] : va_W) H := hP
    have hD : va_D A ([(h0, .inr (2, [.ref q1, .ref q2, .ref q3, .int (iI 0), .int (iI 0), .ref q4, .ref q5, .ref q6, .int (iI 0)])), (q1, .inl (cy 0, 12, .inl (aI (fun _ => 0)))), (q2, .inl (cy 0, 12, .inl (aI (fun _ => 0)))), (q3, .inl (cy 0, 12, .inl (aI (fun _ => 0)))), (q4, .inl (cy 0, 144, .inl (aI (fun _ => 0)))), (q5, .inl (cy 0, 144, .inl (aI (fun _ => 0)))), (q6, .inl (cy 0, 144, .inl (aI (fun _ => 0))))] : va_W) := hD
    have hP9 : va_P D vwCl (maW cy (fun i => [h0, q1, q2, q3, q4, q5, q6].getD (i - 30) 0) zr0) H := hP
    have hD9 : va_D A (maW cy (fun i => [h0, q1, q2, q3, q4, q5, q6].getD (i - 30) 0) zr0) := hD
    exact W.vret hx hb hr (fun t9 ht _ => ⟨⟨(fun i => [h0, q1, q2, q3, q4, q5, q6].getD (i - 30) 0), rfl, rfl, by rw [ht]; exact hP9, by rw [hAe]; exact hD9⟩, by rw [hAe]; exact hS.F ht⟩) (by rw [hAe]; exact hS.2.2) dX3_init_70 hlocks
  exact hbody _ s.heap [] hA hG hP hD hS rfl
set_option maxHeartbeats 4000000 in
set_option maxRecDepth 100000 in
theorem c_X5_init (l : Launch) (D : va_G) (cy : Nat → ClassId) (sz : Nat) (h0 : Nat) : Met l yX5_init wsX5_init { frames := 2, cells := 3, slots := 900, locals := 80 } (mPre (GI D cy) D [(h0, .inr (4, [.int 0, .int 0, .null, .null, .null, .int 0]))] sz [.ref h0]) (kQv D [(h0, .inr (4, [.int 0, .int 0, .null, .null, .null, .int 0]))] sz (fun a : Nat → Nat => scW cy a zr0) (fun a => a 10 = h0)) 3 900 (va_A [(h0, .inr (4, [.int 0, .int 0, .null, .null, .null, .int 0]))] sz) := by
  refine kM_start (cc := cX5_init) (maxL := 1) (ret := none) (by decide) rfl (Nat.le_of_ble_eq_true rfl) ?_
  intro p e s m below meth c hx hb hr hlocks hml hts hown hsz hA hG hP hD hS hin ls hl
  have hK := hG.1.1
  have hin2 := hin rfl
  have hl : lv_has ls 1 [(0, .ref h0)] := hl
  have hinX5 : ∀ w ∈ u_ws RX5 TX5 6, w ∈ wsX5_init := by decide +kernel
  have hbody : ∀ (A : Nat → Prop) (H : Heap) (locs : List Loc) (hA : ∀ q : Nat, s.heap.size ≤ q → A q) (hG : GI D cy A s s.heap) (hP : va_P D vwCl [(h0, .inr (4, [.int 0, .int 0, .null, .null, .null, .int 0]))] H) (hD : va_D A [(h0, .inr (4, [.int 0, .int 0, .null, .null, .null, .int 0]))]) (hS : va_S A s.heap H locs) (hAe : va_A [(h0, .inr (4, [.int 0, .int 0, .null, .null, .null, .int 0]))] sz = A), W p l e { frames := 2, cells := 3, slots := 900, locals := 80 } s m ([Value.ref h0] : List Value).toArray below meth c H locs 0 0 (MQ below (kQv D [(h0, .inr (4, [.int 0, .int 0, .null, .null, .null, .int 0]))] sz (fun a : Nat → Nat => scW cy a zr0) (fun a => a 10 = h0)) ([Value.ref h0] : List Value).toArray s 3 900 (va_A [(h0, .inr (4, [.int 0, .int 0, .null, .null, .null, .int 0]))] sz)) (F0 m 0 ls []) := by
    intro A H locs hA hG hP hD hS hAe
    refine lv_aload_n hx hb dX5_init_0 rfl (lv_at hl 0 rfl) ?_
    refine W.objInit hx hb hown (hts (.methodLink RX5 3 objectInit) (by decide +kernel)) (hts (.instanceMethod objectInit) (by decide +kernel)) (hts _ (List.mem_of_getElem? (i := 3) rfl)) rfl (by rw [hml]; exact hl.1) rfl dX5_init_1 (Nat.le_of_ble_eq_true rfl) (Nat.le_of_ble_eq_true rfl) ?_
    refine W.eq (g2 := F0 m 4 ls []) rfl ?_
    refine lv_aload_n hx hb dX5_init_4 rfl (lv_at hl 0 rfl) ?_
    refine k_iconst hx hb dX5_init_5 ?_
    refine va_put (D := D) (ci := 4) (v := .int (iI 0)) (ty := .int) (C := RX5) (T := TX5) (N := 6) hx hb hts hinX5 tyX5 tyX5_ok nmX5 hown hK hP hD hS 0 rfl rfl 0 (by decide) (hts (.fieldLink RX5 9 "ArcPlate$Script" "length" "I") (by decide +kernel)) (fun _ h9 => h9) rfl (by decide +kernel) rfl rfl (Nat.le_of_ble_eq_true rfl) dX5_init_6 (fun H locs hP hD hS => ?_)
    have hP : va_P D vwCl ([(h0, .inr (4, [.int (iI 0), .int 0, .null, .null, .null, .int 0]))] : va_W) H := hP
    have hD : va_D A ([(h0, .inr (4, [.int (iI 0), .int 0, .null, .null, .null, .int 0]))] : va_W) := hD
    refine lv_aload_n hx hb dX5_init_9 rfl (lv_at hl 0 rfl) ?_
    refine k_iconst hx hb dX5_init_10 ?_
    refine va_put (D := D) (ci := 4) (v := .int (iI 0)) (ty := .int) (C := RX5) (T := TX5) (N := 6) hx hb hts hinX5 tyX5 tyX5_ok nmX5 hown hK hP hD hS 0 rfl rfl 1 (by decide) (hts (.fieldLink RX5 15 "ArcPlate$Script" "commands" "I") (by decide +kernel)) (fun _ h9 => h9) rfl (by decide +kernel) rfl rfl (Nat.le_of_ble_eq_true rfl) dX5_init_11 (fun H locs hP hD hS => ?_)
    have hP : va_P D vwCl ([(h0, .inr (4, [.int (iI 0), .int (iI 0), .null, .null, .null, .int 0]))] : va_W) H := hP
    have hD : va_D A ([(h0, .inr (4, [.int (iI 0), .int (iI 0), .null, .null, .null, .int 0]))] : va_W) := hD
    refine lv_aload_n hx hb dX5_init_14 rfl (lv_at hl 0 rfl) ?_
    refine k_sipush hx hb dX5_init_15 (by decide) ?_
    refine k_newT (ty := .byte) hx hb rfl (hts (.arrayClass .byte) (by decide +kernel)) rfl 1 rfl (fun _ _ => ra_byte) hK hP hD hS hA (n := 150) (N := 150) rfl (by decide) (Nat.le_of_ble_eq_true rfl) (Nat.le_of_ble_eq_true rfl) (Nat.le_of_ble_eq_true rfl) dX5_init_18 (fun q1 H hP hD hS => ?_)
    have hP : va_P D vwCl ([(h0, .inr (4, [.int (iI 0), .int (iI 0), .null, .null, .null, .int 0])), (q1, .inl (cy 1, 150, .inl (aI (fun _ => 0))))] : va_W) H := hP
    have hD : va_D A ([(h0, .inr (4, [.int (iI 0), .int (iI 0), .null, .null, .null, .int 0])), (q1, .inl (cy 1, 150, .inl (aI (fun _ => 0))))] : va_W) := hD
    refine va_putF (D := D) (ci := 4) (v := .ref q1) (ty := (.array .byte)) (C := RX5) (T := TX5) (N := 6) hx hb hts hinX5 tyX5 tyX5_ok nmX5 hown hK hP hD hS 0 rfl rfl 2 (by decide) (hts (.fieldLink RX5 18 "ArcPlate$Script" "text" "[B") (by decide +kernel)) (fun _ h9 => h9) rfl hin2 rfl (by decide +kernel) rfl rfl (Nat.le_of_ble_eq_true rfl) dX5_init_20 (fun H locs hP hD hS => ?_)
    have hP : va_P D vwCl ([(h0, .inr (4, [.int (iI 0), .int (iI 0), .ref q1, .null, .null, .int 0])), (q1, .inl (cy 1, 150, .inl (aI (fun _ => 0))))] : va_W) H := hP
    have hD : va_D A ([(h0, .inr (4, [.int (iI 0), .int (iI 0), .ref q1, .null, .null, .int 0])), (q1, .inl (cy 1, 150, .inl (aI (fun _ => 0))))] : va_W) := hD
    refine lv_aload_n hx hb dX5_init_23 rfl (lv_at hl 0 rfl) ?_
    refine k_sipush hx hb dX5_init_24 (by decide) ?_
    refine k_newT (ty := .int) hx hb rfl (hts (.arrayClass .int) (by decide +kernel)) rfl 0 rfl (fun _ _ => ra_int) hK hP hD hS hA (n := 150) (N := 150) rfl (by decide) (Nat.le_of_ble_eq_true rfl) (Nat.le_of_ble_eq_true rfl) (Nat.le_of_ble_eq_true rfl) dX5_init_27 (fun q2 H hP hD hS => ?_)
    have hP : va_P D vwCl ([(h0, .inr (4, [.int (iI 0), .int (iI 0), .ref q1, .null, .null, .int 0])), (q1, .inl (cy 1, 150, .inl (aI (fun _ => 0)))), (q2, .inl (cy 0, 150, .inl (aI (fun _ => 0))))] : va_W) H := hP
    have hD : va_D A ([(h0, .inr (4, [.int (iI 0), .int (iI 0), .ref q1, .null, .null, .int 0])), (q1, .inl (cy 1, 150, .inl (aI (fun _ => 0)))), (q2, .inl (cy 0, 150, .inl (aI (fun _ => 0))))] : va_W) := hD
    refine va_putF (D := D) (ci := 4) (v := .ref q2) (ty := (.array .int)) (C := RX5) (T := TX5) (N := 6) hx hb hts hinX5 tyX5 tyX5_ok nmX5 hown hK hP hD hS 0 rfl rfl 3 (by decide) (hts (.fieldLink RX5 22 "ArcPlate$Script" "kinds" "[I") (by decide +kernel)) (fun _ h9 => h9) rfl hin2 rfl (by decide +kernel) rfl rfl (Nat.le_of_ble_eq_true rfl) dX5_init_29 (fun H locs hP hD hS => ?_)
    have hP : va_P D vwCl ([(h0, .inr (4, [.int (iI 0), .int (iI 0), .ref q1, .ref q2, .null, .int 0])), (q1, .inl (cy 1, 150, .inl (aI (fun _ => 0)))), (q2, .inl (cy 0, 150, .inl (aI (fun _ => 0))))] : va_W) H := hP
    have hD : va_D A ([(h0, .inr (4, [.int (iI 0), .int (iI 0), .ref q1, .ref q2, .null, .int 0])), (q1, .inl (cy 1, 150, .inl (aI (fun _ => 0)))), (q2, .inl (cy 0, 150, .inl (aI (fun _ => 0))))] : va_W) := hD
    refine lv_aload_n hx hb dX5_init_32 rfl (lv_at hl 0 rfl) ?_
    refine k_sipush hx hb dX5_init_33 (by decide) ?_
    refine k_newT (ty := .int) hx hb rfl (hts (.arrayClass .int) (by decide +kernel)) rfl 0 rfl (fun _ _ => ra_int) hK hP hD hS hA (n := 600) (N := 600) rfl (by decide) (Nat.le_of_ble_eq_true rfl) (Nat.le_of_ble_eq_true rfl) (Nat.le_of_ble_eq_true rfl) dX5_init_36 (fun q3 H hP hD hS => ?_)
    have hP : va_P D vwCl ([(h0, .inr (4, [.int (iI 0), .int (iI 0), .ref q1, .ref q2, .null, .int 0])), (q1, .inl (cy 1, 150, .inl (aI (fun _ => 0)))), (q2, .inl (cy 0, 150, .inl (aI (fun _ => 0)))), (q3, .inl (cy 0, 600, .inl (aI (fun _ => 0))))] : va_W) H := hP
    have hD : va_D A ([(h0, .inr (4, [.int (iI 0), .int (iI 0), .ref q1, .ref q2, .null, .int 0])), (q1, .inl (cy 1, 150, .inl (aI (fun _ => 0)))), (q2, .inl (cy 0, 150, .inl (aI (fun _ => 0)))), (q3, .inl (cy 0, 600, .inl (aI (fun _ => 0))))] : va_W) := hD
    refine va_putF (D := D) (ci := 4) (v := .ref q3) (ty := (.array .int)) (C := RX5) (T := TX5) (N := 6) hx hb hts hinX5 tyX5 tyX5_ok nmX5 hown hK hP hD hS 0 rfl rfl 4 (by decide) (hts (.fieldLink RX5 26 "ArcPlate$Script" "numbers" "[I") (by decide +kernel)) (fun _ h9 => h9) rfl hin2 rfl (by decide +kernel) rfl rfl (Nat.le_of_ble_eq_true rfl) dX5_init_38 (fun H locs hP hD hS => ?_)
    have hP : va_P D vwCl ([(h0, .inr (4, [.int (iI 0), .int (iI 0), .ref q1, .ref q2, .ref q3, .int 0])), (q1, .inl (cy 1, 150, .inl (aI (fun _ => 0)))), (q2, .inl (cy 0, 150, .inl (aI (fun _ => 0)))), (q3, .inl (cy 0, 600, .inl (aI (fun _ => 0))))] : va_W) H := hP
    have hD : va_D A ([(h0, .inr (4, [.int (iI 0), .int (iI 0), .ref q1, .ref q2, .ref q3, .int 0])), (q1, .inl (cy 1, 150, .inl (aI (fun _ => 0)))), (q2, .inl (cy 0, 150, .inl (aI (fun _ => 0)))), (q3, .inl (cy 0, 600, .inl (aI (fun _ => 0))))] : va_W) := hD
    refine lv_aload_n hx hb dX5_init_41 rfl (lv_at hl 0 rfl) ?_
    refine k_iconst hx hb dX5_init_42 ?_
    refine va_put (D := D) (ci := 4) (v := .int (iI 0)) (ty := .int) (C := RX5) (T := TX5) (N := 6) hx hb hts hinX5 tyX5 tyX5_ok nmX5 hown hK hP hD hS 0 rfl rfl 5 (by decide) (hts (.fieldLink RX5 29 "ArcPlate$Script" "at" "I") (by decide +kernel)) (fun _ h9 => h9) rfl (by decide +kernel) rfl rfl (Nat.le_of_ble_eq_true rfl) dX5_init_43 (fun H locs hP hD hS => ?_)
    have hP : va_P D vwCl ([(h0, .inr (4, [.int (iI 0), .int (iI 0), .ref q1, .ref q2, .ref q3, .int (iI 0)])), (q1, .inl (cy 1, 150, .inl (aI (fun _ => 0)))), (q2, .inl (cy 0, 150, .inl (aI (fun _ => 0)))), (q3, .inl (cy 0, 600, .inl (aI (fun _ => 0))))] : va_W) H := hP
    have hD : va_D A ([(h0, .inr (4, [.int (iI 0), .int (iI 0), .ref q1, .ref q2, .ref q3, .int (iI 0)])), (q1, .inl (cy 1, 150, .inl (aI (fun _ => 0)))), (q2, .inl (cy 0, 150, .inl (aI (fun _ => 0)))), (q3, .inl (cy 0, 600, .inl (aI (fun _ => 0))))] : va_W) := hD
    have hP9 : va_P D vwCl (scW cy (fun i => [h0, q1, q2, q3].getD (i - 10) 0) zr0) H := hP
    have hD9 : va_D A (scW cy (fun i => [h0, q1, q2, q3].getD (i - 10) 0) zr0) := hD
    exact W.vret hx hb hr (fun t9 ht _ => ⟨⟨(fun i => [h0, q1, q2, q3].getD (i - 10) 0), rfl, rfl, by rw [ht]; exact hP9, by rw [hAe]; exact hD9⟩, by rw [hAe]; exact hS.F ht⟩) (by rw [hAe]; exact hS.2.2) dX5_init_46 hlocks
  exact hbody _ s.heap [] hA hG hP hD hS rfl
set_option maxHeartbeats 4000000 in
set_option maxRecDepth 100000 in
theorem c_X2_init (l : Launch) (D : va_G) (cy : Nat → ClassId) (sz : Nat) (h0 : Nat) : Met l yX2_init wsX2_init { frames := 4, cells := 37, slots := 2012, locals := 200 } (mPre (GI D cy) D [(h0, .inr (1, [.null, .int 0]))] sz [.ref h0]) (kQv D [(h0, .inr (1, [.null, .int 0]))] sz (fun a : Nat → Nat => hsW cy a ob0) (fun a => a 50 = h0)) 37 2012 (va_A [(h0, .inr (1, [.null, .int 0]))] sz) := by
  refine kM_start (cc := cX2_init) (maxL := 2) (ret := none) (by decide) rfl (Nat.le_of_ble_eq_true rfl) ?_
  intro p e s m below meth c hx hb hr hlocks hml hts hown hsz hA hG hP hD hS hin ls hl
  have hK := hG.1.1
  have hin2 := hin rfl
  have hl : lv_has ls 2 [(0, .ref h0)] := hl
  have hinX2 : ∀ w ∈ u_ws RX2 TX2 2, w ∈ wsX2_init := by decide +kernel
  have hinX4 : ∀ w ∈ u_ws RX4 TX4 12, w ∈ wsX2_init := by decide +kernel
  have hbody : ∀ (A : Nat → Prop) (H : Heap) (locs : List Loc) (hA : ∀ q : Nat, s.heap.size ≤ q → A q) (hG : GI D cy A s s.heap) (hP : va_P D vwCl [(h0, .inr (1, [.null, .int 0]))] H) (hD : va_D A [(h0, .inr (1, [.null, .int 0]))]) (hS : va_S A s.heap H locs) (hAe : va_A [(h0, .inr (1, [.null, .int 0]))] sz = A), W p l e { frames := 4, cells := 37, slots := 2012, locals := 200 } s m ([Value.ref h0] : List Value).toArray below meth c H locs 0 0 (MQ below (kQv D [(h0, .inr (1, [.null, .int 0]))] sz (fun a : Nat → Nat => hsW cy a ob0) (fun a => a 50 = h0)) ([Value.ref h0] : List Value).toArray s 37 2012 (va_A [(h0, .inr (1, [.null, .int 0]))] sz)) (F0 m 0 ls []) := by
    intro A H locs hA hG hP hD hS hAe
    refine lv_aload_n hx hb dX2_init_0 rfl (lv_at hl 0 rfl) ?_
    refine W.objInit hx hb hown (hts (.methodLink RX2 3 objectInit) (by decide +kernel)) (hts (.instanceMethod objectInit) (by decide +kernel)) (hts _ (List.mem_of_getElem? (i := 3) rfl)) rfl (by rw [hml]; exact hl.1) rfl dX2_init_1 (Nat.le_of_ble_eq_true rfl) (Nat.le_of_ble_eq_true rfl) ?_
    refine W.eq (g2 := F0 m 4 ls []) rfl ?_
    refine lv_aload_n hx hb dX2_init_4 rfl (lv_at hl 0 rfl) ?_
    refine k_iconst hx hb dX2_init_5 ?_
    refine va_put (D := D) (ci := 1) (v := .int (iI 0)) (ty := .int) (C := RX2) (T := TX2) (N := 2) hx hb hts hinX2 tyX2 tyX2_ok nmX2 hown hK hP hD hS 0 rfl rfl 1 (by decide) (hts (.fieldLink RX2 9 "ArcPlate$History" "saved" "I") (by decide +kernel)) (fun _ h9 => h9) rfl (by decide +kernel) rfl rfl (Nat.le_of_ble_eq_true rfl) dX2_init_6 (fun H locs hP hD hS => ?_)
    have hP : va_P D vwCl ([(h0, .inr (1, [.null, .int (iI 0)]))] : va_W) H := hP
    have hD : va_D A ([(h0, .inr (1, [.null, .int (iI 0)]))] : va_W) := hD
    refine lv_aload_n hx hb dX2_init_9 rfl (lv_at hl 0 rfl) ?_
    refine k_iconst hx hb dX2_init_10 ?_
    refine k_newP hx hb hown (hts (.classLink RX2 15 RX4) (by decide +kernel)) hG.2.2.1 hK hP hD hS hA (n := 4) (N := 4) rfl (by decide) (Nat.le_of_ble_eq_true rfl) (Nat.le_of_ble_eq_true rfl) (Nat.le_of_ble_eq_true rfl) dX2_init_11 (fun q1 H hP hD hS => ?_)
    have hP : va_P D vwCl ([(h0, .inr (1, [.null, .int (iI 0)])), (q1, .inl (cy 3, 4, .inr (.inr (.inr (.inr (fun _ => none))))))] : va_W) H := hP
    have hD : va_D A ([(h0, .inr (1, [.null, .int (iI 0)])), (q1, .inl (cy 3, 4, .inr (.inr (.inr (.inr (fun _ => none))))))] : va_W) := hD
    refine va_putF (D := D) (ci := 1) (v := .ref q1) (ty := (.array (.object "ArcPlate$Plate"))) (C := RX2) (T := TX2) (N := 2) hx hb hts hinX2 tyX2 tyX2_ok nmX2 hown hK hP hD hS 0 rfl rfl 0 (by decide) (hts (.fieldLink RX2 17 "ArcPlate$History" "states" "[LArcPlate$Plate;") (by decide +kernel)) (fun _ h9 => h9) rfl hin2 rfl (by decide +kernel) rfl rfl (Nat.le_of_ble_eq_true rfl) dX2_init_14 (fun H locs hP hD hS => ?_)
    have hP : va_P D vwCl ([(h0, .inr (1, [.ref q1, .int (iI 0)])), (q1, .inl (cy 3, 4, .inr (.inr (.inr (.inr (fun _ => none))))))] : va_W) H := hP
    have hD : va_D A ([(h0, .inr (1, [.ref q1, .int (iI 0)])), (q1, .inl (cy 3, 4, .inr (.inr (.inr (.inr (fun _ => none))))))] : va_W) := hD
    refine k_iconst hx hb dX2_init_17 ?_
    refine lv_istore_n (lv' := [(1, .int (iI 0)), (0, .ref h0)]) hx hb dX2_init_18 rfl hl (by decide) rfl (fun ls hl => ?_)
    refine lv_iload_n hx hb dX2_init_19 rfl (lv_at hl 0 rfl) ?_
    refine k_iconst hx hb dX2_init_20 ?_
    refine k_icmp_ge (tgt := 43) hx hb dX2_init_21 (by decide) (by omega) (by omega) (fun h => by exfalso; omega) (fun _ => ?_)
    refine lv_aload_n hx hb dX2_init_24 rfl (lv_at hl 1 rfl) ?_
    refine va_get (D := D) (ci := 1) (v := .ref q1) (C := RX2) (T := TX2) (N := 2) hx hb hts hinX2 hown hK hP 0 rfl rfl 0 (by decide) (hts (.fieldLink RX2 17 "ArcPlate$History" "states" "[LArcPlate$Plate;") (by decide +kernel)) (fun _ h9 => h9) rfl dX2_init_25 ?_
    refine lv_iload_n hx hb dX2_init_28 rfl (lv_at hl 0 rfl) ?_
    refine va_new (ci := 3) (fs := [.int 0, .int 0, .int 0, .int 0, .null, .null, .null, .null, .null, .null, .null, .null]) (C := RX4) (T := TX4) (N := 12) hx hb hts hinX4 tyX4 tyX4_ok hown (hts (.classLink RX2 15 RX4) (by decide +kernel)) (hts (.instantiable RX4 12) (by decide +kernel)) (hts (.initialized RX4) (by decide +kernel)) hK hP hD hS hA rfl (fun j hj => by rcases (show j = 0 ∨ j = 1 ∨ j = 2 ∨ j = 3 ∨ j = 4 ∨ j = 5 ∨ j = 6 ∨ j = 7 ∨ j = 8 ∨ j = 9 ∨ j = 10 ∨ j = 11 by omega) with rfl | rfl | rfl | rfl | rfl | rfl | rfl | rfl | rfl | rfl | rfl | rfl <;> rfl) (Nat.le_of_ble_eq_true rfl) (Nat.le_of_ble_eq_true rfl) dX2_init_29 (fun q2 H hP hD hS => ?_)
    have hP : va_P D vwCl ([(h0, .inr (1, [.ref q1, .int (iI 0)])), (q1, .inl (cy 3, 4, .inr (.inr (.inr (.inr (fun _ => none)))))), (q2, .inr (3, [.int 0, .int 0, .int 0, .int 0, .null, .null, .null, .null, .null, .null, .null, .null]))] : va_W) H := hP
    have hD : va_D A ([(h0, .inr (1, [.ref q1, .int (iI 0)])), (q1, .inl (cy 3, 4, .inr (.inr (.inr (.inr (fun _ => none)))))), (q2, .inr (3, [.int 0, .int 0, .int 0, .int 0, .null, .null, .null, .null, .null, .null, .null, .null]))] : va_W) := hD
    refine lv_dup hx hb dX2_init_32 rfl ?_
    have hPc := hP.sub (ws' := ([(q2, .inr (3, [.int 0, .int 0, .int 0, .int 0, .null, .null, .null, .null, .null, .null, .null, .null]))] : va_W)) [2] rfl
    have hDc := hD.sub (ws' := ([(q2, .inr (3, [.int 0, .int 0, .int 0, .int 0, .null, .null, .null, .null, .null, .null, .null, .null]))] : va_W)) [2] (by decide) rfl
    have hFc := va_free (wc := ([(q2, .inr (3, [.int 0, .int 0, .int 0, .int 0, .null, .null, .null, .null, .null, .null, .null, .null]))] : va_W)) hD hS hA [2] rfl
    refine k_muv (k_runI (rest := [.ref q2, .int (iI 0), .ref q1]) ⟨hx, hb, hml, hown, hts⟩ (c_X4_init l D cy H.size q2) (cwI 0 hts gX2_init_X4_init rfl rfl rfl (hts (.initialized RX4) (by decide +kernel)) (hts (.methodLink RX2 21 yX4_init) (by decide +kernel)) (hts (.instanceMethod yX4_init) (by decide +kernel)) rfl (by decide +kernel) ⟨Nat.le_of_ble_eq_true rfl, Nat.le_of_ble_eq_true rfl⟩) (GI_ok D cy) hG hS hFc hPc hDc hl.1 (Nat.le_of_ble_eq_true rfl) ⟨Nat.le_of_ble_eq_true rfl, Nat.le_of_ble_eq_true rfl⟩ dX2_init_33) hFc hS (fun a3 H1 locs1 hu hP1 hD1 hS1 hk1 => ?_)
    have hu : a3 0 = q2 := hu
    have hJ := va_join (wr := ([(h0, .inr (1, [.ref q1, .int (iI 0)])), (q1, .inl (cy 3, 4, .inr (.inr (.inr (.inr (fun _ => none))))))] : va_W)) hP hD [2] [0, 1] rfl rfl (by decide) (by decide) hk1 hFc hP1 hD1
    clear hP hD hS hP1 hD1 hk1 hPc hDc hFc
    subst hu
    have hP : va_P D vwCl ([(h0, .inr (1, [.ref q1, .int (iI 0)])), (q1, .inl (cy 3, 4, .inr (.inr (.inr (.inr (fun _ => none))))))] ++ plW cy a3 pl0 : va_W) H1 := hJ.1
    have hD : va_D A ([(h0, .inr (1, [.ref q1, .int (iI 0)])), (q1, .inl (cy 3, 4, .inr (.inr (.inr (.inr (fun _ => none))))))] ++ plW cy a3 pl0 : va_W) := hJ.2
    have hS := hS1
    clear hJ hS1
    generalize H1 = H at hP hS ⊢
    generalize locs1 = locs at hS ⊢
    refine k_aast hx hb hK hP hD hS 1 3 2 3 (f := fun _ => none) (f' := va_up (fun _ => none) 0 (some (a3 0))) rfl rfl rfl rfl (i := 0) (by decide) rfl dX2_init_36 (fun H locs hP hD hS => ?_)
    have hP : va_P D vwCl ([(h0, .inr (1, [.ref q1, .int (iI 0)])), (q1, .inl (cy 3, 4, .inr (.inr (.inr (.inr (va_up (fun _ => none) 0 (some (a3 0))))))))] ++ plW cy a3 pl0 : va_W) H := hP
    have hD : va_D A ([(h0, .inr (1, [.ref q1, .int (iI 0)])), (q1, .inl (cy 3, 4, .inr (.inr (.inr (.inr (va_up (fun _ => none) 0 (some (a3 0))))))))] ++ plW cy a3 pl0 : va_W) := hD
    refine lv_iinc (v := iI 1) (lv' := [(1, .int (iI 1)), (0, .ref h0)]) hx hb dX2_init_37 hl (k := 0) rfl (show iI 0 + iI 1 = iI 1 from iI_add _ _) (by decide) rfl (fun ls hl => ?_)
    refine lv_goto (tgt := 19) hx hb dX2_init_40 (by decide) ?_
    refine lv_iload_n hx hb dX2_init_19 rfl (lv_at hl 0 rfl) ?_
    refine k_iconst hx hb dX2_init_20 ?_
    refine k_icmp_ge (tgt := 43) hx hb dX2_init_21 (by decide) (by omega) (by omega) (fun h => by exfalso; omega) (fun _ => ?_)
    refine lv_aload_n hx hb dX2_init_24 rfl (lv_at hl 1 rfl) ?_
    refine va_get (D := D) (ci := 1) (v := .ref q1) (C := RX2) (T := TX2) (N := 2) hx hb hts hinX2 hown hK hP 0 rfl rfl 0 (by decide) (hts (.fieldLink RX2 17 "ArcPlate$History" "states" "[LArcPlate$Plate;") (by decide +kernel)) (fun _ h9 => h9) rfl dX2_init_25 ?_
    refine lv_iload_n hx hb dX2_init_28 rfl (lv_at hl 0 rfl) ?_
    refine va_new (ci := 3) (fs := [.int 0, .int 0, .int 0, .int 0, .null, .null, .null, .null, .null, .null, .null, .null]) (C := RX4) (T := TX4) (N := 12) hx hb hts hinX4 tyX4 tyX4_ok hown (hts (.classLink RX2 15 RX4) (by decide +kernel)) (hts (.instantiable RX4 12) (by decide +kernel)) (hts (.initialized RX4) (by decide +kernel)) hK hP hD hS hA rfl (fun j hj => by rcases (show j = 0 ∨ j = 1 ∨ j = 2 ∨ j = 3 ∨ j = 4 ∨ j = 5 ∨ j = 6 ∨ j = 7 ∨ j = 8 ∨ j = 9 ∨ j = 10 ∨ j = 11 by omega) with rfl | rfl | rfl | rfl | rfl | rfl | rfl | rfl | rfl | rfl | rfl | rfl <;> rfl) (Nat.le_of_ble_eq_true rfl) (Nat.le_of_ble_eq_true rfl) dX2_init_29 (fun q4 H hP hD hS => ?_)
    have hP : va_P D vwCl ([(h0, .inr (1, [.ref q1, .int (iI 0)])), (q1, .inl (cy 3, 4, .inr (.inr (.inr (.inr (va_up (fun _ => none) 0 (some (a3 0))))))))] ++ plW cy a3 pl0 ++ [(q4, .inr (3, [.int 0, .int 0, .int 0, .int 0, .null, .null, .null, .null, .null, .null, .null, .null]))] : va_W) H := hP
    have hD : va_D A ([(h0, .inr (1, [.ref q1, .int (iI 0)])), (q1, .inl (cy 3, 4, .inr (.inr (.inr (.inr (va_up (fun _ => none) 0 (some (a3 0))))))))] ++ plW cy a3 pl0 ++ [(q4, .inr (3, [.int 0, .int 0, .int 0, .int 0, .null, .null, .null, .null, .null, .null, .null, .null]))] : va_W) := hD
    refine lv_dup hx hb dX2_init_32 rfl ?_
    have hPc := hP.sub (ws' := ([(q4, .inr (3, [.int 0, .int 0, .int 0, .int 0, .null, .null, .null, .null, .null, .null, .null, .null]))] : va_W)) [11] rfl
    have hDc := hD.sub (ws' := ([(q4, .inr (3, [.int 0, .int 0, .int 0, .int 0, .null, .null, .null, .null, .null, .null, .null, .null]))] : va_W)) [11] (by decide) rfl
    have hFc := va_free (wc := ([(q4, .inr (3, [.int 0, .int 0, .int 0, .int 0, .null, .null, .null, .null, .null, .null, .null, .null]))] : va_W)) hD hS hA [11] rfl
    refine k_muv (k_runI (rest := [.ref q4, .int (iI 1), .ref q1]) ⟨hx, hb, hml, hown, hts⟩ (c_X4_init l D cy H.size q4) (cwI 0 hts gX2_init_X4_init rfl rfl rfl (hts (.initialized RX4) (by decide +kernel)) (hts (.methodLink RX2 21 yX4_init) (by decide +kernel)) (hts (.instanceMethod yX4_init) (by decide +kernel)) rfl (by decide +kernel) ⟨Nat.le_of_ble_eq_true rfl, Nat.le_of_ble_eq_true rfl⟩) (GI_ok D cy) hG hS hFc hPc hDc hl.1 (Nat.le_of_ble_eq_true rfl) ⟨Nat.le_of_ble_eq_true rfl, Nat.le_of_ble_eq_true rfl⟩ dX2_init_33) hFc hS (fun a5 H1 locs1 hu hP1 hD1 hS1 hk1 => ?_)
    have hu : a5 0 = q4 := hu
    have hJ := va_join (wr := ([(h0, .inr (1, [.ref q1, .int (iI 0)])), (q1, .inl (cy 3, 4, .inr (.inr (.inr (.inr (va_up (fun _ => none) 0 (some (a3 0))))))))] ++ plW cy a3 pl0 : va_W)) hP hD [11] [0, 1, 2, 3, 4, 5, 6, 7, 8, 9, 10] rfl rfl (by decide) (by decide) hk1 hFc hP1 hD1
    clear hP hD hS hP1 hD1 hk1 hPc hDc hFc
    subst hu
    have hP : va_P D vwCl ([(h0, .inr (1, [.ref q1, .int (iI 0)])), (q1, .inl (cy 3, 4, .inr (.inr (.inr (.inr (va_up (fun _ => none) 0 (some (a3 0))))))))] ++ plW cy a3 pl0 ++ plW cy a5 pl0 : va_W) H1 := hJ.1
    have hD : va_D A ([(h0, .inr (1, [.ref q1, .int (iI 0)])), (q1, .inl (cy 3, 4, .inr (.inr (.inr (.inr (va_up (fun _ => none) 0 (some (a3 0))))))))] ++ plW cy a3 pl0 ++ plW cy a5 pl0 : va_W) := hJ.2
    have hS := hS1
    clear hJ hS1
    generalize H1 = H at hP hS ⊢
    generalize locs1 = locs at hS ⊢
    refine k_aast hx hb hK hP hD hS 1 3 11 3 (f := va_up (fun _ => none) 0 (some (a3 0))) (f' := va_up (va_up (fun _ => none) 0 (some (a3 0))) 1 (some (a5 0))) rfl rfl rfl rfl (i := 1) (by decide) rfl dX2_init_36 (fun H locs hP hD hS => ?_)
    have hP : va_P D vwCl ([(h0, .inr (1, [.ref q1, .int (iI 0)])), (q1, .inl (cy 3, 4, .inr (.inr (.inr (.inr (va_up (va_up (fun _ => none) 0 (some (a3 0))) 1 (some (a5 0))))))))] ++ plW cy a3 pl0 ++ plW cy a5 pl0 : va_W) H := hP
    have hD : va_D A ([(h0, .inr (1, [.ref q1, .int (iI 0)])), (q1, .inl (cy 3, 4, .inr (.inr (.inr (.inr (va_up (va_up (fun _ => none) 0 (some (a3 0))) 1 (some (a5 0))))))))] ++ plW cy a3 pl0 ++ plW cy a5 pl0 : va_W) := hD
    refine lv_iinc (v := iI 2) (lv' := [(1, .int (iI 2)), (0, .ref h0)]) hx hb dX2_init_37 hl (k := 0) rfl (show iI 1 + iI 1 = iI 2 from iI_add _ _) (by decide) rfl (fun ls hl => ?_)
    refine lv_goto (tgt := 19) hx hb dX2_init_40 (by decide) ?_
    refine lv_iload_n hx hb dX2_init_19 rfl (lv_at hl 0 rfl) ?_
    refine k_iconst hx hb dX2_init_20 ?_
    refine k_icmp_ge (tgt := 43) hx hb dX2_init_21 (by decide) (by omega) (by omega) (fun h => by exfalso; omega) (fun _ => ?_)
    refine lv_aload_n hx hb dX2_init_24 rfl (lv_at hl 1 rfl) ?_
    refine va_get (D := D) (ci := 1) (v := .ref q1) (C := RX2) (T := TX2) (N := 2) hx hb hts hinX2 hown hK hP 0 rfl rfl 0 (by decide) (hts (.fieldLink RX2 17 "ArcPlate$History" "states" "[LArcPlate$Plate;") (by decide +kernel)) (fun _ h9 => h9) rfl dX2_init_25 ?_
    refine lv_iload_n hx hb dX2_init_28 rfl (lv_at hl 0 rfl) ?_
    refine va_new (ci := 3) (fs := [.int 0, .int 0, .int 0, .int 0, .null, .null, .null, .null, .null, .null, .null, .null]) (C := RX4) (T := TX4) (N := 12) hx hb hts hinX4 tyX4 tyX4_ok hown (hts (.classLink RX2 15 RX4) (by decide +kernel)) (hts (.instantiable RX4 12) (by decide +kernel)) (hts (.initialized RX4) (by decide +kernel)) hK hP hD hS hA rfl (fun j hj => by rcases (show j = 0 ∨ j = 1 ∨ j = 2 ∨ j = 3 ∨ j = 4 ∨ j = 5 ∨ j = 6 ∨ j = 7 ∨ j = 8 ∨ j = 9 ∨ j = 10 ∨ j = 11 by omega) with rfl | rfl | rfl | rfl | rfl | rfl | rfl | rfl | rfl | rfl | rfl | rfl <;> rfl) (Nat.le_of_ble_eq_true rfl) (Nat.le_of_ble_eq_true rfl) dX2_init_29 (fun q6 H hP hD hS => ?_)
    have hP : va_P D vwCl ([(h0, .inr (1, [.ref q1, .int (iI 0)])), (q1, .inl (cy 3, 4, .inr (.inr (.inr (.inr (va_up (va_up (fun _ => none) 0 (some (a3 0))) 1 (some (a5 0))))))))] ++ plW cy a3 pl0 ++ plW cy a5 pl0 ++ [(q6, .inr (3, [.int 0, .int 0, .int 0, .int 0, .null, .null, .null, .null, .null, .null, .null, .null]))] : va_W) H := hP
    have hD : va_D A ([(h0, .inr (1, [.ref q1, .int (iI 0)])), (q1, .inl (cy 3, 4, .inr (.inr (.inr (.inr (va_up (va_up (fun _ => none) 0 (some (a3 0))) 1 (some (a5 0))))))))] ++ plW cy a3 pl0 ++ plW cy a5 pl0 ++ [(q6, .inr (3, [.int 0, .int 0, .int 0, .int 0, .null, .null, .null, .null, .null, .null, .null, .null]))] : va_W) := hD
    refine lv_dup hx hb dX2_init_32 rfl ?_
    have hPc := hP.sub (ws' := ([(q6, .inr (3, [.int 0, .int 0, .int 0, .int 0, .null, .null, .null, .null, .null, .null, .null, .null]))] : va_W)) [20] rfl
    have hDc := hD.sub (ws' := ([(q6, .inr (3, [.int 0, .int 0, .int 0, .int 0, .null, .null, .null, .null, .null, .null, .null, .null]))] : va_W)) [20] (by decide) rfl
    have hFc := va_free (wc := ([(q6, .inr (3, [.int 0, .int 0, .int 0, .int 0, .null, .null, .null, .null, .null, .null, .null, .null]))] : va_W)) hD hS hA [20] rfl
    refine k_muv (k_runI (rest := [.ref q6, .int (iI 2), .ref q1]) ⟨hx, hb, hml, hown, hts⟩ (c_X4_init l D cy H.size q6) (cwI 0 hts gX2_init_X4_init rfl rfl rfl (hts (.initialized RX4) (by decide +kernel)) (hts (.methodLink RX2 21 yX4_init) (by decide +kernel)) (hts (.instanceMethod yX4_init) (by decide +kernel)) rfl (by decide +kernel) ⟨Nat.le_of_ble_eq_true rfl, Nat.le_of_ble_eq_true rfl⟩) (GI_ok D cy) hG hS hFc hPc hDc hl.1 (Nat.le_of_ble_eq_true rfl) ⟨Nat.le_of_ble_eq_true rfl, Nat.le_of_ble_eq_true rfl⟩ dX2_init_33) hFc hS (fun a7 H1 locs1 hu hP1 hD1 hS1 hk1 => ?_)
    have hu : a7 0 = q6 := hu
    have hJ := va_join (wr := ([(h0, .inr (1, [.ref q1, .int (iI 0)])), (q1, .inl (cy 3, 4, .inr (.inr (.inr (.inr (va_up (va_up (fun _ => none) 0 (some (a3 0))) 1 (some (a5 0))))))))] ++ plW cy a3 pl0 ++ plW cy a5 pl0 : va_W)) hP hD [20] [0, 1, 2, 3, 4, 5, 6, 7, 8, 9, 10, 11, 12, 13, 14, 15, 16, 17, 18, 19] rfl rfl (by decide) (by decide) hk1 hFc hP1 hD1
    clear hP hD hS hP1 hD1 hk1 hPc hDc hFc
    subst hu
    have hP : va_P D vwCl ([(h0, .inr (1, [.ref q1, .int (iI 0)])), (q1, .inl (cy 3, 4, .inr (.inr (.inr (.inr (va_up (va_up (fun _ => none) 0 (some (a3 0))) 1 (some (a5 0))))))))] ++ plW cy a3 pl0 ++ plW cy a5 pl0 ++ plW cy a7 pl0 : va_W) H1 := hJ.1
    have hD : va_D A ([(h0, .inr (1, [.ref q1, .int (iI 0)])), (q1, .inl (cy 3, 4, .inr (.inr (.inr (.inr (va_up (va_up (fun _ => none) 0 (some (a3 0))) 1 (some (a5 0))))))))] ++ plW cy a3 pl0 ++ plW cy a5 pl0 ++ plW cy a7 pl0 : va_W) := hJ.2
    have hS := hS1
    clear hJ hS1
    generalize H1 = H at hP hS ⊢
    generalize locs1 = locs at hS ⊢
    refine k_aast hx hb hK hP hD hS 1 3 20 3 (f := va_up (va_up (fun _ => none) 0 (some (a3 0))) 1 (some (a5 0))) (f' := va_up (va_up (va_up (fun _ => none) 0 (some (a3 0))) 1 (some (a5 0))) 2 (some (a7 0))) rfl rfl rfl rfl (i := 2) (by decide) rfl dX2_init_36 (fun H locs hP hD hS => ?_)
    have hP : va_P D vwCl ([(h0, .inr (1, [.ref q1, .int (iI 0)])), (q1, .inl (cy 3, 4, .inr (.inr (.inr (.inr (va_up (va_up (va_up (fun _ => none) 0 (some (a3 0))) 1 (some (a5 0))) 2 (some (a7 0))))))))] ++ plW cy a3 pl0 ++ plW cy a5 pl0 ++ plW cy a7 pl0 : va_W) H := hP
    have hD : va_D A ([(h0, .inr (1, [.ref q1, .int (iI 0)])), (q1, .inl (cy 3, 4, .inr (.inr (.inr (.inr (va_up (va_up (va_up (fun _ => none) 0 (some (a3 0))) 1 (some (a5 0))) 2 (some (a7 0))))))))] ++ plW cy a3 pl0 ++ plW cy a5 pl0 ++ plW cy a7 pl0 : va_W) := hD
    refine lv_iinc (v := iI 3) (lv' := [(1, .int (iI 3)), (0, .ref h0)]) hx hb dX2_init_37 hl (k := 0) rfl (show iI 2 + iI 1 = iI 3 from iI_add _ _) (by decide) rfl (fun ls hl => ?_)
    refine lv_goto (tgt := 19) hx hb dX2_init_40 (by decide) ?_
    refine lv_iload_n hx hb dX2_init_19 rfl (lv_at hl 0 rfl) ?_
    refine k_iconst hx hb dX2_init_20 ?_
    refine k_icmp_ge (tgt := 43) hx hb dX2_init_21 (by decide) (by omega) (by omega) (fun h => by exfalso; omega) (fun _ => ?_)
    refine lv_aload_n hx hb dX2_init_24 rfl (lv_at hl 1 rfl) ?_
    refine va_get (D := D) (ci := 1) (v := .ref q1) (C := RX2) (T := TX2) (N := 2) hx hb hts hinX2 hown hK hP 0 rfl rfl 0 (by decide) (hts (.fieldLink RX2 17 "ArcPlate$History" "states" "[LArcPlate$Plate;") (by decide +kernel)) (fun _ h9 => h9) rfl dX2_init_25 ?_
    refine lv_iload_n hx hb dX2_init_28 rfl (lv_at hl 0 rfl) ?_
    refine va_new (ci := 3) (fs := [.int 0, .int 0, .int 0, .int 0, .null, .null, .null, .null, .null, .null, .null, .null]) (C := RX4) (T := TX4) (N := 12) hx hb hts hinX4 tyX4 tyX4_ok hown (hts (.classLink RX2 15 RX4) (by decide +kernel)) (hts (.instantiable RX4 12) (by decide +kernel)) (hts (.initialized RX4) (by decide +kernel)) hK hP hD hS hA rfl (fun j hj => by rcases (show j = 0 ∨ j = 1 ∨ j = 2 ∨ j = 3 ∨ j = 4 ∨ j = 5 ∨ j = 6 ∨ j = 7 ∨ j = 8 ∨ j = 9 ∨ j = 10 ∨ j = 11 by omega) with rfl | rfl | rfl | rfl | rfl | rfl | rfl | rfl | rfl | rfl | rfl | rfl <;> rfl) (Nat.le_of_ble_eq_true rfl) (Nat.le_of_ble_eq_true rfl) dX2_init_29 (fun q8 H hP hD hS => ?_)
    have hP : va_P D vwCl ([(h0, .inr (1, [.ref q1, .int (iI 0)])), (q1, .inl (cy 3, 4, .inr (.inr (.inr (.inr (va_up (va_up (va_up (fun _ => none) 0 (some (a3 0))) 1 (some (a5 0))) 2 (some (a7 0))))))))] ++ plW cy a3 pl0 ++ plW cy a5 pl0 ++ plW cy a7 pl0 ++ [(q8, .inr (3, [.int 0, .int 0, .int 0, .int 0, .null, .null, .null, .null, .null, .null, .null, .null]))] : va_W) H := hP
    have hD : va_D A ([(h0, .inr (1, [.ref q1, .int (iI 0)])), (q1, .inl (cy 3, 4, .inr (.inr (.inr (.inr (va_up (va_up (va_up (fun _ => none) 0 (some (a3 0))) 1 (some (a5 0))) 2 (some (a7 0))))))))] ++ plW cy a3 pl0 ++ plW cy a5 pl0 ++ plW cy a7 pl0 ++ [(q8, .inr (3, [.int 0, .int 0, .int 0, .int 0, .null, .null, .null, .null, .null, .null, .null, .null]))] : va_W) := hD
    refine lv_dup hx hb dX2_init_32 rfl ?_
    have hPc := hP.sub (ws' := ([(q8, .inr (3, [.int 0, .int 0, .int 0, .int 0, .null, .null, .null, .null, .null, .null, .null, .null]))] : va_W)) [29] rfl
    have hDc := hD.sub (ws' := ([(q8, .inr (3, [.int 0, .int 0, .int 0, .int 0, .null, .null, .null, .null, .null, .null, .null, .null]))] : va_W)) [29] (by decide) rfl
    have hFc := va_free (wc := ([(q8, .inr (3, [.int 0, .int 0, .int 0, .int 0, .null, .null, .null, .null, .null, .null, .null, .null]))] : va_W)) hD hS hA [29] rfl
    refine k_muv (k_runI (rest := [.ref q8, .int (iI 3), .ref q1]) ⟨hx, hb, hml, hown, hts⟩ (c_X4_init l D cy H.size q8) (cwI 0 hts gX2_init_X4_init rfl rfl rfl (hts (.initialized RX4) (by decide +kernel)) (hts (.methodLink RX2 21 yX4_init) (by decide +kernel)) (hts (.instanceMethod yX4_init) (by decide +kernel)) rfl (by decide +kernel) ⟨Nat.le_of_ble_eq_true rfl, Nat.le_of_ble_eq_true rfl⟩) (GI_ok D cy) hG hS hFc hPc hDc hl.1 (Nat.le_of_ble_eq_true rfl) ⟨Nat.le_of_ble_eq_true rfl, Nat.le_of_ble_eq_true rfl⟩ dX2_init_33) hFc hS (fun a9 H1 locs1 hu hP1 hD1 hS1 hk1 => ?_)
    have hu : a9 0 = q8 := hu
    have hJ := va_join (wr := ([(h0, .inr (1, [.ref q1, .int (iI 0)])), (q1, .inl (cy 3, 4, .inr (.inr (.inr (.inr (va_up (va_up (va_up (fun _ => none) 0 (some (a3 0))) 1 (some (a5 0))) 2 (some (a7 0))))))))] ++ plW cy a3 pl0 ++ plW cy a5 pl0 ++ plW cy a7 pl0 : va_W)) hP hD [29] [0, 1, 2, 3, 4, 5, 6, 7, 8, 9, 10, 11, 12, 13, 14, 15, 16, 17, 18, 19, 20, 21, 22, 23, 24, 25, 26, 27, 28] rfl rfl (by decide) (by decide) hk1 hFc hP1 hD1
    clear hP hD hS hP1 hD1 hk1 hPc hDc hFc
    subst hu
    have hP : va_P D vwCl ([(h0, .inr (1, [.ref q1, .int (iI 0)])), (q1, .inl (cy 3, 4, .inr (.inr (.inr (.inr (va_up (va_up (va_up (fun _ => none) 0 (some (a3 0))) 1 (some (a5 0))) 2 (some (a7 0))))))))] ++ plW cy a3 pl0 ++ plW cy a5 pl0 ++ plW cy a7 pl0 ++ plW cy a9 pl0 : va_W) H1 := hJ.1
    have hD : va_D A ([(h0, .inr (1, [.ref q1, .int (iI 0)])), (q1, .inl (cy 3, 4, .inr (.inr (.inr (.inr (va_up (va_up (va_up (fun _ => none) 0 (some (a3 0))) 1 (some (a5 0))) 2 (some (a7 0))))))))] ++ plW cy a3 pl0 ++ plW cy a5 pl0 ++ plW cy a7 pl0 ++ plW cy a9 pl0 : va_W) := hJ.2
    have hS := hS1
    clear hJ hS1
    generalize H1 = H at hP hS ⊢
    generalize locs1 = locs at hS ⊢
    refine k_aast hx hb hK hP hD hS 1 3 29 3 (f := va_up (va_up (va_up (fun _ => none) 0 (some (a3 0))) 1 (some (a5 0))) 2 (some (a7 0))) (f' := va_up (va_up (va_up (va_up (fun _ => none) 0 (some (a3 0))) 1 (some (a5 0))) 2 (some (a7 0))) 3 (some (a9 0))) rfl rfl rfl rfl (i := 3) (by decide) rfl dX2_init_36 (fun H locs hP hD hS => ?_)
    have hP : va_P D vwCl ([(h0, .inr (1, [.ref q1, .int (iI 0)])), (q1, .inl (cy 3, 4, .inr (.inr (.inr (.inr (va_up (va_up (va_up (va_up (fun _ => none) 0 (some (a3 0))) 1 (some (a5 0))) 2 (some (a7 0))) 3 (some (a9 0))))))))] ++ plW cy a3 pl0 ++ plW cy a5 pl0 ++ plW cy a7 pl0 ++ plW cy a9 pl0 : va_W) H := hP
    have hD : va_D A ([(h0, .inr (1, [.ref q1, .int (iI 0)])), (q1, .inl (cy 3, 4, .inr (.inr (.inr (.inr (va_up (va_up (va_up (va_up (fun _ => none) 0 (some (a3 0))) 1 (some (a5 0))) 2 (some (a7 0))) 3 (some (a9 0))))))))] ++ plW cy a3 pl0 ++ plW cy a5 pl0 ++ plW cy a7 pl0 ++ plW cy a9 pl0 : va_W) := hD
    refine lv_iinc (v := iI 4) (lv' := [(1, .int (iI 4)), (0, .ref h0)]) hx hb dX2_init_37 hl (k := 0) rfl (show iI 3 + iI 1 = iI 4 from iI_add _ _) (by decide) rfl (fun ls hl => ?_)
    refine lv_goto (tgt := 19) hx hb dX2_init_40 (by decide) ?_
    refine lv_iload_n hx hb dX2_init_19 rfl (lv_at hl 0 rfl) ?_
    refine k_iconst hx hb dX2_init_20 ?_
    refine k_icmp_ge (tgt := 43) hx hb dX2_init_21 (by decide) (by omega) (by omega) (fun _ => ?_) (fun h => by exfalso; omega)
    rw [q4_up] at hP hD
    have hP9 : va_P D vwCl (hsW cy (fun i => cond (Nat.beq i 50) h0 (cond (Nat.beq i 51) q1 (cond (Nat.ble i 69) (a3 (i - 60)) (cond (Nat.ble i 79) (a5 (i - 70)) (cond (Nat.ble i 89) (a7 (i - 80)) (a9 (i - 90))))))) ob0) H := hP
    have hD9 : va_D A (hsW cy (fun i => cond (Nat.beq i 50) h0 (cond (Nat.beq i 51) q1 (cond (Nat.ble i 69) (a3 (i - 60)) (cond (Nat.ble i 79) (a5 (i - 70)) (cond (Nat.ble i 89) (a7 (i - 80)) (a9 (i - 90))))))) ob0) := hD
    exact W.vret hx hb hr (fun t9 ht _ => ⟨⟨(fun i => cond (Nat.beq i 50) h0 (cond (Nat.beq i 51) q1 (cond (Nat.ble i 69) (a3 (i - 60)) (cond (Nat.ble i 79) (a5 (i - 70)) (cond (Nat.ble i 89) (a7 (i - 80)) (a9 (i - 90))))))), rfl, rfl, by rw [ht]; exact hP9, by rw [hAe]; exact hD9⟩, by rw [hAe]; exact hS.F ht⟩) (by rw [hAe]; exact hS.2.2) dX2_init_43 hlocks
  exact hbody _ s.heap [] hA hG hP hD hS rfl
set_option maxHeartbeats 4000000 in
set_option maxRecDepth 100000 in
theorem c_X6_init (l : Launch) (D : va_G) (cy : Nat → ClassId) (sz : Nat) (h0 : Nat) : Met l yX6_init wsX6_init { frames := 6, cells := 74, slots := 4480, locals := 320 } (mPre (GI D cy) D [(h0, .inr (5, [.null, .null, .null, .null, .null, .null, .int 0, .int 0]))] sz [.ref h0]) (kQv D [(h0, .inr (5, [.null, .null, .null, .null, .null, .null, .int 0, .int 0]))] sz (fun a : Nat → Nat => fullW cy a ob0) (fun a => a 100 = h0)) 74 4480 (va_A [(h0, .inr (5, [.null, .null, .null, .null, .null, .null, .int 0, .int 0]))] sz) := by
  refine kM_start (cc := cX6_init) (maxL := 1) (ret := none) (by decide) rfl (Nat.le_of_ble_eq_true rfl) ?_
  intro p e s m below meth c hx hb hr hlocks hml hts hown hsz hA hG hP hD hS hin ls hl
  have hK := hG.1.1
  have hin2 := hin rfl
  have hl : lv_has ls 1 [(0, .ref h0)] := hl
  have hinX4 : ∀ w ∈ u_ws RX4 TX4 12, w ∈ wsX6_init := by decide +kernel
  have hinX6 : ∀ w ∈ u_ws RX6 TX6 8, w ∈ wsX6_init := by decide +kernel
  have hinX2 : ∀ w ∈ u_ws RX2 TX2 2, w ∈ wsX6_init := by decide +kernel
  have hinX5 : ∀ w ∈ u_ws RX5 TX5 6, w ∈ wsX6_init := by decide +kernel
  have hinX1 : ∀ w ∈ u_ws RX1 TX1 8, w ∈ wsX6_init := by decide +kernel
  have hinX3 : ∀ w ∈ u_ws RX3 TX3 9, w ∈ wsX6_init := by decide +kernel
  have hbody : ∀ (A : Nat → Prop) (H : Heap) (locs : List Loc) (hA : ∀ q : Nat, s.heap.size ≤ q → A q) (hG : GI D cy A s s.heap) (hP : va_P D vwCl [(h0, .inr (5, [.null, .null, .null, .null, .null, .null, .int 0, .int 0]))] H) (hD : va_D A [(h0, .inr (5, [.null, .null, .null, .null, .null, .null, .int 0, .int 0]))]) (hS : va_S A s.heap H locs) (hAe : va_A [(h0, .inr (5, [.null, .null, .null, .null, .null, .null, .int 0, .int 0]))] sz = A), W p l e { frames := 6, cells := 74, slots := 4480, locals := 320 } s m ([Value.ref h0] : List Value).toArray below meth c H locs 0 0 (MQ below (kQv D [(h0, .inr (5, [.null, .null, .null, .null, .null, .null, .int 0, .int 0]))] sz (fun a : Nat → Nat => fullW cy a ob0) (fun a => a 100 = h0)) ([Value.ref h0] : List Value).toArray s 74 4480 (va_A [(h0, .inr (5, [.null, .null, .null, .null, .null, .null, .int 0, .int 0]))] sz)) (F0 m 0 ls []) := by
    intro A H locs hA hG hP hD hS hAe
    refine lv_aload_n hx hb dX6_init_0 rfl (lv_at hl 0 rfl) ?_
    refine W.objInit hx hb hown (hts (.methodLink RX6 1 objectInit) (by decide +kernel)) (hts (.instanceMethod objectInit) (by decide +kernel)) (hts _ (List.mem_of_getElem? (i := 3) rfl)) rfl (by rw [hml]; exact hl.1) rfl dX6_init_1 (Nat.le_of_ble_eq_true rfl) (Nat.le_of_ble_eq_true rfl) ?_
    refine W.eq (g2 := F0 m 4 ls []) rfl ?_
    refine lv_aload_n hx hb dX6_init_4 rfl (lv_at hl 0 rfl) ?_
    refine va_new (ci := 3) (fs := [.int 0, .int 0, .int 0, .int 0, .null, .null, .null, .null, .null, .null, .null, .null]) (C := RX4) (T := TX4) (N := 12) hx hb hts hinX4 tyX4 tyX4_ok hown (hts (.classLink RX6 7 RX4) (by decide +kernel)) (hts (.instantiable RX4 12) (by decide +kernel)) (hts (.initialized RX4) (by decide +kernel)) hK hP hD hS hA rfl (fun j hj => by rcases (show j = 0 ∨ j = 1 ∨ j = 2 ∨ j = 3 ∨ j = 4 ∨ j = 5 ∨ j = 6 ∨ j = 7 ∨ j = 8 ∨ j = 9 ∨ j = 10 ∨ j = 11 by omega) with rfl | rfl | rfl | rfl | rfl | rfl | rfl | rfl | rfl | rfl | rfl | rfl <;> rfl) (Nat.le_of_ble_eq_true rfl) (Nat.le_of_ble_eq_true rfl) dX6_init_5 (fun q1 H hP hD hS => ?_)
    have hP : va_P D vwCl ([(h0, .inr (5, [.null, .null, .null, .null, .null, .null, .int 0, .int 0])), (q1, .inr (3, [.int 0, .int 0, .int 0, .int 0, .null, .null, .null, .null, .null, .null, .null, .null]))] : va_W) H := hP
    have hD : va_D A ([(h0, .inr (5, [.null, .null, .null, .null, .null, .null, .int 0, .int 0])), (q1, .inr (3, [.int 0, .int 0, .int 0, .int 0, .null, .null, .null, .null, .null, .null, .null, .null]))] : va_W) := hD
    refine lv_dup hx hb dX6_init_8 rfl ?_
    have hPc := hP.sub (ws' := ([(q1, .inr (3, [.int 0, .int 0, .int 0, .int 0, .null, .null, .null, .null, .null, .null, .null, .null]))] : va_W)) [1] rfl
    have hDc := hD.sub (ws' := ([(q1, .inr (3, [.int 0, .int 0, .int 0, .int 0, .null, .null, .null, .null, .null, .null, .null, .null]))] : va_W)) [1] (by decide) rfl
    have hFc := va_free (wc := ([(q1, .inr (3, [.int 0, .int 0, .int 0, .int 0, .null, .null, .null, .null, .null, .null, .null, .null]))] : va_W)) hD hS hA [1] rfl
    refine k_muv (k_runI (rest := [.ref q1, .ref h0]) ⟨hx, hb, hml, hown, hts⟩ (c_X4_init l D cy H.size q1) (cwI 0 hts gX6_init_X4_init rfl rfl rfl (hts (.initialized RX4) (by decide +kernel)) (hts (.methodLink RX6 9 yX4_init) (by decide +kernel)) (hts (.instanceMethod yX4_init) (by decide +kernel)) rfl (by decide +kernel) ⟨Nat.le_of_ble_eq_true rfl, Nat.le_of_ble_eq_true rfl⟩) (GI_ok D cy) hG hS hFc hPc hDc hl.1 (Nat.le_of_ble_eq_true rfl) ⟨Nat.le_of_ble_eq_true rfl, Nat.le_of_ble_eq_true rfl⟩ dX6_init_9) hFc hS (fun a2 H1 locs1 hu hP1 hD1 hS1 hk1 => ?_)
    have hu : a2 0 = q1 := hu
    have hJ := va_join (wr := ([(h0, .inr (5, [.null, .null, .null, .null, .null, .null, .int 0, .int 0]))] : va_W)) hP hD [1] [0] rfl rfl (by decide) (by decide) hk1 hFc hP1 hD1
    clear hP hD hS hP1 hD1 hk1 hPc hDc hFc
    subst hu
    have hP : va_P D vwCl ([(h0, .inr (5, [.null, .null, .null, .null, .null, .null, .int 0, .int 0]))] ++ plW cy a2 pl0 : va_W) H1 := hJ.1
    have hD : va_D A ([(h0, .inr (5, [.null, .null, .null, .null, .null, .null, .int 0, .int 0]))] ++ plW cy a2 pl0 : va_W) := hJ.2
    have hS := hS1
    clear hJ hS1
    generalize H1 = H at hP hS ⊢
    generalize locs1 = locs at hS ⊢
    refine va_putF (D := D) (ci := 5) (v := .ref (a2 0)) (ty := (.object "ArcPlate$Plate")) (C := RX6) (T := TX6) (N := 8) hx hb hts hinX6 tyX6 tyX6_ok nmX6 hown hK hP hD hS 0 rfl rfl 0 (by decide) (hts (.fieldLink RX6 10 "ArcPlate" "plate" "LArcPlate$Plate;") (by decide +kernel)) (fun _ h9 => h9) rfl hin2 rfl (by decide +kernel) rfl rfl (Nat.le_of_ble_eq_true rfl) dX6_init_12 (fun H locs hP hD hS => ?_)
    have hP : va_P D vwCl ([(h0, .inr (5, [.ref (a2 0), .null, .null, .null, .null, .null, .int 0, .int 0]))] ++ plW cy a2 pl0 : va_W) H := hP
    have hD : va_D A ([(h0, .inr (5, [.ref (a2 0), .null, .null, .null, .null, .null, .int 0, .int 0]))] ++ plW cy a2 pl0 : va_W) := hD
    refine lv_aload_n hx hb dX6_init_15 rfl (lv_at hl 0 rfl) ?_
    refine va_new (ci := 1) (fs := [.null, .int 0]) (C := RX2) (T := TX2) (N := 2) hx hb hts hinX2 tyX2 tyX2_ok hown (hts (.classLink RX6 16 RX2) (by decide +kernel)) (hts (.instantiable RX2 2) (by decide +kernel)) (hts (.initialized RX2) (by decide +kernel)) hK hP hD hS hA rfl (fun j hj => by rcases (show j = 0 ∨ j = 1 by omega) with rfl | rfl <;> rfl) (Nat.le_of_ble_eq_true rfl) (Nat.le_of_ble_eq_true rfl) dX6_init_16 (fun q3 H hP hD hS => ?_)
    have hP : va_P D vwCl ([(h0, .inr (5, [.ref (a2 0), .null, .null, .null, .null, .null, .int 0, .int 0]))] ++ plW cy a2 pl0 ++ [(q3, .inr (1, [.null, .int 0]))] : va_W) H := hP
    have hD : va_D A ([(h0, .inr (5, [.ref (a2 0), .null, .null, .null, .null, .null, .int 0, .int 0]))] ++ plW cy a2 pl0 ++ [(q3, .inr (1, [.null, .int 0]))] : va_W) := hD
    refine lv_dup hx hb dX6_init_19 rfl ?_
    have hPc := hP.sub (ws' := ([(q3, .inr (1, [.null, .int 0]))] : va_W)) [10] rfl
    have hDc := hD.sub (ws' := ([(q3, .inr (1, [.null, .int 0]))] : va_W)) [10] (by decide) rfl
    have hFc := va_free (wc := ([(q3, .inr (1, [.null, .int 0]))] : va_W)) hD hS hA [10] rfl
    refine k_muv (k_runI (rest := [.ref q3, .ref h0]) ⟨hx, hb, hml, hown, hts⟩ (c_X2_init l D cy H.size q3) (cwI 0 hts gX6_init_X2_init rfl rfl rfl (hts (.initialized RX2) (by decide +kernel)) (hts (.methodLink RX6 18 yX2_init) (by decide +kernel)) (hts (.instanceMethod yX2_init) (by decide +kernel)) rfl (by decide +kernel) ⟨Nat.le_of_ble_eq_true rfl, Nat.le_of_ble_eq_true rfl⟩) (GI_ok D cy) hG hS hFc hPc hDc hl.1 (Nat.le_of_ble_eq_true rfl) ⟨Nat.le_of_ble_eq_true rfl, Nat.le_of_ble_eq_true rfl⟩ dX6_init_20) hFc hS (fun a4 H1 locs1 hu hP1 hD1 hS1 hk1 => ?_)
    have hu : a4 50 = q3 := hu
    have hJ := va_join (wr := ([(h0, .inr (5, [.ref (a2 0), .null, .null, .null, .null, .null, .int 0, .int 0]))] ++ plW cy a2 pl0 : va_W)) hP hD [10] [0, 1, 2, 3, 4, 5, 6, 7, 8, 9] rfl rfl (by decide) (by decide) hk1 hFc hP1 hD1
    clear hP hD hS hP1 hD1 hk1 hPc hDc hFc
    subst hu
    have hP : va_P D vwCl ([(h0, .inr (5, [.ref (a2 0), .null, .null, .null, .null, .null, .int 0, .int 0]))] ++ plW cy a2 pl0 ++ hsW cy a4 ob0 : va_W) H1 := hJ.1
    have hD : va_D A ([(h0, .inr (5, [.ref (a2 0), .null, .null, .null, .null, .null, .int 0, .int 0]))] ++ plW cy a2 pl0 ++ hsW cy a4 ob0 : va_W) := hJ.2
    have hS := hS1
    clear hJ hS1
    generalize H1 = H at hP hS ⊢
    generalize locs1 = locs at hS ⊢
    refine va_putF (D := D) (ci := 5) (v := .ref (a4 50)) (ty := (.object "ArcPlate$History")) (C := RX6) (T := TX6) (N := 8) hx hb hts hinX6 tyX6 tyX6_ok nmX6 hown hK hP hD hS 0 rfl rfl 1 (by decide) (hts (.fieldLink RX6 19 "ArcPlate" "history" "LArcPlate$History;") (by decide +kernel)) (fun _ h9 => h9) rfl hin2 rfl (by decide +kernel) rfl rfl (Nat.le_of_ble_eq_true rfl) dX6_init_23 (fun H locs hP hD hS => ?_)
    have hP : va_P D vwCl ([(h0, .inr (5, [.ref (a2 0), .ref (a4 50), .null, .null, .null, .null, .int 0, .int 0]))] ++ plW cy a2 pl0 ++ hsW cy a4 ob0 : va_W) H := hP
    have hD : va_D A ([(h0, .inr (5, [.ref (a2 0), .ref (a4 50), .null, .null, .null, .null, .int 0, .int 0]))] ++ plW cy a2 pl0 ++ hsW cy a4 ob0 : va_W) := hD
    refine lv_aload_n hx hb dX6_init_26 rfl (lv_at hl 0 rfl) ?_
    refine va_new (ci := 4) (fs := [.int 0, .int 0, .null, .null, .null, .int 0]) (C := RX5) (T := TX5) (N := 6) hx hb hts hinX5 tyX5 tyX5_ok hown (hts (.classLink RX6 23 RX5) (by decide +kernel)) (hts (.instantiable RX5 6) (by decide +kernel)) (hts (.initialized RX5) (by decide +kernel)) hK hP hD hS hA rfl (fun j hj => by rcases (show j = 0 ∨ j = 1 ∨ j = 2 ∨ j = 3 ∨ j = 4 ∨ j = 5 by omega) with rfl | rfl | rfl | rfl | rfl | rfl <;> rfl) (Nat.le_of_ble_eq_true rfl) (Nat.le_of_ble_eq_true rfl) dX6_init_27 (fun q5 H hP hD hS => ?_)
    have hP : va_P D vwCl ([(h0, .inr (5, [.ref (a2 0), .ref (a4 50), .null, .null, .null, .null, .int 0, .int 0]))] ++ plW cy a2 pl0 ++ hsW cy a4 ob0 ++ [(q5, .inr (4, [.int 0, .int 0, .null, .null, .null, .int 0]))] : va_W) H := hP
    have hD : va_D A ([(h0, .inr (5, [.ref (a2 0), .ref (a4 50), .null, .null, .null, .null, .int 0, .int 0]))] ++ plW cy a2 pl0 ++ hsW cy a4 ob0 ++ [(q5, .inr (4, [.int 0, .int 0, .null, .null, .null, .int 0]))] : va_W) := hD
    refine lv_dup hx hb dX6_init_30 rfl ?_
    have hPc := hP.sub (ws' := ([(q5, .inr (4, [.int 0, .int 0, .null, .null, .null, .int 0]))] : va_W)) [48] rfl
    have hDc := hD.sub (ws' := ([(q5, .inr (4, [.int 0, .int 0, .null, .null, .null, .int 0]))] : va_W)) [48] (by decide) rfl
    have hFc := va_free (wc := ([(q5, .inr (4, [.int 0, .int 0, .null, .null, .null, .int 0]))] : va_W)) hD hS hA [48] rfl
    refine k_muv (k_runI (rest := [.ref q5, .ref h0]) ⟨hx, hb, hml, hown, hts⟩ (c_X5_init l D cy H.size q5) (cwI 0 hts gX6_init_X5_init rfl rfl rfl (hts (.initialized RX5) (by decide +kernel)) (hts (.methodLink RX6 25 yX5_init) (by decide +kernel)) (hts (.instanceMethod yX5_init) (by decide +kernel)) rfl (by decide +kernel) ⟨Nat.le_of_ble_eq_true rfl, Nat.le_of_ble_eq_true rfl⟩) (GI_ok D cy) hG hS hFc hPc hDc hl.1 (Nat.le_of_ble_eq_true rfl) ⟨Nat.le_of_ble_eq_true rfl, Nat.le_of_ble_eq_true rfl⟩ dX6_init_31) hFc hS (fun a6 H1 locs1 hu hP1 hD1 hS1 hk1 => ?_)
    have hu : a6 10 = q5 := hu
    have hJ := va_join (wr := ([(h0, .inr (5, [.ref (a2 0), .ref (a4 50), .null, .null, .null, .null, .int 0, .int 0]))] ++ plW cy a2 pl0 ++ hsW cy a4 ob0 : va_W)) hP hD [48] [0, 1, 2, 3, 4, 5, 6, 7, 8, 9, 10, 11, 12, 13, 14, 15, 16, 17, 18, 19, 20, 21, 22, 23, 24, 25, 26, 27, 28, 29, 30, 31, 32, 33, 34, 35, 36, 37, 38, 39, 40, 41, 42, 43, 44, 45, 46, 47] rfl rfl (by decide) (by decide) hk1 hFc hP1 hD1
    clear hP hD hS hP1 hD1 hk1 hPc hDc hFc
    subst hu
    have hP : va_P D vwCl ([(h0, .inr (5, [.ref (a2 0), .ref (a4 50), .null, .null, .null, .null, .int 0, .int 0]))] ++ plW cy a2 pl0 ++ hsW cy a4 ob0 ++ scW cy a6 zr0 : va_W) H1 := hJ.1
    have hD : va_D A ([(h0, .inr (5, [.ref (a2 0), .ref (a4 50), .null, .null, .null, .null, .int 0, .int 0]))] ++ plW cy a2 pl0 ++ hsW cy a4 ob0 ++ scW cy a6 zr0 : va_W) := hJ.2
    have hS := hS1
    clear hJ hS1
    generalize H1 = H at hP hS ⊢
    generalize locs1 = locs at hS ⊢
    refine va_putF (D := D) (ci := 5) (v := .ref (a6 10)) (ty := (.object "ArcPlate$Script")) (C := RX6) (T := TX6) (N := 8) hx hb hts hinX6 tyX6 tyX6_ok nmX6 hown hK hP hD hS 0 rfl rfl 2 (by decide) (hts (.fieldLink RX6 26 "ArcPlate" "script" "LArcPlate$Script;") (by decide +kernel)) (fun _ h9 => h9) rfl hin2 rfl (by decide +kernel) rfl rfl (Nat.le_of_ble_eq_true rfl) dX6_init_34 (fun H locs hP hD hS => ?_)
    have hP : va_P D vwCl ([(h0, .inr (5, [.ref (a2 0), .ref (a4 50), .ref (a6 10), .null, .null, .null, .int 0, .int 0]))] ++ plW cy a2 pl0 ++ hsW cy a4 ob0 ++ scW cy a6 zr0 : va_W) H := hP
    have hD : va_D A ([(h0, .inr (5, [.ref (a2 0), .ref (a4 50), .ref (a6 10), .null, .null, .null, .int 0, .int 0]))] ++ plW cy a2 pl0 ++ hsW cy a4 ob0 ++ scW cy a6 zr0 : va_W) := hD
    refine lv_aload_n hx hb dX6_init_37 rfl (lv_at hl 0 rfl) ?_
    refine va_new (ci := 0) (fs := [.null, .null, .null, .null, .null, .null, .null, .null]) (C := RX1) (T := TX1) (N := 8) hx hb hts hinX1 tyX1 tyX1_ok hown (hts (.classLink RX6 30 RX1) (by decide +kernel)) (hts (.instantiable RX1 8) (by decide +kernel)) (hts (.initialized RX1) (by decide +kernel)) hK hP hD hS hA rfl (fun j hj => by rcases (show j = 0 ∨ j = 1 ∨ j = 2 ∨ j = 3 ∨ j = 4 ∨ j = 5 ∨ j = 6 ∨ j = 7 by omega) with rfl | rfl | rfl | rfl | rfl | rfl | rfl | rfl <;> rfl) (Nat.le_of_ble_eq_true rfl) (Nat.le_of_ble_eq_true rfl) dX6_init_38 (fun q7 H hP hD hS => ?_)
    have hP : va_P D vwCl ([(h0, .inr (5, [.ref (a2 0), .ref (a4 50), .ref (a6 10), .null, .null, .null, .int 0, .int 0]))] ++ plW cy a2 pl0 ++ hsW cy a4 ob0 ++ scW cy a6 zr0 ++ [(q7, .inr (0, [.null, .null, .null, .null, .null, .null, .null, .null]))] : va_W) H := hP
    have hD : va_D A ([(h0, .inr (5, [.ref (a2 0), .ref (a4 50), .ref (a6 10), .null, .null, .null, .int 0, .int 0]))] ++ plW cy a2 pl0 ++ hsW cy a4 ob0 ++ scW cy a6 zr0 ++ [(q7, .inr (0, [.null, .null, .null, .null, .null, .null, .null, .null]))] : va_W) := hD
    refine lv_dup hx hb dX6_init_41 rfl ?_
    have hPc := hP.sub (ws' := ([(q7, .inr (0, [.null, .null, .null, .null, .null, .null, .null, .null]))] : va_W)) [52] rfl
    have hDc := hD.sub (ws' := ([(q7, .inr (0, [.null, .null, .null, .null, .null, .null, .null, .null]))] : va_W)) [52] (by decide) rfl
    have hFc := va_free (wc := ([(q7, .inr (0, [.null, .null, .null, .null, .null, .null, .null, .null]))] : va_W)) hD hS hA [52] rfl
    refine k_muv (k_runI (rest := [.ref q7, .ref h0]) ⟨hx, hb, hml, hown, hts⟩ (c_X1_init l D cy H.size q7) (cwI 0 hts gX6_init_X1_init rfl rfl rfl (hts (.initialized RX1) (by decide +kernel)) (hts (.methodLink RX6 32 yX1_init) (by decide +kernel)) (hts (.instanceMethod yX1_init) (by decide +kernel)) rfl (by decide +kernel) ⟨Nat.le_of_ble_eq_true rfl, Nat.le_of_ble_eq_true rfl⟩) (GI_ok D cy) hG hS hFc hPc hDc hl.1 (Nat.le_of_ble_eq_true rfl) ⟨Nat.le_of_ble_eq_true rfl, Nat.le_of_ble_eq_true rfl⟩ dX6_init_42) hFc hS (fun a8 H1 locs1 hu hP1 hD1 hS1 hk1 => ?_)
    have hu : a8 20 = q7 := hu
    have hJ := va_join (wr := ([(h0, .inr (5, [.ref (a2 0), .ref (a4 50), .ref (a6 10), .null, .null, .null, .int 0, .int 0]))] ++ plW cy a2 pl0 ++ hsW cy a4 ob0 ++ scW cy a6 zr0 : va_W)) hP hD [52] [0, 1, 2, 3, 4, 5, 6, 7, 8, 9, 10, 11, 12, 13, 14, 15, 16, 17, 18, 19, 20, 21, 22, 23, 24, 25, 26, 27, 28, 29, 30, 31, 32, 33, 34, 35, 36, 37, 38, 39, 40, 41, 42, 43, 44, 45, 46, 47, 48, 49, 50, 51] rfl rfl (by decide) (by decide) hk1 hFc hP1 hD1
    clear hP hD hS hP1 hD1 hk1 hPc hDc hFc
    subst hu
    have hP : va_P D vwCl ([(h0, .inr (5, [.ref (a2 0), .ref (a4 50), .ref (a6 10), .null, .null, .null, .int 0, .int 0]))] ++ plW cy a2 pl0 ++ hsW cy a4 ob0 ++ scW cy a6 zr0 ++ fgW cy a8 zr0 : va_W) H1 := hJ.1
    have hD : va_D A ([(h0, .inr (5, [.ref (a2 0), .ref (a4 50), .ref (a6 10), .null, .null, .null, .int 0, .int 0]))] ++ plW cy a2 pl0 ++ hsW cy a4 ob0 ++ scW cy a6 zr0 ++ fgW cy a8 zr0 : va_W) := hJ.2
    have hS := hS1
    clear hJ hS1
    generalize H1 = H at hP hS ⊢
    generalize locs1 = locs at hS ⊢
    refine va_putF (D := D) (ci := 5) (v := .ref (a8 20)) (ty := (.object "ArcPlate$Figures")) (C := RX6) (T := TX6) (N := 8) hx hb hts hinX6 tyX6 tyX6_ok nmX6 hown hK hP hD hS 0 rfl rfl 3 (by decide) (hts (.fieldLink RX6 33 "ArcPlate" "figures" "LArcPlate$Figures;") (by decide +kernel)) (fun _ h9 => h9) rfl hin2 rfl (by decide +kernel) rfl rfl (Nat.le_of_ble_eq_true rfl) dX6_init_45 (fun H locs hP hD hS => ?_)
    have hP : va_P D vwCl ([(h0, .inr (5, [.ref (a2 0), .ref (a4 50), .ref (a6 10), .ref (a8 20), .null, .null, .int 0, .int 0]))] ++ plW cy a2 pl0 ++ hsW cy a4 ob0 ++ scW cy a6 zr0 ++ fgW cy a8 zr0 : va_W) H := hP
    have hD : va_D A ([(h0, .inr (5, [.ref (a2 0), .ref (a4 50), .ref (a6 10), .ref (a8 20), .null, .null, .int 0, .int 0]))] ++ plW cy a2 pl0 ++ hsW cy a4 ob0 ++ scW cy a6 zr0 ++ fgW cy a8 zr0 : va_W) := hD
    refine lv_aload_n hx hb dX6_init_48 rfl (lv_at hl 0 rfl) ?_
    refine va_new (ci := 2) (fs := [.null, .null, .null, .int 0, .int 0, .null, .null, .null, .int 0]) (C := RX3) (T := TX3) (N := 9) hx hb hts hinX3 tyX3 tyX3_ok hown (hts (.classLink RX6 37 RX3) (by decide +kernel)) (hts (.instantiable RX3 9) (by decide +kernel)) (hts (.initialized RX3) (by decide +kernel)) hK hP hD hS hA rfl (fun j hj => by rcases (show j = 0 ∨ j = 1 ∨ j = 2 ∨ j = 3 ∨ j = 4 ∨ j = 5 ∨ j = 6 ∨ j = 7 ∨ j = 8 by omega) with rfl | rfl | rfl | rfl | rfl | rfl | rfl | rfl | rfl <;> rfl) (Nat.le_of_ble_eq_true rfl) (Nat.le_of_ble_eq_true rfl) dX6_init_49 (fun q9 H hP hD hS => ?_)
    have hP : va_P D vwCl ([(h0, .inr (5, [.ref (a2 0), .ref (a4 50), .ref (a6 10), .ref (a8 20), .null, .null, .int 0, .int 0]))] ++ plW cy a2 pl0 ++ hsW cy a4 ob0 ++ scW cy a6 zr0 ++ fgW cy a8 zr0 ++ [(q9, .inr (2, [.null, .null, .null, .int 0, .int 0, .null, .null, .null, .int 0]))] : va_W) H := hP
    have hD : va_D A ([(h0, .inr (5, [.ref (a2 0), .ref (a4 50), .ref (a6 10), .ref (a8 20), .null, .null, .int 0, .int 0]))] ++ plW cy a2 pl0 ++ hsW cy a4 ob0 ++ scW cy a6 zr0 ++ fgW cy a8 zr0 ++ [(q9, .inr (2, [.null, .null, .null, .int 0, .int 0, .null, .null, .null, .int 0]))] : va_W) := hD
    refine lv_dup hx hb dX6_init_52 rfl ?_
    have hPc := hP.sub (ws' := ([(q9, .inr (2, [.null, .null, .null, .int 0, .int 0, .null, .null, .null, .int 0]))] : va_W)) [61] rfl
    have hDc := hD.sub (ws' := ([(q9, .inr (2, [.null, .null, .null, .int 0, .int 0, .null, .null, .null, .int 0]))] : va_W)) [61] (by decide) rfl
    have hFc := va_free (wc := ([(q9, .inr (2, [.null, .null, .null, .int 0, .int 0, .null, .null, .null, .int 0]))] : va_W)) hD hS hA [61] rfl
    refine k_muv (k_runI (rest := [.ref q9, .ref h0]) ⟨hx, hb, hml, hown, hts⟩ (c_X3_init l D cy H.size q9) (cwI 0 hts gX6_init_X3_init rfl rfl rfl (hts (.initialized RX3) (by decide +kernel)) (hts (.methodLink RX6 39 yX3_init) (by decide +kernel)) (hts (.instanceMethod yX3_init) (by decide +kernel)) rfl (by decide +kernel) ⟨Nat.le_of_ble_eq_true rfl, Nat.le_of_ble_eq_true rfl⟩) (GI_ok D cy) hG hS hFc hPc hDc hl.1 (Nat.le_of_ble_eq_true rfl) ⟨Nat.le_of_ble_eq_true rfl, Nat.le_of_ble_eq_true rfl⟩ dX6_init_53) hFc hS (fun a10 H1 locs1 hu hP1 hD1 hS1 hk1 => ?_)
    have hu : a10 30 = q9 := hu
    have hJ := va_join (wr := ([(h0, .inr (5, [.ref (a2 0), .ref (a4 50), .ref (a6 10), .ref (a8 20), .null, .null, .int 0, .int 0]))] ++ plW cy a2 pl0 ++ hsW cy a4 ob0 ++ scW cy a6 zr0 ++ fgW cy a8 zr0 : va_W)) hP hD [61] [0, 1, 2, 3, 4, 5, 6, 7, 8, 9, 10, 11, 12, 13, 14, 15, 16, 17, 18, 19, 20, 21, 22, 23, 24, 25, 26, 27, 28, 29, 30, 31, 32, 33, 34, 35, 36, 37, 38, 39, 40, 41, 42, 43, 44, 45, 46, 47, 48, 49, 50, 51, 52, 53, 54, 55, 56, 57, 58, 59, 60] rfl rfl (by decide) (by decide) hk1 hFc hP1 hD1
    clear hP hD hS hP1 hD1 hk1 hPc hDc hFc
    subst hu
    have hP : va_P D vwCl ([(h0, .inr (5, [.ref (a2 0), .ref (a4 50), .ref (a6 10), .ref (a8 20), .null, .null, .int 0, .int 0]))] ++ plW cy a2 pl0 ++ hsW cy a4 ob0 ++ scW cy a6 zr0 ++ fgW cy a8 zr0 ++ maW cy a10 zr0 : va_W) H1 := hJ.1
    have hD : va_D A ([(h0, .inr (5, [.ref (a2 0), .ref (a4 50), .ref (a6 10), .ref (a8 20), .null, .null, .int 0, .int 0]))] ++ plW cy a2 pl0 ++ hsW cy a4 ob0 ++ scW cy a6 zr0 ++ fgW cy a8 zr0 ++ maW cy a10 zr0 : va_W) := hJ.2
    have hS := hS1
    clear hJ hS1
    generalize H1 = H at hP hS ⊢
    generalize locs1 = locs at hS ⊢
    refine va_putF (D := D) (ci := 5) (v := .ref (a10 30)) (ty := (.object "ArcPlate$Matching")) (C := RX6) (T := TX6) (N := 8) hx hb hts hinX6 tyX6 tyX6_ok nmX6 hown hK hP hD hS 0 rfl rfl 4 (by decide) (hts (.fieldLink RX6 40 "ArcPlate" "matching" "LArcPlate$Matching;") (by decide +kernel)) (fun _ h9 => h9) rfl hin2 rfl (by decide +kernel) rfl rfl (Nat.le_of_ble_eq_true rfl) dX6_init_56 (fun H locs hP hD hS => ?_)
    have hP : va_P D vwCl ([(h0, .inr (5, [.ref (a2 0), .ref (a4 50), .ref (a6 10), .ref (a8 20), .ref (a10 30), .null, .int 0, .int 0]))] ++ plW cy a2 pl0 ++ hsW cy a4 ob0 ++ scW cy a6 zr0 ++ fgW cy a8 zr0 ++ maW cy a10 zr0 : va_W) H := hP
    have hD : va_D A ([(h0, .inr (5, [.ref (a2 0), .ref (a4 50), .ref (a6 10), .ref (a8 20), .ref (a10 30), .null, .int 0, .int 0]))] ++ plW cy a2 pl0 ++ hsW cy a4 ob0 ++ scW cy a6 zr0 ++ fgW cy a8 zr0 ++ maW cy a10 zr0 : va_W) := hD
    refine lv_aload_n hx hb dX6_init_59 rfl (lv_at hl 0 rfl) ?_
    refine va_new (ci := 2) (fs := [.null, .null, .null, .int 0, .int 0, .null, .null, .null, .int 0]) (C := RX3) (T := TX3) (N := 9) hx hb hts hinX3 tyX3 tyX3_ok hown (hts (.classLink RX6 37 RX3) (by decide +kernel)) (hts (.instantiable RX3 9) (by decide +kernel)) (hts (.initialized RX3) (by decide +kernel)) hK hP hD hS hA rfl (fun j hj => by rcases (show j = 0 ∨ j = 1 ∨ j = 2 ∨ j = 3 ∨ j = 4 ∨ j = 5 ∨ j = 6 ∨ j = 7 ∨ j = 8 by omega) with rfl | rfl | rfl | rfl | rfl | rfl | rfl | rfl | rfl <;> rfl) (Nat.le_of_ble_eq_true rfl) (Nat.le_of_ble_eq_true rfl) dX6_init_60 (fun q11 H hP hD hS => ?_)
    have hP : va_P D vwCl ([(h0, .inr (5, [.ref (a2 0), .ref (a4 50), .ref (a6 10), .ref (a8 20), .ref (a10 30), .null, .int 0, .int 0]))] ++ plW cy a2 pl0 ++ hsW cy a4 ob0 ++ scW cy a6 zr0 ++ fgW cy a8 zr0 ++ maW cy a10 zr0 ++ [(q11, .inr (2, [.null, .null, .null, .int 0, .int 0, .null, .null, .null, .int 0]))] : va_W) H := hP
    have hD : va_D A ([(h0, .inr (5, [.ref (a2 0), .ref (a4 50), .ref (a6 10), .ref (a8 20), .ref (a10 30), .null, .int 0, .int 0]))] ++ plW cy a2 pl0 ++ hsW cy a4 ob0 ++ scW cy a6 zr0 ++ fgW cy a8 zr0 ++ maW cy a10 zr0 ++ [(q11, .inr (2, [.null, .null, .null, .int 0, .int 0, .null, .null, .null, .int 0]))] : va_W) := hD
    refine lv_dup hx hb dX6_init_63 rfl ?_
    have hPc := hP.sub (ws' := ([(q11, .inr (2, [.null, .null, .null, .int 0, .int 0, .null, .null, .null, .int 0]))] : va_W)) [68] rfl
    have hDc := hD.sub (ws' := ([(q11, .inr (2, [.null, .null, .null, .int 0, .int 0, .null, .null, .null, .int 0]))] : va_W)) [68] (by decide) rfl
    have hFc := va_free (wc := ([(q11, .inr (2, [.null, .null, .null, .int 0, .int 0, .null, .null, .null, .int 0]))] : va_W)) hD hS hA [68] rfl
    refine k_muv (k_runI (rest := [.ref q11, .ref h0]) ⟨hx, hb, hml, hown, hts⟩ (c_X3_init l D cy H.size q11) (cwI 0 hts gX6_init_X3_init rfl rfl rfl (hts (.initialized RX3) (by decide +kernel)) (hts (.methodLink RX6 39 yX3_init) (by decide +kernel)) (hts (.instanceMethod yX3_init) (by decide +kernel)) rfl (by decide +kernel) ⟨Nat.le_of_ble_eq_true rfl, Nat.le_of_ble_eq_true rfl⟩) (GI_ok D cy) hG hS hFc hPc hDc hl.1 (Nat.le_of_ble_eq_true rfl) ⟨Nat.le_of_ble_eq_true rfl, Nat.le_of_ble_eq_true rfl⟩ dX6_init_64) hFc hS (fun a12 H1 locs1 hu hP1 hD1 hS1 hk1 => ?_)
    have hu : a12 30 = q11 := hu
    have hJ := va_join (wr := ([(h0, .inr (5, [.ref (a2 0), .ref (a4 50), .ref (a6 10), .ref (a8 20), .ref (a10 30), .null, .int 0, .int 0]))] ++ plW cy a2 pl0 ++ hsW cy a4 ob0 ++ scW cy a6 zr0 ++ fgW cy a8 zr0 ++ maW cy a10 zr0 : va_W)) hP hD [68] [0, 1, 2, 3, 4, 5, 6, 7, 8, 9, 10, 11, 12, 13, 14, 15, 16, 17, 18, 19, 20, 21, 22, 23, 24, 25, 26, 27, 28, 29, 30, 31, 32, 33, 34, 35, 36, 37, 38, 39, 40, 41, 42, 43, 44, 45, 46, 47, 48, 49, 50, 51, 52, 53, 54, 55, 56, 57, 58, 59, 60, 61, 62, 63, 64, 65, 66, 67] rfl rfl (by decide) (by decide) hk1 hFc hP1 hD1
    clear hP hD hS hP1 hD1 hk1 hPc hDc hFc
    subst hu
    have hP : va_P D vwCl ([(h0, .inr (5, [.ref (a2 0), .ref (a4 50), .ref (a6 10), .ref (a8 20), .ref (a10 30), .null, .int 0, .int 0]))] ++ plW cy a2 pl0 ++ hsW cy a4 ob0 ++ scW cy a6 zr0 ++ fgW cy a8 zr0 ++ maW cy a10 zr0 ++ maW cy a12 zr0 : va_W) H1 := hJ.1
    have hD : va_D A ([(h0, .inr (5, [.ref (a2 0), .ref (a4 50), .ref (a6 10), .ref (a8 20), .ref (a10 30), .null, .int 0, .int 0]))] ++ plW cy a2 pl0 ++ hsW cy a4 ob0 ++ scW cy a6 zr0 ++ fgW cy a8 zr0 ++ maW cy a10 zr0 ++ maW cy a12 zr0 : va_W) := hJ.2
    have hS := hS1
    clear hJ hS1
    generalize H1 = H at hP hS ⊢
    generalize locs1 = locs at hS ⊢
    refine va_putF (D := D) (ci := 5) (v := .ref (a12 30)) (ty := (.object "ArcPlate$Matching")) (C := RX6) (T := TX6) (N := 8) hx hb hts hinX6 tyX6 tyX6_ok nmX6 hown hK hP hD hS 0 rfl rfl 5 (by decide) (hts (.fieldLink RX6 44 "ArcPlate" "trial" "LArcPlate$Matching;") (by decide +kernel)) (fun _ h9 => h9) rfl hin2 rfl (by decide +kernel) rfl rfl (Nat.le_of_ble_eq_true rfl) dX6_init_67 (fun H locs hP hD hS => ?_)
    have hP : va_P D vwCl ([(h0, .inr (5, [.ref (a2 0), .ref (a4 50), .ref (a6 10), .ref (a8 20), .ref (a10 30), .ref (a12 30), .int 0, .int 0]))] ++ plW cy a2 pl0 ++ hsW cy a4 ob0 ++ scW cy a6 zr0 ++ fgW cy a8 zr0 ++ maW cy a10 zr0 ++ maW cy a12 zr0 : va_W) H := hP
    have hD : va_D A ([(h0, .inr (5, [.ref (a2 0), .ref (a4 50), .ref (a6 10), .ref (a8 20), .ref (a10 30), .ref (a12 30), .int 0, .int 0]))] ++ plW cy a2 pl0 ++ hsW cy a4 ob0 ++ scW cy a6 zr0 ++ fgW cy a8 zr0 ++ maW cy a10 zr0 ++ maW cy a12 zr0 : va_W) := hD
    refine lv_aload_n hx hb dX6_init_70 rfl (lv_at hl 0 rfl) ?_
    refine k_iconst hx hb dX6_init_71 ?_
    refine va_put (D := D) (ci := 5) (v := .int (iI 0)) (ty := .boolean) (C := RX6) (T := TX6) (N := 8) hx hb hts hinX6 tyX6 tyX6_ok nmX6 hown hK hP hD hS 0 rfl rfl 6 (by decide) (hts (.fieldLink RX6 47 "ArcPlate" "looked" "Z") (by decide +kernel)) (fun _ h9 => h9) rfl (by decide +kernel) rfl rfl (Nat.le_of_ble_eq_true rfl) dX6_init_72 (fun H locs hP hD hS => ?_)
    have hP : va_P D vwCl ([(h0, .inr (5, [.ref (a2 0), .ref (a4 50), .ref (a6 10), .ref (a8 20), .ref (a10 30), .ref (a12 30), .int (iI 0), .int 0]))] ++ plW cy a2 pl0 ++ hsW cy a4 ob0 ++ scW cy a6 zr0 ++ fgW cy a8 zr0 ++ maW cy a10 zr0 ++ maW cy a12 zr0 : va_W) H := hP
    have hD : va_D A ([(h0, .inr (5, [.ref (a2 0), .ref (a4 50), .ref (a6 10), .ref (a8 20), .ref (a10 30), .ref (a12 30), .int (iI 0), .int 0]))] ++ plW cy a2 pl0 ++ hsW cy a4 ob0 ++ scW cy a6 zr0 ++ fgW cy a8 zr0 ++ maW cy a10 zr0 ++ maW cy a12 zr0 : va_W) := hD
    refine lv_aload_n hx hb dX6_init_75 rfl (lv_at hl 0 rfl) ?_
    refine k_iconst hx hb dX6_init_76 ?_
    refine va_put (D := D) (ci := 5) (v := .int (iI 0)) (ty := .int) (C := RX6) (T := TX6) (N := 8) hx hb hts hinX6 tyX6 tyX6_ok nmX6 hown hK hP hD hS 0 rfl rfl 7 (by decide) (hts (.fieldLink RX6 51 "ArcPlate" "halt" "I") (by decide +kernel)) (fun _ h9 => h9) rfl (by decide +kernel) rfl rfl (Nat.le_of_ble_eq_true rfl) dX6_init_77 (fun H locs hP hD hS => ?_)
    have hP : va_P D vwCl ([(h0, .inr (5, [.ref (a2 0), .ref (a4 50), .ref (a6 10), .ref (a8 20), .ref (a10 30), .ref (a12 30), .int (iI 0), .int (iI 0)]))] ++ plW cy a2 pl0 ++ hsW cy a4 ob0 ++ scW cy a6 zr0 ++ fgW cy a8 zr0 ++ maW cy a10 zr0 ++ maW cy a12 zr0 : va_W) H := hP
    have hD : va_D A ([(h0, .inr (5, [.ref (a2 0), .ref (a4 50), .ref (a6 10), .ref (a8 20), .ref (a10 30), .ref (a12 30), .int (iI 0), .int (iI 0)]))] ++ plW cy a2 pl0 ++ hsW cy a4 ob0 ++ scW cy a6 zr0 ++ fgW cy a8 zr0 ++ maW cy a10 zr0 ++ maW cy a12 zr0 : va_W) := hD
    have hP9 : va_P D vwCl (fullW cy (fun i => cond (Nat.ble i 8) (a2 i) (cond (Nat.ble i 13) (a6 i) (cond (Nat.ble i 28) (a8 i) (cond (Nat.ble i 36) (a10 i) (cond (Nat.ble i 46) (a12 (i - 10)) (cond (Nat.ble i 99) (a4 i) h0)))))) ob0) H := hP.sub [0, 10, 11, 12, 13, 14, 15, 16, 17, 18, 19, 20, 21, 22, 23, 24, 25, 26, 27, 28, 29, 30, 31, 32, 33, 34, 35, 36, 37, 38, 39, 40, 41, 42, 43, 44, 45, 46, 47, 1, 2, 3, 4, 5, 6, 7, 8, 9, 48, 49, 50, 51, 52, 53, 54, 55, 56, 57, 58, 59, 60, 61, 62, 63, 64, 65, 66, 67, 68, 69, 70, 71, 72, 73, 74] rfl
    have hD9 : va_D A (fullW cy (fun i => cond (Nat.ble i 8) (a2 i) (cond (Nat.ble i 13) (a6 i) (cond (Nat.ble i 28) (a8 i) (cond (Nat.ble i 36) (a10 i) (cond (Nat.ble i 46) (a12 (i - 10)) (cond (Nat.ble i 99) (a4 i) h0)))))) ob0) := hD.sub [0, 10, 11, 12, 13, 14, 15, 16, 17, 18, 19, 20, 21, 22, 23, 24, 25, 26, 27, 28, 29, 30, 31, 32, 33, 34, 35, 36, 37, 38, 39, 40, 41, 42, 43, 44, 45, 46, 47, 1, 2, 3, 4, 5, 6, 7, 8, 9, 48, 49, 50, 51, 52, 53, 54, 55, 56, 57, 58, 59, 60, 61, 62, 63, 64, 65, 66, 67, 68, 69, 70, 71, 72, 73, 74] (by decide) rfl
    exact W.vret hx hb hr (fun t9 ht _ => ⟨⟨(fun i => cond (Nat.ble i 8) (a2 i) (cond (Nat.ble i 13) (a6 i) (cond (Nat.ble i 28) (a8 i) (cond (Nat.ble i 36) (a10 i) (cond (Nat.ble i 46) (a12 (i - 10)) (cond (Nat.ble i 99) (a4 i) h0)))))), rfl, rfl, by rw [ht]; exact hP9, by rw [hAe]; exact hD9⟩, by rw [hAe]; exact hS.F ht⟩) (by rw [hAe]; exact hS.2.2) dX6_init_80 hlocks
  exact hbody _ s.heap [] hA hG hP hD hS rfl
