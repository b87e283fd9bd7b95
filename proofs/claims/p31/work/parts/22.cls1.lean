set_option maxHeartbeats 4000000 in
set_option maxRecDepth 100000 in
theorem c_X6_inRange (l : Launch) (D : va_G) (v least most : Int) (hrv : -2147483648 ≤ v ∧ v ≤ 2147483647) (hrleast : -2147483648 ≤ least ∧ least ≤ 2147483647) (hrmost : -2147483648 ≤ most ∧ most ≤ 2147483647) : Met l yX6_inRange wsX6_inRange { frames := 0, cells := 0, slots := 0, locals := 0 } (kPre kGT D [] ([.int (iI v), .int (iI least), .int (iI most)] : List Value)) (kRO (fun r => ((least ≤ v ∧ v ≤ most) ∧ r = 1) ∨ (¬ (least ≤ v ∧ v ≤ most) ∧ r = 0))) 0 0 (fun _ => False) := by
  refine kRO_start (cc := cX6_inRange) (maxL := 3) (ret := (some .boolean)) (by decide) rfl (Nat.le_of_ble_eq_true rfl) ?_
  intro p e s m below meth c hx hb hr hlocks hml hts hown hG hP ls hl
  have hl : lv_has ls 3 [(0, .int (iI v)), (1, .int (iI least)), (2, .int (iI most))] := hl
  refine lv_iload_n hx hb dX6_inRange_0 rfl (lv_at hl 0 rfl) ?_
  refine lv_iload_n hx hb dX6_inRange_1 rfl (lv_at hl 1 rfl) ?_
  refine k_icmp_lt (tgt := 14) hx hb dX6_inRange_2 (by decide) (by omega) (by omega) (fun c_1 => ?_) (fun c_1 => ?_)
  · skip
    refine k_iconst hx hb dX6_inRange_14 ?_
    exact W.zret (v := iI 0) hx hb hr (by decide +kernel) (fun t9 ht _ => ⟨0, rfl, (by first | exact Or.inl ⟨by omega, rfl⟩ | exact Or.inr ⟨by omega, rfl⟩ : ((least ≤ v ∧ v ≤ most) ∧ (0 : Int) = 1) ∨ (¬ (least ≤ v ∧ v ≤ most) ∧ (0 : Int) = 0)), ht⟩) (fun _ h => nomatch h) dX6_inRange_15 hlocks
  · skip
    refine lv_iload_n hx hb dX6_inRange_5 rfl (lv_at hl 0 rfl) ?_
    refine lv_iload_n hx hb dX6_inRange_6 rfl (lv_at hl 2 rfl) ?_
    refine k_icmp_gt (tgt := 14) hx hb dX6_inRange_7 (by decide) (by omega) (by omega) (fun c_2 => ?_) (fun c_2 => ?_)
    · skip
      refine k_iconst hx hb dX6_inRange_14 ?_
      exact W.zret (v := iI 0) hx hb hr (by decide +kernel) (fun t9 ht _ => ⟨0, rfl, (by first | exact Or.inl ⟨by omega, rfl⟩ | exact Or.inr ⟨by omega, rfl⟩ : ((least ≤ v ∧ v ≤ most) ∧ (0 : Int) = 1) ∨ (¬ (least ≤ v ∧ v ≤ most) ∧ (0 : Int) = 0)), ht⟩) (fun _ h => nomatch h) dX6_inRange_15 hlocks
    · skip
      refine k_iconst hx hb dX6_inRange_10 ?_
      refine lv_goto (tgt := 15) hx hb dX6_inRange_11 (by decide) ?_
      exact W.zret (v := iI 1) hx hb hr (by decide +kernel) (fun t9 ht _ => ⟨1, rfl, (by first | exact Or.inl ⟨by omega, rfl⟩ | exact Or.inr ⟨by omega, rfl⟩ : ((least ≤ v ∧ v ≤ most) ∧ (1 : Int) = 1) ∨ (¬ (least ≤ v ∧ v ≤ most) ∧ (1 : Int) = 0)), ht⟩) (fun _ h => nomatch h) dX6_inRange_15 hlocks
set_option maxHeartbeats 4000000 in
set_option maxRecDepth 100000 in
theorem c_X4_slot (l : Launch) (D : va_G) (t q : Int)  : Met l yX4_slot wsX4_slot { frames := 0, cells := 0, slots := 0, locals := 0 } (kPre kGT D [] ([.int (iI t), .int (iI q)] : List Value)) (kRO (fun r => r = 12 * t + q)) 0 0 (fun _ => False) := by
  refine kRO_start (cc := cX4_slot) (maxL := 2) (ret := (some .int)) (by decide) rfl (Nat.le_of_ble_eq_true rfl) ?_
  intro p e s m below meth c hx hb hr hlocks hml hts hown hG hP ls hl
  have hl : lv_has ls 2 [(0, .int (iI t)), (1, .int (iI q))] := hl
  refine lv_iload_n hx hb dX4_slot_0 rfl (lv_at hl 0 rfl) ?_
  refine k_bipush hx hb dX4_slot_1 (by decide +kernel) ?_
  refine k_imul hx hb dX4_slot_3 ?_
  refine lv_iload_n hx hb dX4_slot_4 rfl (lv_at hl 1 rfl) ?_
  refine k_iadd hx hb dX4_slot_5 ?_
  exact W.iret (v := iI ((t * 12) + q)) hx hb hr (fun t9 ht _ => ⟨((t * 12) + q), rfl, (by omega : ((t * 12) + q : Int) = 12 * t + q), ht⟩) (fun _ h => nomatch h) dX4_slot_6 hlocks
set_option maxHeartbeats 4000000 in
set_option maxRecDepth 100000 in
theorem c_X4_hasTrail (l : Launch) (D : va_G) (cy : Nat → ClassId) (a : Nat → Nat) (P : Nat → Int → Int) (t : Int) (hI : Inv (mO P)) (hrt : -2147483648 ≤ t ∧ t ≤ 2147483647) : Met l yX4_hasTrail wsX4_hasTrail { frames := 0, cells := 0, slots := 0, locals := 0 } (kPre (GG D cy) D (plW cy a P) ([.ref (a 0), .int (iI t)] : List Value)) (kRO (fun r => ((0 ≤ t ∧ t < P 0 0) ∧ r = 1) ∨ (¬ (0 ≤ t ∧ t < P 0 0) ∧ r = 0))) 0 0 (fun _ => False) := by
  refine kRO_start (cc := cX4_hasTrail) (maxL := 2) (ret := (some .boolean)) (by decide) rfl (Nat.le_of_ble_eq_true rfl) ?_
  intro p e s m below meth c hx hb hr hlocks hml hts hown hG hP ls hl
  have hK := hG.1
  have hl : lv_has ls 2 [(0, .ref (a 0)), (1, .int (iI t))] := hl
  have hinX4 : ∀ w ∈ u_ws RX4 TX4 12, w ∈ wsX4_hasTrail := by decide +kernel
  have hm0 := hts (.fieldLink RX4 9 "ArcPlate$Plate" "trails" "I") (by decide +kernel)
  have hS0 := po_S hI
  refine lv_iload_n hx hb dX4_hasTrail_0 rfl (lv_at hl 1 rfl) ?_
  refine k_if_lt (tgt := 16) hx hb dX4_hasTrail_1 (by decide) (by omega) (fun c_1 => ?_) (fun c_1 => ?_)
  · skip
    refine k_iconst hx hb dX4_hasTrail_16 ?_
    exact W.zret (v := iI 0) hx hb hr (by decide +kernel) (fun t9 ht _ => ⟨0, rfl, (by first | exact Or.inl ⟨by omega, rfl⟩ | exact Or.inr ⟨by omega, rfl⟩ : ((0 ≤ t ∧ t < P 0 0) ∧ (0 : Int) = 1) ∨ (¬ (0 ≤ t ∧ t < P 0 0) ∧ (0 : Int) = 0)), ht⟩) (fun _ h => nomatch h) dX4_hasTrail_17 hlocks
  · skip
    refine lv_iload_n hx hb dX4_hasTrail_4 rfl (lv_at hl 1 rfl) ?_
    refine lv_aload_n hx hb dX4_hasTrail_5 rfl (lv_at hl 0 rfl) ?_
    refine va_get (D := D) (ci := 3) (v := .int (iI (P 0 0))) (C := RX4) (T := TX4) (N := 12) hx hb hts hinX4 hown hK hP 0 rfl rfl 0 (by decide) hm0 (fun _ h9 => h9) rfl dX4_hasTrail_6 ?_
    refine k_icmp_ge (tgt := 16) hx hb dX4_hasTrail_9 (by decide) (by omega) (by omega) (fun c_2 => ?_) (fun c_2 => ?_)
    · skip
      refine k_iconst hx hb dX4_hasTrail_16 ?_
      exact W.zret (v := iI 0) hx hb hr (by decide +kernel) (fun t9 ht _ => ⟨0, rfl, (by first | exact Or.inl ⟨by omega, rfl⟩ | exact Or.inr ⟨by omega, rfl⟩ : ((0 ≤ t ∧ t < P 0 0) ∧ (0 : Int) = 1) ∨ (¬ (0 ≤ t ∧ t < P 0 0) ∧ (0 : Int) = 0)), ht⟩) (fun _ h => nomatch h) dX4_hasTrail_17 hlocks
    · skip
      refine k_iconst hx hb dX4_hasTrail_12 ?_
      refine lv_goto (tgt := 17) hx hb dX4_hasTrail_13 (by decide) ?_
      exact W.zret (v := iI 1) hx hb hr (by decide +kernel) (fun t9 ht _ => ⟨1, rfl, (by first | exact Or.inl ⟨by omega, rfl⟩ | exact Or.inr ⟨by omega, rfl⟩ : ((0 ≤ t ∧ t < P 0 0) ∧ (1 : Int) = 1) ∨ (¬ (0 ≤ t ∧ t < P 0 0) ∧ (1 : Int) = 0)), ht⟩) (fun _ h => nomatch h) dX4_hasTrail_17 hlocks
set_option maxHeartbeats 4000000 in
set_option maxRecDepth 100000 in
theorem c_X4_hasPoint (l : Launch) (D : va_G) (cy : Nat → ClassId) (a : Nat → Nat) (P : Nat → Int → Int) (t q : Int) (hI : Inv (mO P)) (hrt : -2147483648 ≤ t ∧ t ≤ 2147483647) (hrq : -2147483648 ≤ q ∧ q ≤ 2147483647) : Met l yX4_hasPoint wsX4_hasPoint { frames := 1, cells := 0, slots := 0, locals := 21 } (kPre (GG D cy) D (plW cy a P) ([.ref (a 0), .int (iI t), .int (iI q)] : List Value)) (kRO (fun r => (((0 ≤ t ∧ t < P 0 0) ∧ 0 ≤ q ∧ q < P 1 t) ∧ r = 1) ∨ (¬ ((0 ≤ t ∧ t < P 0 0) ∧ 0 ≤ q ∧ q < P 1 t) ∧ r = 0))) 0 0 (fun _ => False) := by
  refine kRO_start (cc := cX4_hasPoint) (maxL := 3) (ret := (some .boolean)) (by decide) rfl (Nat.le_of_ble_eq_true rfl) ?_
  intro p e s m below meth c hx hb hr hlocks hml hts hown hG hP ls hl
  have hK := hG.1
  have hl : lv_has ls 3 [(0, .ref (a 0)), (1, .int (iI t)), (2, .int (iI q))] := hl
  have hinX4 : ∀ w ∈ u_ws RX4 TX4 12, w ∈ wsX4_hasPoint := by decide +kernel
  have hm0 := hts (.fieldLink RX4 24 "ArcPlate$Plate" "points" "[I") (by decide +kernel)
  have hS0 := po_S hI
  refine lv_aload_n hx hb dX4_hasPoint_0 rfl (lv_at hl 0 rfl) ?_
  refine lv_iload_n hx hb dX4_hasPoint_1 rfl (lv_at hl 1 rfl) ?_
  refine k_roV (As := [.int (iI t)]) (rest := []) ⟨hx, hb, hml, hown, hts⟩ (c_X4_hasTrail l D cy a P t hI (show -2147483648 ≤ t ∧ t ≤ 2147483647 by omega)) gX4_hasPoint_X4_hasTrail rfl ⟨rfl, rfl⟩ 1 rfl (by decide +kernel) ⟨Nat.le_of_ble_eq_true rfl, Nat.le_of_ble_eq_true rfl⟩ (GG_ok D cy) hG hP (va_recv hK hP (ci := 3) (q0 := 0) rfl rfl) hl.1 rfl (Nat.le_of_ble_eq_true rfl) ⟨Nat.le_of_ble_eq_true rfl, Nat.le_of_ble_eq_true rfl⟩ dX4_hasPoint_2 (fun r_1 hr_1 => ?_)
  have hr_1 : ((0 ≤ t ∧ t < P 0 0) ∧ r_1 = 1) ∨ (¬ (0 ≤ t ∧ t < P 0 0) ∧ r_1 = 0) := hr_1
  rcases hr_1 with ⟨c_2, hr_1⟩ | ⟨c_2, hr_1⟩ <;> subst hr_1
  · skip
    have hp := po_pts hI c_2.1 c_2.2
    refine k_if_eq (tgt := 26) hx hb dX4_hasPoint_5 (by decide) (by omega) (fun c_3 => ?_) (fun c_3 => ?_)
    · exfalso; omega
    · skip
      refine lv_iload_n hx hb dX4_hasPoint_8 rfl (lv_at hl 2 rfl) ?_
      refine k_if_lt (tgt := 26) hx hb dX4_hasPoint_9 (by decide) (by omega) (fun c_4 => ?_) (fun c_4 => ?_)
      · skip
        refine k_iconst hx hb dX4_hasPoint_26 ?_
        exact W.zret (v := iI 0) hx hb hr (by decide +kernel) (fun t9 ht _ => ⟨0, rfl, (by first | exact Or.inl ⟨by omega, rfl⟩ | exact Or.inr ⟨by omega, rfl⟩ : (((0 ≤ t ∧ t < P 0 0) ∧ 0 ≤ q ∧ q < P 1 t) ∧ (0 : Int) = 1) ∨ (¬ ((0 ≤ t ∧ t < P 0 0) ∧ 0 ≤ q ∧ q < P 1 t) ∧ (0 : Int) = 0)), ht⟩) (fun _ h => nomatch h) dX4_hasPoint_27 hlocks
      · skip
        refine lv_iload_n hx hb dX4_hasPoint_12 rfl (lv_at hl 2 rfl) ?_
        refine lv_aload_n hx hb dX4_hasPoint_13 rfl (lv_at hl 0 rfl) ?_
        refine va_get (D := D) (ci := 3) (v := .ref (a 1)) (C := RX4) (T := TX4) (N := 12) hx hb hts hinX4 hown hK hP 0 rfl rfl 4 (by decide) hm0 (fun _ h9 => h9) rfl dX4_hasPoint_14 ?_
        refine lv_iload_n hx hb dX4_hasPoint_17 rfl (lv_at hl 1 rfl) ?_
        refine k_iald hx hb hK hP 1 0 (f := P 1) rfl rfl (i := t) (by omega) dX4_hasPoint_18 ?_
        refine k_icmp_ge (tgt := 26) hx hb dX4_hasPoint_19 (by decide) (by omega) (by omega) (fun c_5 => ?_) (fun c_5 => ?_)
        · skip
          refine k_iconst hx hb dX4_hasPoint_26 ?_
          exact W.zret (v := iI 0) hx hb hr (by decide +kernel) (fun t9 ht _ => ⟨0, rfl, (by first | exact Or.inl ⟨by omega, rfl⟩ | exact Or.inr ⟨by omega, rfl⟩ : (((0 ≤ t ∧ t < P 0 0) ∧ 0 ≤ q ∧ q < P 1 t) ∧ (0 : Int) = 1) ∨ (¬ ((0 ≤ t ∧ t < P 0 0) ∧ 0 ≤ q ∧ q < P 1 t) ∧ (0 : Int) = 0)), ht⟩) (fun _ h => nomatch h) dX4_hasPoint_27 hlocks
        · skip
          refine k_iconst hx hb dX4_hasPoint_22 ?_
          refine lv_goto (tgt := 27) hx hb dX4_hasPoint_23 (by decide) ?_
          exact W.zret (v := iI 1) hx hb hr (by decide +kernel) (fun t9 ht _ => ⟨1, rfl, (by first | exact Or.inl ⟨by omega, rfl⟩ | exact Or.inr ⟨by omega, rfl⟩ : (((0 ≤ t ∧ t < P 0 0) ∧ 0 ≤ q ∧ q < P 1 t) ∧ (1 : Int) = 1) ∨ (¬ ((0 ≤ t ∧ t < P 0 0) ∧ 0 ≤ q ∧ q < P 1 t) ∧ (1 : Int) = 0)), ht⟩) (fun _ h => nomatch h) dX4_hasPoint_27 hlocks
  · skip
    refine k_if_eq (tgt := 26) hx hb dX4_hasPoint_5 (by decide) (by omega) (fun c_6 => ?_) (fun c_6 => ?_)
    · skip
      refine k_iconst hx hb dX4_hasPoint_26 ?_
      exact W.zret (v := iI 0) hx hb hr (by decide +kernel) (fun t9 ht _ => ⟨0, rfl, (by first | exact Or.inl ⟨by omega, rfl⟩ | exact Or.inr ⟨by omega, rfl⟩ : (((0 ≤ t ∧ t < P 0 0) ∧ 0 ≤ q ∧ q < P 1 t) ∧ (0 : Int) = 1) ∨ (¬ ((0 ≤ t ∧ t < P 0 0) ∧ 0 ≤ q ∧ q < P 1 t) ∧ (0 : Int) = 0)), ht⟩) (fun _ h => nomatch h) dX4_hasPoint_27 hlocks
    · exfalso; omega
set_option maxHeartbeats 4000000 in
set_option maxRecDepth 100000 in
theorem c_X4_hasStar (l : Launch) (D : va_G) (cy : Nat → ClassId) (a : Nat → Nat) (P : Nat → Int → Int) (u : Int) (hI : Inv (mO P)) (hru : -2147483648 ≤ u ∧ u ≤ 2147483647) : Met l yX4_hasStar wsX4_hasStar { frames := 0, cells := 0, slots := 0, locals := 0 } (kPre (GG D cy) D (plW cy a P) ([.ref (a 0), .int (iI u)] : List Value)) (kRO (fun r => ((0 ≤ u ∧ u < P 0 1) ∧ r = 1) ∨ (¬ (0 ≤ u ∧ u < P 0 1) ∧ r = 0))) 0 0 (fun _ => False) := by
  refine kRO_start (cc := cX4_hasStar) (maxL := 2) (ret := (some .boolean)) (by decide) rfl (Nat.le_of_ble_eq_true rfl) ?_
  intro p e s m below meth c hx hb hr hlocks hml hts hown hG hP ls hl
  have hK := hG.1
  have hl : lv_has ls 2 [(0, .ref (a 0)), (1, .int (iI u))] := hl
  have hinX4 : ∀ w ∈ u_ws RX4 TX4 12, w ∈ wsX4_hasStar := by decide +kernel
  have hm0 := hts (.fieldLink RX4 15 "ArcPlate$Plate" "stars" "I") (by decide +kernel)
  have hS0 := po_S hI
  refine lv_iload_n hx hb dX4_hasStar_0 rfl (lv_at hl 1 rfl) ?_
  refine k_if_lt (tgt := 16) hx hb dX4_hasStar_1 (by decide) (by omega) (fun c_1 => ?_) (fun c_1 => ?_)
  · skip
    refine k_iconst hx hb dX4_hasStar_16 ?_
    exact W.zret (v := iI 0) hx hb hr (by decide +kernel) (fun t9 ht _ => ⟨0, rfl, (by first | exact Or.inl ⟨by omega, rfl⟩ | exact Or.inr ⟨by omega, rfl⟩ : ((0 ≤ u ∧ u < P 0 1) ∧ (0 : Int) = 1) ∨ (¬ (0 ≤ u ∧ u < P 0 1) ∧ (0 : Int) = 0)), ht⟩) (fun _ h => nomatch h) dX4_hasStar_17 hlocks
  · skip
    refine lv_iload_n hx hb dX4_hasStar_4 rfl (lv_at hl 1 rfl) ?_
    refine lv_aload_n hx hb dX4_hasStar_5 rfl (lv_at hl 0 rfl) ?_
    refine va_get (D := D) (ci := 3) (v := .int (iI (P 0 1))) (C := RX4) (T := TX4) (N := 12) hx hb hts hinX4 hown hK hP 0 rfl rfl 1 (by decide) hm0 (fun _ h9 => h9) rfl dX4_hasStar_6 ?_
    refine k_icmp_ge (tgt := 16) hx hb dX4_hasStar_9 (by decide) (by omega) (by omega) (fun c_2 => ?_) (fun c_2 => ?_)
    · skip
      refine k_iconst hx hb dX4_hasStar_16 ?_
      exact W.zret (v := iI 0) hx hb hr (by decide +kernel) (fun t9 ht _ => ⟨0, rfl, (by first | exact Or.inl ⟨by omega, rfl⟩ | exact Or.inr ⟨by omega, rfl⟩ : ((0 ≤ u ∧ u < P 0 1) ∧ (0 : Int) = 1) ∨ (¬ (0 ≤ u ∧ u < P 0 1) ∧ (0 : Int) = 0)), ht⟩) (fun _ h => nomatch h) dX4_hasStar_17 hlocks
    · skip
      refine k_iconst hx hb dX4_hasStar_12 ?_
      refine lv_goto (tgt := 17) hx hb dX4_hasStar_13 (by decide) ?_
      exact W.zret (v := iI 1) hx hb hr (by decide +kernel) (fun t9 ht _ => ⟨1, rfl, (by first | exact Or.inl ⟨by omega, rfl⟩ | exact Or.inr ⟨by omega, rfl⟩ : ((0 ≤ u ∧ u < P 0 1) ∧ (1 : Int) = 1) ∨ (¬ (0 ≤ u ∧ u < P 0 1) ∧ (1 : Int) = 0)), ht⟩) (fun _ h => nomatch h) dX4_hasStar_17 hlocks
set_option maxHeartbeats 4000000 in
set_option maxRecDepth 100000 in
theorem c_X4_faultOfNewTrail (l : Launch) (D : va_G) (cy : Nat → ClassId) (a : Nat → Nat) (P : Nat → Int → Int)  (hI : Inv (mO P)) : Met l yX4_faultOfNewTrail wsX4_faultOfNewTrail { frames := 0, cells := 0, slots := 0, locals := 0 } (kPre (GG D cy) D (plW cy a P) ([.ref (a 0)] : List Value)) (kRO (fun r => ((P 0 0 < 12) ∧ r = 0) ∨ ((P 0 0 = 12) ∧ r = 3))) 0 0 (fun _ => False) := by
  refine kRO_start (cc := cX4_faultOfNewTrail) (maxL := 1) (ret := (some .int)) (by decide) rfl (Nat.le_of_ble_eq_true rfl) ?_
  intro p e s m below meth c hx hb hr hlocks hml hts hown hG hP ls hl
  have hK := hG.1
  have hl : lv_has ls 1 [(0, .ref (a 0))] := hl
  have hinX4 : ∀ w ∈ u_ws RX4 TX4 12, w ∈ wsX4_faultOfNewTrail := by decide +kernel
  have hm0 := hts (.fieldLink RX4 9 "ArcPlate$Plate" "trails" "I") (by decide +kernel)
  have hS0 := po_S hI
  refine lv_aload_n hx hb dX4_faultOfNewTrail_0 rfl (lv_at hl 0 rfl) ?_
  refine va_get (D := D) (ci := 3) (v := .int (iI (P 0 0))) (C := RX4) (T := TX4) (N := 12) hx hb hts hinX4 hown hK hP 0 rfl rfl 0 (by decide) hm0 (fun _ h9 => h9) rfl dX4_faultOfNewTrail_1 ?_
  refine k_bipush hx hb dX4_faultOfNewTrail_4 (by decide +kernel) ?_
  refine k_icmp_ge (tgt := 13) hx hb dX4_faultOfNewTrail_6 (by decide) (by omega) (by omega) (fun c_1 => ?_) (fun c_1 => ?_)
  · skip
    refine k_iconst hx hb dX4_faultOfNewTrail_13 ?_
    exact W.iret (v := iI 3) hx hb hr (fun t9 ht _ => ⟨3, rfl, (by omega : ((P 0 0 < 12) ∧ (3 : Int) = 0) ∨ ((P 0 0 = 12) ∧ (3 : Int) = 3)), ht⟩) (fun _ h => nomatch h) dX4_faultOfNewTrail_14 hlocks
  · skip
    refine k_iconst hx hb dX4_faultOfNewTrail_9 ?_
    refine lv_goto (tgt := 14) hx hb dX4_faultOfNewTrail_10 (by decide) ?_
    exact W.iret (v := iI 0) hx hb hr (fun t9 ht _ => ⟨0, rfl, (by omega : ((P 0 0 < 12) ∧ (0 : Int) = 0) ∨ ((P 0 0 = 12) ∧ (0 : Int) = 3)), ht⟩) (fun _ h => nomatch h) dX4_faultOfNewTrail_14 hlocks
set_option maxHeartbeats 4000000 in
set_option maxRecDepth 100000 in
theorem c_X4_hasFrame (l : Launch) (D : va_G) (cy : Nat → ClassId) (a : Nat → Nat) (P : Nat → Int → Int) (t f : Int) (hI : Inv (mO P)) (h0 : 0 ≤ t) (h1 : t < P 0 0) (hrf : -2147483648 ≤ f ∧ f ≤ 2147483647) : Met l yX4_hasFrame wsX4_hasFrame { frames := 1, cells := 0, slots := 0, locals := 21 } (kPre (GG D cy) D (plW cy a P) ([.ref (a 0), .int (iI t), .int (iI f)] : List Value)) (kRO (fun r => ((hasF (mO P) t f) ∧ r = 1) ∨ (¬ (hasF (mO P) t f) ∧ r = 0))) 0 0 (fun _ => False) := by
  refine kRO_start (cc := cX4_hasFrame) (maxL := 4) (ret := (some .boolean)) (by decide) rfl (Nat.le_of_ble_eq_true rfl) ?_
  intro p e s m below meth c hx hb hr hlocks hml hts hown hG hP ls hl
  have hK := hG.1
  have hl : lv_has ls 4 [(0, .ref (a 0)), (1, .int (iI t)), (2, .int (iI f))] := hl
  have hinX4 : ∀ w ∈ u_ws RX4 TX4 12, w ∈ wsX4_hasFrame := by decide +kernel
  have hm0 := hts (.fieldLink RX4 24 "ArcPlate$Plate" "points" "[I") (by decide +kernel)
  have hm1 := hts (.fieldLink RX4 28 "ArcPlate$Plate" "frames" "[I") (by decide +kernel)
  have hS0 := po_S hI
  have hp := po_pts hI h0 h1
  have hiff := hasP_iff (f := f) hI h0 h1
  refine k_iconst hx hb dX4_hasFrame_0 ?_
  refine lv_istore_n (lv' := [(3, .int (iI 0)), (0, .ref (a 0)), (1, .int (iI t)), (2, .int (iI f))]) hx hb dX4_hasFrame_1 rfl hl (by decide) rfl (fun ls hl => ?_)
  have loop2 : ∀ (n_1 : Nat) (q : Int) (hi0 : 0 ≤ q) (hi1 : q ≤ P 1 t) (hi2 : ∀ k : Int, 0 ≤ k → k < q → P 2 (12 * t + k) ≠ f) (hn : P 1 t - q < (n_1 : Int)) (ls : Array Slot) (hl : lv_has ls 4 [(3, .int (iI q)), (0, .ref (a 0)), (1, .int (iI t)), (2, .int (iI f))]), W p l e { frames := 1, cells := 0, slots := 0, locals := 21 } s m ([.ref (a 0), .int (iI t), .int (iI f)] : List Value).toArray below meth c s.heap [] 0 0 (MQ below (kRO (fun r => ((hasF (mO P) t f) ∧ r = 1) ∨ (¬ (hasF (mO P) t f) ∧ r = 0))) ([.ref (a 0), .int (iI t), .int (iI f)] : List Value).toArray s 0 0 (fun _ => False)) (F0 m 2 ls []) := by
    intro n_1
    induction n_1 with
    | zero => intro q hi0 hi1 hi2 hn ls hl; exfalso; omega
    | succ n_1 ih2 =>
      intro q hi0 hi1 hi2 hn ls hl
      refine lv_iload_n hx hb dX4_hasFrame_2 rfl (lv_at hl 0 rfl) ?_
      refine lv_aload_n hx hb dX4_hasFrame_3 rfl (lv_at hl 1 rfl) ?_
      refine va_get (D := D) (ci := 3) (v := .ref (a 1)) (C := RX4) (T := TX4) (N := 12) hx hb hts hinX4 hown hK hP 0 rfl rfl 4 (by decide) hm0 (fun _ h9 => h9) rfl dX4_hasFrame_4 ?_
      refine lv_iload_n hx hb dX4_hasFrame_7 rfl (lv_at hl 2 rfl) ?_
      refine k_iald hx hb hK hP 1 0 (f := P 1) rfl rfl (i := t) (by omega) dX4_hasFrame_8 ?_
      refine k_icmp_ge (tgt := 34) hx hb dX4_hasFrame_9 (by decide) (by omega) (by omega) (fun c_2 => ?_) (fun c_2 => ?_)
      · skip
        refine k_iconst hx hb dX4_hasFrame_34 ?_
        exact W.zret (v := iI 0) hx hb hr (by decide +kernel) (fun t9 ht _ => ⟨0, rfl, (Or.inr ⟨fun h9 => by obtain ⟨k, k0, k1, k2⟩ := hiff.mp h9; exact hi2 k k0 (by omega) k2, rfl⟩ : ((hasF (mO P) t f) ∧ (0 : Int) = 1) ∨ (¬ (hasF (mO P) t f) ∧ (0 : Int) = 0)), ht⟩) (fun _ h => nomatch h) dX4_hasFrame_35 hlocks
      · skip
        have hpt := po_pt hI h0 h1 hi0 (show q < P 1 t by omega)
        refine lv_aload_n hx hb dX4_hasFrame_12 rfl (lv_at hl 1 rfl) ?_
        refine va_get (D := D) (ci := 3) (v := .ref (a 2)) (C := RX4) (T := TX4) (N := 12) hx hb hts hinX4 hown hK hP 0 rfl rfl 5 (by decide) hm1 (fun _ h9 => h9) rfl dX4_hasFrame_13 ?_
        refine lv_iload_n hx hb dX4_hasFrame_16 rfl (lv_at hl 2 rfl) ?_
        refine lv_iload_n hx hb dX4_hasFrame_17 rfl (lv_at hl 0 rfl) ?_
        refine k_roS (As := [.int (iI t), .int (iI q)]) (rest := [.ref (a 2)]) ⟨hx, hb, hml, hown, hts⟩ (c_X4_slot l D t q ) gX4_hasFrame_X4_slot rfl ⟨rfl, rfl⟩ 2 rfl (by decide +kernel) ⟨Nat.le_of_ble_eq_true rfl, Nat.le_of_ble_eq_true rfl⟩ kGT_ok trivial (fun k q h => by simp at h) hl.1 rfl (Nat.le_of_ble_eq_true rfl) ⟨Nat.le_of_ble_eq_true rfl, Nat.le_of_ble_eq_true rfl⟩ dX4_hasFrame_18 (fun r_3 hr_3 => ?_)
        have hr_3 : r_3 = 12 * t + q := hr_3
        subst hr_3
        refine k_iald hx hb hK hP 2 0 (f := P 2) rfl rfl (i := 12 * t + q) (by omega) dX4_hasFrame_21 ?_
        refine lv_iload_n hx hb dX4_hasFrame_22 rfl (lv_at hl 3 rfl) ?_
        refine k_icmp_ne (tgt := 28) hx hb dX4_hasFrame_23 (by decide) (by omega) (by omega) (fun c_4 => ?_) (fun c_4 => ?_)
        · skip
          refine lv_iinc (v := iI (q + 1)) (lv' := [(3, .int (iI (q + 1))), (0, .ref (a 0)), (1, .int (iI t)), (2, .int (iI f))]) hx hb dX4_hasFrame_28 hl (k := 0) rfl (iI_add _ _) (by decide) rfl (fun ls hl => ?_)
          refine lv_goto (tgt := 2) hx hb dX4_hasFrame_31 (by decide) ?_
          exact ih2 (q + 1)  (by omega) (by omega) (fun k a b => by by_cases e9 : k = q; (subst e9; assumption); exact hi2 k a (by omega)) (by omega) ls (lv_sub hl [0, 1, 2, 3] rfl)
        · skip
          refine k_iconst hx hb dX4_hasFrame_26 ?_
          exact W.zret (v := iI 1) hx hb hr (by decide +kernel) (fun t9 ht _ => ⟨1, rfl, (Or.inl ⟨hiff.mpr ⟨q, hi0, by omega, by assumption⟩, rfl⟩ : ((hasF (mO P) t f) ∧ (1 : Int) = 1) ∨ (¬ (hasF (mO P) t f) ∧ (1 : Int) = 0)), ht⟩) (fun _ h => nomatch h) dX4_hasFrame_27 hlocks
  exact loop2 ((P 1 t - 0 : Int) + 1).toNat 0  (by omega) (by omega) (fun k a b => by omega) (by omega) ls (lv_sub hl [0, 1, 2, 3] rfl)
set_option maxHeartbeats 4000000 in
set_option maxRecDepth 100000 in
theorem c_X4_faultOfNewPoint (l : Launch) (D : va_G) (cy : Nat → ClassId) (a : Nat → Nat) (P : Nat → Int → Int) (t f x y : Int) (hI : Inv (mO P)) (hrt : -2147483648 ≤ t ∧ t ≤ 2147483647) (hrf : -2147483648 ≤ f ∧ f ≤ 2147483647) (hrx : -2147483648 ≤ x ∧ x ≤ 2147483647) (hry : -2147483648 ≤ y ∧ y ≤ 2147483647) : Met l yX4_faultOfNewPoint wsX4_faultOfNewPoint { frames := 2, cells := 0, slots := 0, locals := 44 } (kPre (GG D cy) D (plW cy a P) ([.ref (a 0), .int (iI t), .int (iI f), .int (iI x), .int (iI y)] : List Value)) (kRO (fun r => ((¬ (0 ≤ t ∧ t < P 0 0)) ∧ r = 1) ∨ (((0 ≤ t ∧ t < P 0 0) ∧ ¬ pointOK f x y) ∧ r = 2) ∨ ((((0 ≤ t ∧ t < P 0 0) ∧ pointOK f x y) ∧ (P 1 t = 12 ∨ hasF (mO P) t f)) ∧ r = 3) ∨ ((((0 ≤ t ∧ t < P 0 0) ∧ pointOK f x y) ∧ (P 1 t < 12 ∧ ¬ hasF (mO P) t f)) ∧ r = 0))) 0 0 (fun _ => False) := by
  refine kRO_start (cc := cX4_faultOfNewPoint) (maxL := 5) (ret := (some .int)) (by decide) rfl (Nat.le_of_ble_eq_true rfl) ?_
  intro p e s m below meth c hx hb hr hlocks hml hts hown hG hP ls hl
  have hK := hG.1
  have hl : lv_has ls 5 [(0, .ref (a 0)), (1, .int (iI t)), (2, .int (iI f)), (3, .int (iI x)), (4, .int (iI y))] := hl
  have hinX4 : ∀ w ∈ u_ws RX4 TX4 12, w ∈ wsX4_faultOfNewPoint := by decide +kernel
  have hm0 := hts (.initialized RX6) (by decide +kernel)
  have hm1 := hts (.static yX6_inRange) (by decide +kernel)
  have hm2 := hts (.fieldLink RX4 24 "ArcPlate$Plate" "points" "[I") (by decide +kernel)
  have hS0 := po_S hI
  refine lv_aload_n hx hb dX4_faultOfNewPoint_0 rfl (lv_at hl 0 rfl) ?_
  refine lv_iload_n hx hb dX4_faultOfNewPoint_1 rfl (lv_at hl 1 rfl) ?_
  refine k_roV (As := [.int (iI t)]) (rest := []) ⟨hx, hb, hml, hown, hts⟩ (c_X4_hasTrail l D cy a P t hI (show -2147483648 ≤ t ∧ t ≤ 2147483647 by omega)) gX4_faultOfNewPoint_X4_hasTrail rfl ⟨rfl, rfl⟩ 1 rfl (by decide +kernel) ⟨Nat.le_of_ble_eq_true rfl, Nat.le_of_ble_eq_true rfl⟩ (GG_ok D cy) hG hP (va_recv hK hP (ci := 3) (q0 := 0) rfl rfl) hl.1 rfl (Nat.le_of_ble_eq_true rfl) ⟨Nat.le_of_ble_eq_true rfl, Nat.le_of_ble_eq_true rfl⟩ dX4_faultOfNewPoint_2 (fun r_1 hr_1 => ?_)
  have hr_1 : ((0 ≤ t ∧ t < P 0 0) ∧ r_1 = 1) ∨ (¬ (0 ≤ t ∧ t < P 0 0) ∧ r_1 = 0) := hr_1
  rcases hr_1 with ⟨c_2, hr_1⟩ | ⟨c_2, hr_1⟩ <;> subst hr_1
  · skip
    have hp := po_pts hI c_2.1 c_2.2
    refine k_if_ne (tgt := 10) hx hb dX4_faultOfNewPoint_5 (by decide) (by omega) (fun c_3 => ?_) (fun c_3 => ?_)
    · skip
      refine lv_iload_n hx hb dX4_faultOfNewPoint_10 rfl (lv_at hl 2 rfl) ?_
      refine k_iconst hx hb dX4_faultOfNewPoint_11 ?_
      refine k_sipush hx hb dX4_faultOfNewPoint_12 (by decide +kernel) ?_
      refine k_roSN (As := [.int (iI f), .int (iI 0), .int (iI 1000)]) (rest := []) ⟨hx, hb, hml, hown, hts⟩ (c_X6_inRange l D f 0 1000 (show -2147483648 ≤ f ∧ f ≤ 2147483647 by omega) (show -2147483648 ≤ 0 ∧ 0 ≤ 2147483647 by omega) (show -2147483648 ≤ 1000 ∧ 1000 ≤ 2147483647 by omega)) gX4_faultOfNewPoint_X6_inRange_n77 hG.2.1 hm0 hm1 rfl ⟨rfl, rfl⟩ 3 rfl (by decide +kernel) ⟨Nat.le_of_ble_eq_true rfl, Nat.le_of_ble_eq_true rfl⟩ kGT_ok trivial (fun k q h => by simp at h) hl.1 rfl (Nat.le_of_ble_eq_true rfl) ⟨Nat.le_of_ble_eq_true rfl, Nat.le_of_ble_eq_true rfl⟩ dX4_faultOfNewPoint_15 (fun r_4 hr_4 => ?_)
      have hr_4 : ((0 ≤ f ∧ f ≤ 1000) ∧ r_4 = 1) ∨ (¬ (0 ≤ f ∧ f ≤ 1000) ∧ r_4 = 0) := hr_4
      rcases hr_4 with ⟨c_5, hr_4⟩ | ⟨c_5, hr_4⟩ <;> subst hr_4
      · skip
        refine k_if_eq (tgt := 44) hx hb dX4_faultOfNewPoint_18 (by decide) (by omega) (fun c_6 => ?_) (fun c_6 => ?_)
        · exfalso; omega
        · skip
          refine lv_iload_n hx hb dX4_faultOfNewPoint_21 rfl (lv_at hl 3 rfl) ?_
          refine k_iconst hx hb dX4_faultOfNewPoint_22 ?_
          refine k_sipush hx hb dX4_faultOfNewPoint_23 (by decide +kernel) ?_
          refine k_roSN (As := [.int (iI x), .int (iI 0), .int (iI 4000)]) (rest := []) ⟨hx, hb, hml, hown, hts⟩ (c_X6_inRange l D x 0 4000 (show -2147483648 ≤ x ∧ x ≤ 2147483647 by omega) (show -2147483648 ≤ 0 ∧ 0 ≤ 2147483647 by omega) (show -2147483648 ≤ 4000 ∧ 4000 ≤ 2147483647 by omega)) gX4_faultOfNewPoint_X6_inRange_n77 hG.2.1 hm0 hm1 rfl ⟨rfl, rfl⟩ 3 rfl (by decide +kernel) ⟨Nat.le_of_ble_eq_true rfl, Nat.le_of_ble_eq_true rfl⟩ kGT_ok trivial (fun k q h => by simp at h) hl.1 rfl (Nat.le_of_ble_eq_true rfl) ⟨Nat.le_of_ble_eq_true rfl, Nat.le_of_ble_eq_true rfl⟩ dX4_faultOfNewPoint_26 (fun r_7 hr_7 => ?_)
          have hr_7 : ((0 ≤ x ∧ x ≤ 4000) ∧ r_7 = 1) ∨ (¬ (0 ≤ x ∧ x ≤ 4000) ∧ r_7 = 0) := hr_7
          rcases hr_7 with ⟨c_8, hr_7⟩ | ⟨c_8, hr_7⟩ <;> subst hr_7
          · skip
            refine k_if_eq (tgt := 44) hx hb dX4_faultOfNewPoint_29 (by decide) (by omega) (fun c_9 => ?_) (fun c_9 => ?_)
            · exfalso; omega
            · skip
              refine lv_iload hx hb dX4_faultOfNewPoint_32 (lv_at hl 4 rfl) ?_
              refine k_iconst hx hb dX4_faultOfNewPoint_34 ?_
              refine k_sipush hx hb dX4_faultOfNewPoint_35 (by decide +kernel) ?_
              refine k_roSN (As := [.int (iI y), .int (iI 0), .int (iI 4000)]) (rest := []) ⟨hx, hb, hml, hown, hts⟩ (c_X6_inRange l D y 0 4000 (show -2147483648 ≤ y ∧ y ≤ 2147483647 by omega) (show -2147483648 ≤ 0 ∧ 0 ≤ 2147483647 by omega) (show -2147483648 ≤ 4000 ∧ 4000 ≤ 2147483647 by omega)) gX4_faultOfNewPoint_X6_inRange_n77 hG.2.1 hm0 hm1 rfl ⟨rfl, rfl⟩ 3 rfl (by decide +kernel) ⟨Nat.le_of_ble_eq_true rfl, Nat.le_of_ble_eq_true rfl⟩ kGT_ok trivial (fun k q h => by simp at h) hl.1 rfl (Nat.le_of_ble_eq_true rfl) ⟨Nat.le_of_ble_eq_true rfl, Nat.le_of_ble_eq_true rfl⟩ dX4_faultOfNewPoint_38 (fun r_10 hr_10 => ?_)
              have hr_10 : ((0 ≤ y ∧ y ≤ 4000) ∧ r_10 = 1) ∨ (¬ (0 ≤ y ∧ y ≤ 4000) ∧ r_10 = 0) := hr_10
              rcases hr_10 with ⟨c_11, hr_10⟩ | ⟨c_11, hr_10⟩ <;> subst hr_10
              · skip
                refine k_if_ne (tgt := 46) hx hb dX4_faultOfNewPoint_41 (by decide) (by omega) (fun c_12 => ?_) (fun c_12 => ?_)
                · skip
                  refine lv_aload_n hx hb dX4_faultOfNewPoint_46 rfl (lv_at hl 0 rfl) ?_
                  refine va_get (D := D) (ci := 3) (v := .ref (a 1)) (C := RX4) (T := TX4) (N := 12) hx hb hts hinX4 hown hK hP 0 rfl rfl 4 (by decide) hm2 (fun _ h9 => h9) rfl dX4_faultOfNewPoint_47 ?_
                  refine lv_iload_n hx hb dX4_faultOfNewPoint_50 rfl (lv_at hl 1 rfl) ?_
                  refine k_iald hx hb hK hP 1 0 (f := P 1) rfl rfl (i := t) (by omega) dX4_faultOfNewPoint_51 ?_
                  refine k_bipush hx hb dX4_faultOfNewPoint_52 (by decide +kernel) ?_
                  refine k_icmp_ge (tgt := 70) hx hb dX4_faultOfNewPoint_54 (by decide) (by omega) (by omega) (fun c_13 => ?_) (fun c_13 => ?_)
                  · skip
                    refine k_iconst hx hb dX4_faultOfNewPoint_70 ?_
                    exact W.iret (v := iI 3) hx hb hr (fun t9 ht _ => ⟨3, rfl, (by first | exact Or.inr (Or.inr (Or.inl ⟨⟨⟨by omega, by unfold pointOK; omega⟩, by first | exact Or.inl (by omega) | exact Or.inr (by assumption)⟩, rfl⟩)) | exact Or.inr (Or.inr (Or.inr ⟨⟨⟨by omega, by unfold pointOK; omega⟩, by omega, by assumption⟩, rfl⟩)) : ((¬ (0 ≤ t ∧ t < P 0 0)) ∧ (3 : Int) = 1) ∨ (((0 ≤ t ∧ t < P 0 0) ∧ ¬ pointOK f x y) ∧ (3 : Int) = 2) ∨ ((((0 ≤ t ∧ t < P 0 0) ∧ pointOK f x y) ∧ (P 1 t = 12 ∨ hasF (mO P) t f)) ∧ (3 : Int) = 3) ∨ ((((0 ≤ t ∧ t < P 0 0) ∧ pointOK f x y) ∧ (P 1 t < 12 ∧ ¬ hasF (mO P) t f)) ∧ (3 : Int) = 0)), ht⟩) (fun _ h => nomatch h) dX4_faultOfNewPoint_71 hlocks
                  · skip
                    refine lv_aload_n hx hb dX4_faultOfNewPoint_57 rfl (lv_at hl 0 rfl) ?_
                    refine lv_iload_n hx hb dX4_faultOfNewPoint_58 rfl (lv_at hl 1 rfl) ?_
                    refine lv_iload_n hx hb dX4_faultOfNewPoint_59 rfl (lv_at hl 2 rfl) ?_
                    refine k_roV (As := [.int (iI t), .int (iI f)]) (rest := []) ⟨hx, hb, hml, hown, hts⟩ (c_X4_hasFrame l D cy a P t f hI (show 0 ≤ t by omega) (show t < P 0 0 by omega) (show -2147483648 ≤ f ∧ f ≤ 2147483647 by omega)) gX4_faultOfNewPoint_X4_hasFrame rfl ⟨rfl, rfl⟩ 2 rfl (by decide +kernel) ⟨Nat.le_of_ble_eq_true rfl, Nat.le_of_ble_eq_true rfl⟩ (GG_ok D cy) hG hP (va_recv hK hP (ci := 3) (q0 := 0) rfl rfl) hl.1 rfl (Nat.le_of_ble_eq_true rfl) ⟨Nat.le_of_ble_eq_true rfl, Nat.le_of_ble_eq_true rfl⟩ dX4_faultOfNewPoint_60 (fun r_14 hr_14 => ?_)
                    have hr_14 : ((hasF (mO P) t f) ∧ r_14 = 1) ∨ (¬ (hasF (mO P) t f) ∧ r_14 = 0) := hr_14
                    rcases hr_14 with ⟨c_15, hr_14⟩ | ⟨c_15, hr_14⟩ <;> subst hr_14
                    · skip
                      refine k_if_ne (tgt := 70) hx hb dX4_faultOfNewPoint_63 (by decide) (by omega) (fun c_16 => ?_) (fun c_16 => ?_)
                      · skip
                        refine k_iconst hx hb dX4_faultOfNewPoint_70 ?_
                        exact W.iret (v := iI 3) hx hb hr (fun t9 ht _ => ⟨3, rfl, (by first | exact Or.inr (Or.inr (Or.inl ⟨⟨⟨by omega, by unfold pointOK; omega⟩, by first | exact Or.inl (by omega) | exact Or.inr (by assumption)⟩, rfl⟩)) | exact Or.inr (Or.inr (Or.inr ⟨⟨⟨by omega, by unfold pointOK; omega⟩, by omega, by assumption⟩, rfl⟩)) : ((¬ (0 ≤ t ∧ t < P 0 0)) ∧ (3 : Int) = 1) ∨ (((0 ≤ t ∧ t < P 0 0) ∧ ¬ pointOK f x y) ∧ (3 : Int) = 2) ∨ ((((0 ≤ t ∧ t < P 0 0) ∧ pointOK f x y) ∧ (P 1 t = 12 ∨ hasF (mO P) t f)) ∧ (3 : Int) = 3) ∨ ((((0 ≤ t ∧ t < P 0 0) ∧ pointOK f x y) ∧ (P 1 t < 12 ∧ ¬ hasF (mO P) t f)) ∧ (3 : Int) = 0)), ht⟩) (fun _ h => nomatch h) dX4_faultOfNewPoint_71 hlocks
                      · exfalso; omega
                    · skip
                      refine k_if_ne (tgt := 70) hx hb dX4_faultOfNewPoint_63 (by decide) (by omega) (fun c_17 => ?_) (fun c_17 => ?_)
                      · exfalso; omega
                      · skip
                        refine k_iconst hx hb dX4_faultOfNewPoint_66 ?_
                        refine lv_goto (tgt := 71) hx hb dX4_faultOfNewPoint_67 (by decide) ?_
                        exact W.iret (v := iI 0) hx hb hr (fun t9 ht _ => ⟨0, rfl, (by first | exact Or.inr (Or.inr (Or.inl ⟨⟨⟨by omega, by unfold pointOK; omega⟩, by first | exact Or.inl (by omega) | exact Or.inr (by assumption)⟩, rfl⟩)) | exact Or.inr (Or.inr (Or.inr ⟨⟨⟨by omega, by unfold pointOK; omega⟩, by omega, by assumption⟩, rfl⟩)) : ((¬ (0 ≤ t ∧ t < P 0 0)) ∧ (0 : Int) = 1) ∨ (((0 ≤ t ∧ t < P 0 0) ∧ ¬ pointOK f x y) ∧ (0 : Int) = 2) ∨ ((((0 ≤ t ∧ t < P 0 0) ∧ pointOK f x y) ∧ (P 1 t = 12 ∨ hasF (mO P) t f)) ∧ (0 : Int) = 3) ∨ ((((0 ≤ t ∧ t < P 0 0) ∧ pointOK f x y) ∧ (P 1 t < 12 ∧ ¬ hasF (mO P) t f)) ∧ (0 : Int) = 0)), ht⟩) (fun _ h => nomatch h) dX4_faultOfNewPoint_71 hlocks
                · exfalso; omega
              · skip
                refine k_if_ne (tgt := 46) hx hb dX4_faultOfNewPoint_41 (by decide) (by omega) (fun c_18 => ?_) (fun c_18 => ?_)
                · exfalso; omega
                · skip
                  refine k_iconst hx hb dX4_faultOfNewPoint_44 ?_
                  exact W.iret (v := iI 2) hx hb hr (fun t9 ht _ => ⟨2, rfl, (Or.inr (Or.inl ⟨⟨by omega, by unfold pointOK; omega⟩, rfl⟩) : ((¬ (0 ≤ t ∧ t < P 0 0)) ∧ (2 : Int) = 1) ∨ (((0 ≤ t ∧ t < P 0 0) ∧ ¬ pointOK f x y) ∧ (2 : Int) = 2) ∨ ((((0 ≤ t ∧ t < P 0 0) ∧ pointOK f x y) ∧ (P 1 t = 12 ∨ hasF (mO P) t f)) ∧ (2 : Int) = 3) ∨ ((((0 ≤ t ∧ t < P 0 0) ∧ pointOK f x y) ∧ (P 1 t < 12 ∧ ¬ hasF (mO P) t f)) ∧ (2 : Int) = 0)), ht⟩) (fun _ h => nomatch h) dX4_faultOfNewPoint_45 hlocks
          · skip
            refine k_if_eq (tgt := 44) hx hb dX4_faultOfNewPoint_29 (by decide) (by omega) (fun c_19 => ?_) (fun c_19 => ?_)
            · skip
              refine k_iconst hx hb dX4_faultOfNewPoint_44 ?_
              exact W.iret (v := iI 2) hx hb hr (fun t9 ht _ => ⟨2, rfl, (Or.inr (Or.inl ⟨⟨by omega, by unfold pointOK; omega⟩, rfl⟩) : ((¬ (0 ≤ t ∧ t < P 0 0)) ∧ (2 : Int) = 1) ∨ (((0 ≤ t ∧ t < P 0 0) ∧ ¬ pointOK f x y) ∧ (2 : Int) = 2) ∨ ((((0 ≤ t ∧ t < P 0 0) ∧ pointOK f x y) ∧ (P 1 t = 12 ∨ hasF (mO P) t f)) ∧ (2 : Int) = 3) ∨ ((((0 ≤ t ∧ t < P 0 0) ∧ pointOK f x y) ∧ (P 1 t < 12 ∧ ¬ hasF (mO P) t f)) ∧ (2 : Int) = 0)), ht⟩) (fun _ h => nomatch h) dX4_faultOfNewPoint_45 hlocks
            · exfalso; omega
      · skip
        refine k_if_eq (tgt := 44) hx hb dX4_faultOfNewPoint_18 (by decide) (by omega) (fun c_20 => ?_) (fun c_20 => ?_)
        · skip
          refine k_iconst hx hb dX4_faultOfNewPoint_44 ?_
          exact W.iret (v := iI 2) hx hb hr (fun t9 ht _ => ⟨2, rfl, (Or.inr (Or.inl ⟨⟨by omega, by unfold pointOK; omega⟩, rfl⟩) : ((¬ (0 ≤ t ∧ t < P 0 0)) ∧ (2 : Int) = 1) ∨ (((0 ≤ t ∧ t < P 0 0) ∧ ¬ pointOK f x y) ∧ (2 : Int) = 2) ∨ ((((0 ≤ t ∧ t < P 0 0) ∧ pointOK f x y) ∧ (P 1 t = 12 ∨ hasF (mO P) t f)) ∧ (2 : Int) = 3) ∨ ((((0 ≤ t ∧ t < P 0 0) ∧ pointOK f x y) ∧ (P 1 t < 12 ∧ ¬ hasF (mO P) t f)) ∧ (2 : Int) = 0)), ht⟩) (fun _ h => nomatch h) dX4_faultOfNewPoint_45 hlocks
        · exfalso; omega
    · exfalso; omega
  · skip
    refine k_if_ne (tgt := 10) hx hb dX4_faultOfNewPoint_5 (by decide) (by omega) (fun c_21 => ?_) (fun c_21 => ?_)
    · exfalso; omega
    · skip
      refine k_iconst hx hb dX4_faultOfNewPoint_8 ?_
      exact W.iret (v := iI 1) hx hb hr (fun t9 ht _ => ⟨1, rfl, (Or.inl ⟨by omega, rfl⟩ : ((¬ (0 ≤ t ∧ t < P 0 0)) ∧ (1 : Int) = 1) ∨ (((0 ≤ t ∧ t < P 0 0) ∧ ¬ pointOK f x y) ∧ (1 : Int) = 2) ∨ ((((0 ≤ t ∧ t < P 0 0) ∧ pointOK f x y) ∧ (P 1 t = 12 ∨ hasF (mO P) t f)) ∧ (1 : Int) = 3) ∨ ((((0 ≤ t ∧ t < P 0 0) ∧ pointOK f x y) ∧ (P 1 t < 12 ∧ ¬ hasF (mO P) t f)) ∧ (1 : Int) = 0)), ht⟩) (fun _ h => nomatch h) dX4_faultOfNewPoint_9 hlocks
set_option maxHeartbeats 4000000 in
set_option maxRecDepth 100000 in
theorem c_X4_faultOfSetting (l : Launch) (D : va_G) (cy : Nat → ClassId) (w v : Int) (hrw : -2147483648 ≤ w ∧ w ≤ 2147483647) (hrv : -2147483648 ≤ v ∧ v ≤ 2147483647) : Met l yX4_faultOfSetting wsX4_faultOfSetting { frames := 1, cells := 0, slots := 0, locals := 22 } (kPre (GG D cy) D [] ([.int (iI w), .int (iI v)] : List Value)) (kRO (fun r => ((setOK w v) ∧ r = 0) ∨ ((¬ setOK w v) ∧ r = 2))) 0 0 (fun _ => False) := by
  refine kRO_start (cc := cX4_faultOfSetting) (maxL := 2) (ret := (some .int)) (by decide) rfl (Nat.le_of_ble_eq_true rfl) ?_
  intro p e s m below meth c hx hb hr hlocks hml hts hown hG hP ls hl
  have hK := hG.1
  have hl : lv_has ls 2 [(0, .int (iI w)), (1, .int (iI v))] := hl
  have hm0 := hts (.initialized RX6) (by decide +kernel)
  have hm1 := hts (.static yX6_inRange) (by decide +kernel)
  have hm2 := hts (.fieldLink RX4 88 "ArcPlate$Plate" "LEAST" "[I") (by decide +kernel)
  have hm3 := hts (.fieldLink RX4 91 "ArcPlate$Plate" "MOST" "[I") (by decide +kernel)
  have hlm := lm_tab w
  refine lv_iload_n hx hb dX4_faultOfSetting_0 rfl (lv_at hl 0 rfl) ?_
  refine k_iconst hx hb dX4_faultOfSetting_1 ?_
  refine k_bipush hx hb dX4_faultOfSetting_2 (by decide +kernel) ?_
  refine k_roSN (As := [.int (iI w), .int (iI 0), .int (iI 9)]) (rest := []) ⟨hx, hb, hml, hown, hts⟩ (c_X6_inRange l D w 0 9 (show -2147483648 ≤ w ∧ w ≤ 2147483647 by omega) (show -2147483648 ≤ 0 ∧ 0 ≤ 2147483647 by omega) (show -2147483648 ≤ 9 ∧ 9 ≤ 2147483647 by omega)) gX4_faultOfSetting_X6_inRange_n77 hG.2.1 hm0 hm1 rfl ⟨rfl, rfl⟩ 3 rfl (by decide +kernel) ⟨Nat.le_of_ble_eq_true rfl, Nat.le_of_ble_eq_true rfl⟩ kGT_ok trivial (fun k q h => by simp at h) hl.1 rfl (Nat.le_of_ble_eq_true rfl) ⟨Nat.le_of_ble_eq_true rfl, Nat.le_of_ble_eq_true rfl⟩ dX4_faultOfSetting_4 (fun r_1 hr_1 => ?_)
  have hr_1 : ((0 ≤ w ∧ w ≤ 9) ∧ r_1 = 1) ∨ (¬ (0 ≤ w ∧ w ≤ 9) ∧ r_1 = 0) := hr_1
  rcases hr_1 with ⟨c_2, hr_1⟩ | ⟨c_2, hr_1⟩ <;> subst hr_1
  · skip
    refine k_if_eq (tgt := 31) hx hb dX4_faultOfSetting_7 (by decide) (by omega) (fun c_3 => ?_) (fun c_3 => ?_)
    · exfalso; omega
    · skip
      refine lv_iload_n hx hb dX4_faultOfSetting_10 rfl (lv_at hl 1 rfl) ?_
      obtain ⟨t_4, hZt_4, hTt_4⟩ := hG.2.2.2.2.1
      refine va_gets hx hb hZt_4 (va_S.rf) hown hm2 (fun _ h9 => h9) dX4_faultOfSetting_11 ?_
      refine lv_iload_n hx hb dX4_faultOfSetting_14 rfl (lv_at hl 0 rfl) ?_
      refine k_tald hx hb hTt_4 (va_S.rf) (by omega) dX4_faultOfSetting_15 ?_
      obtain ⟨t_5, hZt_5, hTt_5⟩ := hG.2.2.2.2.2.1
      refine va_gets hx hb hZt_5 (va_S.rf) hown hm3 (fun _ h9 => h9) dX4_faultOfSetting_16 ?_
      refine lv_iload_n hx hb dX4_faultOfSetting_19 rfl (lv_at hl 0 rfl) ?_
      refine k_tald hx hb hTt_5 (va_S.rf) (by omega) dX4_faultOfSetting_20 ?_
      refine k_roSN (As := [.int (iI v), .int (iI (leastI w)), .int (iI (mostI w))]) (rest := []) ⟨hx, hb, hml, hown, hts⟩ (c_X6_inRange l D v (leastI w) (mostI w) (show -2147483648 ≤ v ∧ v ≤ 2147483647 by omega) (show -2147483648 ≤ (leastI w) ∧ (leastI w) ≤ 2147483647 by omega) (show -2147483648 ≤ (mostI w) ∧ (mostI w) ≤ 2147483647 by omega)) gX4_faultOfSetting_X6_inRange_n77 hG.2.1 hm0 hm1 rfl ⟨rfl, rfl⟩ 3 rfl (by decide +kernel) ⟨Nat.le_of_ble_eq_true rfl, Nat.le_of_ble_eq_true rfl⟩ kGT_ok trivial (fun k q h => by simp at h) hl.1 rfl (Nat.le_of_ble_eq_true rfl) ⟨Nat.le_of_ble_eq_true rfl, Nat.le_of_ble_eq_true rfl⟩ dX4_faultOfSetting_21 (fun r_6 hr_6 => ?_)
      have hr_6 : (((leastI w) ≤ v ∧ v ≤ (mostI w)) ∧ r_6 = 1) ∨ (¬ ((leastI w) ≤ v ∧ v ≤ (mostI w)) ∧ r_6 = 0) := hr_6
      rcases hr_6 with ⟨c_7, hr_6⟩ | ⟨c_7, hr_6⟩ <;> subst hr_6
      · skip
        refine k_if_eq (tgt := 31) hx hb dX4_faultOfSetting_24 (by decide) (by omega) (fun c_8 => ?_) (fun c_8 => ?_)
        · exfalso; omega
        · skip
          refine k_iconst hx hb dX4_faultOfSetting_27 ?_
          refine lv_goto (tgt := 32) hx hb dX4_faultOfSetting_28 (by decide) ?_
          exact W.iret (v := iI 0) hx hb hr (fun t9 ht _ => ⟨0, rfl, (by first | exact Or.inl ⟨by unfold setOK; omega, rfl⟩ | exact Or.inr ⟨by unfold setOK; omega, rfl⟩ : ((setOK w v) ∧ (0 : Int) = 0) ∨ ((¬ setOK w v) ∧ (0 : Int) = 2)), ht⟩) (fun _ h => nomatch h) dX4_faultOfSetting_32 hlocks
      · skip
        refine k_if_eq (tgt := 31) hx hb dX4_faultOfSetting_24 (by decide) (by omega) (fun c_9 => ?_) (fun c_9 => ?_)
        · skip
          refine k_iconst hx hb dX4_faultOfSetting_31 ?_
          exact W.iret (v := iI 2) hx hb hr (fun t9 ht _ => ⟨2, rfl, (by first | exact Or.inl ⟨by unfold setOK; omega, rfl⟩ | exact Or.inr ⟨by unfold setOK; omega, rfl⟩ : ((setOK w v) ∧ (2 : Int) = 0) ∨ ((¬ setOK w v) ∧ (2 : Int) = 2)), ht⟩) (fun _ h => nomatch h) dX4_faultOfSetting_32 hlocks
        · exfalso; omega
  · skip
    refine k_if_eq (tgt := 31) hx hb dX4_faultOfSetting_7 (by decide) (by omega) (fun c_10 => ?_) (fun c_10 => ?_)
    · skip
      refine k_iconst hx hb dX4_faultOfSetting_31 ?_
      exact W.iret (v := iI 2) hx hb hr (fun t9 ht _ => ⟨2, rfl, (by first | exact Or.inl ⟨by unfold setOK; omega, rfl⟩ | exact Or.inr ⟨by unfold setOK; omega, rfl⟩ : ((setOK w v) ∧ (2 : Int) = 0) ∨ ((¬ setOK w v) ∧ (2 : Int) = 2)), ht⟩) (fun _ h => nomatch h) dX4_faultOfSetting_32 hlocks
    · exfalso; omega
set_option maxHeartbeats 4000000 in
set_option maxRecDepth 100000 in
theorem c_X4_isPole (l : Launch) (D : va_G) (cy : Nat → ClassId) (x y : Int) (hrx : -2147483648 ≤ x ∧ x ≤ 2147483647) (hry : -2147483648 ≤ y ∧ y ≤ 2147483647) : Met l yX4_isPole wsX4_isPole { frames := 1, cells := 0, slots := 0, locals := 22 } (kPre (GG D cy) D [] ([.int (iI x), .int (iI y)] : List Value)) (kRO (fun r => ((poleOK x y) ∧ r = 1) ∨ (¬ (poleOK x y) ∧ r = 0))) 0 0 (fun _ => False) := by
  refine kRO_start (cc := cX4_isPole) (maxL := 2) (ret := (some .boolean)) (by decide) rfl (Nat.le_of_ble_eq_true rfl) ?_
  intro p e s m below meth c hx hb hr hlocks hml hts hown hG hP ls hl
  have hK := hG.1
  have hl : lv_has ls 2 [(0, .int (iI x)), (1, .int (iI y))] := hl
  have hm0 := hts (.initialized RX6) (by decide +kernel)
  have hm1 := hts (.static yX6_inRange) (by decide +kernel)
  refine lv_iload_n hx hb dX4_isPole_0 rfl (lv_at hl 0 rfl) ?_
  refine k_sipush hx hb dX4_isPole_1 (by decide +kernel) ?_
  refine k_sipush hx hb dX4_isPole_4 (by decide +kernel) ?_
  refine k_roSN (As := [.int (iI x), .int (iI (-2000)), .int (iI 6000)]) (rest := []) ⟨hx, hb, hml, hown, hts⟩ (c_X6_inRange l D x (-2000) 6000 (show -2147483648 ≤ x ∧ x ≤ 2147483647 by omega) (show -2147483648 ≤ (-2000) ∧ (-2000) ≤ 2147483647 by omega) (show -2147483648 ≤ 6000 ∧ 6000 ≤ 2147483647 by omega)) gX4_isPole_X6_inRange_n77 hG.2.1 hm0 hm1 rfl ⟨rfl, rfl⟩ 3 rfl (by decide +kernel) ⟨Nat.le_of_ble_eq_true rfl, Nat.le_of_ble_eq_true rfl⟩ kGT_ok trivial (fun k q h => by simp at h) hl.1 rfl (Nat.le_of_ble_eq_true rfl) ⟨Nat.le_of_ble_eq_true rfl, Nat.le_of_ble_eq_true rfl⟩ dX4_isPole_7 (fun r_1 hr_1 => ?_)
  have hr_1 : (((-2000) ≤ x ∧ x ≤ 6000) ∧ r_1 = 1) ∨ (¬ ((-2000) ≤ x ∧ x ≤ 6000) ∧ r_1 = 0) := hr_1
  rcases hr_1 with ⟨c_2, hr_1⟩ | ⟨c_2, hr_1⟩ <;> subst hr_1
  · skip
    refine k_if_eq (tgt := 30) hx hb dX4_isPole_10 (by decide) (by omega) (fun c_3 => ?_) (fun c_3 => ?_)
    · exfalso; omega
    · skip
      refine lv_iload_n hx hb dX4_isPole_13 rfl (lv_at hl 1 rfl) ?_
      refine k_sipush hx hb dX4_isPole_14 (by decide +kernel) ?_
      refine k_sipush hx hb dX4_isPole_17 (by decide +kernel) ?_
      refine k_roSN (As := [.int (iI y), .int (iI (-2000)), .int (iI 6000)]) (rest := []) ⟨hx, hb, hml, hown, hts⟩ (c_X6_inRange l D y (-2000) 6000 (show -2147483648 ≤ y ∧ y ≤ 2147483647 by omega) (show -2147483648 ≤ (-2000) ∧ (-2000) ≤ 2147483647 by omega) (show -2147483648 ≤ 6000 ∧ 6000 ≤ 2147483647 by omega)) gX4_isPole_X6_inRange_n77 hG.2.1 hm0 hm1 rfl ⟨rfl, rfl⟩ 3 rfl (by decide +kernel) ⟨Nat.le_of_ble_eq_true rfl, Nat.le_of_ble_eq_true rfl⟩ kGT_ok trivial (fun k q h => by simp at h) hl.1 rfl (Nat.le_of_ble_eq_true rfl) ⟨Nat.le_of_ble_eq_true rfl, Nat.le_of_ble_eq_true rfl⟩ dX4_isPole_20 (fun r_4 hr_4 => ?_)
      have hr_4 : (((-2000) ≤ y ∧ y ≤ 6000) ∧ r_4 = 1) ∨ (¬ ((-2000) ≤ y ∧ y ≤ 6000) ∧ r_4 = 0) := hr_4
      rcases hr_4 with ⟨c_5, hr_4⟩ | ⟨c_5, hr_4⟩ <;> subst hr_4
      · skip
        refine k_if_eq (tgt := 30) hx hb dX4_isPole_23 (by decide) (by omega) (fun c_6 => ?_) (fun c_6 => ?_)
        · exfalso; omega
        · skip
          refine k_iconst hx hb dX4_isPole_26 ?_
          refine lv_goto (tgt := 31) hx hb dX4_isPole_27 (by decide) ?_
          exact W.zret (v := iI 1) hx hb hr (by decide +kernel) (fun t9 ht _ => ⟨1, rfl, (by unfold poleOK; omega : ((poleOK x y) ∧ (1 : Int) = 1) ∨ (¬ (poleOK x y) ∧ (1 : Int) = 0)), ht⟩) (fun _ h => nomatch h) dX4_isPole_31 hlocks
      · skip
        refine k_if_eq (tgt := 30) hx hb dX4_isPole_23 (by decide) (by omega) (fun c_7 => ?_) (fun c_7 => ?_)
        · skip
          refine k_iconst hx hb dX4_isPole_30 ?_
          exact W.zret (v := iI 0) hx hb hr (by decide +kernel) (fun t9 ht _ => ⟨0, rfl, (by unfold poleOK; omega : ((poleOK x y) ∧ (0 : Int) = 1) ∨ (¬ (poleOK x y) ∧ (0 : Int) = 0)), ht⟩) (fun _ h => nomatch h) dX4_isPole_31 hlocks
        · exfalso; omega
  · skip
    refine k_if_eq (tgt := 30) hx hb dX4_isPole_10 (by decide) (by omega) (fun c_8 => ?_) (fun c_8 => ?_)
    · skip
      refine k_iconst hx hb dX4_isPole_30 ?_
      exact W.zret (v := iI 0) hx hb hr (by decide +kernel) (fun t9 ht _ => ⟨0, rfl, (by unfold poleOK; omega : ((poleOK x y) ∧ (0 : Int) = 1) ∨ (¬ (poleOK x y) ∧ (0 : Int) = 0)), ht⟩) (fun _ h => nomatch h) dX4_isPole_31 hlocks
    · exfalso; omega
set_option maxHeartbeats 4000000 in
set_option maxRecDepth 100000 in
theorem c_X4_faultOfPole (l : Launch) (D : va_G) (cy : Nat → ClassId) (x y : Int) (hrx : -2147483648 ≤ x ∧ x ≤ 2147483647) (hry : -2147483648 ≤ y ∧ y ≤ 2147483647) : Met l yX4_faultOfPole wsX4_faultOfPole { frames := 2, cells := 0, slots := 0, locals := 43 } (kPre (GG D cy) D [] ([.int (iI x), .int (iI y)] : List Value)) (kRO (fun r => ((poleOK x y) ∧ r = 0) ∨ ((¬ poleOK x y) ∧ r = 2))) 0 0 (fun _ => False) := by
  refine kRO_start (cc := cX4_faultOfPole) (maxL := 2) (ret := (some .int)) (by decide) rfl (Nat.le_of_ble_eq_true rfl) ?_
  intro p e s m below meth c hx hb hr hlocks hml hts hown hG hP ls hl
  have hK := hG.1
  have hl : lv_has ls 2 [(0, .int (iI x)), (1, .int (iI y))] := hl
  refine lv_iload_n hx hb dX4_faultOfPole_0 rfl (lv_at hl 0 rfl) ?_
  refine lv_iload_n hx hb dX4_faultOfPole_1 rfl (lv_at hl 1 rfl) ?_
  refine k_roS (As := [.int (iI x), .int (iI y)]) (rest := []) ⟨hx, hb, hml, hown, hts⟩ (c_X4_isPole l D cy x y (show -2147483648 ≤ x ∧ x ≤ 2147483647 by omega) (show -2147483648 ≤ y ∧ y ≤ 2147483647 by omega)) gX4_faultOfPole_X4_isPole rfl ⟨rfl, rfl⟩ 2 rfl (by decide +kernel) ⟨Nat.le_of_ble_eq_true rfl, Nat.le_of_ble_eq_true rfl⟩ (GG_ok D cy) hG (fun k q h => by simp at h) hl.1 rfl (Nat.le_of_ble_eq_true rfl) ⟨Nat.le_of_ble_eq_true rfl, Nat.le_of_ble_eq_true rfl⟩ dX4_faultOfPole_2 (fun r_1 hr_1 => ?_)
  have hr_1 : ((poleOK x y) ∧ r_1 = 1) ∨ (¬ (poleOK x y) ∧ r_1 = 0) := hr_1
  rcases hr_1 with ⟨c_2, hr_1⟩ | ⟨c_2, hr_1⟩ <;> subst hr_1
  · skip
    refine k_if_eq (tgt := 12) hx hb dX4_faultOfPole_5 (by decide) (by omega) (fun c_3 => ?_) (fun c_3 => ?_)
    · exfalso; omega
    · skip
      refine k_iconst hx hb dX4_faultOfPole_8 ?_
      refine lv_goto (tgt := 13) hx hb dX4_faultOfPole_9 (by decide) ?_
      exact W.iret (v := iI 0) hx hb hr (fun t9 ht _ => ⟨0, rfl, (by first | exact Or.inl ⟨by assumption, rfl⟩ | exact Or.inr ⟨by assumption, rfl⟩ : ((poleOK x y) ∧ (0 : Int) = 0) ∨ ((¬ poleOK x y) ∧ (0 : Int) = 2)), ht⟩) (fun _ h => nomatch h) dX4_faultOfPole_13 hlocks
  · skip
    refine k_if_eq (tgt := 12) hx hb dX4_faultOfPole_5 (by decide) (by omega) (fun c_4 => ?_) (fun c_4 => ?_)
    · skip
      refine k_iconst hx hb dX4_faultOfPole_12 ?_
      exact W.iret (v := iI 2) hx hb hr (fun t9 ht _ => ⟨2, rfl, (by first | exact Or.inl ⟨by assumption, rfl⟩ | exact Or.inr ⟨by assumption, rfl⟩ : ((poleOK x y) ∧ (2 : Int) = 0) ∨ ((¬ poleOK x y) ∧ (2 : Int) = 2)), ht⟩) (fun _ h => nomatch h) dX4_faultOfPole_13 hlocks
    · exfalso; omega
set_option maxHeartbeats 4000000 in
set_option maxRecDepth 100000 in
theorem c_X4_faultOfStep (l : Launch) (D : va_G) (cy : Nat → ClassId) (v : Int) (hrv : -2147483648 ≤ v ∧ v ≤ 2147483647) : Met l yX4_faultOfStep wsX4_faultOfStep { frames := 1, cells := 0, slots := 0, locals := 22 } (kPre (GG D cy) D [] ([.int (iI v)] : List Value)) (kRO (fun r => ((1 ≤ v ∧ v ≤ 512) ∧ r = 0) ∨ ((¬ (1 ≤ v ∧ v ≤ 512)) ∧ r = 2))) 0 0 (fun _ => False) := by
  refine kRO_start (cc := cX4_faultOfStep) (maxL := 1) (ret := (some .int)) (by decide) rfl (Nat.le_of_ble_eq_true rfl) ?_
  intro p e s m below meth c hx hb hr hlocks hml hts hown hG hP ls hl
  have hK := hG.1
  have hl : lv_has ls 1 [(0, .int (iI v))] := hl
  have hm0 := hts (.initialized RX6) (by decide +kernel)
  have hm1 := hts (.static yX6_inRange) (by decide +kernel)
  refine lv_iload_n hx hb dX4_faultOfStep_0 rfl (lv_at hl 0 rfl) ?_
  refine k_iconst hx hb dX4_faultOfStep_1 ?_
  refine k_sipush hx hb dX4_faultOfStep_2 (by decide +kernel) ?_
  refine k_roSN (As := [.int (iI v), .int (iI 1), .int (iI 512)]) (rest := []) ⟨hx, hb, hml, hown, hts⟩ (c_X6_inRange l D v 1 512 (show -2147483648 ≤ v ∧ v ≤ 2147483647 by omega) (show -2147483648 ≤ 1 ∧ 1 ≤ 2147483647 by omega) (show -2147483648 ≤ 512 ∧ 512 ≤ 2147483647 by omega)) gX4_faultOfStep_X6_inRange_n77 hG.2.1 hm0 hm1 rfl ⟨rfl, rfl⟩ 3 rfl (by decide +kernel) ⟨Nat.le_of_ble_eq_true rfl, Nat.le_of_ble_eq_true rfl⟩ kGT_ok trivial (fun k q h => by simp at h) hl.1 rfl (Nat.le_of_ble_eq_true rfl) ⟨Nat.le_of_ble_eq_true rfl, Nat.le_of_ble_eq_true rfl⟩ dX4_faultOfStep_5 (fun r_1 hr_1 => ?_)
  have hr_1 : ((1 ≤ v ∧ v ≤ 512) ∧ r_1 = 1) ∨ (¬ (1 ≤ v ∧ v ≤ 512) ∧ r_1 = 0) := hr_1
  rcases hr_1 with ⟨c_2, hr_1⟩ | ⟨c_2, hr_1⟩ <;> subst hr_1
  · skip
    refine k_if_eq (tgt := 15) hx hb dX4_faultOfStep_8 (by decide) (by omega) (fun c_3 => ?_) (fun c_3 => ?_)
    · exfalso; omega
    · skip
      refine k_iconst hx hb dX4_faultOfStep_11 ?_
      refine lv_goto (tgt := 16) hx hb dX4_faultOfStep_12 (by decide) ?_
      exact W.iret (v := iI 0) hx hb hr (fun t9 ht _ => ⟨0, rfl, (by omega : ((1 ≤ v ∧ v ≤ 512) ∧ (0 : Int) = 0) ∨ ((¬ (1 ≤ v ∧ v ≤ 512)) ∧ (0 : Int) = 2)), ht⟩) (fun _ h => nomatch h) dX4_faultOfStep_16 hlocks
  · skip
    refine k_if_eq (tgt := 15) hx hb dX4_faultOfStep_8 (by decide) (by omega) (fun c_4 => ?_) (fun c_4 => ?_)
    · skip
      refine k_iconst hx hb dX4_faultOfStep_15 ?_
      exact W.iret (v := iI 2) hx hb hr (fun t9 ht _ => ⟨2, rfl, (by omega : ((1 ≤ v ∧ v ≤ 512) ∧ (2 : Int) = 0) ∨ ((¬ (1 ≤ v ∧ v ≤ 512)) ∧ (2 : Int) = 2)), ht⟩) (fun _ h => nomatch h) dX4_faultOfStep_16 hlocks
    · exfalso; omega
set_option maxHeartbeats 4000000 in
set_option maxRecDepth 100000 in
theorem c_X4_faultOfNewStar (l : Launch) (D : va_G) (cy : Nat → ClassId) (a : Nat → Nat) (P : Nat → Int → Int) (x y z : Int) (hI : Inv (mO P)) (hrx : -2147483648 ≤ x ∧ x ≤ 2147483647) (hry : -2147483648 ≤ y ∧ y ≤ 2147483647) (hrz : -2147483648 ≤ z ∧ z ≤ 2147483647) : Met l yX4_faultOfNewStar wsX4_faultOfNewStar { frames := 1, cells := 0, slots := 0, locals := 22 } (kPre (GG D cy) D (plW cy a P) ([.ref (a 0), .int (iI x), .int (iI y), .int (iI z)] : List Value)) (kRO (fun r => ((starOK x y z ∧ P 0 1 < 12) ∧ r = 0) ∨ ((¬ starOK x y z) ∧ r = 2) ∨ ((starOK x y z ∧ P 0 1 = 12) ∧ r = 3))) 0 0 (fun _ => False) := by
  refine kRO_start (cc := cX4_faultOfNewStar) (maxL := 4) (ret := (some .int)) (by decide) rfl (Nat.le_of_ble_eq_true rfl) ?_
  intro p e s m below meth c hx hb hr hlocks hml hts hown hG hP ls hl
  have hK := hG.1
  have hl : lv_has ls 4 [(0, .ref (a 0)), (1, .int (iI x)), (2, .int (iI y)), (3, .int (iI z))] := hl
  have hinX4 : ∀ w ∈ u_ws RX4 TX4 12, w ∈ wsX4_faultOfNewStar := by decide +kernel
  have hm0 := hts (.constant RX4 97 (100000)) (by decide +kernel)
  have hm1 := hts (.initialized RX6) (by decide +kernel)
  have hm2 := hts (.static yX6_inRange) (by decide +kernel)
  have hm3 := hts (.constant RX4 98 (359999)) (by decide +kernel)
  have hm4 := hts (.fieldLink RX4 15 "ArcPlate$Plate" "stars" "I") (by decide +kernel)
  have hS0 := po_S hI
  refine lv_iload_n hx hb dX4_faultOfNewStar_0 rfl (lv_at hl 1 rfl) ?_
  refine k_iconst hx hb dX4_faultOfNewStar_1 ?_
  refine k_ldc (z := 100000) hx hb hown hm0 (by decide +kernel) dX4_faultOfNewStar_2 ?_
  refine k_roSN (As := [.int (iI x), .int (iI 1), .int (iI 100000)]) (rest := []) ⟨hx, hb, hml, hown, hts⟩ (c_X6_inRange l D x 1 100000 (show -2147483648 ≤ x ∧ x ≤ 2147483647 by omega) (show -2147483648 ≤ 1 ∧ 1 ≤ 2147483647 by omega) (show -2147483648 ≤ 100000 ∧ 100000 ≤ 2147483647 by omega)) gX4_faultOfNewStar_X6_inRange_n77 hG.2.1 hm1 hm2 rfl ⟨rfl, rfl⟩ 3 rfl (by decide +kernel) ⟨Nat.le_of_ble_eq_true rfl, Nat.le_of_ble_eq_true rfl⟩ kGT_ok trivial (fun k q h => by simp at h) hl.1 rfl (Nat.le_of_ble_eq_true rfl) ⟨Nat.le_of_ble_eq_true rfl, Nat.le_of_ble_eq_true rfl⟩ dX4_faultOfNewStar_4 (fun r_1 hr_1 => ?_)
  have hr_1 : ((1 ≤ x ∧ x ≤ 100000) ∧ r_1 = 1) ∨ (¬ (1 ≤ x ∧ x ≤ 100000) ∧ r_1 = 0) := hr_1
  rcases hr_1 with ⟨c_2, hr_1⟩ | ⟨c_2, hr_1⟩ <;> subst hr_1
  · skip
    refine k_if_eq (tgt := 30) hx hb dX4_faultOfNewStar_7 (by decide) (by omega) (fun c_3 => ?_) (fun c_3 => ?_)
    · exfalso; omega
    · skip
      refine lv_iload_n hx hb dX4_faultOfNewStar_10 rfl (lv_at hl 2 rfl) ?_
      refine k_iconst hx hb dX4_faultOfNewStar_11 ?_
      refine k_ldc (z := 359999) hx hb hown hm3 (by decide +kernel) dX4_faultOfNewStar_12 ?_
      refine k_roSN (As := [.int (iI y), .int (iI 0), .int (iI 359999)]) (rest := []) ⟨hx, hb, hml, hown, hts⟩ (c_X6_inRange l D y 0 359999 (show -2147483648 ≤ y ∧ y ≤ 2147483647 by omega) (show -2147483648 ≤ 0 ∧ 0 ≤ 2147483647 by omega) (show -2147483648 ≤ 359999 ∧ 359999 ≤ 2147483647 by omega)) gX4_faultOfNewStar_X6_inRange_n77 hG.2.1 hm1 hm2 rfl ⟨rfl, rfl⟩ 3 rfl (by decide +kernel) ⟨Nat.le_of_ble_eq_true rfl, Nat.le_of_ble_eq_true rfl⟩ kGT_ok trivial (fun k q h => by simp at h) hl.1 rfl (Nat.le_of_ble_eq_true rfl) ⟨Nat.le_of_ble_eq_true rfl, Nat.le_of_ble_eq_true rfl⟩ dX4_faultOfNewStar_14 (fun r_4 hr_4 => ?_)
      have hr_4 : ((0 ≤ y ∧ y ≤ 359999) ∧ r_4 = 1) ∨ (¬ (0 ≤ y ∧ y ≤ 359999) ∧ r_4 = 0) := hr_4
      rcases hr_4 with ⟨c_5, hr_4⟩ | ⟨c_5, hr_4⟩ <;> subst hr_4
      · skip
        refine k_if_eq (tgt := 30) hx hb dX4_faultOfNewStar_17 (by decide) (by omega) (fun c_6 => ?_) (fun c_6 => ?_)
        · exfalso; omega
        · skip
          refine lv_iload_n hx hb dX4_faultOfNewStar_20 rfl (lv_at hl 3 rfl) ?_
          refine k_iconst hx hb dX4_faultOfNewStar_21 ?_
          refine k_bipush hx hb dX4_faultOfNewStar_22 (by decide +kernel) ?_
          refine k_roSN (As := [.int (iI z), .int (iI 0), .int (iI 9)]) (rest := []) ⟨hx, hb, hml, hown, hts⟩ (c_X6_inRange l D z 0 9 (show -2147483648 ≤ z ∧ z ≤ 2147483647 by omega) (show -2147483648 ≤ 0 ∧ 0 ≤ 2147483647 by omega) (show -2147483648 ≤ 9 ∧ 9 ≤ 2147483647 by omega)) gX4_faultOfNewStar_X6_inRange_n77 hG.2.1 hm1 hm2 rfl ⟨rfl, rfl⟩ 3 rfl (by decide +kernel) ⟨Nat.le_of_ble_eq_true rfl, Nat.le_of_ble_eq_true rfl⟩ kGT_ok trivial (fun k q h => by simp at h) hl.1 rfl (Nat.le_of_ble_eq_true rfl) ⟨Nat.le_of_ble_eq_true rfl, Nat.le_of_ble_eq_true rfl⟩ dX4_faultOfNewStar_24 (fun r_7 hr_7 => ?_)
          have hr_7 : ((0 ≤ z ∧ z ≤ 9) ∧ r_7 = 1) ∨ (¬ (0 ≤ z ∧ z ≤ 9) ∧ r_7 = 0) := hr_7
          rcases hr_7 with ⟨c_8, hr_7⟩ | ⟨c_8, hr_7⟩ <;> subst hr_7
          · skip
            refine k_if_ne (tgt := 32) hx hb dX4_faultOfNewStar_27 (by decide) (by omega) (fun c_9 => ?_) (fun c_9 => ?_)
            · skip
              refine lv_aload_n hx hb dX4_faultOfNewStar_32 rfl (lv_at hl 0 rfl) ?_
              refine va_get (D := D) (ci := 3) (v := .int (iI (P 0 1))) (C := RX4) (T := TX4) (N := 12) hx hb hts hinX4 hown hK hP 0 rfl rfl 1 (by decide) hm4 (fun _ h9 => h9) rfl dX4_faultOfNewStar_33 ?_
              refine k_bipush hx hb dX4_faultOfNewStar_36 (by decide +kernel) ?_
              refine k_icmp_ge (tgt := 45) hx hb dX4_faultOfNewStar_38 (by decide) (by omega) (by omega) (fun c_10 => ?_) (fun c_10 => ?_)
              · skip
                refine k_iconst hx hb dX4_faultOfNewStar_45 ?_
                exact W.iret (v := iI 3) hx hb hr (fun t9 ht _ => ⟨3, rfl, (by unfold starOK; omega : ((starOK x y z ∧ P 0 1 < 12) ∧ (3 : Int) = 0) ∨ ((¬ starOK x y z) ∧ (3 : Int) = 2) ∨ ((starOK x y z ∧ P 0 1 = 12) ∧ (3 : Int) = 3)), ht⟩) (fun _ h => nomatch h) dX4_faultOfNewStar_46 hlocks
              · skip
                refine k_iconst hx hb dX4_faultOfNewStar_41 ?_
                refine lv_goto (tgt := 46) hx hb dX4_faultOfNewStar_42 (by decide) ?_
                exact W.iret (v := iI 0) hx hb hr (fun t9 ht _ => ⟨0, rfl, (by unfold starOK; omega : ((starOK x y z ∧ P 0 1 < 12) ∧ (0 : Int) = 0) ∨ ((¬ starOK x y z) ∧ (0 : Int) = 2) ∨ ((starOK x y z ∧ P 0 1 = 12) ∧ (0 : Int) = 3)), ht⟩) (fun _ h => nomatch h) dX4_faultOfNewStar_46 hlocks
            · exfalso; omega
          · skip
            refine k_if_ne (tgt := 32) hx hb dX4_faultOfNewStar_27 (by decide) (by omega) (fun c_11 => ?_) (fun c_11 => ?_)
            · exfalso; omega
            · skip
              refine k_iconst hx hb dX4_faultOfNewStar_30 ?_
              exact W.iret (v := iI 2) hx hb hr (fun t9 ht _ => ⟨2, rfl, (by unfold starOK; omega : ((starOK x y z ∧ P 0 1 < 12) ∧ (2 : Int) = 0) ∨ ((¬ starOK x y z) ∧ (2 : Int) = 2) ∨ ((starOK x y z ∧ P 0 1 = 12) ∧ (2 : Int) = 3)), ht⟩) (fun _ h => nomatch h) dX4_faultOfNewStar_31 hlocks
      · skip
        refine k_if_eq (tgt := 30) hx hb dX4_faultOfNewStar_17 (by decide) (by omega) (fun c_12 => ?_) (fun c_12 => ?_)
        · skip
          refine k_iconst hx hb dX4_faultOfNewStar_30 ?_
          exact W.iret (v := iI 2) hx hb hr (fun t9 ht _ => ⟨2, rfl, (by unfold starOK; omega : ((starOK x y z ∧ P 0 1 < 12) ∧ (2 : Int) = 0) ∨ ((¬ starOK x y z) ∧ (2 : Int) = 2) ∨ ((starOK x y z ∧ P 0 1 = 12) ∧ (2 : Int) = 3)), ht⟩) (fun _ h => nomatch h) dX4_faultOfNewStar_31 hlocks
        · exfalso; omega
  · skip
    refine k_if_eq (tgt := 30) hx hb dX4_faultOfNewStar_7 (by decide) (by omega) (fun c_13 => ?_) (fun c_13 => ?_)
    · skip
      refine k_iconst hx hb dX4_faultOfNewStar_30 ?_
      exact W.iret (v := iI 2) hx hb hr (fun t9 ht _ => ⟨2, rfl, (by unfold starOK; omega : ((starOK x y z ∧ P 0 1 < 12) ∧ (2 : Int) = 0) ∨ ((¬ starOK x y z) ∧ (2 : Int) = 2) ∨ ((starOK x y z ∧ P 0 1 = 12) ∧ (2 : Int) = 3)), ht⟩) (fun _ h => nomatch h) dX4_faultOfNewStar_31 hlocks
    · exfalso; omega
set_option maxHeartbeats 4000000 in
set_option maxRecDepth 100000 in
theorem c_X4_putTrail (l : Launch) (D : va_G) (cy : Nat → ClassId) (sz : Nat) (a : Nat → Nat) (P : Nat → Int → Int)  (hpt0 : 0 ≤ P 0 0 ∧ P 0 0 < 12) : Met l yX4_putTrail wsX4_putTrail { frames := 0, cells := 0, slots := 0, locals := 0 } (mPre (GG D cy) D (plW cy a P) sz ([.ref (a 0)] : List Value)) (kQi D (plW cy a P) sz (fun u9 : Nat → Int → Int => plW cy a u9) (fun r9 u9 => r9 = P 0 0 ∧ u9 = (upr (upr P 0 (ups (P 0) 0 (P 0 0 + 1))) 1 (ups (P 1) (P 0 0) 0)))) 0 0 (va_A (plW cy a P) sz) := by
  refine kM_start (cc := cX4_putTrail) (maxL := 1) (ret := (some .int)) (by decide) rfl (Nat.le_of_ble_eq_true rfl) ?_
  intro p e s m below meth c hx hb hr hlocks hml hts hown hsz hA hG hP hD hS hin ls hl
  have hK := hG.1
  have hl : lv_has ls 1 [(0, .ref (a 0))] := hl
  have hinX4 : ∀ w ∈ u_ws RX4 TX4 12, w ∈ wsX4_putTrail := by decide +kernel
  have hm0 := hts (.fieldLink RX4 24 "ArcPlate$Plate" "points" "[I") (by decide +kernel)
  have hm1 := hts (.fieldLink RX4 9 "ArcPlate$Plate" "trails" "I") (by decide +kernel)
  have hbody : ∀ (H : Heap) (locs : List Loc) (hP : va_P D vwCl (plW cy a P) H) (hS : va_S (va_A (plW cy a P) sz) s.heap H locs) (ls : Array Slot) (hl : lv_has ls 1 [(0, .ref (a 0))]), W p l e { frames := 0, cells := 0, slots := 0, locals := 0 } s m ([.ref (a 0)] : List Value).toArray below meth c H locs 0 0 (MQ below (kQi D (plW cy a P) sz (fun u9 : Nat → Int → Int => plW cy a u9) (fun r9 u9 => r9 = P 0 0 ∧ u9 = (upr (upr P 0 (ups (P 0) 0 (P 0 0 + 1))) 1 (ups (P 1) (P 0 0) 0)))) ([.ref (a 0)] : List Value).toArray s 0 0 (va_A (plW cy a P) sz)) (F0 m 0 ls []) := by
    intro H locs hP hS ls hl
    refine lv_aload_n hx hb dX4_putTrail_0 rfl (lv_at hl 0 rfl) ?_
    refine va_get (D := D) (ci := 3) (v := .ref (a 1)) (C := RX4) (T := TX4) (N := 12) hx hb hts hinX4 hown hK hP 0 rfl rfl 4 (by decide) hm0 (fun _ h9 => h9) rfl dX4_putTrail_1 ?_
    refine lv_aload_n hx hb dX4_putTrail_4 rfl (lv_at hl 0 rfl) ?_
    refine va_get (D := D) (ci := 3) (v := .int (iI (P 0 0))) (C := RX4) (T := TX4) (N := 12) hx hb hts hinX4 hown hK hP 0 rfl rfl 0 (by decide) hm1 (fun _ h9 => h9) rfl dX4_putTrail_5 ?_
    refine k_iconst hx hb dX4_putTrail_8 ?_
    refine k_iast hx hb hK hP hD hS 1 0 (f := P 1) rfl rfl (i := P 0 0) (x := 0) (by omega) dX4_putTrail_9 (fun H locs hP hD hS => ?_)
    have hP : va_P D vwCl (plW cy a (upr P 1 (ups (P 1) (P 0 0) 0))) H := hP
    have hD : va_D (va_A (plW cy a P) sz) (plW cy a (upr P 1 (ups (P 1) (P 0 0) 0))) := hD
    refine lv_aload_n hx hb dX4_putTrail_10 rfl (lv_at hl 0 rfl) ?_
    refine lv_dup hx hb dX4_putTrail_11 rfl ?_
    refine va_get (D := D) (ci := 3) (v := .int (iI (P 0 0))) (C := RX4) (T := TX4) (N := 12) hx hb hts hinX4 hown hK hP 0 rfl rfl 0 (by decide) hm1 (fun _ h9 => h9) rfl dX4_putTrail_12 ?_
    refine k_iconst hx hb dX4_putTrail_15 ?_
    refine k_iadd hx hb dX4_putTrail_16 ?_
    refine va_put (D := D) (ci := 3) (v := .int (iI ((P 0 0) + 1))) (ty := .int) (C := RX4) (T := TX4) (N := 12) hx hb hts hinX4 tyX4 tyX4_ok nmX4 hown hK hP hD hS 0 rfl rfl 0 (by decide) hm1 (fun _ h9 => h9) rfl (by decide +kernel) rfl rfl (Nat.le_of_ble_eq_true rfl) dX4_putTrail_17 (fun H locs hP hD hS => ?_)
    have hP : va_P D vwCl (plW cy a (upr (upr P 0 (ups (P 0) 0 ((P 0 0) + 1))) 1 (ups (P 1) (P 0 0) 0))) H := hP
    have hD : va_D (va_A (plW cy a P) sz) (plW cy a (upr (upr P 0 (ups (P 0) 0 ((P 0 0) + 1))) 1 (ups (P 1) (P 0 0) 0))) := hD
    refine lv_aload_n hx hb dX4_putTrail_20 rfl (lv_at hl 0 rfl) ?_
    refine va_get (D := D) (ci := 3) (v := .int (iI ((P 0 0) + 1))) (C := RX4) (T := TX4) (N := 12) hx hb hts hinX4 hown hK hP 0 rfl rfl 0 (by decide) hm1 (fun _ h9 => h9) rfl dX4_putTrail_21 ?_
    refine k_iconst hx hb dX4_putTrail_24 ?_
    refine k_isub hx hb dX4_putTrail_25 ?_
    exact W.iret (v := iI (((P 0 0) + 1) - 1)) hx hb hr (fun t9 ht _ => ⟨⟨iI (((P 0 0) + 1) - 1), (upr (upr P 0 (ups (P 0) 0 ((P 0 0) + 1))) 1 (ups (P 1) (P 0 0) 0)), rfl, ⟨(((P 0 0) + 1) - 1), rfl, (⟨by first | rfl | omega, rfl⟩ : (((P 0 0) + 1) - 1 : Int) = P 0 0 ∧ (upr (upr P 0 (ups (P 0) 0 ((P 0 0) + 1))) 1 (ups (P 1) (P 0 0) 0)) = (upr (upr P 0 (ups (P 0) 0 (P 0 0 + 1))) 1 (ups (P 1) (P 0 0) 0)))⟩, by rw [ht]; exact hP, hD⟩, hS.F ht⟩) hS.2.2 dX4_putTrail_26 hlocks
  exact hbody s.heap [] hP hS ls hl
set_option maxHeartbeats 4000000 in
set_option maxRecDepth 100000 in
theorem c_X4_putSetting (l : Launch) (D : va_G) (cy : Nat → ClassId) (sz : Nat) (a : Nat → Nat) (P : Nat → Int → Int) (w v : Int) (hw : 0 ≤ w ∧ w ≤ 9) : Met l yX4_putSetting wsX4_putSetting { frames := 0, cells := 0, slots := 0, locals := 0 } (mPre (GG D cy) D (plW cy a P) sz ([.ref (a 0), .int (iI w), .int (iI v)] : List Value)) (kQi D (plW cy a P) sz (fun u9 : Nat → Int → Int => plW cy a u9) (fun r9 u9 => r9 = P 8 w ∧ u9 = (upr P 8 (ups (P 8) w v)))) 0 0 (va_A (plW cy a P) sz) := by
  refine kM_start (cc := cX4_putSetting) (maxL := 4) (ret := (some .int)) (by decide) rfl (Nat.le_of_ble_eq_true rfl) ?_
  intro p e s m below meth c hx hb hr hlocks hml hts hown hsz hA hG hP hD hS hin ls hl
  have hK := hG.1
  have hl : lv_has ls 4 [(0, .ref (a 0)), (1, .int (iI w)), (2, .int (iI v))] := hl
  have hinX4 : ∀ w ∈ u_ws RX4 TX4 12, w ∈ wsX4_putSetting := by decide +kernel
  have hm0 := hts (.fieldLink RX4 54 "ArcPlate$Plate" "settings" "[I") (by decide +kernel)
  have hbody : ∀ (H : Heap) (locs : List Loc) (hP : va_P D vwCl (plW cy a P) H) (hS : va_S (va_A (plW cy a P) sz) s.heap H locs) (ls : Array Slot) (hl : lv_has ls 4 [(0, .ref (a 0)), (1, .int (iI w)), (2, .int (iI v))]), W p l e { frames := 0, cells := 0, slots := 0, locals := 0 } s m ([.ref (a 0), .int (iI w), .int (iI v)] : List Value).toArray below meth c H locs 0 0 (MQ below (kQi D (plW cy a P) sz (fun u9 : Nat → Int → Int => plW cy a u9) (fun r9 u9 => r9 = P 8 w ∧ u9 = (upr P 8 (ups (P 8) w v)))) ([.ref (a 0), .int (iI w), .int (iI v)] : List Value).toArray s 0 0 (va_A (plW cy a P) sz)) (F0 m 0 ls []) := by
    intro H locs hP hS ls hl
    refine lv_aload_n hx hb dX4_putSetting_0 rfl (lv_at hl 0 rfl) ?_
    refine va_get (D := D) (ci := 3) (v := .ref (a 8)) (C := RX4) (T := TX4) (N := 12) hx hb hts hinX4 hown hK hP 0 rfl rfl 11 (by decide) hm0 (fun _ h9 => h9) rfl dX4_putSetting_1 ?_
    refine lv_iload_n hx hb dX4_putSetting_4 rfl (lv_at hl 1 rfl) ?_
    refine k_iald hx hb hK hP 8 0 (f := P 8) rfl rfl (i := w) (by omega) dX4_putSetting_5 ?_
    refine lv_istore_n (lv' := [(3, .int (iI (P 8 w))), (0, .ref (a 0)), (1, .int (iI w)), (2, .int (iI v))]) hx hb dX4_putSetting_6 rfl hl (by decide) rfl (fun ls hl => ?_)
    refine lv_aload_n hx hb dX4_putSetting_7 rfl (lv_at hl 1 rfl) ?_
    refine va_get (D := D) (ci := 3) (v := .ref (a 8)) (C := RX4) (T := TX4) (N := 12) hx hb hts hinX4 hown hK hP 0 rfl rfl 11 (by decide) hm0 (fun _ h9 => h9) rfl dX4_putSetting_8 ?_
    refine lv_iload_n hx hb dX4_putSetting_11 rfl (lv_at hl 2 rfl) ?_
    refine lv_iload_n hx hb dX4_putSetting_12 rfl (lv_at hl 3 rfl) ?_
    refine k_iast hx hb hK hP hD hS 8 0 (f := P 8) rfl rfl (i := w) (x := v) (by omega) dX4_putSetting_13 (fun H locs hP hD hS => ?_)
    have hP : va_P D vwCl (plW cy a (upr P 8 (ups (P 8) w v))) H := hP
    have hD : va_D (va_A (plW cy a P) sz) (plW cy a (upr P 8 (ups (P 8) w v))) := hD
    refine lv_iload_n hx hb dX4_putSetting_14 rfl (lv_at hl 0 rfl) ?_
    exact W.iret (v := iI (P 8 w)) hx hb hr (fun t9 ht _ => ⟨⟨iI (P 8 w), (upr P 8 (ups (P 8) w v)), rfl, ⟨(P 8 w), rfl, (⟨by first | rfl | omega, rfl⟩ : (P 8 w : Int) = P 8 w ∧ (upr P 8 (ups (P 8) w v)) = (upr P 8 (ups (P 8) w v)))⟩, by rw [ht]; exact hP, hD⟩, hS.F ht⟩) hS.2.2 dX4_putSetting_15 hlocks
  exact hbody s.heap [] hP hS ls hl
set_option maxHeartbeats 4000000 in
set_option maxRecDepth 100000 in
theorem c_X4_putPole (l : Launch) (D : va_G) (cy : Nat → ClassId) (sz : Nat) (a : Nat → Nat) (P : Nat → Int → Int) (x y : Int)  : Met l yX4_putPole wsX4_putPole { frames := 0, cells := 0, slots := 0, locals := 0 } (mPre (GG D cy) D (plW cy a P) sz ([.ref (a 0), .int (iI x), .int (iI y)] : List Value)) (kQv D (plW cy a P) sz (fun u9 : Nat → Int → Int => plW cy a u9) (fun u9 => u9 = (upr P 0 (ups (ups (P 0) 2 x) 3 y)))) 0 0 (va_A (plW cy a P) sz) := by
  refine kM_start (cc := cX4_putPole) (maxL := 3) (ret := none) (by decide) rfl (Nat.le_of_ble_eq_true rfl) ?_
  intro p e s m below meth c hx hb hr hlocks hml hts hown hsz hA hG hP hD hS hin ls hl
  have hK := hG.1
  have hl : lv_has ls 3 [(0, .ref (a 0)), (1, .int (iI x)), (2, .int (iI y))] := hl
  have hinX4 : ∀ w ∈ u_ws RX4 TX4 12, w ∈ wsX4_putPole := by decide +kernel
  have hm0 := hts (.fieldLink RX4 18 "ArcPlate$Plate" "poleX" "I") (by decide +kernel)
  have hm1 := hts (.fieldLink RX4 21 "ArcPlate$Plate" "poleY" "I") (by decide +kernel)
  have hbody : ∀ (H : Heap) (locs : List Loc) (hP : va_P D vwCl (plW cy a P) H) (hS : va_S (va_A (plW cy a P) sz) s.heap H locs) (ls : Array Slot) (hl : lv_has ls 3 [(0, .ref (a 0)), (1, .int (iI x)), (2, .int (iI y))]), W p l e { frames := 0, cells := 0, slots := 0, locals := 0 } s m ([.ref (a 0), .int (iI x), .int (iI y)] : List Value).toArray below meth c H locs 0 0 (MQ below (kQv D (plW cy a P) sz (fun u9 : Nat → Int → Int => plW cy a u9) (fun u9 => u9 = (upr P 0 (ups (ups (P 0) 2 x) 3 y)))) ([.ref (a 0), .int (iI x), .int (iI y)] : List Value).toArray s 0 0 (va_A (plW cy a P) sz)) (F0 m 0 ls []) := by
    intro H locs hP hS ls hl
    refine lv_aload_n hx hb dX4_putPole_0 rfl (lv_at hl 0 rfl) ?_
    refine lv_iload_n hx hb dX4_putPole_1 rfl (lv_at hl 1 rfl) ?_
    refine va_put (D := D) (ci := 3) (v := .int (iI x)) (ty := .int) (C := RX4) (T := TX4) (N := 12) hx hb hts hinX4 tyX4 tyX4_ok nmX4 hown hK hP hD hS 0 rfl rfl 2 (by decide) hm0 (fun _ h9 => h9) rfl (by decide +kernel) rfl rfl (Nat.le_of_ble_eq_true rfl) dX4_putPole_2 (fun H locs hP hD hS => ?_)
    have hP : va_P D vwCl (plW cy a (upr P 0 (ups (P 0) 2 x))) H := hP
    have hD : va_D (va_A (plW cy a P) sz) (plW cy a (upr P 0 (ups (P 0) 2 x))) := hD
    refine lv_aload_n hx hb dX4_putPole_5 rfl (lv_at hl 0 rfl) ?_
    refine lv_iload_n hx hb dX4_putPole_6 rfl (lv_at hl 2 rfl) ?_
    refine va_put (D := D) (ci := 3) (v := .int (iI y)) (ty := .int) (C := RX4) (T := TX4) (N := 12) hx hb hts hinX4 tyX4 tyX4_ok nmX4 hown hK hP hD hS 0 rfl rfl 3 (by decide) hm1 (fun _ h9 => h9) rfl (by decide +kernel) rfl rfl (Nat.le_of_ble_eq_true rfl) dX4_putPole_7 (fun H locs hP hD hS => ?_)
    have hP : va_P D vwCl (plW cy a (upr P 0 (ups (ups (P 0) 2 x) 3 y))) H := hP
    have hD : va_D (va_A (plW cy a P) sz) (plW cy a (upr P 0 (ups (ups (P 0) 2 x) 3 y))) := hD
    exact W.vret hx hb hr (fun t9 ht _ => ⟨⟨(upr P 0 (ups (ups (P 0) 2 x) 3 y)), rfl, (rfl : (upr P 0 (ups (ups (P 0) 2 x) 3 y)) = (upr P 0 (ups (ups (P 0) 2 x) 3 y))), by rw [ht]; exact hP, hD⟩, hS.F ht⟩) hS.2.2 dX4_putPole_10 hlocks
  exact hbody s.heap [] hP hS ls hl
set_option maxHeartbeats 4000000 in
set_option maxRecDepth 100000 in
theorem c_X4_putStar (l : Launch) (D : va_G) (cy : Nat → ClassId) (sz : Nat) (a : Nat → Nat) (P : Nat → Int → Int) (x y z : Int) (hps0 : 0 ≤ P 0 1 ∧ P 0 1 < 12) : Met l yX4_putStar wsX4_putStar { frames := 0, cells := 0, slots := 0, locals := 0 } (mPre (GG D cy) D (plW cy a P) sz ([.ref (a 0), .int (iI x), .int (iI y), .int (iI z)] : List Value)) (kQi D (plW cy a P) sz (fun u9 : Nat → Int → Int => plW cy a u9) (fun r9 u9 => r9 = P 0 1 ∧ u9 = (upr (upr (upr (upr P 0 (ups (P 0) 1 (P 0 1 + 1))) 5 (ups (P 5) (P 0 1) x)) 6 (ups (P 6) (P 0 1) y)) 7 (ups (P 7) (P 0 1) z)))) 0 0 (va_A (plW cy a P) sz) := by
  refine kM_start (cc := cX4_putStar) (maxL := 4) (ret := (some .int)) (by decide) rfl (Nat.le_of_ble_eq_true rfl) ?_
  intro p e s m below meth c hx hb hr hlocks hml hts hown hsz hA hG hP hD hS hin ls hl
  have hK := hG.1
  have hl : lv_has ls 4 [(0, .ref (a 0)), (1, .int (iI x)), (2, .int (iI y)), (3, .int (iI z))] := hl
  have hinX4 : ∀ w ∈ u_ws RX4 TX4 12, w ∈ wsX4_putStar := by decide +kernel
  have hm0 := hts (.fieldLink RX4 37 "ArcPlate$Plate" "radii" "[I") (by decide +kernel)
  have hm1 := hts (.fieldLink RX4 15 "ArcPlate$Plate" "stars" "I") (by decide +kernel)
  have hm2 := hts (.fieldLink RX4 40 "ArcPlate$Plate" "angles" "[I") (by decide +kernel)
  have hm3 := hts (.fieldLink RX4 43 "ArcPlate$Plate" "lights" "[I") (by decide +kernel)
  have hbody : ∀ (H : Heap) (locs : List Loc) (hP : va_P D vwCl (plW cy a P) H) (hS : va_S (va_A (plW cy a P) sz) s.heap H locs) (ls : Array Slot) (hl : lv_has ls 4 [(0, .ref (a 0)), (1, .int (iI x)), (2, .int (iI y)), (3, .int (iI z))]), W p l e { frames := 0, cells := 0, slots := 0, locals := 0 } s m ([.ref (a 0), .int (iI x), .int (iI y), .int (iI z)] : List Value).toArray below meth c H locs 0 0 (MQ below (kQi D (plW cy a P) sz (fun u9 : Nat → Int → Int => plW cy a u9) (fun r9 u9 => r9 = P 0 1 ∧ u9 = (upr (upr (upr (upr P 0 (ups (P 0) 1 (P 0 1 + 1))) 5 (ups (P 5) (P 0 1) x)) 6 (ups (P 6) (P 0 1) y)) 7 (ups (P 7) (P 0 1) z)))) ([.ref (a 0), .int (iI x), .int (iI y), .int (iI z)] : List Value).toArray s 0 0 (va_A (plW cy a P) sz)) (F0 m 0 ls []) := by
    intro H locs hP hS ls hl
    refine lv_aload_n hx hb dX4_putStar_0 rfl (lv_at hl 0 rfl) ?_
    refine va_get (D := D) (ci := 3) (v := .ref (a 5)) (C := RX4) (T := TX4) (N := 12) hx hb hts hinX4 hown hK hP 0 rfl rfl 8 (by decide) hm0 (fun _ h9 => h9) rfl dX4_putStar_1 ?_
    refine lv_aload_n hx hb dX4_putStar_4 rfl (lv_at hl 0 rfl) ?_
    refine va_get (D := D) (ci := 3) (v := .int (iI (P 0 1))) (C := RX4) (T := TX4) (N := 12) hx hb hts hinX4 hown hK hP 0 rfl rfl 1 (by decide) hm1 (fun _ h9 => h9) rfl dX4_putStar_5 ?_
    refine lv_iload_n hx hb dX4_putStar_8 rfl (lv_at hl 1 rfl) ?_
    refine k_iast hx hb hK hP hD hS 5 0 (f := P 5) rfl rfl (i := P 0 1) (x := x) (by omega) dX4_putStar_9 (fun H locs hP hD hS => ?_)
    have hP : va_P D vwCl (plW cy a (upr P 5 (ups (P 5) (P 0 1) x))) H := hP
    have hD : va_D (va_A (plW cy a P) sz) (plW cy a (upr P 5 (ups (P 5) (P 0 1) x))) := hD
    refine lv_aload_n hx hb dX4_putStar_10 rfl (lv_at hl 0 rfl) ?_
    refine va_get (D := D) (ci := 3) (v := .ref (a 6)) (C := RX4) (T := TX4) (N := 12) hx hb hts hinX4 hown hK hP 0 rfl rfl 9 (by decide) hm2 (fun _ h9 => h9) rfl dX4_putStar_11 ?_
    refine lv_aload_n hx hb dX4_putStar_14 rfl (lv_at hl 0 rfl) ?_
    refine va_get (D := D) (ci := 3) (v := .int (iI (P 0 1))) (C := RX4) (T := TX4) (N := 12) hx hb hts hinX4 hown hK hP 0 rfl rfl 1 (by decide) hm1 (fun _ h9 => h9) rfl dX4_putStar_15 ?_
    refine lv_iload_n hx hb dX4_putStar_18 rfl (lv_at hl 2 rfl) ?_
    refine k_iast hx hb hK hP hD hS 6 0 (f := P 6) rfl rfl (i := P 0 1) (x := y) (by omega) dX4_putStar_19 (fun H locs hP hD hS => ?_)
    have hP : va_P D vwCl (plW cy a (upr (upr P 5 (ups (P 5) (P 0 1) x)) 6 (ups (P 6) (P 0 1) y))) H := hP
    have hD : va_D (va_A (plW cy a P) sz) (plW cy a (upr (upr P 5 (ups (P 5) (P 0 1) x)) 6 (ups (P 6) (P 0 1) y))) := hD
    refine lv_aload_n hx hb dX4_putStar_20 rfl (lv_at hl 0 rfl) ?_
    refine va_get (D := D) (ci := 3) (v := .ref (a 7)) (C := RX4) (T := TX4) (N := 12) hx hb hts hinX4 hown hK hP 0 rfl rfl 10 (by decide) hm3 (fun _ h9 => h9) rfl dX4_putStar_21 ?_
    refine lv_aload_n hx hb dX4_putStar_24 rfl (lv_at hl 0 rfl) ?_
    refine va_get (D := D) (ci := 3) (v := .int (iI (P 0 1))) (C := RX4) (T := TX4) (N := 12) hx hb hts hinX4 hown hK hP 0 rfl rfl 1 (by decide) hm1 (fun _ h9 => h9) rfl dX4_putStar_25 ?_
    refine lv_iload_n hx hb dX4_putStar_28 rfl (lv_at hl 3 rfl) ?_
    refine k_iast hx hb hK hP hD hS 7 0 (f := P 7) rfl rfl (i := P 0 1) (x := z) (by omega) dX4_putStar_29 (fun H locs hP hD hS => ?_)
    have hP : va_P D vwCl (plW cy a (upr (upr (upr P 5 (ups (P 5) (P 0 1) x)) 6 (ups (P 6) (P 0 1) y)) 7 (ups (P 7) (P 0 1) z))) H := hP
    have hD : va_D (va_A (plW cy a P) sz) (plW cy a (upr (upr (upr P 5 (ups (P 5) (P 0 1) x)) 6 (ups (P 6) (P 0 1) y)) 7 (ups (P 7) (P 0 1) z))) := hD
    refine lv_aload_n hx hb dX4_putStar_30 rfl (lv_at hl 0 rfl) ?_
    refine lv_dup hx hb dX4_putStar_31 rfl ?_
    refine va_get (D := D) (ci := 3) (v := .int (iI (P 0 1))) (C := RX4) (T := TX4) (N := 12) hx hb hts hinX4 hown hK hP 0 rfl rfl 1 (by decide) hm1 (fun _ h9 => h9) rfl dX4_putStar_32 ?_
    refine k_iconst hx hb dX4_putStar_35 ?_
    refine k_iadd hx hb dX4_putStar_36 ?_
    refine va_put (D := D) (ci := 3) (v := .int (iI ((P 0 1) + 1))) (ty := .int) (C := RX4) (T := TX4) (N := 12) hx hb hts hinX4 tyX4 tyX4_ok nmX4 hown hK hP hD hS 0 rfl rfl 1 (by decide) hm1 (fun _ h9 => h9) rfl (by decide +kernel) rfl rfl (Nat.le_of_ble_eq_true rfl) dX4_putStar_37 (fun H locs hP hD hS => ?_)
    have hP : va_P D vwCl (plW cy a (upr (upr (upr (upr P 0 (ups (P 0) 1 ((P 0 1) + 1))) 5 (ups (P 5) (P 0 1) x)) 6 (ups (P 6) (P 0 1) y)) 7 (ups (P 7) (P 0 1) z))) H := hP
    have hD : va_D (va_A (plW cy a P) sz) (plW cy a (upr (upr (upr (upr P 0 (ups (P 0) 1 ((P 0 1) + 1))) 5 (ups (P 5) (P 0 1) x)) 6 (ups (P 6) (P 0 1) y)) 7 (ups (P 7) (P 0 1) z))) := hD
    refine lv_aload_n hx hb dX4_putStar_40 rfl (lv_at hl 0 rfl) ?_
    refine va_get (D := D) (ci := 3) (v := .int (iI ((P 0 1) + 1))) (C := RX4) (T := TX4) (N := 12) hx hb hts hinX4 hown hK hP 0 rfl rfl 1 (by decide) hm1 (fun _ h9 => h9) rfl dX4_putStar_41 ?_
    refine k_iconst hx hb dX4_putStar_44 ?_
    refine k_isub hx hb dX4_putStar_45 ?_
    exact W.iret (v := iI (((P 0 1) + 1) - 1)) hx hb hr (fun t9 ht _ => ⟨⟨iI (((P 0 1) + 1) - 1), (upr (upr (upr (upr P 0 (ups (P 0) 1 ((P 0 1) + 1))) 5 (ups (P 5) (P 0 1) x)) 6 (ups (P 6) (P 0 1) y)) 7 (ups (P 7) (P 0 1) z)), rfl, ⟨(((P 0 1) + 1) - 1), rfl, (⟨by first | rfl | omega, rfl⟩ : (((P 0 1) + 1) - 1 : Int) = P 0 1 ∧ (upr (upr (upr (upr P 0 (ups (P 0) 1 ((P 0 1) + 1))) 5 (ups (P 5) (P 0 1) x)) 6 (ups (P 6) (P 0 1) y)) 7 (ups (P 7) (P 0 1) z)) = (upr (upr (upr (upr P 0 (ups (P 0) 1 (P 0 1 + 1))) 5 (ups (P 5) (P 0 1) x)) 6 (ups (P 6) (P 0 1) y)) 7 (ups (P 7) (P 0 1) z)))⟩, by rw [ht]; exact hP, hD⟩, hS.F ht⟩) hS.2.2 dX4_putStar_46 hlocks
  exact hbody s.heap [] hP hS ls hl
set_option maxHeartbeats 4000000 in
set_option maxRecDepth 100000 in
theorem c_X4_closeUp (l : Launch) (D : va_G) (cy : Nat → ClassId) (sz : Nat) (b : Nat → Nat) (F : Nat → Int → Int) (n9 : Nat) (f k z : Int) (hf : 0 ≤ f ∧ f ≤ 1000) (hk : 1 ≤ k ∧ k ≤ 12) (hz : 0 ≤ z ∧ z ≤ (n9 : Int)) (hn9 : (n9 : Int) ≤ 1000) : Met l yX4_closeUp wsX4_closeUp { frames := 0, cells := 0, slots := 0, locals := 0 } (mPre (GG D cy) D (arW n9 cy b F) sz ([.ref (b 0), .int (iI f), .int (iI k), .int (iI z)] : List Value)) (kQv D (arW n9 cy b F) sz (fun u9 : Nat → Int → Int => arW n9 cy b u9) (fun u9 => u9 = (upr F 0 (shf (F 0) f (z - k) k)))) 0 0 (va_A (arW n9 cy b F) sz) := by
  refine kM_start (cc := cX4_closeUp) (maxL := 5) (ret := none) (by decide) rfl (Nat.le_of_ble_eq_true rfl) ?_
  intro p e s m below meth c hx hb hr hlocks hml hts hown hsz hA hG hP hD hS hin ls hl
  have hK := hG.1
  have hl : lv_has ls 5 [(0, .ref (b 0)), (1, .int (iI f)), (2, .int (iI k)), (3, .int (iI z))] := hl
  have hbody : ∀ (H : Heap) (locs : List Loc) (hP : va_P D vwCl (arW n9 cy b F) H) (hS : va_S (va_A (arW n9 cy b F) sz) s.heap H locs) (ls : Array Slot) (hl : lv_has ls 5 [(0, .ref (b 0)), (1, .int (iI f)), (2, .int (iI k)), (3, .int (iI z))]), W p l e { frames := 0, cells := 0, slots := 0, locals := 0 } s m ([.ref (b 0), .int (iI f), .int (iI k), .int (iI z)] : List Value).toArray below meth c H locs 0 0 (MQ below (kQv D (arW n9 cy b F) sz (fun u9 : Nat → Int → Int => arW n9 cy b u9) (fun u9 => u9 = (upr F 0 (shf (F 0) f (z - k) k)))) ([.ref (b 0), .int (iI f), .int (iI k), .int (iI z)] : List Value).toArray s 0 0 (va_A (arW n9 cy b F) sz)) (F0 m 0 ls []) := by
    intro H locs hP hS ls hl
    refine lv_iload_n hx hb dX4_closeUp_0 rfl (lv_at hl 1 rfl) ?_
    refine lv_istore (lv' := [(4, .int (iI f)), (0, .ref (b 0)), (1, .int (iI f)), (2, .int (iI k)), (3, .int (iI z))]) hx hb dX4_closeUp_1 hl (by decide) rfl (fun ls hl => ?_)
    have loop3 : ∀ (n_1 : Nat) (q : Int) (hi0 : f ≤ q) (hi1 : q ≤ z - k ∨ q = f) (hn : 1001 - q < (n_1 : Int)) (H : Heap) (locs : List Loc) (hP : va_P D vwCl (arW n9 cy b (upr F 0 (shf (F 0) f q k))) H) (hD : va_D (va_A (arW n9 cy b F) sz) (arW n9 cy b (upr F 0 (shf (F 0) f q k)))) (hS : va_S (va_A (arW n9 cy b F) sz) s.heap H locs) (ls : Array Slot) (hl : lv_has ls 5 [(4, .int (iI q)), (0, .ref (b 0)), (1, .int (iI f)), (2, .int (iI k)), (3, .int (iI z))]), W p l e { frames := 0, cells := 0, slots := 0, locals := 0 } s m ([.ref (b 0), .int (iI f), .int (iI k), .int (iI z)] : List Value).toArray below meth c H locs 0 0 (MQ below (kQv D (arW n9 cy b F) sz (fun u9 : Nat → Int → Int => arW n9 cy b u9) (fun u9 => u9 = (upr F 0 (shf (F 0) f (z - k) k)))) ([.ref (b 0), .int (iI f), .int (iI k), .int (iI z)] : List Value).toArray s 0 0 (va_A (arW n9 cy b F) sz)) (F0 m 3 ls []) := by
      intro n_1
      induction n_1 with
      | zero => intro q hi0 hi1 hn H locs hP hD hS ls hl; exfalso; omega
      | succ n_1 ih3 =>
        intro q hi0 hi1 hn H locs hP hD hS ls hl
        refine lv_iload hx hb dX4_closeUp_3 (lv_at hl 0 rfl) ?_
        refine lv_iload_n hx hb dX4_closeUp_5 rfl (lv_at hl 3 rfl) ?_
        refine k_iadd hx hb dX4_closeUp_6 ?_
        refine lv_iload_n hx hb dX4_closeUp_7 rfl (lv_at hl 4 rfl) ?_
        refine k_icmp_ge (tgt := 36) hx hb dX4_closeUp_8 (by decide) (by omega) (by omega) (fun c_2 => ?_) (fun c_2 => ?_)
        · skip
          exact W.vret hx hb hr (fun t9 ht _ => ⟨⟨(upr F 0 (shf (F 0) f q k)), rfl, ((by rw [show (shf (F 0) f q k) = (shf (F 0) f (z - k) k) from shf_end _ (by omega) (by omega)]) : (upr F 0 (shf (F 0) f q k)) = (upr F 0 (shf (F 0) f (z - k) k))), by rw [ht]; exact hP, hD⟩, hS.F ht⟩) hS.2.2 dX4_closeUp_36 hlocks
        · skip
          refine lv_iload hx hb dX4_closeUp_11 (lv_at hl 0 rfl) ?_
          refine lv_iload_n hx hb dX4_closeUp_13 rfl (lv_at hl 3 rfl) ?_
          refine k_iadd hx hb dX4_closeUp_14 ?_
          refine lv_aload_n hx hb dX4_closeUp_15 rfl (lv_at hl 1 rfl) ?_
          refine k_alen hx hb hK hP 0 0 rfl rfl (n9 : Int) rfl dX4_closeUp_16 ?_
          refine k_icmp_ge (tgt := 36) hx hb dX4_closeUp_17 (by decide) (by omega) (by omega) (fun c_3 => ?_) (fun c_3 => ?_)
          · exfalso; omega
          · skip
            refine lv_aload_n hx hb dX4_closeUp_20 rfl (lv_at hl 1 rfl) ?_
            refine lv_iload hx hb dX4_closeUp_21 (lv_at hl 0 rfl) ?_
            refine lv_aload_n hx hb dX4_closeUp_23 rfl (lv_at hl 1 rfl) ?_
            refine lv_iload hx hb dX4_closeUp_24 (lv_at hl 0 rfl) ?_
            refine lv_iload_n hx hb dX4_closeUp_26 rfl (lv_at hl 3 rfl) ?_
            refine k_iadd hx hb dX4_closeUp_27 ?_
            refine k_iald hx hb hK hP 0 0 (f := shf (F 0) f q k) rfl rfl (i := q + k) (by omega) dX4_closeUp_28 ?_
            refine k_iast hx hb hK hP hD hS 0 0 (f := shf (F 0) f q k) rfl rfl (i := q) (x := (shf (F 0) f q k) (q + k)) (by omega) dX4_closeUp_29 (fun H locs hP hD hS => ?_)
            have hP : va_P D vwCl (arW n9 cy b (upr F 0 (ups (shf (F 0) f q k) q ((shf (F 0) f q k) (q + k))))) H := hP
            have hD : va_D (va_A (arW n9 cy b F) sz) (arW n9 cy b (upr F 0 (ups (shf (F 0) f q k) q ((shf (F 0) f q k) (q + k))))) := hD
            refine lv_iinc (v := iI (q + 1)) (lv' := [(4, .int (iI (q + 1))), (0, .ref (b 0)), (1, .int (iI f)), (2, .int (iI k)), (3, .int (iI z))]) hx hb dX4_closeUp_30 hl (k := 0) rfl (iI_add _ _) (by decide) rfl (fun ls hl => ?_)
            refine lv_goto (tgt := 3) hx hb dX4_closeUp_33 (by decide) ?_
            exact ih3 (q + 1)  (by omega) (by omega) (by omega) H locs (by rw [show (shf (F 0) f (q + 1) k) = (ups (shf (F 0) f q k) q ((shf (F 0) f q k) (q + k))) from shf_s _ hi0 (by omega)]; exact hP) (k_addr hD rfl) hS ls (lv_sub hl [0, 1, 2, 3, 4] rfl)
    exact loop3 ((1001 - f : Int) + 1).toNat f  (by omega) (by omega) (by omega) H locs (by rw [show (shf (F 0) f f k) = (F 0) from shf_0 _ _ (by omega)]; exact hP) (k_addr hD rfl) hS ls (lv_sub hl [0, 1, 2, 3, 4] rfl)
  exact hbody s.heap [] hP hS ls hl
set_option maxHeartbeats 4000000 in
set_option maxRecDepth 100000 in
theorem c_X4_insert (l : Launch) (D : va_G) (cy : Nat → ClassId) (sz : Nat) (b : Nat → Nat) (F : Nat → Int → Int) (n9 : Nat) (f z v : Int) (hf : 0 ≤ f ∧ f ≤ z) (hz : z < (n9 : Int)) (hn9 : (n9 : Int) ≤ 1000) : Met l yX4_insert wsX4_insert { frames := 0, cells := 0, slots := 0, locals := 0 } (mPre (GG D cy) D (arW n9 cy b F) sz ([.ref (b 0), .int (iI f), .int (iI z), .int (iI v)] : List Value)) (kQv D (arW n9 cy b F) sz (fun u9 : Nat → Int → Int => arW n9 cy b u9) (fun u9 => u9 = (upr F 0 (ups (shb (F 0) (f + 1) (z + 1) 1) f v)))) 0 0 (va_A (arW n9 cy b F) sz) := by
  refine kM_start (cc := cX4_insert) (maxL := 5) (ret := none) (by decide) rfl (Nat.le_of_ble_eq_true rfl) ?_
  intro p e s m below meth c hx hb hr hlocks hml hts hown hsz hA hG hP hD hS hin ls hl
  have hK := hG.1
  have hl : lv_has ls 5 [(0, .ref (b 0)), (1, .int (iI f)), (2, .int (iI z)), (3, .int (iI v))] := hl
  have hbody : ∀ (H : Heap) (locs : List Loc) (hP : va_P D vwCl (arW n9 cy b F) H) (hS : va_S (va_A (arW n9 cy b F) sz) s.heap H locs) (ls : Array Slot) (hl : lv_has ls 5 [(0, .ref (b 0)), (1, .int (iI f)), (2, .int (iI z)), (3, .int (iI v))]), W p l e { frames := 0, cells := 0, slots := 0, locals := 0 } s m ([.ref (b 0), .int (iI f), .int (iI z), .int (iI v)] : List Value).toArray below meth c H locs 0 0 (MQ below (kQv D (arW n9 cy b F) sz (fun u9 : Nat → Int → Int => arW n9 cy b u9) (fun u9 => u9 = (upr F 0 (ups (shb (F 0) (f + 1) (z + 1) 1) f v)))) ([.ref (b 0), .int (iI f), .int (iI z), .int (iI v)] : List Value).toArray s 0 0 (va_A (arW n9 cy b F) sz)) (F0 m 0 ls []) := by
    intro H locs hP hS ls hl
    refine lv_iload_n hx hb dX4_insert_0 rfl (lv_at hl 2 rfl) ?_
    refine lv_istore (lv' := [(4, .int (iI z)), (0, .ref (b 0)), (1, .int (iI f)), (2, .int (iI z)), (3, .int (iI v))]) hx hb dX4_insert_1 hl (by decide) rfl (fun ls hl => ?_)
    have loop3 : ∀ (n_1 : Nat) (q : Int) (hi0 : f ≤ q) (hi1 : q ≤ z) (hn : q < (n_1 : Int)) (H : Heap) (locs : List Loc) (hP : va_P D vwCl (arW n9 cy b (upr F 0 (shb (F 0) (q + 1) (z + 1) 1))) H) (hD : va_D (va_A (arW n9 cy b F) sz) (arW n9 cy b (upr F 0 (shb (F 0) (q + 1) (z + 1) 1)))) (hS : va_S (va_A (arW n9 cy b F) sz) s.heap H locs) (ls : Array Slot) (hl : lv_has ls 5 [(4, .int (iI q)), (0, .ref (b 0)), (1, .int (iI f)), (2, .int (iI z)), (3, .int (iI v))]), W p l e { frames := 0, cells := 0, slots := 0, locals := 0 } s m ([.ref (b 0), .int (iI f), .int (iI z), .int (iI v)] : List Value).toArray below meth c H locs 0 0 (MQ below (kQv D (arW n9 cy b F) sz (fun u9 : Nat → Int → Int => arW n9 cy b u9) (fun u9 => u9 = (upr F 0 (ups (shb (F 0) (f + 1) (z + 1) 1) f v)))) ([.ref (b 0), .int (iI f), .int (iI z), .int (iI v)] : List Value).toArray s 0 0 (va_A (arW n9 cy b F) sz)) (F0 m 3 ls []) := by
      intro n_1
      induction n_1 with
      | zero => intro q hi0 hi1 hn H locs hP hD hS ls hl; exfalso; omega
      | succ n_1 ih3 =>
        intro q hi0 hi1 hn H locs hP hD hS ls hl
        refine lv_iload hx hb dX4_insert_3 (lv_at hl 0 rfl) ?_
        refine lv_iload_n hx hb dX4_insert_5 rfl (lv_at hl 2 rfl) ?_
        refine k_icmp_le (tgt := 32) hx hb dX4_insert_6 (by decide) (by omega) (by omega) (fun c_2 => ?_) (fun c_2 => ?_)
        · skip
          refine lv_aload_n hx hb dX4_insert_32 rfl (lv_at hl 1 rfl) ?_
          refine lv_iload_n hx hb dX4_insert_33 rfl (lv_at hl 2 rfl) ?_
          refine lv_iload_n hx hb dX4_insert_34 rfl (lv_at hl 4 rfl) ?_
          refine k_iast hx hb hK hP hD hS 0 0 (f := shb (F 0) (q + 1) (z + 1) 1) rfl rfl (i := f) (x := v) (by omega) dX4_insert_35 (fun H locs hP hD hS => ?_)
          have hP : va_P D vwCl (arW n9 cy b (upr F 0 (ups (shb (F 0) (q + 1) (z + 1) 1) f v))) H := hP
          have hD : va_D (va_A (arW n9 cy b F) sz) (arW n9 cy b (upr F 0 (ups (shb (F 0) (q + 1) (z + 1) 1) f v))) := hD
          exact W.vret hx hb hr (fun t9 ht _ => ⟨⟨(upr F 0 (ups (shb (F 0) (q + 1) (z + 1) 1) f v)), rfl, ((by rw [show (ups (shb (F 0) (q + 1) (z + 1) 1) f v) = (ups (shb (F 0) (f + 1) (z + 1) 1) f v) from by have e9 : q = f := (by omega); subst e9; rfl]) : (upr F 0 (ups (shb (F 0) (q + 1) (z + 1) 1) f v)) = (upr F 0 (ups (shb (F 0) (f + 1) (z + 1) 1) f v))), by rw [ht]; exact hP, hD⟩, hS.F ht⟩) hS.2.2 dX4_insert_36 hlocks
        · skip
          refine lv_iload hx hb dX4_insert_9 (lv_at hl 0 rfl) ?_
          refine lv_aload_n hx hb dX4_insert_11 rfl (lv_at hl 1 rfl) ?_
          refine k_alen hx hb hK hP 0 0 rfl rfl (n9 : Int) rfl dX4_insert_12 ?_
          refine k_icmp_ge (tgt := 32) hx hb dX4_insert_13 (by decide) (by omega) (by omega) (fun c_3 => ?_) (fun c_3 => ?_)
          · exfalso; omega
          · skip
            refine lv_aload_n hx hb dX4_insert_16 rfl (lv_at hl 1 rfl) ?_
            refine lv_iload hx hb dX4_insert_17 (lv_at hl 0 rfl) ?_
            refine lv_aload_n hx hb dX4_insert_19 rfl (lv_at hl 1 rfl) ?_
            refine lv_iload hx hb dX4_insert_20 (lv_at hl 0 rfl) ?_
            refine k_iconst hx hb dX4_insert_22 ?_
            refine k_isub hx hb dX4_insert_23 ?_
            refine k_iald hx hb hK hP 0 0 (f := shb (F 0) (q + 1) (z + 1) 1) rfl rfl (i := q - 1) (by omega) dX4_insert_24 ?_
            refine k_iast hx hb hK hP hD hS 0 0 (f := shb (F 0) (q + 1) (z + 1) 1) rfl rfl (i := q) (x := (shb (F 0) (q + 1) (z + 1) 1) (q - 1)) (by omega) dX4_insert_25 (fun H locs hP hD hS => ?_)
            have hP : va_P D vwCl (arW n9 cy b (upr F 0 (ups (shb (F 0) (q + 1) (z + 1) 1) q ((shb (F 0) (q + 1) (z + 1) 1) (q - 1))))) H := hP
            have hD : va_D (va_A (arW n9 cy b F) sz) (arW n9 cy b (upr F 0 (ups (shb (F 0) (q + 1) (z + 1) 1) q ((shb (F 0) (q + 1) (z + 1) 1) (q - 1))))) := hD
            refine lv_iinc (v := iI (q + (-1))) (lv' := [(4, .int (iI (q + (-1)))), (0, .ref (b 0)), (1, .int (iI f)), (2, .int (iI z)), (3, .int (iI v))]) hx hb dX4_insert_26 hl (k := 0) rfl (iI_add _ _) (by decide) rfl (fun ls hl => ?_)
            refine lv_goto (tgt := 3) hx hb dX4_insert_29 (by decide) ?_
            exact ih3 (q + (-1))  (by omega) (by omega) (by omega) H locs (by rw [show (shb (F 0) ((q + (-1)) + 1) (z + 1) 1) = (ups (shb (F 0) (q + 1) (z + 1) 1) q ((shb (F 0) (q + 1) (z + 1) 1) (q - 1))) from by show shb (F 0) (q - 1 + 1) _ 1 = _; rw [show q - 1 + 1 = q by omega]; exact shb_s1 (F 0) (by omega)]; exact hP) (k_addr hD rfl) hS ls (lv_sub hl [0, 1, 2, 3, 4] rfl)
    exact loop3 ((z : Int) + 1).toNat z  (by omega) (by omega) (by omega) H locs (by rw [show (shb (F 0) (z + 1) (z + 1) 1) = (F 0) from shb_0 _ _ (by omega)]; exact hP) (k_addr hD rfl) hS ls (lv_sub hl [0, 1, 2, 3, 4] rfl)
  exact hbody s.heap [] hP hS ls hl
set_option maxHeartbeats 4000000 in
set_option maxRecDepth 100000 in
theorem c_X4_dropTrail (l : Launch) (D : va_G) (cy : Nat → ClassId) (sz : Nat) (a : Nat → Nat) (P : Nat → Int → Int) (t : Int) (hI : Inv (mO P)) (h0 : 0 ≤ t) (h1 : t < P 0 0) : Met l yX4_dropTrail wsX4_dropTrail { frames := 1, cells := 0, slots := 0, locals := 24 } (mPre (GG D cy) D (plW cy a P) sz ([.ref (a 0), .int (iI t)] : List Value)) (kQi D (plW cy a P) sz (fun u9 : Nat → Int → Int => plW cy a u9) (fun r9 u9 => r9 = P 0 0 - 1 ∧ u9 = (upr (upr (upr (upr (upr P 0 (ups (P 0) 0 (P 0 0 - 1))) 1 (shf (P 1) t (P 0 0 - 1) 1)) 2 (shf (P 2) (12 * t + 0) (12 * P 0 0 + 0 - 12) 12)) 3 (shf (P 3) (12 * t + 0) (12 * P 0 0 + 0 - 12) 12)) 4 (shf (P 4) (12 * t + 0) (12 * P 0 0 + 0 - 12) 12)))) 0 0 (va_A (plW cy a P) sz) := by
  refine kM_start (cc := cX4_dropTrail) (maxL := 4) (ret := (some .int)) (by decide) rfl (Nat.le_of_ble_eq_true rfl) ?_
  intro p e s m below meth c hx hb hr hlocks hml hts hown hsz hA hG hP hD hS hin ls hl
  have hK := hG.1
  have hl : lv_has ls 4 [(0, .ref (a 0)), (1, .int (iI t))] := hl
  have hinX4 : ∀ w ∈ u_ws RX4 TX4 12, w ∈ wsX4_dropTrail := by decide +kernel
  have hm0 := hts (.fieldLink RX4 24 "ArcPlate$Plate" "points" "[I") (by decide +kernel)
  have hm1 := hts (.fieldLink RX4 9 "ArcPlate$Plate" "trails" "I") (by decide +kernel)
  have hm2 := hts (.fieldLink RX4 28 "ArcPlate$Plate" "frames" "[I") (by decide +kernel)
  have hm3 := hts (.fieldLink RX4 31 "ArcPlate$Plate" "xs" "[I") (by decide +kernel)
  have hm4 := hts (.fieldLink RX4 34 "ArcPlate$Plate" "ys" "[I") (by decide +kernel)
  have hS0 := po_S hI
  have hbody : ∀ (H : Heap) (locs : List Loc) (hP : va_P D vwCl (plW cy a P) H) (hS : va_S (va_A (plW cy a P) sz) s.heap H locs) (ls : Array Slot) (hl : lv_has ls 4 [(0, .ref (a 0)), (1, .int (iI t))]), W p l e { frames := 1, cells := 0, slots := 0, locals := 24 } s m ([.ref (a 0), .int (iI t)] : List Value).toArray below meth c H locs 0 0 (MQ below (kQi D (plW cy a P) sz (fun u9 : Nat → Int → Int => plW cy a u9) (fun r9 u9 => r9 = P 0 0 - 1 ∧ u9 = (upr (upr (upr (upr (upr P 0 (ups (P 0) 0 (P 0 0 - 1))) 1 (shf (P 1) t (P 0 0 - 1) 1)) 2 (shf (P 2) (12 * t + 0) (12 * P 0 0 + 0 - 12) 12)) 3 (shf (P 3) (12 * t + 0) (12 * P 0 0 + 0 - 12) 12)) 4 (shf (P 4) (12 * t + 0) (12 * P 0 0 + 0 - 12) 12)))) ([.ref (a 0), .int (iI t)] : List Value).toArray s 0 0 (va_A (plW cy a P) sz)) (F0 m 0 ls []) := by
    intro H locs hP hS ls hl
    refine lv_aload_n hx hb dX4_dropTrail_0 rfl (lv_at hl 0 rfl) ?_
    refine va_get (D := D) (ci := 3) (v := .ref (a 1)) (C := RX4) (T := TX4) (N := 12) hx hb hts hinX4 hown hK hP 0 rfl rfl 4 (by decide) hm0 (fun _ h9 => h9) rfl dX4_dropTrail_1 ?_
    refine lv_iload_n hx hb dX4_dropTrail_4 rfl (lv_at hl 1 rfl) ?_
    refine k_iconst hx hb dX4_dropTrail_5 ?_
    refine lv_aload_n hx hb dX4_dropTrail_6 rfl (lv_at hl 0 rfl) ?_
    refine va_get (D := D) (ci := 3) (v := .int (iI (P 0 0))) (C := RX4) (T := TX4) (N := 12) hx hb hts hinX4 hown hK hP 0 rfl rfl 0 (by decide) hm1 (fun _ h9 => h9) rfl dX4_dropTrail_7 ?_
    have hPc := hP.sub (ws' := (arW 12 cy (fun i => a (i + 1)) (fun i => P (i + 1)))) [1] rfl
    have hDc := hD.sub (ws' := (arW 12 cy (fun i => a (i + 1)) (fun i => P (i + 1)))) [1] (by decide) rfl
    have hFc := va_free (wc := (arW 12 cy (fun i => a (i + 1)) (fun i => P (i + 1)))) hD hS hA [1] rfl
    refine k_muv (k_runS (As := [.ref (a 1), .int (iI t), .int (iI 1), .int (iI (P 0 0))]) (rest := []) ⟨hx, hb, hml, hown, hts⟩ (c_X4_closeUp l D cy H.size (fun i => a (i + 1)) (fun i => P (i + 1)) 12 t 1 (P 0 0) (show 0 ≤ t ∧ t ≤ 1000 by omega) (show 1 ≤ 1 ∧ 1 ≤ 12 by omega) (show 0 ≤ (P 0 0) ∧ (P 0 0) ≤ (12 : Int) by omega) (show (12 : Int) ≤ 1000 by omega)) gX4_dropTrail_X4_closeUp rfl ⟨rfl, rfl⟩ 4 rfl (by decide +kernel) ⟨Nat.le_of_ble_eq_true rfl, Nat.le_of_ble_eq_true rfl⟩ (GG_ok D cy) hG hS hFc hPc hDc hl.1 rfl (Nat.le_of_ble_eq_true rfl) ⟨Nat.le_of_ble_eq_true rfl, Nat.le_of_ble_eq_true rfl⟩ dX4_dropTrail_10) hFc hS (fun R_2 H1 locs1 hR_2 hP1 hD1 hS1 hk1 => ?_)
    have hR_2 : R_2 = (upr (fun i => P (i + 1)) 0 (shf ((P 1)) t ((P 0 0) - 1) 1)) := hR_2
    subst hR_2
    have hDn : va_D (va_A (plW cy a P) sz) (plW cy a (upr P 1 (shf ((P 1)) t ((P 0 0) - 1) 1))) := k_addr hD rfl
    have hPn := k_join (ws' := (plW cy a (upr P 1 (shf ((P 1)) t ((P 0 0) - 1) 1)))) hP hD [1] [none, some 0, none, none, none, none, none, none, none] rfl hk1 hP1 rfl rfl
    clear hP hD hS hP1 hD1 hk1
    have hP := hPn
    have hD := hDn
    have hS := hS1
    clear hPn hDn hS1
    generalize H1 = H at hP hS ⊢
    generalize locs1 = locs at hS ⊢
    refine lv_iload_n hx hb dX4_dropTrail_13 rfl (lv_at hl 1 rfl) ?_
    refine k_iconst hx hb dX4_dropTrail_14 ?_
    refine k_roS (As := [.int (iI t), .int (iI 0)]) (rest := []) ⟨hx, hb, hml, hown, hts⟩ (c_X4_slot l D t 0 ) gX4_dropTrail_X4_slot rfl ⟨rfl, rfl⟩ 2 rfl (by decide +kernel) ⟨Nat.le_of_ble_eq_true rfl, Nat.le_of_ble_eq_true rfl⟩ kGT_ok trivial (fun k q h => by simp at h) hl.1 rfl (Nat.le_of_ble_eq_true rfl) ⟨Nat.le_of_ble_eq_true rfl, Nat.le_of_ble_eq_true rfl⟩ dX4_dropTrail_15 (fun r_3 hr_3 => ?_)
    have hr_3 : r_3 = 12 * t + 0 := hr_3
    subst hr_3
    refine lv_istore_n (lv' := [(2, .int (iI (12 * t + 0))), (0, .ref (a 0)), (1, .int (iI t))]) hx hb dX4_dropTrail_18 rfl hl (by decide) rfl (fun ls hl => ?_)
    refine lv_aload_n hx hb dX4_dropTrail_19 rfl (lv_at hl 1 rfl) ?_
    refine va_get (D := D) (ci := 3) (v := .int (iI (P 0 0))) (C := RX4) (T := TX4) (N := 12) hx hb hts hinX4 hown hK hP 0 rfl rfl 0 (by decide) hm1 (fun _ h9 => h9) rfl dX4_dropTrail_20 ?_
    refine k_iconst hx hb dX4_dropTrail_23 ?_
    refine k_roS (As := [.int (iI (P 0 0)), .int (iI 0)]) (rest := []) ⟨hx, hb, hml, hown, hts⟩ (c_X4_slot l D (P 0 0) 0 ) gX4_dropTrail_X4_slot rfl ⟨rfl, rfl⟩ 2 rfl (by decide +kernel) ⟨Nat.le_of_ble_eq_true rfl, Nat.le_of_ble_eq_true rfl⟩ kGT_ok trivial (fun k q h => by simp at h) hl.1 rfl (Nat.le_of_ble_eq_true rfl) ⟨Nat.le_of_ble_eq_true rfl, Nat.le_of_ble_eq_true rfl⟩ dX4_dropTrail_24 (fun r_4 hr_4 => ?_)
    have hr_4 : r_4 = 12 * (P 0 0) + 0 := hr_4
    subst hr_4
    refine lv_istore_n (lv' := [(3, .int (iI (12 * (P 0 0) + 0))), (2, .int (iI (12 * t + 0))), (0, .ref (a 0)), (1, .int (iI t))]) hx hb dX4_dropTrail_27 rfl hl (by decide) rfl (fun ls hl => ?_)
    refine lv_aload_n hx hb dX4_dropTrail_28 rfl (lv_at hl 2 rfl) ?_
    refine va_get (D := D) (ci := 3) (v := .ref (a 2)) (C := RX4) (T := TX4) (N := 12) hx hb hts hinX4 hown hK hP 0 rfl rfl 5 (by decide) hm2 (fun _ h9 => h9) rfl dX4_dropTrail_29 ?_
    refine lv_iload_n hx hb dX4_dropTrail_32 rfl (lv_at hl 1 rfl) ?_
    refine k_bipush hx hb dX4_dropTrail_33 (by decide +kernel) ?_
    refine lv_iload_n hx hb dX4_dropTrail_35 rfl (lv_at hl 0 rfl) ?_
    have hPc := hP.sub (ws' := (arW 144 cy (fun i => a (i + 2)) (fun i => (upr P 1 (shf ((P 1)) t ((P 0 0) - 1) 1)) (i + 2)))) [2] rfl
    have hDc := hD.sub (ws' := (arW 144 cy (fun i => a (i + 2)) (fun i => (upr P 1 (shf ((P 1)) t ((P 0 0) - 1) 1)) (i + 2)))) [2] (by decide) rfl
    have hFc := va_free (wc := (arW 144 cy (fun i => a (i + 2)) (fun i => (upr P 1 (shf ((P 1)) t ((P 0 0) - 1) 1)) (i + 2)))) hD hS hA [2] rfl
    refine k_muv (k_runS (As := [.ref (a 2), .int (iI (12 * t + 0)), .int (iI 12), .int (iI (12 * (P 0 0) + 0))]) (rest := []) ⟨hx, hb, hml, hown, hts⟩ (c_X4_closeUp l D cy H.size (fun i => a (i + 2)) (fun i => (upr P 1 (shf ((P 1)) t ((P 0 0) - 1) 1)) (i + 2)) 144 (12 * t + 0) 12 (12 * (P 0 0) + 0) (show 0 ≤ (12 * t + 0) ∧ (12 * t + 0) ≤ 1000 by omega) (show 1 ≤ 12 ∧ 12 ≤ 12 by omega) (show 0 ≤ (12 * (P 0 0) + 0) ∧ (12 * (P 0 0) + 0) ≤ (144 : Int) by omega) (show (144 : Int) ≤ 1000 by omega)) gX4_dropTrail_X4_closeUp rfl ⟨rfl, rfl⟩ 4 rfl (by decide +kernel) ⟨Nat.le_of_ble_eq_true rfl, Nat.le_of_ble_eq_true rfl⟩ (GG_ok D cy) hG hS hFc hPc hDc hl.1 rfl (Nat.le_of_ble_eq_true rfl) ⟨Nat.le_of_ble_eq_true rfl, Nat.le_of_ble_eq_true rfl⟩ dX4_dropTrail_36) hFc hS (fun R_6 H1 locs1 hR_6 hP1 hD1 hS1 hk1 => ?_)
    have hR_6 : R_6 = (upr (fun i => (upr P 1 (shf ((P 1)) t ((P 0 0) - 1) 1)) (i + 2)) 0 (shf ((P 2)) (12 * t + 0) ((12 * (P 0 0) + 0) - 12) 12)) := hR_6
    subst hR_6
    have hDn : va_D (va_A (plW cy a P) sz) (plW cy a (upr (upr P 1 (shf ((P 1)) t ((P 0 0) - 1) 1)) 2 (shf ((P 2)) (12 * t + 0) ((12 * (P 0 0) + 0) - 12) 12))) := k_addr hD rfl
    have hPn := k_join (ws' := (plW cy a (upr (upr P 1 (shf ((P 1)) t ((P 0 0) - 1) 1)) 2 (shf ((P 2)) (12 * t + 0) ((12 * (P 0 0) + 0) - 12) 12)))) hP hD [2] [none, none, some 0, none, none, none, none, none, none] rfl hk1 hP1 rfl rfl
    clear hP hD hS hP1 hD1 hk1
    have hP := hPn
    have hD := hDn
    have hS := hS1
    clear hPn hDn hS1
    generalize H1 = H at hP hS ⊢
    generalize locs1 = locs at hS ⊢
    refine lv_aload_n hx hb dX4_dropTrail_39 rfl (lv_at hl 2 rfl) ?_
    refine va_get (D := D) (ci := 3) (v := .ref (a 3)) (C := RX4) (T := TX4) (N := 12) hx hb hts hinX4 hown hK hP 0 rfl rfl 6 (by decide) hm3 (fun _ h9 => h9) rfl dX4_dropTrail_40 ?_
    refine lv_iload_n hx hb dX4_dropTrail_43 rfl (lv_at hl 1 rfl) ?_
    refine k_bipush hx hb dX4_dropTrail_44 (by decide +kernel) ?_
    refine lv_iload_n hx hb dX4_dropTrail_46 rfl (lv_at hl 0 rfl) ?_
    have hPc := hP.sub (ws' := (arW 144 cy (fun i => a (i + 3)) (fun i => (upr (upr P 1 (shf ((P 1)) t ((P 0 0) - 1) 1)) 2 (shf ((P 2)) (12 * t + 0) ((12 * (P 0 0) + 0) - 12) 12)) (i + 3)))) [3] rfl
    have hDc := hD.sub (ws' := (arW 144 cy (fun i => a (i + 3)) (fun i => (upr (upr P 1 (shf ((P 1)) t ((P 0 0) - 1) 1)) 2 (shf ((P 2)) (12 * t + 0) ((12 * (P 0 0) + 0) - 12) 12)) (i + 3)))) [3] (by decide) rfl
    have hFc := va_free (wc := (arW 144 cy (fun i => a (i + 3)) (fun i => (upr (upr P 1 (shf ((P 1)) t ((P 0 0) - 1) 1)) 2 (shf ((P 2)) (12 * t + 0) ((12 * (P 0 0) + 0) - 12) 12)) (i + 3)))) hD hS hA [3] rfl
    refine k_muv (k_runS (As := [.ref (a 3), .int (iI (12 * t + 0)), .int (iI 12), .int (iI (12 * (P 0 0) + 0))]) (rest := []) ⟨hx, hb, hml, hown, hts⟩ (c_X4_closeUp l D cy H.size (fun i => a (i + 3)) (fun i => (upr (upr P 1 (shf ((P 1)) t ((P 0 0) - 1) 1)) 2 (shf ((P 2)) (12 * t + 0) ((12 * (P 0 0) + 0) - 12) 12)) (i + 3)) 144 (12 * t + 0) 12 (12 * (P 0 0) + 0) (show 0 ≤ (12 * t + 0) ∧ (12 * t + 0) ≤ 1000 by omega) (show 1 ≤ 12 ∧ 12 ≤ 12 by omega) (show 0 ≤ (12 * (P 0 0) + 0) ∧ (12 * (P 0 0) + 0) ≤ (144 : Int) by omega) (show (144 : Int) ≤ 1000 by omega)) gX4_dropTrail_X4_closeUp rfl ⟨rfl, rfl⟩ 4 rfl (by decide +kernel) ⟨Nat.le_of_ble_eq_true rfl, Nat.le_of_ble_eq_true rfl⟩ (GG_ok D cy) hG hS hFc hPc hDc hl.1 rfl (Nat.le_of_ble_eq_true rfl) ⟨Nat.le_of_ble_eq_true rfl, Nat.le_of_ble_eq_true rfl⟩ dX4_dropTrail_47) hFc hS (fun R_8 H1 locs1 hR_8 hP1 hD1 hS1 hk1 => ?_)
    have hR_8 : R_8 = (upr (fun i => (upr (upr P 1 (shf ((P 1)) t ((P 0 0) - 1) 1)) 2 (shf ((P 2)) (12 * t + 0) ((12 * (P 0 0) + 0) - 12) 12)) (i + 3)) 0 (shf ((P 3)) (12 * t + 0) ((12 * (P 0 0) + 0) - 12) 12)) := hR_8
    subst hR_8
    have hDn : va_D (va_A (plW cy a P) sz) (plW cy a (upr (upr (upr P 1 (shf ((P 1)) t ((P 0 0) - 1) 1)) 2 (shf ((P 2)) (12 * t + 0) ((12 * (P 0 0) + 0) - 12) 12)) 3 (shf ((P 3)) (12 * t + 0) ((12 * (P 0 0) + 0) - 12) 12))) := k_addr hD rfl
    have hPn := k_join (ws' := (plW cy a (upr (upr (upr P 1 (shf ((P 1)) t ((P 0 0) - 1) 1)) 2 (shf ((P 2)) (12 * t + 0) ((12 * (P 0 0) + 0) - 12) 12)) 3 (shf ((P 3)) (12 * t + 0) ((12 * (P 0 0) + 0) - 12) 12)))) hP hD [3] [none, none, none, some 0, none, none, none, none, none] rfl hk1 hP1 rfl rfl
    clear hP hD hS hP1 hD1 hk1
    have hP := hPn
    have hD := hDn
    have hS := hS1
    clear hPn hDn hS1
    generalize H1 = H at hP hS ⊢
    generalize locs1 = locs at hS ⊢
    refine lv_aload_n hx hb dX4_dropTrail_50 rfl (lv_at hl 2 rfl) ?_
    refine va_get (D := D) (ci := 3) (v := .ref (a 4)) (C := RX4) (T := TX4) (N := 12) hx hb hts hinX4 hown hK hP 0 rfl rfl 7 (by decide) hm4 (fun _ h9 => h9) rfl dX4_dropTrail_51 ?_
    refine lv_iload_n hx hb dX4_dropTrail_54 rfl (lv_at hl 1 rfl) ?_
    refine k_bipush hx hb dX4_dropTrail_55 (by decide +kernel) ?_
    refine lv_iload_n hx hb dX4_dropTrail_57 rfl (lv_at hl 0 rfl) ?_
    have hPc := hP.sub (ws' := (arW 144 cy (fun i => a (i + 4)) (fun i => (upr (upr (upr P 1 (shf ((P 1)) t ((P 0 0) - 1) 1)) 2 (shf ((P 2)) (12 * t + 0) ((12 * (P 0 0) + 0) - 12) 12)) 3 (shf ((P 3)) (12 * t + 0) ((12 * (P 0 0) + 0) - 12) 12)) (i + 4)))) [4] rfl
    have hDc := hD.sub (ws' := (arW 144 cy (fun i => a (i + 4)) (fun i => (upr (upr (upr P 1 (shf ((P 1)) t ((P 0 0) - 1) 1)) 2 (shf ((P 2)) (12 * t + 0) ((12 * (P 0 0) + 0) - 12) 12)) 3 (shf ((P 3)) (12 * t + 0) ((12 * (P 0 0) + 0) - 12) 12)) (i + 4)))) [4] (by decide) rfl
    have hFc := va_free (wc := (arW 144 cy (fun i => a (i + 4)) (fun i => (upr (upr (upr P 1 (shf ((P 1)) t ((P 0 0) - 1) 1)) 2 (shf ((P 2)) (12 * t + 0) ((12 * (P 0 0) + 0) - 12) 12)) 3 (shf ((P 3)) (12 * t + 0) ((12 * (P 0 0) + 0) - 12) 12)) (i + 4)))) hD hS hA [4] rfl
    refine k_muv (k_runS (As := [.ref (a 4), .int (iI (12 * t + 0)), .int (iI 12), .int (iI (12 * (P 0 0) + 0))]) (rest := []) ⟨hx, hb, hml, hown, hts⟩ (c_X4_closeUp l D cy H.size (fun i => a (i + 4)) (fun i => (upr (upr (upr P 1 (shf ((P 1)) t ((P 0 0) - 1) 1)) 2 (shf ((P 2)) (12 * t + 0) ((12 * (P 0 0) + 0) - 12) 12)) 3 (shf ((P 3)) (12 * t + 0) ((12 * (P 0 0) + 0) - 12) 12)) (i + 4)) 144 (12 * t + 0) 12 (12 * (P 0 0) + 0) (show 0 ≤ (12 * t + 0) ∧ (12 * t + 0) ≤ 1000 by omega) (show 1 ≤ 12 ∧ 12 ≤ 12 by omega) (show 0 ≤ (12 * (P 0 0) + 0) ∧ (12 * (P 0 0) + 0) ≤ (144 : Int) by omega) (show (144 : Int) ≤ 1000 by omega)) gX4_dropTrail_X4_closeUp rfl ⟨rfl, rfl⟩ 4 rfl (by decide +kernel) ⟨Nat.le_of_ble_eq_true rfl, Nat.le_of_ble_eq_true rfl⟩ (GG_ok D cy) hG hS hFc hPc hDc hl.1 rfl (Nat.le_of_ble_eq_true rfl) ⟨Nat.le_of_ble_eq_true rfl, Nat.le_of_ble_eq_true rfl⟩ dX4_dropTrail_58) hFc hS (fun R_10 H1 locs1 hR_10 hP1 hD1 hS1 hk1 => ?_)
    have hR_10 : R_10 = (upr (fun i => (upr (upr (upr P 1 (shf ((P 1)) t ((P 0 0) - 1) 1)) 2 (shf ((P 2)) (12 * t + 0) ((12 * (P 0 0) + 0) - 12) 12)) 3 (shf ((P 3)) (12 * t + 0) ((12 * (P 0 0) + 0) - 12) 12)) (i + 4)) 0 (shf ((P 4)) (12 * t + 0) ((12 * (P 0 0) + 0) - 12) 12)) := hR_10
    subst hR_10
    have hDn : va_D (va_A (plW cy a P) sz) (plW cy a (upr (upr (upr (upr P 1 (shf ((P 1)) t ((P 0 0) - 1) 1)) 2 (shf ((P 2)) (12 * t + 0) ((12 * (P 0 0) + 0) - 12) 12)) 3 (shf ((P 3)) (12 * t + 0) ((12 * (P 0 0) + 0) - 12) 12)) 4 (shf ((P 4)) (12 * t + 0) ((12 * (P 0 0) + 0) - 12) 12))) := k_addr hD rfl
    have hPn := k_join (ws' := (plW cy a (upr (upr (upr (upr P 1 (shf ((P 1)) t ((P 0 0) - 1) 1)) 2 (shf ((P 2)) (12 * t + 0) ((12 * (P 0 0) + 0) - 12) 12)) 3 (shf ((P 3)) (12 * t + 0) ((12 * (P 0 0) + 0) - 12) 12)) 4 (shf ((P 4)) (12 * t + 0) ((12 * (P 0 0) + 0) - 12) 12)))) hP hD [4] [none, none, none, none, some 0, none, none, none, none] rfl hk1 hP1 rfl rfl
    clear hP hD hS hP1 hD1 hk1
    have hP := hPn
    have hD := hDn
    have hS := hS1
    clear hPn hDn hS1
    generalize H1 = H at hP hS ⊢
    generalize locs1 = locs at hS ⊢
    refine lv_aload_n hx hb dX4_dropTrail_61 rfl (lv_at hl 2 rfl) ?_
    refine lv_dup hx hb dX4_dropTrail_62 rfl ?_
    refine va_get (D := D) (ci := 3) (v := .int (iI (P 0 0))) (C := RX4) (T := TX4) (N := 12) hx hb hts hinX4 hown hK hP 0 rfl rfl 0 (by decide) hm1 (fun _ h9 => h9) rfl dX4_dropTrail_63 ?_
    refine k_iconst hx hb dX4_dropTrail_66 ?_
    refine k_isub hx hb dX4_dropTrail_67 ?_
    refine va_put (D := D) (ci := 3) (v := .int (iI ((P 0 0) - 1))) (ty := .int) (C := RX4) (T := TX4) (N := 12) hx hb hts hinX4 tyX4 tyX4_ok nmX4 hown hK hP hD hS 0 rfl rfl 0 (by decide) hm1 (fun _ h9 => h9) rfl (by decide +kernel) rfl rfl (Nat.le_of_ble_eq_true rfl) dX4_dropTrail_68 (fun H locs hP hD hS => ?_)
    have hP : va_P D vwCl (plW cy a (upr (upr (upr (upr (upr P 0 (ups (P 0) 0 ((P 0 0) - 1))) 1 (shf ((P 1)) t ((P 0 0) - 1) 1)) 2 (shf ((P 2)) (12 * t + 0) ((12 * (P 0 0) + 0) - 12) 12)) 3 (shf ((P 3)) (12 * t + 0) ((12 * (P 0 0) + 0) - 12) 12)) 4 (shf ((P 4)) (12 * t + 0) ((12 * (P 0 0) + 0) - 12) 12))) H := hP
    have hD : va_D (va_A (plW cy a P) sz) (plW cy a (upr (upr (upr (upr (upr P 0 (ups (P 0) 0 ((P 0 0) - 1))) 1 (shf ((P 1)) t ((P 0 0) - 1) 1)) 2 (shf ((P 2)) (12 * t + 0) ((12 * (P 0 0) + 0) - 12) 12)) 3 (shf ((P 3)) (12 * t + 0) ((12 * (P 0 0) + 0) - 12) 12)) 4 (shf ((P 4)) (12 * t + 0) ((12 * (P 0 0) + 0) - 12) 12))) := hD
    refine lv_aload_n hx hb dX4_dropTrail_71 rfl (lv_at hl 2 rfl) ?_
    refine va_get (D := D) (ci := 3) (v := .int (iI ((P 0 0) - 1))) (C := RX4) (T := TX4) (N := 12) hx hb hts hinX4 hown hK hP 0 rfl rfl 0 (by decide) hm1 (fun _ h9 => h9) rfl dX4_dropTrail_72 ?_
    exact W.iret (v := iI ((P 0 0) - 1)) hx hb hr (fun t9 ht _ => ⟨⟨iI ((P 0 0) - 1), (upr (upr (upr (upr (upr P 0 (ups (P 0) 0 ((P 0 0) - 1))) 1 (shf ((P 1)) t ((P 0 0) - 1) 1)) 2 (shf ((P 2)) (12 * t + 0) ((12 * (P 0 0) + 0) - 12) 12)) 3 (shf ((P 3)) (12 * t + 0) ((12 * (P 0 0) + 0) - 12) 12)) 4 (shf ((P 4)) (12 * t + 0) ((12 * (P 0 0) + 0) - 12) 12)), rfl, ⟨((P 0 0) - 1), rfl, (⟨by first | rfl | omega, rfl⟩ : ((P 0 0) - 1 : Int) = P 0 0 - 1 ∧ (upr (upr (upr (upr (upr P 0 (ups (P 0) 0 ((P 0 0) - 1))) 1 (shf ((P 1)) t ((P 0 0) - 1) 1)) 2 (shf ((P 2)) (12 * t + 0) ((12 * (P 0 0) + 0) - 12) 12)) 3 (shf ((P 3)) (12 * t + 0) ((12 * (P 0 0) + 0) - 12) 12)) 4 (shf ((P 4)) (12 * t + 0) ((12 * (P 0 0) + 0) - 12) 12)) = (upr (upr (upr (upr (upr P 0 (ups (P 0) 0 (P 0 0 - 1))) 1 (shf (P 1) t (P 0 0 - 1) 1)) 2 (shf (P 2) (12 * t + 0) (12 * P 0 0 + 0 - 12) 12)) 3 (shf (P 3) (12 * t + 0) (12 * P 0 0 + 0 - 12) 12)) 4 (shf (P 4) (12 * t + 0) (12 * P 0 0 + 0 - 12) 12)))⟩, by rw [ht]; exact hP, hD⟩, hS.F ht⟩) hS.2.2 dX4_dropTrail_75 hlocks
  exact hbody s.heap [] hP hS ls hl
set_option maxHeartbeats 4000000 in
set_option maxRecDepth 100000 in
theorem c_X4_dropPoint (l : Launch) (D : va_G) (cy : Nat → ClassId) (sz : Nat) (a : Nat → Nat) (P : Nat → Int → Int) (t q : Int) (hI : Inv (mO P)) (h0 : 0 ≤ t) (h1 : t < P 0 0) (h2 : 0 ≤ q) (h3 : q < P 1 t) : Met l yX4_dropPoint wsX4_dropPoint { frames := 1, cells := 0, slots := 0, locals := 24 } (mPre (GG D cy) D (plW cy a P) sz ([.ref (a 0), .int (iI t), .int (iI q)] : List Value)) (kQi D (plW cy a P) sz (fun u9 : Nat → Int → Int => plW cy a u9) (fun r9 u9 => r9 = P 1 t - 1 ∧ u9 = (upr (upr (upr (upr P 1 (ups (P 1) t (P 1 t - 1))) 2 (shf (P 2) (12 * t + q) (12 * t + P 1 t - 1) 1)) 3 (shf (P 3) (12 * t + q) (12 * t + P 1 t - 1) 1)) 4 (shf (P 4) (12 * t + q) (12 * t + P 1 t - 1) 1)))) 0 0 (va_A (plW cy a P) sz) := by
  refine kM_start (cc := cX4_dropPoint) (maxL := 5) (ret := (some .int)) (by decide) rfl (Nat.le_of_ble_eq_true rfl) ?_
  intro p e s m below meth c hx hb hr hlocks hml hts hown hsz hA hG hP hD hS hin ls hl
  have hK := hG.1
  have hl : lv_has ls 5 [(0, .ref (a 0)), (1, .int (iI t)), (2, .int (iI q))] := hl
  have hinX4 : ∀ w ∈ u_ws RX4 TX4 12, w ∈ wsX4_dropPoint := by decide +kernel
  have hm0 := hts (.fieldLink RX4 24 "ArcPlate$Plate" "points" "[I") (by decide +kernel)
  have hm1 := hts (.fieldLink RX4 28 "ArcPlate$Plate" "frames" "[I") (by decide +kernel)
  have hm2 := hts (.fieldLink RX4 31 "ArcPlate$Plate" "xs" "[I") (by decide +kernel)
  have hm3 := hts (.fieldLink RX4 34 "ArcPlate$Plate" "ys" "[I") (by decide +kernel)
  have hS0 := po_S hI
  have hp := po_pts hI h0 h1
  have hbody : ∀ (H : Heap) (locs : List Loc) (hP : va_P D vwCl (plW cy a P) H) (hS : va_S (va_A (plW cy a P) sz) s.heap H locs) (ls : Array Slot) (hl : lv_has ls 5 [(0, .ref (a 0)), (1, .int (iI t)), (2, .int (iI q))]), W p l e { frames := 1, cells := 0, slots := 0, locals := 24 } s m ([.ref (a 0), .int (iI t), .int (iI q)] : List Value).toArray below meth c H locs 0 0 (MQ below (kQi D (plW cy a P) sz (fun u9 : Nat → Int → Int => plW cy a u9) (fun r9 u9 => r9 = P 1 t - 1 ∧ u9 = (upr (upr (upr (upr P 1 (ups (P 1) t (P 1 t - 1))) 2 (shf (P 2) (12 * t + q) (12 * t + P 1 t - 1) 1)) 3 (shf (P 3) (12 * t + q) (12 * t + P 1 t - 1) 1)) 4 (shf (P 4) (12 * t + q) (12 * t + P 1 t - 1) 1)))) ([.ref (a 0), .int (iI t), .int (iI q)] : List Value).toArray s 0 0 (va_A (plW cy a P) sz)) (F0 m 0 ls []) := by
    intro H locs hP hS ls hl
    refine lv_iload_n hx hb dX4_dropPoint_0 rfl (lv_at hl 1 rfl) ?_
    refine lv_iload_n hx hb dX4_dropPoint_1 rfl (lv_at hl 2 rfl) ?_
    refine k_roS (As := [.int (iI t), .int (iI q)]) (rest := []) ⟨hx, hb, hml, hown, hts⟩ (c_X4_slot l D t q ) gX4_dropPoint_X4_slot rfl ⟨rfl, rfl⟩ 2 rfl (by decide +kernel) ⟨Nat.le_of_ble_eq_true rfl, Nat.le_of_ble_eq_true rfl⟩ kGT_ok trivial (fun k q h => by simp at h) hl.1 rfl (Nat.le_of_ble_eq_true rfl) ⟨Nat.le_of_ble_eq_true rfl, Nat.le_of_ble_eq_true rfl⟩ dX4_dropPoint_2 (fun r_1 hr_1 => ?_)
    have hr_1 : r_1 = 12 * t + q := hr_1
    subst hr_1
    refine lv_istore_n (lv' := [(3, .int (iI (12 * t + q))), (0, .ref (a 0)), (1, .int (iI t)), (2, .int (iI q))]) hx hb dX4_dropPoint_5 rfl hl (by decide) rfl (fun ls hl => ?_)
    refine lv_iload_n hx hb dX4_dropPoint_6 rfl (lv_at hl 2 rfl) ?_
    refine lv_aload_n hx hb dX4_dropPoint_7 rfl (lv_at hl 1 rfl) ?_
    refine va_get (D := D) (ci := 3) (v := .ref (a 1)) (C := RX4) (T := TX4) (N := 12) hx hb hts hinX4 hown hK hP 0 rfl rfl 4 (by decide) hm0 (fun _ h9 => h9) rfl dX4_dropPoint_8 ?_
    refine lv_iload_n hx hb dX4_dropPoint_11 rfl (lv_at hl 2 rfl) ?_
    refine k_iald hx hb hK hP 1 0 (f := P 1) rfl rfl (i := t) (by omega) dX4_dropPoint_12 ?_
    refine k_roS (As := [.int (iI t), .int (iI (P 1 t))]) (rest := []) ⟨hx, hb, hml, hown, hts⟩ (c_X4_slot l D t (P 1 t) ) gX4_dropPoint_X4_slot rfl ⟨rfl, rfl⟩ 2 rfl (by decide +kernel) ⟨Nat.le_of_ble_eq_true rfl, Nat.le_of_ble_eq_true rfl⟩ kGT_ok trivial (fun k q h => by simp at h) hl.1 rfl (Nat.le_of_ble_eq_true rfl) ⟨Nat.le_of_ble_eq_true rfl, Nat.le_of_ble_eq_true rfl⟩ dX4_dropPoint_13 (fun r_2 hr_2 => ?_)
    have hr_2 : r_2 = 12 * t + (P 1 t) := hr_2
    subst hr_2
    refine lv_istore (lv' := [(4, .int (iI (12 * t + (P 1 t)))), (3, .int (iI (12 * t + q))), (0, .ref (a 0)), (1, .int (iI t)), (2, .int (iI q))]) hx hb dX4_dropPoint_16 hl (by decide) rfl (fun ls hl => ?_)
    refine lv_aload_n hx hb dX4_dropPoint_18 rfl (lv_at hl 2 rfl) ?_
    refine va_get (D := D) (ci := 3) (v := .ref (a 2)) (C := RX4) (T := TX4) (N := 12) hx hb hts hinX4 hown hK hP 0 rfl rfl 5 (by decide) hm1 (fun _ h9 => h9) rfl dX4_dropPoint_19 ?_
    refine lv_iload_n hx hb dX4_dropPoint_22 rfl (lv_at hl 1 rfl) ?_
    refine k_iconst hx hb dX4_dropPoint_23 ?_
    refine lv_iload hx hb dX4_dropPoint_24 (lv_at hl 0 rfl) ?_
    have hPc := hP.sub (ws' := (arW 144 cy (fun i => a (i + 2)) (fun i => P (i + 2)))) [2] rfl
    have hDc := hD.sub (ws' := (arW 144 cy (fun i => a (i + 2)) (fun i => P (i + 2)))) [2] (by decide) rfl
    have hFc := va_free (wc := (arW 144 cy (fun i => a (i + 2)) (fun i => P (i + 2)))) hD hS hA [2] rfl
    refine k_muv (k_runS (As := [.ref (a 2), .int (iI (12 * t + q)), .int (iI 1), .int (iI (12 * t + (P 1 t)))]) (rest := []) ⟨hx, hb, hml, hown, hts⟩ (c_X4_closeUp l D cy H.size (fun i => a (i + 2)) (fun i => P (i + 2)) 144 (12 * t + q) 1 (12 * t + (P 1 t)) (show 0 ≤ (12 * t + q) ∧ (12 * t + q) ≤ 1000 by omega) (show 1 ≤ 1 ∧ 1 ≤ 12 by omega) (show 0 ≤ (12 * t + (P 1 t)) ∧ (12 * t + (P 1 t)) ≤ (144 : Int) by omega) (show (144 : Int) ≤ 1000 by omega)) gX4_dropPoint_X4_closeUp rfl ⟨rfl, rfl⟩ 4 rfl (by decide +kernel) ⟨Nat.le_of_ble_eq_true rfl, Nat.le_of_ble_eq_true rfl⟩ (GG_ok D cy) hG hS hFc hPc hDc hl.1 rfl (Nat.le_of_ble_eq_true rfl) ⟨Nat.le_of_ble_eq_true rfl, Nat.le_of_ble_eq_true rfl⟩ dX4_dropPoint_26) hFc hS (fun R_4 H1 locs1 hR_4 hP1 hD1 hS1 hk1 => ?_)
    have hR_4 : R_4 = (upr (fun i => P (i + 2)) 0 (shf ((P 2)) (12 * t + q) ((12 * t + (P 1 t)) - 1) 1)) := hR_4
    subst hR_4
    have hDn : va_D (va_A (plW cy a P) sz) (plW cy a (upr P 2 (shf ((P 2)) (12 * t + q) ((12 * t + (P 1 t)) - 1) 1))) := k_addr hD rfl
    have hPn := k_join (ws' := (plW cy a (upr P 2 (shf ((P 2)) (12 * t + q) ((12 * t + (P 1 t)) - 1) 1)))) hP hD [2] [none, none, some 0, none, none, none, none, none, none] rfl hk1 hP1 rfl rfl
    clear hP hD hS hP1 hD1 hk1
    have hP := hPn
    have hD := hDn
    have hS := hS1
    clear hPn hDn hS1
    generalize H1 = H at hP hS ⊢
    generalize locs1 = locs at hS ⊢
    refine lv_aload_n hx hb dX4_dropPoint_29 rfl (lv_at hl 2 rfl) ?_
    refine va_get (D := D) (ci := 3) (v := .ref (a 3)) (C := RX4) (T := TX4) (N := 12) hx hb hts hinX4 hown hK hP 0 rfl rfl 6 (by decide) hm2 (fun _ h9 => h9) rfl dX4_dropPoint_30 ?_
    refine lv_iload_n hx hb dX4_dropPoint_33 rfl (lv_at hl 1 rfl) ?_
    refine k_iconst hx hb dX4_dropPoint_34 ?_
    refine lv_iload hx hb dX4_dropPoint_35 (lv_at hl 0 rfl) ?_
    have hPc := hP.sub (ws' := (arW 144 cy (fun i => a (i + 3)) (fun i => (upr P 2 (shf ((P 2)) (12 * t + q) ((12 * t + (P 1 t)) - 1) 1)) (i + 3)))) [3] rfl
    have hDc := hD.sub (ws' := (arW 144 cy (fun i => a (i + 3)) (fun i => (upr P 2 (shf ((P 2)) (12 * t + q) ((12 * t + (P 1 t)) - 1) 1)) (i + 3)))) [3] (by decide) rfl
    have hFc := va_free (wc := (arW 144 cy (fun i => a (i + 3)) (fun i => (upr P 2 (shf ((P 2)) (12 * t + q) ((12 * t + (P 1 t)) - 1) 1)) (i + 3)))) hD hS hA [3] rfl
    refine k_muv (k_runS (As := [.ref (a 3), .int (iI (12 * t + q)), .int (iI 1), .int (iI (12 * t + (P 1 t)))]) (rest := []) ⟨hx, hb, hml, hown, hts⟩ (c_X4_closeUp l D cy H.size (fun i => a (i + 3)) (fun i => (upr P 2 (shf ((P 2)) (12 * t + q) ((12 * t + (P 1 t)) - 1) 1)) (i + 3)) 144 (12 * t + q) 1 (12 * t + (P 1 t)) (show 0 ≤ (12 * t + q) ∧ (12 * t + q) ≤ 1000 by omega) (show 1 ≤ 1 ∧ 1 ≤ 12 by omega) (show 0 ≤ (12 * t + (P 1 t)) ∧ (12 * t + (P 1 t)) ≤ (144 : Int) by omega) (show (144 : Int) ≤ 1000 by omega)) gX4_dropPoint_X4_closeUp rfl ⟨rfl, rfl⟩ 4 rfl (by decide +kernel) ⟨Nat.le_of_ble_eq_true rfl, Nat.le_of_ble_eq_true rfl⟩ (GG_ok D cy) hG hS hFc hPc hDc hl.1 rfl (Nat.le_of_ble_eq_true rfl) ⟨Nat.le_of_ble_eq_true rfl, Nat.le_of_ble_eq_true rfl⟩ dX4_dropPoint_37) hFc hS (fun R_6 H1 locs1 hR_6 hP1 hD1 hS1 hk1 => ?_)
    have hR_6 : R_6 = (upr (fun i => (upr P 2 (shf ((P 2)) (12 * t + q) ((12 * t + (P 1 t)) - 1) 1)) (i + 3)) 0 (shf ((P 3)) (12 * t + q) ((12 * t + (P 1 t)) - 1) 1)) := hR_6
    subst hR_6
    have hDn : va_D (va_A (plW cy a P) sz) (plW cy a (upr (upr P 2 (shf ((P 2)) (12 * t + q) ((12 * t + (P 1 t)) - 1) 1)) 3 (shf ((P 3)) (12 * t + q) ((12 * t + (P 1 t)) - 1) 1))) := k_addr hD rfl
    have hPn := k_join (ws' := (plW cy a (upr (upr P 2 (shf ((P 2)) (12 * t + q) ((12 * t + (P 1 t)) - 1) 1)) 3 (shf ((P 3)) (12 * t + q) ((12 * t + (P 1 t)) - 1) 1)))) hP hD [3] [none, none, none, some 0, none, none, none, none, none] rfl hk1 hP1 rfl rfl
    clear hP hD hS hP1 hD1 hk1
    have hP := hPn
    have hD := hDn
    have hS := hS1
    clear hPn hDn hS1
    generalize H1 = H at hP hS ⊢
    generalize locs1 = locs at hS ⊢
    refine lv_aload_n hx hb dX4_dropPoint_40 rfl (lv_at hl 2 rfl) ?_
    refine va_get (D := D) (ci := 3) (v := .ref (a 4)) (C := RX4) (T := TX4) (N := 12) hx hb hts hinX4 hown hK hP 0 rfl rfl 7 (by decide) hm3 (fun _ h9 => h9) rfl dX4_dropPoint_41 ?_
    refine lv_iload_n hx hb dX4_dropPoint_44 rfl (lv_at hl 1 rfl) ?_
    refine k_iconst hx hb dX4_dropPoint_45 ?_
    refine lv_iload hx hb dX4_dropPoint_46 (lv_at hl 0 rfl) ?_
    have hPc := hP.sub (ws' := (arW 144 cy (fun i => a (i + 4)) (fun i => (upr (upr P 2 (shf ((P 2)) (12 * t + q) ((12 * t + (P 1 t)) - 1) 1)) 3 (shf ((P 3)) (12 * t + q) ((12 * t + (P 1 t)) - 1) 1)) (i + 4)))) [4] rfl
    have hDc := hD.sub (ws' := (arW 144 cy (fun i => a (i + 4)) (fun i => (upr (upr P 2 (shf ((P 2)) (12 * t + q) ((12 * t + (P 1 t)) - 1) 1)) 3 (shf ((P 3)) (12 * t + q) ((12 * t + (P 1 t)) - 1) 1)) (i + 4)))) [4] (by decide) rfl
    have hFc := va_free (wc := (arW 144 cy (fun i => a (i + 4)) (fun i => (upr (upr P 2 (shf ((P 2)) (12 * t + q) ((12 * t + (P 1 t)) - 1) 1)) 3 (shf ((P 3)) (12 * t + q) ((12 * t + (P 1 t)) - 1) 1)) (i + 4)))) hD hS hA [4] rfl
    refine k_muv (k_runS (As := [.ref (a 4), .int (iI (12 * t + q)), .int (iI 1), .int (iI (12 * t + (P 1 t)))]) (rest := []) ⟨hx, hb, hml, hown, hts⟩ (c_X4_closeUp l D cy H.size (fun i => a (i + 4)) (fun i => (upr (upr P 2 (shf ((P 2)) (12 * t + q) ((12 * t + (P 1 t)) - 1) 1)) 3 (shf ((P 3)) (12 * t + q) ((12 * t + (P 1 t)) - 1) 1)) (i + 4)) 144 (12 * t + q) 1 (12 * t + (P 1 t)) (show 0 ≤ (12 * t + q) ∧ (12 * t + q) ≤ 1000 by omega) (show 1 ≤ 1 ∧ 1 ≤ 12 by omega) (show 0 ≤ (12 * t + (P 1 t)) ∧ (12 * t + (P 1 t)) ≤ (144 : Int) by omega) (show (144 : Int) ≤ 1000 by omega)) gX4_dropPoint_X4_closeUp rfl ⟨rfl, rfl⟩ 4 rfl (by decide +kernel) ⟨Nat.le_of_ble_eq_true rfl, Nat.le_of_ble_eq_true rfl⟩ (GG_ok D cy) hG hS hFc hPc hDc hl.1 rfl (Nat.le_of_ble_eq_true rfl) ⟨Nat.le_of_ble_eq_true rfl, Nat.le_of_ble_eq_true rfl⟩ dX4_dropPoint_48) hFc hS (fun R_8 H1 locs1 hR_8 hP1 hD1 hS1 hk1 => ?_)
    have hR_8 : R_8 = (upr (fun i => (upr (upr P 2 (shf ((P 2)) (12 * t + q) ((12 * t + (P 1 t)) - 1) 1)) 3 (shf ((P 3)) (12 * t + q) ((12 * t + (P 1 t)) - 1) 1)) (i + 4)) 0 (shf ((P 4)) (12 * t + q) ((12 * t + (P 1 t)) - 1) 1)) := hR_8
    subst hR_8
    have hDn : va_D (va_A (plW cy a P) sz) (plW cy a (upr (upr (upr P 2 (shf ((P 2)) (12 * t + q) ((12 * t + (P 1 t)) - 1) 1)) 3 (shf ((P 3)) (12 * t + q) ((12 * t + (P 1 t)) - 1) 1)) 4 (shf ((P 4)) (12 * t + q) ((12 * t + (P 1 t)) - 1) 1))) := k_addr hD rfl
    have hPn := k_join (ws' := (plW cy a (upr (upr (upr P 2 (shf ((P 2)) (12 * t + q) ((12 * t + (P 1 t)) - 1) 1)) 3 (shf ((P 3)) (12 * t + q) ((12 * t + (P 1 t)) - 1) 1)) 4 (shf ((P 4)) (12 * t + q) ((12 * t + (P 1 t)) - 1) 1)))) hP hD [4] [none, none, none, none, some 0, none, none, none, none] rfl hk1 hP1 rfl rfl
    clear hP hD hS hP1 hD1 hk1
    have hP := hPn
    have hD := hDn
    have hS := hS1
    clear hPn hDn hS1
    generalize H1 = H at hP hS ⊢
    generalize locs1 = locs at hS ⊢
    refine lv_aload_n hx hb dX4_dropPoint_51 rfl (lv_at hl 2 rfl) ?_
    refine va_get (D := D) (ci := 3) (v := .ref (a 1)) (C := RX4) (T := TX4) (N := 12) hx hb hts hinX4 hown hK hP 0 rfl rfl 4 (by decide) hm0 (fun _ h9 => h9) rfl dX4_dropPoint_52 ?_
    refine lv_iload_n hx hb dX4_dropPoint_55 rfl (lv_at hl 3 rfl) ?_
    refine lv_dup2_11 hx hb dX4_dropPoint_56 rfl rfl ?_
    refine k_iald hx hb hK hP 1 0 (f := P 1) rfl rfl (i := t) (by omega) dX4_dropPoint_57 ?_
    refine k_iconst hx hb dX4_dropPoint_58 ?_
    refine k_isub hx hb dX4_dropPoint_59 ?_
    refine k_iast hx hb hK hP hD hS 1 0 (f := P 1) rfl rfl (i := t) (x := (P 1 t) - 1) (by omega) dX4_dropPoint_60 (fun H locs hP hD hS => ?_)
    have hP : va_P D vwCl (plW cy a (upr (upr (upr (upr P 1 (ups (P 1) t ((P 1 t) - 1))) 2 (shf ((P 2)) (12 * t + q) ((12 * t + (P 1 t)) - 1) 1)) 3 (shf ((P 3)) (12 * t + q) ((12 * t + (P 1 t)) - 1) 1)) 4 (shf ((P 4)) (12 * t + q) ((12 * t + (P 1 t)) - 1) 1))) H := hP
    have hD : va_D (va_A (plW cy a P) sz) (plW cy a (upr (upr (upr (upr P 1 (ups (P 1) t ((P 1 t) - 1))) 2 (shf ((P 2)) (12 * t + q) ((12 * t + (P 1 t)) - 1) 1)) 3 (shf ((P 3)) (12 * t + q) ((12 * t + (P 1 t)) - 1) 1)) 4 (shf ((P 4)) (12 * t + q) ((12 * t + (P 1 t)) - 1) 1))) := hD
    refine lv_aload_n hx hb dX4_dropPoint_61 rfl (lv_at hl 2 rfl) ?_
    refine va_get (D := D) (ci := 3) (v := .ref (a 1)) (C := RX4) (T := TX4) (N := 12) hx hb hts hinX4 hown hK hP 0 rfl rfl 4 (by decide) hm0 (fun _ h9 => h9) rfl dX4_dropPoint_62 ?_
    refine lv_iload_n hx hb dX4_dropPoint_65 rfl (lv_at hl 3 rfl) ?_
    refine k_iald hx hb hK hP 1 0 (f := ups (P 1) t ((P 1 t) - 1)) rfl rfl (i := t) (by omega) dX4_dropPoint_66 ?_
    refine k_eqI (v := (ups (P 1) t ((P 1 t) - 1)) t) (w := P 1 t - 1) (ups_eq _ _ _) ?_
    exact W.iret (v := iI (P 1 t - 1)) hx hb hr (fun t9 ht _ => ⟨⟨iI (P 1 t - 1), (upr (upr (upr (upr P 1 (ups (P 1) t ((P 1 t) - 1))) 2 (shf ((P 2)) (12 * t + q) ((12 * t + (P 1 t)) - 1) 1)) 3 (shf ((P 3)) (12 * t + q) ((12 * t + (P 1 t)) - 1) 1)) 4 (shf ((P 4)) (12 * t + q) ((12 * t + (P 1 t)) - 1) 1)), rfl, ⟨(P 1 t - 1), rfl, (⟨by first | rfl | omega, rfl⟩ : (P 1 t - 1 : Int) = P 1 t - 1 ∧ (upr (upr (upr (upr P 1 (ups (P 1) t ((P 1 t) - 1))) 2 (shf ((P 2)) (12 * t + q) ((12 * t + (P 1 t)) - 1) 1)) 3 (shf ((P 3)) (12 * t + q) ((12 * t + (P 1 t)) - 1) 1)) 4 (shf ((P 4)) (12 * t + q) ((12 * t + (P 1 t)) - 1) 1)) = (upr (upr (upr (upr P 1 (ups (P 1) t (P 1 t - 1))) 2 (shf (P 2) (12 * t + q) (12 * t + P 1 t - 1) 1)) 3 (shf (P 3) (12 * t + q) (12 * t + P 1 t - 1) 1)) 4 (shf (P 4) (12 * t + q) (12 * t + P 1 t - 1) 1)))⟩, by rw [ht]; exact hP, hD⟩, hS.F ht⟩) hS.2.2 dX4_dropPoint_67 hlocks
  exact hbody s.heap [] hP hS ls hl
set_option maxHeartbeats 4000000 in
set_option maxRecDepth 100000 in
theorem c_X4_dropStar (l : Launch) (D : va_G) (cy : Nat → ClassId) (sz : Nat) (a : Nat → Nat) (P : Nat → Int → Int) (u : Int) (hI : Inv (mO P)) (h0u : 0 ≤ u) (h1u : u < P 0 1) : Met l yX4_dropStar wsX4_dropStar { frames := 1, cells := 0, slots := 0, locals := 24 } (mPre (GG D cy) D (plW cy a P) sz ([.ref (a 0), .int (iI u)] : List Value)) (kQi D (plW cy a P) sz (fun u9 : Nat → Int → Int => plW cy a u9) (fun r9 u9 => r9 = P 0 1 - 1 ∧ u9 = (upr (upr (upr (upr P 0 (ups (P 0) 1 (P 0 1 - 1))) 5 (shf (P 5) u (P 0 1 - 1) 1)) 6 (shf (P 6) u (P 0 1 - 1) 1)) 7 (shf (P 7) u (P 0 1 - 1) 1)))) 0 0 (va_A (plW cy a P) sz) := by
  refine kM_start (cc := cX4_dropStar) (maxL := 2) (ret := (some .int)) (by decide) rfl (Nat.le_of_ble_eq_true rfl) ?_
  intro p e s m below meth c hx hb hr hlocks hml hts hown hsz hA hG hP hD hS hin ls hl
  have hK := hG.1
  have hl : lv_has ls 2 [(0, .ref (a 0)), (1, .int (iI u))] := hl
  have hinX4 : ∀ w ∈ u_ws RX4 TX4 12, w ∈ wsX4_dropStar := by decide +kernel
  have hm0 := hts (.fieldLink RX4 37 "ArcPlate$Plate" "radii" "[I") (by decide +kernel)
  have hm1 := hts (.fieldLink RX4 15 "ArcPlate$Plate" "stars" "I") (by decide +kernel)
  have hm2 := hts (.fieldLink RX4 40 "ArcPlate$Plate" "angles" "[I") (by decide +kernel)
  have hm3 := hts (.fieldLink RX4 43 "ArcPlate$Plate" "lights" "[I") (by decide +kernel)
  have hS0 := po_S hI
  have hbody : ∀ (H : Heap) (locs : List Loc) (hP : va_P D vwCl (plW cy a P) H) (hS : va_S (va_A (plW cy a P) sz) s.heap H locs) (ls : Array Slot) (hl : lv_has ls 2 [(0, .ref (a 0)), (1, .int (iI u))]), W p l e { frames := 1, cells := 0, slots := 0, locals := 24 } s m ([.ref (a 0), .int (iI u)] : List Value).toArray below meth c H locs 0 0 (MQ below (kQi D (plW cy a P) sz (fun u9 : Nat → Int → Int => plW cy a u9) (fun r9 u9 => r9 = P 0 1 - 1 ∧ u9 = (upr (upr (upr (upr P 0 (ups (P 0) 1 (P 0 1 - 1))) 5 (shf (P 5) u (P 0 1 - 1) 1)) 6 (shf (P 6) u (P 0 1 - 1) 1)) 7 (shf (P 7) u (P 0 1 - 1) 1)))) ([.ref (a 0), .int (iI u)] : List Value).toArray s 0 0 (va_A (plW cy a P) sz)) (F0 m 0 ls []) := by
    intro H locs hP hS ls hl
    refine lv_aload_n hx hb dX4_dropStar_0 rfl (lv_at hl 0 rfl) ?_
    refine va_get (D := D) (ci := 3) (v := .ref (a 5)) (C := RX4) (T := TX4) (N := 12) hx hb hts hinX4 hown hK hP 0 rfl rfl 8 (by decide) hm0 (fun _ h9 => h9) rfl dX4_dropStar_1 ?_
    refine lv_iload_n hx hb dX4_dropStar_4 rfl (lv_at hl 1 rfl) ?_
    refine k_iconst hx hb dX4_dropStar_5 ?_
    refine lv_aload_n hx hb dX4_dropStar_6 rfl (lv_at hl 0 rfl) ?_
    refine va_get (D := D) (ci := 3) (v := .int (iI (P 0 1))) (C := RX4) (T := TX4) (N := 12) hx hb hts hinX4 hown hK hP 0 rfl rfl 1 (by decide) hm1 (fun _ h9 => h9) rfl dX4_dropStar_7 ?_
    have hPc := hP.sub (ws' := (arW 12 cy (fun i => a (i + 5)) (fun i => P (i + 5)))) [5] rfl
    have hDc := hD.sub (ws' := (arW 12 cy (fun i => a (i + 5)) (fun i => P (i + 5)))) [5] (by decide) rfl
    have hFc := va_free (wc := (arW 12 cy (fun i => a (i + 5)) (fun i => P (i + 5)))) hD hS hA [5] rfl
    refine k_muv (k_runS (As := [.ref (a 5), .int (iI u), .int (iI 1), .int (iI (P 0 1))]) (rest := []) ⟨hx, hb, hml, hown, hts⟩ (c_X4_closeUp l D cy H.size (fun i => a (i + 5)) (fun i => P (i + 5)) 12 u 1 (P 0 1) (show 0 ≤ u ∧ u ≤ 1000 by omega) (show 1 ≤ 1 ∧ 1 ≤ 12 by omega) (show 0 ≤ (P 0 1) ∧ (P 0 1) ≤ (12 : Int) by omega) (show (12 : Int) ≤ 1000 by omega)) gX4_dropStar_X4_closeUp rfl ⟨rfl, rfl⟩ 4 rfl (by decide +kernel) ⟨Nat.le_of_ble_eq_true rfl, Nat.le_of_ble_eq_true rfl⟩ (GG_ok D cy) hG hS hFc hPc hDc hl.1 rfl (Nat.le_of_ble_eq_true rfl) ⟨Nat.le_of_ble_eq_true rfl, Nat.le_of_ble_eq_true rfl⟩ dX4_dropStar_10) hFc hS (fun R_2 H1 locs1 hR_2 hP1 hD1 hS1 hk1 => ?_)
    have hR_2 : R_2 = (upr (fun i => P (i + 5)) 0 (shf ((P 5)) u ((P 0 1) - 1) 1)) := hR_2
    subst hR_2
    have hDn : va_D (va_A (plW cy a P) sz) (plW cy a (upr P 5 (shf ((P 5)) u ((P 0 1) - 1) 1))) := k_addr hD rfl
    have hPn := k_join (ws' := (plW cy a (upr P 5 (shf ((P 5)) u ((P 0 1) - 1) 1)))) hP hD [5] [none, none, none, none, none, some 0, none, none, none] rfl hk1 hP1 rfl rfl
    clear hP hD hS hP1 hD1 hk1
    have hP := hPn
    have hD := hDn
    have hS := hS1
    clear hPn hDn hS1
    generalize H1 = H at hP hS ⊢
    generalize locs1 = locs at hS ⊢
    refine lv_aload_n hx hb dX4_dropStar_13 rfl (lv_at hl 0 rfl) ?_
    refine va_get (D := D) (ci := 3) (v := .ref (a 6)) (C := RX4) (T := TX4) (N := 12) hx hb hts hinX4 hown hK hP 0 rfl rfl 9 (by decide) hm2 (fun _ h9 => h9) rfl dX4_dropStar_14 ?_
    refine lv_iload_n hx hb dX4_dropStar_17 rfl (lv_at hl 1 rfl) ?_
    refine k_iconst hx hb dX4_dropStar_18 ?_
    refine lv_aload_n hx hb dX4_dropStar_19 rfl (lv_at hl 0 rfl) ?_
    refine va_get (D := D) (ci := 3) (v := .int (iI (P 0 1))) (C := RX4) (T := TX4) (N := 12) hx hb hts hinX4 hown hK hP 0 rfl rfl 1 (by decide) hm1 (fun _ h9 => h9) rfl dX4_dropStar_20 ?_
    have hPc := hP.sub (ws' := (arW 12 cy (fun i => a (i + 6)) (fun i => (upr P 5 (shf ((P 5)) u ((P 0 1) - 1) 1)) (i + 6)))) [6] rfl
    have hDc := hD.sub (ws' := (arW 12 cy (fun i => a (i + 6)) (fun i => (upr P 5 (shf ((P 5)) u ((P 0 1) - 1) 1)) (i + 6)))) [6] (by decide) rfl
    have hFc := va_free (wc := (arW 12 cy (fun i => a (i + 6)) (fun i => (upr P 5 (shf ((P 5)) u ((P 0 1) - 1) 1)) (i + 6)))) hD hS hA [6] rfl
    refine k_muv (k_runS (As := [.ref (a 6), .int (iI u), .int (iI 1), .int (iI (P 0 1))]) (rest := []) ⟨hx, hb, hml, hown, hts⟩ (c_X4_closeUp l D cy H.size (fun i => a (i + 6)) (fun i => (upr P 5 (shf ((P 5)) u ((P 0 1) - 1) 1)) (i + 6)) 12 u 1 (P 0 1) (show 0 ≤ u ∧ u ≤ 1000 by omega) (show 1 ≤ 1 ∧ 1 ≤ 12 by omega) (show 0 ≤ (P 0 1) ∧ (P 0 1) ≤ (12 : Int) by omega) (show (12 : Int) ≤ 1000 by omega)) gX4_dropStar_X4_closeUp rfl ⟨rfl, rfl⟩ 4 rfl (by decide +kernel) ⟨Nat.le_of_ble_eq_true rfl, Nat.le_of_ble_eq_true rfl⟩ (GG_ok D cy) hG hS hFc hPc hDc hl.1 rfl (Nat.le_of_ble_eq_true rfl) ⟨Nat.le_of_ble_eq_true rfl, Nat.le_of_ble_eq_true rfl⟩ dX4_dropStar_23) hFc hS (fun R_4 H1 locs1 hR_4 hP1 hD1 hS1 hk1 => ?_)
    have hR_4 : R_4 = (upr (fun i => (upr P 5 (shf ((P 5)) u ((P 0 1) - 1) 1)) (i + 6)) 0 (shf ((P 6)) u ((P 0 1) - 1) 1)) := hR_4
    subst hR_4
    have hDn : va_D (va_A (plW cy a P) sz) (plW cy a (upr (upr P 5 (shf ((P 5)) u ((P 0 1) - 1) 1)) 6 (shf ((P 6)) u ((P 0 1) - 1) 1))) := k_addr hD rfl
    have hPn := k_join (ws' := (plW cy a (upr (upr P 5 (shf ((P 5)) u ((P 0 1) - 1) 1)) 6 (shf ((P 6)) u ((P 0 1) - 1) 1)))) hP hD [6] [none, none, none, none, none, none, some 0, none, none] rfl hk1 hP1 rfl rfl
    clear hP hD hS hP1 hD1 hk1
    have hP := hPn
    have hD := hDn
    have hS := hS1
    clear hPn hDn hS1
    generalize H1 = H at hP hS ⊢
    generalize locs1 = locs at hS ⊢
    refine lv_aload_n hx hb dX4_dropStar_26 rfl (lv_at hl 0 rfl) ?_
    refine va_get (D := D) (ci := 3) (v := .ref (a 7)) (C := RX4) (T := TX4) (N := 12) hx hb hts hinX4 hown hK hP 0 rfl rfl 10 (by decide) hm3 (fun _ h9 => h9) rfl dX4_dropStar_27 ?_
    refine lv_iload_n hx hb dX4_dropStar_30 rfl (lv_at hl 1 rfl) ?_
    refine k_iconst hx hb dX4_dropStar_31 ?_
    refine lv_aload_n hx hb dX4_dropStar_32 rfl (lv_at hl 0 rfl) ?_
    refine va_get (D := D) (ci := 3) (v := .int (iI (P 0 1))) (C := RX4) (T := TX4) (N := 12) hx hb hts hinX4 hown hK hP 0 rfl rfl 1 (by decide) hm1 (fun _ h9 => h9) rfl dX4_dropStar_33 ?_
    have hPc := hP.sub (ws' := (arW 12 cy (fun i => a (i + 7)) (fun i => (upr (upr P 5 (shf ((P 5)) u ((P 0 1) - 1) 1)) 6 (shf ((P 6)) u ((P 0 1) - 1) 1)) (i + 7)))) [7] rfl
    have hDc := hD.sub (ws' := (arW 12 cy (fun i => a (i + 7)) (fun i => (upr (upr P 5 (shf ((P 5)) u ((P 0 1) - 1) 1)) 6 (shf ((P 6)) u ((P 0 1) - 1) 1)) (i + 7)))) [7] (by decide) rfl
    have hFc := va_free (wc := (arW 12 cy (fun i => a (i + 7)) (fun i => (upr (upr P 5 (shf ((P 5)) u ((P 0 1) - 1) 1)) 6 (shf ((P 6)) u ((P 0 1) - 1) 1)) (i + 7)))) hD hS hA [7] rfl
    refine k_muv (k_runS (As := [.ref (a 7), .int (iI u), .int (iI 1), .int (iI (P 0 1))]) (rest := []) ⟨hx, hb, hml, hown, hts⟩ (c_X4_closeUp l D cy H.size (fun i => a (i + 7)) (fun i => (upr (upr P 5 (shf ((P 5)) u ((P 0 1) - 1) 1)) 6 (shf ((P 6)) u ((P 0 1) - 1) 1)) (i + 7)) 12 u 1 (P 0 1) (show 0 ≤ u ∧ u ≤ 1000 by omega) (show 1 ≤ 1 ∧ 1 ≤ 12 by omega) (show 0 ≤ (P 0 1) ∧ (P 0 1) ≤ (12 : Int) by omega) (show (12 : Int) ≤ 1000 by omega)) gX4_dropStar_X4_closeUp rfl ⟨rfl, rfl⟩ 4 rfl (by decide +kernel) ⟨Nat.le_of_ble_eq_true rfl, Nat.le_of_ble_eq_true rfl⟩ (GG_ok D cy) hG hS hFc hPc hDc hl.1 rfl (Nat.le_of_ble_eq_true rfl) ⟨Nat.le_of_ble_eq_true rfl, Nat.le_of_ble_eq_true rfl⟩ dX4_dropStar_36) hFc hS (fun R_6 H1 locs1 hR_6 hP1 hD1 hS1 hk1 => ?_)
    have hR_6 : R_6 = (upr (fun i => (upr (upr P 5 (shf ((P 5)) u ((P 0 1) - 1) 1)) 6 (shf ((P 6)) u ((P 0 1) - 1) 1)) (i + 7)) 0 (shf ((P 7)) u ((P 0 1) - 1) 1)) := hR_6
    subst hR_6
    have hDn : va_D (va_A (plW cy a P) sz) (plW cy a (upr (upr (upr P 5 (shf ((P 5)) u ((P 0 1) - 1) 1)) 6 (shf ((P 6)) u ((P 0 1) - 1) 1)) 7 (shf ((P 7)) u ((P 0 1) - 1) 1))) := k_addr hD rfl
    have hPn := k_join (ws' := (plW cy a (upr (upr (upr P 5 (shf ((P 5)) u ((P 0 1) - 1) 1)) 6 (shf ((P 6)) u ((P 0 1) - 1) 1)) 7 (shf ((P 7)) u ((P 0 1) - 1) 1)))) hP hD [7] [none, none, none, none, none, none, none, some 0, none] rfl hk1 hP1 rfl rfl
    clear hP hD hS hP1 hD1 hk1
    have hP := hPn
    have hD := hDn
    have hS := hS1
    clear hPn hDn hS1
    generalize H1 = H at hP hS ⊢
    generalize locs1 = locs at hS ⊢
    refine lv_aload_n hx hb dX4_dropStar_39 rfl (lv_at hl 0 rfl) ?_
    refine lv_dup hx hb dX4_dropStar_40 rfl ?_
    refine va_get (D := D) (ci := 3) (v := .int (iI (P 0 1))) (C := RX4) (T := TX4) (N := 12) hx hb hts hinX4 hown hK hP 0 rfl rfl 1 (by decide) hm1 (fun _ h9 => h9) rfl dX4_dropStar_41 ?_
    refine k_iconst hx hb dX4_dropStar_44 ?_
    refine k_isub hx hb dX4_dropStar_45 ?_
    refine va_put (D := D) (ci := 3) (v := .int (iI ((P 0 1) - 1))) (ty := .int) (C := RX4) (T := TX4) (N := 12) hx hb hts hinX4 tyX4 tyX4_ok nmX4 hown hK hP hD hS 0 rfl rfl 1 (by decide) hm1 (fun _ h9 => h9) rfl (by decide +kernel) rfl rfl (Nat.le_of_ble_eq_true rfl) dX4_dropStar_46 (fun H locs hP hD hS => ?_)
    have hP : va_P D vwCl (plW cy a (upr (upr (upr (upr P 0 (ups (P 0) 1 ((P 0 1) - 1))) 5 (shf ((P 5)) u ((P 0 1) - 1) 1)) 6 (shf ((P 6)) u ((P 0 1) - 1) 1)) 7 (shf ((P 7)) u ((P 0 1) - 1) 1))) H := hP
    have hD : va_D (va_A (plW cy a P) sz) (plW cy a (upr (upr (upr (upr P 0 (ups (P 0) 1 ((P 0 1) - 1))) 5 (shf ((P 5)) u ((P 0 1) - 1) 1)) 6 (shf ((P 6)) u ((P 0 1) - 1) 1)) 7 (shf ((P 7)) u ((P 0 1) - 1) 1))) := hD
    refine lv_aload_n hx hb dX4_dropStar_49 rfl (lv_at hl 0 rfl) ?_
    refine va_get (D := D) (ci := 3) (v := .int (iI ((P 0 1) - 1))) (C := RX4) (T := TX4) (N := 12) hx hb hts hinX4 hown hK hP 0 rfl rfl 1 (by decide) hm1 (fun _ h9 => h9) rfl dX4_dropStar_50 ?_
    exact W.iret (v := iI ((P 0 1) - 1)) hx hb hr (fun t9 ht _ => ⟨⟨iI ((P 0 1) - 1), (upr (upr (upr (upr P 0 (ups (P 0) 1 ((P 0 1) - 1))) 5 (shf ((P 5)) u ((P 0 1) - 1) 1)) 6 (shf ((P 6)) u ((P 0 1) - 1) 1)) 7 (shf ((P 7)) u ((P 0 1) - 1) 1)), rfl, ⟨((P 0 1) - 1), rfl, (⟨by first | rfl | omega, rfl⟩ : ((P 0 1) - 1 : Int) = P 0 1 - 1 ∧ (upr (upr (upr (upr P 0 (ups (P 0) 1 ((P 0 1) - 1))) 5 (shf ((P 5)) u ((P 0 1) - 1) 1)) 6 (shf ((P 6)) u ((P 0 1) - 1) 1)) 7 (shf ((P 7)) u ((P 0 1) - 1) 1)) = (upr (upr (upr (upr P 0 (ups (P 0) 1 (P 0 1 - 1))) 5 (shf (P 5) u (P 0 1 - 1) 1)) 6 (shf (P 6) u (P 0 1 - 1) 1)) 7 (shf (P 7) u (P 0 1 - 1) 1)))⟩, by rw [ht]; exact hP, hD⟩, hS.F ht⟩) hS.2.2 dX4_dropStar_53 hlocks
  exact hbody s.heap [] hP hS ls hl
set_option maxHeartbeats 4000000 in
set_option maxRecDepth 100000 in
theorem c_X4_putPoint (l : Launch) (D : va_G) (cy : Nat → ClassId) (sz : Nat) (a : Nat → Nat) (P : Nat → Int → Int) (t f x y : Int) (hI : Inv (mO P)) (h0 : 0 ≤ t) (h1 : t < P 0 0) (hrf : -2147483648 ≤ f ∧ f ≤ 2147483647) (hp12 : P 1 t < 12) (hnf : ¬ hasF (mO P) t f) : Met l yX4_putPoint wsX4_putPoint { frames := 1, cells := 0, slots := 0, locals := 24 } (mPre (GG D cy) D (plW cy a P) sz ([.ref (a 0), .int (iI t), .int (iI f), .int (iI x), .int (iI y)] : List Value)) (kQi D (plW cy a P) sz (fun u9 : Nat → Int → Int => plW cy a u9) (fun r9 u9 => r9 = posF (mO P) t f ∧ u9 = (upr (upr (upr (upr P 1 (ups (P 1) t (P 1 t + 1))) 2 (ups (shb (P 2) (12 * t + posF (mO P) t f + 1) (12 * t + P 1 t + 1) 1) (12 * t + posF (mO P) t f) f)) 3 (ups (shb (P 3) (12 * t + posF (mO P) t f + 1) (12 * t + P 1 t + 1) 1) (12 * t + posF (mO P) t f) x)) 4 (ups (shb (P 4) (12 * t + posF (mO P) t f + 1) (12 * t + P 1 t + 1) 1) (12 * t + posF (mO P) t f) y)))) 0 0 (va_A (plW cy a P) sz) := by
  refine kM_start (cc := cX4_putPoint) (maxL := 8) (ret := (some .int)) (by decide) rfl (Nat.le_of_ble_eq_true rfl) ?_
  intro p e s m below meth c hx hb hr hlocks hml hts hown hsz hA hG hP hD hS hin ls hl
  have hK := hG.1
  have hl : lv_has ls 8 [(0, .ref (a 0)), (1, .int (iI t)), (2, .int (iI f)), (3, .int (iI x)), (4, .int (iI y))] := hl
  have hinX4 : ∀ w ∈ u_ws RX4 TX4 12, w ∈ wsX4_putPoint := by decide +kernel
  have hm0 := hts (.fieldLink RX4 24 "ArcPlate$Plate" "points" "[I") (by decide +kernel)
  have hm1 := hts (.fieldLink RX4 28 "ArcPlate$Plate" "frames" "[I") (by decide +kernel)
  have hm2 := hts (.fieldLink RX4 31 "ArcPlate$Plate" "xs" "[I") (by decide +kernel)
  have hm3 := hts (.fieldLink RX4 34 "ArcPlate$Plate" "ys" "[I") (by decide +kernel)
  have hS0 := po_S hI
  have hp := po_pts hI h0 h1
  have hiff := hasP_iff (f := f) hI h0 h1
  have hbody : ∀ (H : Heap) (locs : List Loc) (hP : va_P D vwCl (plW cy a P) H) (hS : va_S (va_A (plW cy a P) sz) s.heap H locs) (ls : Array Slot) (hl : lv_has ls 8 [(0, .ref (a 0)), (1, .int (iI t)), (2, .int (iI f)), (3, .int (iI x)), (4, .int (iI y))]), W p l e { frames := 1, cells := 0, slots := 0, locals := 24 } s m ([.ref (a 0), .int (iI t), .int (iI f), .int (iI x), .int (iI y)] : List Value).toArray below meth c H locs 0 0 (MQ below (kQi D (plW cy a P) sz (fun u9 : Nat → Int → Int => plW cy a u9) (fun r9 u9 => r9 = posF (mO P) t f ∧ u9 = (upr (upr (upr (upr P 1 (ups (P 1) t (P 1 t + 1))) 2 (ups (shb (P 2) (12 * t + posF (mO P) t f + 1) (12 * t + P 1 t + 1) 1) (12 * t + posF (mO P) t f) f)) 3 (ups (shb (P 3) (12 * t + posF (mO P) t f + 1) (12 * t + P 1 t + 1) 1) (12 * t + posF (mO P) t f) x)) 4 (ups (shb (P 4) (12 * t + posF (mO P) t f + 1) (12 * t + P 1 t + 1) 1) (12 * t + posF (mO P) t f) y)))) ([.ref (a 0), .int (iI t), .int (iI f), .int (iI x), .int (iI y)] : List Value).toArray s 0 0 (va_A (plW cy a P) sz)) (F0 m 0 ls []) := by
    intro H locs hP hS ls hl
    refine k_iconst hx hb dX4_putPoint_0 ?_
    refine lv_istore (lv' := [(5, .int (iI 0)), (0, .ref (a 0)), (1, .int (iI t)), (2, .int (iI f)), (3, .int (iI x)), (4, .int (iI y))]) hx hb dX4_putPoint_1 hl (by decide) rfl (fun ls hl => ?_)
    have loop3 : ∀ (n_1 : Nat) (q : Int) (hi0 : 0 ≤ q) (hi1 : q ≤ P 1 t) (hi2 : ∀ k : Int, 0 ≤ k → k < q → P 2 (12 * t + k) < f) (hn : P 1 t - q < (n_1 : Int)) (ls : Array Slot) (hl : lv_has ls 8 [(5, .int (iI q)), (0, .ref (a 0)), (1, .int (iI t)), (2, .int (iI f)), (3, .int (iI x)), (4, .int (iI y))]), W p l e { frames := 1, cells := 0, slots := 0, locals := 24 } s m ([.ref (a 0), .int (iI t), .int (iI f), .int (iI x), .int (iI y)] : List Value).toArray below meth c H locs 0 0 (MQ below (kQi D (plW cy a P) sz (fun u9 : Nat → Int → Int => plW cy a u9) (fun r9 u9 => r9 = posF (mO P) t f ∧ u9 = (upr (upr (upr (upr P 1 (ups (P 1) t (P 1 t + 1))) 2 (ups (shb (P 2) (12 * t + posF (mO P) t f + 1) (12 * t + P 1 t + 1) 1) (12 * t + posF (mO P) t f) f)) 3 (ups (shb (P 3) (12 * t + posF (mO P) t f + 1) (12 * t + P 1 t + 1) 1) (12 * t + posF (mO P) t f) x)) 4 (ups (shb (P 4) (12 * t + posF (mO P) t f + 1) (12 * t + P 1 t + 1) 1) (12 * t + posF (mO P) t f) y)))) ([.ref (a 0), .int (iI t), .int (iI f), .int (iI x), .int (iI y)] : List Value).toArray s 0 0 (va_A (plW cy a P) sz)) (F0 m 3 ls []) := by
      intro n_1
      induction n_1 with
      | zero => intro q hi0 hi1 hi2 hn ls hl; exfalso; omega
      | succ n_1 ih3 =>
        intro q hi0 hi1 hi2 hn ls hl
        refine lv_iload hx hb dX4_putPoint_3 (lv_at hl 0 rfl) ?_
        refine lv_aload_n hx hb dX4_putPoint_5 rfl (lv_at hl 1 rfl) ?_
        refine va_get (D := D) (ci := 3) (v := .ref (a 1)) (C := RX4) (T := TX4) (N := 12) hx hb hts hinX4 hown hK hP 0 rfl rfl 4 (by decide) hm0 (fun _ h9 => h9) rfl dX4_putPoint_6 ?_
        refine lv_iload_n hx hb dX4_putPoint_9 rfl (lv_at hl 2 rfl) ?_
        refine k_iald hx hb hK hP 1 0 (f := P 1) rfl rfl (i := t) (by omega) dX4_putPoint_10 ?_
        refine k_icmp_ge (tgt := 35) hx hb dX4_putPoint_11 (by decide) (by omega) (by omega) (fun c_2 => ?_) (fun c_2 => ?_)
        · skip
          have e9 : posF (mO P) t f = q := posP_of hI h0 h1 hi0 hi1 hi2 (by omega)
          refine lv_iload_n hx hb dX4_putPoint_35 rfl (lv_at hl 2 rfl) ?_
          refine lv_iload hx hb dX4_putPoint_36 (lv_at hl 0 rfl) ?_
          refine k_roS (As := [.int (iI t), .int (iI q)]) (rest := []) ⟨hx, hb, hml, hown, hts⟩ (c_X4_slot l D t q ) gX4_putPoint_X4_slot rfl ⟨rfl, rfl⟩ 2 rfl (by decide +kernel) ⟨Nat.le_of_ble_eq_true rfl, Nat.le_of_ble_eq_true rfl⟩ kGT_ok trivial (fun k q h => by simp at h) hl.1 rfl (Nat.le_of_ble_eq_true rfl) ⟨Nat.le_of_ble_eq_true rfl, Nat.le_of_ble_eq_true rfl⟩ dX4_putPoint_38 (fun r_3 hr_3 => ?_)
          have hr_3 : r_3 = 12 * t + q := hr_3
          subst hr_3
          refine lv_istore (lv' := [(6, .int (iI (12 * t + q))), (5, .int (iI q)), (0, .ref (a 0)), (1, .int (iI t)), (2, .int (iI f)), (3, .int (iI x)), (4, .int (iI y))]) hx hb dX4_putPoint_41 hl (by decide) rfl (fun ls hl => ?_)
          refine lv_iload_n hx hb dX4_putPoint_43 rfl (lv_at hl 3 rfl) ?_
          refine lv_aload_n hx hb dX4_putPoint_44 rfl (lv_at hl 2 rfl) ?_
          refine va_get (D := D) (ci := 3) (v := .ref (a 1)) (C := RX4) (T := TX4) (N := 12) hx hb hts hinX4 hown hK hP 0 rfl rfl 4 (by decide) hm0 (fun _ h9 => h9) rfl dX4_putPoint_45 ?_
          refine lv_iload_n hx hb dX4_putPoint_48 rfl (lv_at hl 3 rfl) ?_
          refine k_iald hx hb hK hP 1 0 (f := P 1) rfl rfl (i := t) (by omega) dX4_putPoint_49 ?_
          refine k_roS (As := [.int (iI t), .int (iI (P 1 t))]) (rest := []) ⟨hx, hb, hml, hown, hts⟩ (c_X4_slot l D t (P 1 t) ) gX4_putPoint_X4_slot rfl ⟨rfl, rfl⟩ 2 rfl (by decide +kernel) ⟨Nat.le_of_ble_eq_true rfl, Nat.le_of_ble_eq_true rfl⟩ kGT_ok trivial (fun k q h => by simp at h) hl.1 rfl (Nat.le_of_ble_eq_true rfl) ⟨Nat.le_of_ble_eq_true rfl, Nat.le_of_ble_eq_true rfl⟩ dX4_putPoint_50 (fun r_4 hr_4 => ?_)
          have hr_4 : r_4 = 12 * t + (P 1 t) := hr_4
          subst hr_4
          refine lv_istore (lv' := [(7, .int (iI (12 * t + (P 1 t)))), (6, .int (iI (12 * t + q))), (5, .int (iI q)), (0, .ref (a 0)), (1, .int (iI t)), (2, .int (iI f)), (3, .int (iI x)), (4, .int (iI y))]) hx hb dX4_putPoint_53 hl (by decide) rfl (fun ls hl => ?_)
          refine lv_aload_n hx hb dX4_putPoint_55 rfl (lv_at hl 3 rfl) ?_
          refine va_get (D := D) (ci := 3) (v := .ref (a 2)) (C := RX4) (T := TX4) (N := 12) hx hb hts hinX4 hown hK hP 0 rfl rfl 5 (by decide) hm1 (fun _ h9 => h9) rfl dX4_putPoint_56 ?_
          refine lv_iload hx hb dX4_putPoint_59 (lv_at hl 1 rfl) ?_
          refine lv_iload hx hb dX4_putPoint_61 (lv_at hl 0 rfl) ?_
          refine lv_iload_n hx hb dX4_putPoint_63 rfl (lv_at hl 5 rfl) ?_
          have hPc := hP.sub (ws' := (arW 144 cy (fun i => a (i + 2)) (fun i => P (i + 2)))) [2] rfl
          have hDc := hD.sub (ws' := (arW 144 cy (fun i => a (i + 2)) (fun i => P (i + 2)))) [2] (by decide) rfl
          have hFc := va_free (wc := (arW 144 cy (fun i => a (i + 2)) (fun i => P (i + 2)))) hD hS hA [2] rfl
          refine k_muv (k_runS (As := [.ref (a 2), .int (iI (12 * t + q)), .int (iI (12 * t + (P 1 t))), .int (iI f)]) (rest := []) ⟨hx, hb, hml, hown, hts⟩ (c_X4_insert l D cy H.size (fun i => a (i + 2)) (fun i => P (i + 2)) 144 (12 * t + q) (12 * t + (P 1 t)) f (show 0 ≤ (12 * t + q) ∧ (12 * t + q) ≤ (12 * t + (P 1 t)) by omega) (show (12 * t + (P 1 t)) < (144 : Int) by omega) (show (144 : Int) ≤ 1000 by omega)) gX4_putPoint_X4_insert rfl ⟨rfl, rfl⟩ 4 rfl (by decide +kernel) ⟨Nat.le_of_ble_eq_true rfl, Nat.le_of_ble_eq_true rfl⟩ (GG_ok D cy) hG hS hFc hPc hDc hl.1 rfl (Nat.le_of_ble_eq_true rfl) ⟨Nat.le_of_ble_eq_true rfl, Nat.le_of_ble_eq_true rfl⟩ dX4_putPoint_64) hFc hS (fun R_6 H1 locs1 hR_6 hP1 hD1 hS1 hk1 => ?_)
          have hR_6 : R_6 = (upr (fun i => P (i + 2)) 0 (ups (shb ((P 2)) ((12 * t + q) + 1) ((12 * t + (P 1 t)) + 1) 1) (12 * t + q) f)) := hR_6
          subst hR_6
          have hDn : va_D (va_A (plW cy a P) sz) (plW cy a (upr P 2 (ups (shb ((P 2)) ((12 * t + q) + 1) ((12 * t + (P 1 t)) + 1) 1) (12 * t + q) f))) := k_addr hD rfl
          have hPn := k_join (ws' := (plW cy a (upr P 2 (ups (shb ((P 2)) ((12 * t + q) + 1) ((12 * t + (P 1 t)) + 1) 1) (12 * t + q) f)))) hP hD [2] [none, none, some 0, none, none, none, none, none, none] rfl hk1 hP1 rfl rfl
          clear hP hD hS hP1 hD1 hk1
          have hP := hPn
          have hD := hDn
          have hS := hS1
          clear hPn hDn hS1
          generalize H1 = H at hP hS ⊢
          generalize locs1 = locs at hS ⊢
          refine lv_aload_n hx hb dX4_putPoint_67 rfl (lv_at hl 3 rfl) ?_
          refine va_get (D := D) (ci := 3) (v := .ref (a 3)) (C := RX4) (T := TX4) (N := 12) hx hb hts hinX4 hown hK hP 0 rfl rfl 6 (by decide) hm2 (fun _ h9 => h9) rfl dX4_putPoint_68 ?_
          refine lv_iload hx hb dX4_putPoint_71 (lv_at hl 1 rfl) ?_
          refine lv_iload hx hb dX4_putPoint_73 (lv_at hl 0 rfl) ?_
          refine lv_iload_n hx hb dX4_putPoint_75 rfl (lv_at hl 6 rfl) ?_
          have hPc := hP.sub (ws' := (arW 144 cy (fun i => a (i + 3)) (fun i => (upr P 2 (ups (shb ((P 2)) ((12 * t + q) + 1) ((12 * t + (P 1 t)) + 1) 1) (12 * t + q) f)) (i + 3)))) [3] rfl
          have hDc := hD.sub (ws' := (arW 144 cy (fun i => a (i + 3)) (fun i => (upr P 2 (ups (shb ((P 2)) ((12 * t + q) + 1) ((12 * t + (P 1 t)) + 1) 1) (12 * t + q) f)) (i + 3)))) [3] (by decide) rfl
          have hFc := va_free (wc := (arW 144 cy (fun i => a (i + 3)) (fun i => (upr P 2 (ups (shb ((P 2)) ((12 * t + q) + 1) ((12 * t + (P 1 t)) + 1) 1) (12 * t + q) f)) (i + 3)))) hD hS hA [3] rfl
          refine k_muv (k_runS (As := [.ref (a 3), .int (iI (12 * t + q)), .int (iI (12 * t + (P 1 t))), .int (iI x)]) (rest := []) ⟨hx, hb, hml, hown, hts⟩ (c_X4_insert l D cy H.size (fun i => a (i + 3)) (fun i => (upr P 2 (ups (shb ((P 2)) ((12 * t + q) + 1) ((12 * t + (P 1 t)) + 1) 1) (12 * t + q) f)) (i + 3)) 144 (12 * t + q) (12 * t + (P 1 t)) x (show 0 ≤ (12 * t + q) ∧ (12 * t + q) ≤ (12 * t + (P 1 t)) by omega) (show (12 * t + (P 1 t)) < (144 : Int) by omega) (show (144 : Int) ≤ 1000 by omega)) gX4_putPoint_X4_insert rfl ⟨rfl, rfl⟩ 4 rfl (by decide +kernel) ⟨Nat.le_of_ble_eq_true rfl, Nat.le_of_ble_eq_true rfl⟩ (GG_ok D cy) hG hS hFc hPc hDc hl.1 rfl (Nat.le_of_ble_eq_true rfl) ⟨Nat.le_of_ble_eq_true rfl, Nat.le_of_ble_eq_true rfl⟩ dX4_putPoint_76) hFc hS (fun R_8 H1 locs1 hR_8 hP1 hD1 hS1 hk1 => ?_)
          have hR_8 : R_8 = (upr (fun i => (upr P 2 (ups (shb ((P 2)) ((12 * t + q) + 1) ((12 * t + (P 1 t)) + 1) 1) (12 * t + q) f)) (i + 3)) 0 (ups (shb ((P 3)) ((12 * t + q) + 1) ((12 * t + (P 1 t)) + 1) 1) (12 * t + q) x)) := hR_8
          subst hR_8
          have hDn : va_D (va_A (plW cy a P) sz) (plW cy a (upr (upr P 2 (ups (shb ((P 2)) ((12 * t + q) + 1) ((12 * t + (P 1 t)) + 1) 1) (12 * t + q) f)) 3 (ups (shb ((P 3)) ((12 * t + q) + 1) ((12 * t + (P 1 t)) + 1) 1) (12 * t + q) x))) := k_addr hD rfl
          have hPn := k_join (ws' := (plW cy a (upr (upr P 2 (ups (shb ((P 2)) ((12 * t + q) + 1) ((12 * t + (P 1 t)) + 1) 1) (12 * t + q) f)) 3 (ups (shb ((P 3)) ((12 * t + q) + 1) ((12 * t + (P 1 t)) + 1) 1) (12 * t + q) x)))) hP hD [3] [none, none, none, some 0, none, none, none, none, none] rfl hk1 hP1 rfl rfl
          clear hP hD hS hP1 hD1 hk1
          have hP := hPn
          have hD := hDn
          have hS := hS1
          clear hPn hDn hS1
          generalize H1 = H at hP hS ⊢
          generalize locs1 = locs at hS ⊢
          refine lv_aload_n hx hb dX4_putPoint_79 rfl (lv_at hl 3 rfl) ?_
          refine va_get (D := D) (ci := 3) (v := .ref (a 4)) (C := RX4) (T := TX4) (N := 12) hx hb hts hinX4 hown hK hP 0 rfl rfl 7 (by decide) hm3 (fun _ h9 => h9) rfl dX4_putPoint_80 ?_
          refine lv_iload hx hb dX4_putPoint_83 (lv_at hl 1 rfl) ?_
          refine lv_iload hx hb dX4_putPoint_85 (lv_at hl 0 rfl) ?_
          refine lv_iload hx hb dX4_putPoint_87 (lv_at hl 7 rfl) ?_
          have hPc := hP.sub (ws' := (arW 144 cy (fun i => a (i + 4)) (fun i => (upr (upr P 2 (ups (shb ((P 2)) ((12 * t + q) + 1) ((12 * t + (P 1 t)) + 1) 1) (12 * t + q) f)) 3 (ups (shb ((P 3)) ((12 * t + q) + 1) ((12 * t + (P 1 t)) + 1) 1) (12 * t + q) x)) (i + 4)))) [4] rfl
          have hDc := hD.sub (ws' := (arW 144 cy (fun i => a (i + 4)) (fun i => (upr (upr P 2 (ups (shb ((P 2)) ((12 * t + q) + 1) ((12 * t + (P 1 t)) + 1) 1) (12 * t + q) f)) 3 (ups (shb ((P 3)) ((12 * t + q) + 1) ((12 * t + (P 1 t)) + 1) 1) (12 * t + q) x)) (i + 4)))) [4] (by decide) rfl
          have hFc := va_free (wc := (arW 144 cy (fun i => a (i + 4)) (fun i => (upr (upr P 2 (ups (shb ((P 2)) ((12 * t + q) + 1) ((12 * t + (P 1 t)) + 1) 1) (12 * t + q) f)) 3 (ups (shb ((P 3)) ((12 * t + q) + 1) ((12 * t + (P 1 t)) + 1) 1) (12 * t + q) x)) (i + 4)))) hD hS hA [4] rfl
          refine k_muv (k_runS (As := [.ref (a 4), .int (iI (12 * t + q)), .int (iI (12 * t + (P 1 t))), .int (iI y)]) (rest := []) ⟨hx, hb, hml, hown, hts⟩ (c_X4_insert l D cy H.size (fun i => a (i + 4)) (fun i => (upr (upr P 2 (ups (shb ((P 2)) ((12 * t + q) + 1) ((12 * t + (P 1 t)) + 1) 1) (12 * t + q) f)) 3 (ups (shb ((P 3)) ((12 * t + q) + 1) ((12 * t + (P 1 t)) + 1) 1) (12 * t + q) x)) (i + 4)) 144 (12 * t + q) (12 * t + (P 1 t)) y (show 0 ≤ (12 * t + q) ∧ (12 * t + q) ≤ (12 * t + (P 1 t)) by omega) (show (12 * t + (P 1 t)) < (144 : Int) by omega) (show (144 : Int) ≤ 1000 by omega)) gX4_putPoint_X4_insert rfl ⟨rfl, rfl⟩ 4 rfl (by decide +kernel) ⟨Nat.le_of_ble_eq_true rfl, Nat.le_of_ble_eq_true rfl⟩ (GG_ok D cy) hG hS hFc hPc hDc hl.1 rfl (Nat.le_of_ble_eq_true rfl) ⟨Nat.le_of_ble_eq_true rfl, Nat.le_of_ble_eq_true rfl⟩ dX4_putPoint_89) hFc hS (fun R_10 H1 locs1 hR_10 hP1 hD1 hS1 hk1 => ?_)
          have hR_10 : R_10 = (upr (fun i => (upr (upr P 2 (ups (shb ((P 2)) ((12 * t + q) + 1) ((12 * t + (P 1 t)) + 1) 1) (12 * t + q) f)) 3 (ups (shb ((P 3)) ((12 * t + q) + 1) ((12 * t + (P 1 t)) + 1) 1) (12 * t + q) x)) (i + 4)) 0 (ups (shb ((P 4)) ((12 * t + q) + 1) ((12 * t + (P 1 t)) + 1) 1) (12 * t + q) y)) := hR_10
          subst hR_10
          have hDn : va_D (va_A (plW cy a P) sz) (plW cy a (upr (upr (upr P 2 (ups (shb ((P 2)) ((12 * t + q) + 1) ((12 * t + (P 1 t)) + 1) 1) (12 * t + q) f)) 3 (ups (shb ((P 3)) ((12 * t + q) + 1) ((12 * t + (P 1 t)) + 1) 1) (12 * t + q) x)) 4 (ups (shb ((P 4)) ((12 * t + q) + 1) ((12 * t + (P 1 t)) + 1) 1) (12 * t + q) y))) := k_addr hD rfl
          have hPn := k_join (ws' := (plW cy a (upr (upr (upr P 2 (ups (shb ((P 2)) ((12 * t + q) + 1) ((12 * t + (P 1 t)) + 1) 1) (12 * t + q) f)) 3 (ups (shb ((P 3)) ((12 * t + q) + 1) ((12 * t + (P 1 t)) + 1) 1) (12 * t + q) x)) 4 (ups (shb ((P 4)) ((12 * t + q) + 1) ((12 * t + (P 1 t)) + 1) 1) (12 * t + q) y)))) hP hD [4] [none, none, none, none, some 0, none, none, none, none] rfl hk1 hP1 rfl rfl
          clear hP hD hS hP1 hD1 hk1
          have hP := hPn
          have hD := hDn
          have hS := hS1
          clear hPn hDn hS1
          generalize H1 = H at hP hS ⊢
          generalize locs1 = locs at hS ⊢
          refine lv_aload_n hx hb dX4_putPoint_92 rfl (lv_at hl 3 rfl) ?_
          refine va_get (D := D) (ci := 3) (v := .ref (a 1)) (C := RX4) (T := TX4) (N := 12) hx hb hts hinX4 hown hK hP 0 rfl rfl 4 (by decide) hm0 (fun _ h9 => h9) rfl dX4_putPoint_93 ?_
          refine lv_iload_n hx hb dX4_putPoint_96 rfl (lv_at hl 4 rfl) ?_
          refine lv_dup2_11 hx hb dX4_putPoint_97 rfl rfl ?_
          refine k_iald hx hb hK hP 1 0 (f := P 1) rfl rfl (i := t) (by omega) dX4_putPoint_98 ?_
          refine k_iconst hx hb dX4_putPoint_99 ?_
          refine k_iadd hx hb dX4_putPoint_100 ?_
          refine k_iast hx hb hK hP hD hS 1 0 (f := P 1) rfl rfl (i := t) (x := (P 1 t) + 1) (by omega) dX4_putPoint_101 (fun H locs hP hD hS => ?_)
          have hP : va_P D vwCl (plW cy a (upr (upr (upr (upr P 1 (ups (P 1) t ((P 1 t) + 1))) 2 (ups (shb ((P 2)) ((12 * t + q) + 1) ((12 * t + (P 1 t)) + 1) 1) (12 * t + q) f)) 3 (ups (shb ((P 3)) ((12 * t + q) + 1) ((12 * t + (P 1 t)) + 1) 1) (12 * t + q) x)) 4 (ups (shb ((P 4)) ((12 * t + q) + 1) ((12 * t + (P 1 t)) + 1) 1) (12 * t + q) y))) H := hP
          have hD : va_D (va_A (plW cy a P) sz) (plW cy a (upr (upr (upr (upr P 1 (ups (P 1) t ((P 1 t) + 1))) 2 (ups (shb ((P 2)) ((12 * t + q) + 1) ((12 * t + (P 1 t)) + 1) 1) (12 * t + q) f)) 3 (ups (shb ((P 3)) ((12 * t + q) + 1) ((12 * t + (P 1 t)) + 1) 1) (12 * t + q) x)) 4 (ups (shb ((P 4)) ((12 * t + q) + 1) ((12 * t + (P 1 t)) + 1) 1) (12 * t + q) y))) := hD
          refine lv_iload hx hb dX4_putPoint_102 (lv_at hl 2 rfl) ?_
          exact W.iret (v := iI q) hx hb hr (fun t9 ht _ => ⟨⟨iI q, (upr (upr (upr (upr P 1 (ups (P 1) t ((P 1 t) + 1))) 2 (ups (shb ((P 2)) ((12 * t + q) + 1) ((12 * t + (P 1 t)) + 1) 1) (12 * t + q) f)) 3 (ups (shb ((P 3)) ((12 * t + q) + 1) ((12 * t + (P 1 t)) + 1) 1) (12 * t + q) x)) 4 (ups (shb ((P 4)) ((12 * t + q) + 1) ((12 * t + (P 1 t)) + 1) 1) (12 * t + q) y)), rfl, ⟨q, rfl, (⟨e9.symm, (by rw [show (ups (shb ((P 2)) ((12 * t + q) + 1) ((12 * t + (P 1 t)) + 1) 1) (12 * t + q) f) = (ups (shb (P 2) (12 * t + posF (mO P) t f + 1) (12 * t + P 1 t + 1) 1) (12 * t + posF (mO P) t f) f) from by rw [e9], show (ups (shb ((P 3)) ((12 * t + q) + 1) ((12 * t + (P 1 t)) + 1) 1) (12 * t + q) x) = (ups (shb (P 3) (12 * t + posF (mO P) t f + 1) (12 * t + P 1 t + 1) 1) (12 * t + posF (mO P) t f) x) from by rw [e9], show (ups (shb ((P 4)) ((12 * t + q) + 1) ((12 * t + (P 1 t)) + 1) 1) (12 * t + q) y) = (ups (shb (P 4) (12 * t + posF (mO P) t f + 1) (12 * t + P 1 t + 1) 1) (12 * t + posF (mO P) t f) y) from by rw [e9]])⟩ : (q : Int) = posF (mO P) t f ∧ (upr (upr (upr (upr P 1 (ups (P 1) t ((P 1 t) + 1))) 2 (ups (shb ((P 2)) ((12 * t + q) + 1) ((12 * t + (P 1 t)) + 1) 1) (12 * t + q) f)) 3 (ups (shb ((P 3)) ((12 * t + q) + 1) ((12 * t + (P 1 t)) + 1) 1) (12 * t + q) x)) 4 (ups (shb ((P 4)) ((12 * t + q) + 1) ((12 * t + (P 1 t)) + 1) 1) (12 * t + q) y)) = (upr (upr (upr (upr P 1 (ups (P 1) t (P 1 t + 1))) 2 (ups (shb (P 2) (12 * t + posF (mO P) t f + 1) (12 * t + P 1 t + 1) 1) (12 * t + posF (mO P) t f) f)) 3 (ups (shb (P 3) (12 * t + posF (mO P) t f + 1) (12 * t + P 1 t + 1) 1) (12 * t + posF (mO P) t f) x)) 4 (ups (shb (P 4) (12 * t + posF (mO P) t f + 1) (12 * t + P 1 t + 1) 1) (12 * t + posF (mO P) t f) y)))⟩, by rw [ht]; exact hP, hD⟩, hS.F ht⟩) hS.2.2 dX4_putPoint_104 hlocks
        · skip
          have hpt := po_pt hI h0 h1 hi0 (show q < P 1 t by omega)
          refine lv_aload_n hx hb dX4_putPoint_14 rfl (lv_at hl 1 rfl) ?_
          refine va_get (D := D) (ci := 3) (v := .ref (a 2)) (C := RX4) (T := TX4) (N := 12) hx hb hts hinX4 hown hK hP 0 rfl rfl 5 (by decide) hm1 (fun _ h9 => h9) rfl dX4_putPoint_15 ?_
          refine lv_iload_n hx hb dX4_putPoint_18 rfl (lv_at hl 2 rfl) ?_
          refine lv_iload hx hb dX4_putPoint_19 (lv_at hl 0 rfl) ?_
          refine k_roS (As := [.int (iI t), .int (iI q)]) (rest := [.ref (a 2)]) ⟨hx, hb, hml, hown, hts⟩ (c_X4_slot l D t q ) gX4_putPoint_X4_slot rfl ⟨rfl, rfl⟩ 2 rfl (by decide +kernel) ⟨Nat.le_of_ble_eq_true rfl, Nat.le_of_ble_eq_true rfl⟩ kGT_ok trivial (fun k q h => by simp at h) hl.1 rfl (Nat.le_of_ble_eq_true rfl) ⟨Nat.le_of_ble_eq_true rfl, Nat.le_of_ble_eq_true rfl⟩ dX4_putPoint_21 (fun r_11 hr_11 => ?_)
          have hr_11 : r_11 = 12 * t + q := hr_11
          subst hr_11
          refine k_iald hx hb hK hP 2 0 (f := P 2) rfl rfl (i := 12 * t + q) (by omega) dX4_putPoint_24 ?_
          refine lv_iload_n hx hb dX4_putPoint_25 rfl (lv_at hl 3 rfl) ?_
          refine k_icmp_ge (tgt := 35) hx hb dX4_putPoint_26 (by decide) (by omega) (by omega) (fun c_12 => ?_) (fun c_12 => ?_)
          · skip
            have hne : P 2 (12 * t + q) ≠ f := fun h9 => hnf (hiff.mpr ⟨q, hi0, by omega, h9⟩)
            have e9 : posF (mO P) t f = q := posP_of hI h0 h1 hi0 hi1 hi2 (by omega)
            refine lv_iload_n hx hb dX4_putPoint_35 rfl (lv_at hl 2 rfl) ?_
            refine lv_iload hx hb dX4_putPoint_36 (lv_at hl 0 rfl) ?_
            refine k_roS (As := [.int (iI t), .int (iI q)]) (rest := []) ⟨hx, hb, hml, hown, hts⟩ (c_X4_slot l D t q ) gX4_putPoint_X4_slot rfl ⟨rfl, rfl⟩ 2 rfl (by decide +kernel) ⟨Nat.le_of_ble_eq_true rfl, Nat.le_of_ble_eq_true rfl⟩ kGT_ok trivial (fun k q h => by simp at h) hl.1 rfl (Nat.le_of_ble_eq_true rfl) ⟨Nat.le_of_ble_eq_true rfl, Nat.le_of_ble_eq_true rfl⟩ dX4_putPoint_38 (fun r_13 hr_13 => ?_)
            have hr_13 : r_13 = 12 * t + q := hr_13
            subst hr_13
            refine lv_istore (lv' := [(6, .int (iI (12 * t + q))), (5, .int (iI q)), (0, .ref (a 0)), (1, .int (iI t)), (2, .int (iI f)), (3, .int (iI x)), (4, .int (iI y))]) hx hb dX4_putPoint_41 hl (by decide) rfl (fun ls hl => ?_)
            refine lv_iload_n hx hb dX4_putPoint_43 rfl (lv_at hl 3 rfl) ?_
            refine lv_aload_n hx hb dX4_putPoint_44 rfl (lv_at hl 2 rfl) ?_
            refine va_get (D := D) (ci := 3) (v := .ref (a 1)) (C := RX4) (T := TX4) (N := 12) hx hb hts hinX4 hown hK hP 0 rfl rfl 4 (by decide) hm0 (fun _ h9 => h9) rfl dX4_putPoint_45 ?_
            refine lv_iload_n hx hb dX4_putPoint_48 rfl (lv_at hl 3 rfl) ?_
            refine k_iald hx hb hK hP 1 0 (f := P 1) rfl rfl (i := t) (by omega) dX4_putPoint_49 ?_
            refine k_roS (As := [.int (iI t), .int (iI (P 1 t))]) (rest := []) ⟨hx, hb, hml, hown, hts⟩ (c_X4_slot l D t (P 1 t) ) gX4_putPoint_X4_slot rfl ⟨rfl, rfl⟩ 2 rfl (by decide +kernel) ⟨Nat.le_of_ble_eq_true rfl, Nat.le_of_ble_eq_true rfl⟩ kGT_ok trivial (fun k q h => by simp at h) hl.1 rfl (Nat.le_of_ble_eq_true rfl) ⟨Nat.le_of_ble_eq_true rfl, Nat.le_of_ble_eq_true rfl⟩ dX4_putPoint_50 (fun r_14 hr_14 => ?_)
            have hr_14 : r_14 = 12 * t + (P 1 t) := hr_14
            subst hr_14
            refine lv_istore (lv' := [(7, .int (iI (12 * t + (P 1 t)))), (6, .int (iI (12 * t + q))), (5, .int (iI q)), (0, .ref (a 0)), (1, .int (iI t)), (2, .int (iI f)), (3, .int (iI x)), (4, .int (iI y))]) hx hb dX4_putPoint_53 hl (by decide) rfl (fun ls hl => ?_)
            refine lv_aload_n hx hb dX4_putPoint_55 rfl (lv_at hl 3 rfl) ?_
            refine va_get (D := D) (ci := 3) (v := .ref (a 2)) (C := RX4) (T := TX4) (N := 12) hx hb hts hinX4 hown hK hP 0 rfl rfl 5 (by decide) hm1 (fun _ h9 => h9) rfl dX4_putPoint_56 ?_
            refine lv_iload hx hb dX4_putPoint_59 (lv_at hl 1 rfl) ?_
            refine lv_iload hx hb dX4_putPoint_61 (lv_at hl 0 rfl) ?_
            refine lv_iload_n hx hb dX4_putPoint_63 rfl (lv_at hl 5 rfl) ?_
            have hPc := hP.sub (ws' := (arW 144 cy (fun i => a (i + 2)) (fun i => P (i + 2)))) [2] rfl
            have hDc := hD.sub (ws' := (arW 144 cy (fun i => a (i + 2)) (fun i => P (i + 2)))) [2] (by decide) rfl
            have hFc := va_free (wc := (arW 144 cy (fun i => a (i + 2)) (fun i => P (i + 2)))) hD hS hA [2] rfl
            refine k_muv (k_runS (As := [.ref (a 2), .int (iI (12 * t + q)), .int (iI (12 * t + (P 1 t))), .int (iI f)]) (rest := []) ⟨hx, hb, hml, hown, hts⟩ (c_X4_insert l D cy H.size (fun i => a (i + 2)) (fun i => P (i + 2)) 144 (12 * t + q) (12 * t + (P 1 t)) f (show 0 ≤ (12 * t + q) ∧ (12 * t + q) ≤ (12 * t + (P 1 t)) by omega) (show (12 * t + (P 1 t)) < (144 : Int) by omega) (show (144 : Int) ≤ 1000 by omega)) gX4_putPoint_X4_insert rfl ⟨rfl, rfl⟩ 4 rfl (by decide +kernel) ⟨Nat.le_of_ble_eq_true rfl, Nat.le_of_ble_eq_true rfl⟩ (GG_ok D cy) hG hS hFc hPc hDc hl.1 rfl (Nat.le_of_ble_eq_true rfl) ⟨Nat.le_of_ble_eq_true rfl, Nat.le_of_ble_eq_true rfl⟩ dX4_putPoint_64) hFc hS (fun R_16 H1 locs1 hR_16 hP1 hD1 hS1 hk1 => ?_)
            have hR_16 : R_16 = (upr (fun i => P (i + 2)) 0 (ups (shb ((P 2)) ((12 * t + q) + 1) ((12 * t + (P 1 t)) + 1) 1) (12 * t + q) f)) := hR_16
            subst hR_16
            have hDn : va_D (va_A (plW cy a P) sz) (plW cy a (upr P 2 (ups (shb ((P 2)) ((12 * t + q) + 1) ((12 * t + (P 1 t)) + 1) 1) (12 * t + q) f))) := k_addr hD rfl
            have hPn := k_join (ws' := (plW cy a (upr P 2 (ups (shb ((P 2)) ((12 * t + q) + 1) ((12 * t + (P 1 t)) + 1) 1) (12 * t + q) f)))) hP hD [2] [none, none, some 0, none, none, none, none, none, none] rfl hk1 hP1 rfl rfl
            clear hP hD hS hP1 hD1 hk1
            have hP := hPn
            have hD := hDn
            have hS := hS1
            clear hPn hDn hS1
            generalize H1 = H at hP hS ⊢
            generalize locs1 = locs at hS ⊢
            refine lv_aload_n hx hb dX4_putPoint_67 rfl (lv_at hl 3 rfl) ?_
            refine va_get (D := D) (ci := 3) (v := .ref (a 3)) (C := RX4) (T := TX4) (N := 12) hx hb hts hinX4 hown hK hP 0 rfl rfl 6 (by decide) hm2 (fun _ h9 => h9) rfl dX4_putPoint_68 ?_
            refine lv_iload hx hb dX4_putPoint_71 (lv_at hl 1 rfl) ?_
            refine lv_iload hx hb dX4_putPoint_73 (lv_at hl 0 rfl) ?_
            refine lv_iload_n hx hb dX4_putPoint_75 rfl (lv_at hl 6 rfl) ?_
            have hPc := hP.sub (ws' := (arW 144 cy (fun i => a (i + 3)) (fun i => (upr P 2 (ups (shb ((P 2)) ((12 * t + q) + 1) ((12 * t + (P 1 t)) + 1) 1) (12 * t + q) f)) (i + 3)))) [3] rfl
            have hDc := hD.sub (ws' := (arW 144 cy (fun i => a (i + 3)) (fun i => (upr P 2 (ups (shb ((P 2)) ((12 * t + q) + 1) ((12 * t + (P 1 t)) + 1) 1) (12 * t + q) f)) (i + 3)))) [3] (by decide) rfl
            have hFc := va_free (wc := (arW 144 cy (fun i => a (i + 3)) (fun i => (upr P 2 (ups (shb ((P 2)) ((12 * t + q) + 1) ((12 * t + (P 1 t)) + 1) 1) (12 * t + q) f)) (i + 3)))) hD hS hA [3] rfl
            refine k_muv (k_runS (As := [.ref (a 3), .int (iI (12 * t + q)), .int (iI (12 * t + (P 1 t))), .int (iI x)]) (rest := []) ⟨hx, hb, hml, hown, hts⟩ (c_X4_insert l D cy H.size (fun i => a (i + 3)) (fun i => (upr P 2 (ups (shb ((P 2)) ((12 * t + q) + 1) ((12 * t + (P 1 t)) + 1) 1) (12 * t + q) f)) (i + 3)) 144 (12 * t + q) (12 * t + (P 1 t)) x (show 0 ≤ (12 * t + q) ∧ (12 * t + q) ≤ (12 * t + (P 1 t)) by omega) (show (12 * t + (P 1 t)) < (144 : Int) by omega) (show (144 : Int) ≤ 1000 by omega)) gX4_putPoint_X4_insert rfl ⟨rfl, rfl⟩ 4 rfl (by decide +kernel) ⟨Nat.le_of_ble_eq_true rfl, Nat.le_of_ble_eq_true rfl⟩ (GG_ok D cy) hG hS hFc hPc hDc hl.1 rfl (Nat.le_of_ble_eq_true rfl) ⟨Nat.le_of_ble_eq_true rfl, Nat.le_of_ble_eq_true rfl⟩ dX4_putPoint_76) hFc hS (fun R_18 H1 locs1 hR_18 hP1 hD1 hS1 hk1 => ?_)
            have hR_18 : R_18 = (upr (fun i => (upr P 2 (ups (shb ((P 2)) ((12 * t + q) + 1) ((12 * t + (P 1 t)) + 1) 1) (12 * t + q) f)) (i + 3)) 0 (ups (shb ((P 3)) ((12 * t + q) + 1) ((12 * t + (P 1 t)) + 1) 1) (12 * t + q) x)) := hR_18
            subst hR_18
            have hDn : va_D (va_A (plW cy a P) sz) (plW cy a (upr (upr P 2 (ups (shb ((P 2)) ((12 * t + q) + 1) ((12 * t + (P 1 t)) + 1) 1) (12 * t + q) f)) 3 (ups (shb ((P 3)) ((12 * t + q) + 1) ((12 * t + (P 1 t)) + 1) 1) (12 * t + q) x))) := k_addr hD rfl
            have hPn := k_join (ws' := (plW cy a (upr (upr P 2 (ups (shb ((P 2)) ((12 * t + q) + 1) ((12 * t + (P 1 t)) + 1) 1) (12 * t + q) f)) 3 (ups (shb ((P 3)) ((12 * t + q) + 1) ((12 * t + (P 1 t)) + 1) 1) (12 * t + q) x)))) hP hD [3] [none, none, none, some 0, none, none, none, none, none] rfl hk1 hP1 rfl rfl
            clear hP hD hS hP1 hD1 hk1
            have hP := hPn
            have hD := hDn
            have hS := hS1
            clear hPn hDn hS1
            generalize H1 = H at hP hS ⊢
            generalize locs1 = locs at hS ⊢
            refine lv_aload_n hx hb dX4_putPoint_79 rfl (lv_at hl 3 rfl) ?_
            refine va_get (D := D) (ci := 3) (v := .ref (a 4)) (C := RX4) (T := TX4) (N := 12) hx hb hts hinX4 hown hK hP 0 rfl rfl 7 (by decide) hm3 (fun _ h9 => h9) rfl dX4_putPoint_80 ?_
            refine lv_iload hx hb dX4_putPoint_83 (lv_at hl 1 rfl) ?_
            refine lv_iload hx hb dX4_putPoint_85 (lv_at hl 0 rfl) ?_
            refine lv_iload hx hb dX4_putPoint_87 (lv_at hl 7 rfl) ?_
            have hPc := hP.sub (ws' := (arW 144 cy (fun i => a (i + 4)) (fun i => (upr (upr P 2 (ups (shb ((P 2)) ((12 * t + q) + 1) ((12 * t + (P 1 t)) + 1) 1) (12 * t + q) f)) 3 (ups (shb ((P 3)) ((12 * t + q) + 1) ((12 * t + (P 1 t)) + 1) 1) (12 * t + q) x)) (i + 4)))) [4] rfl
            have hDc := hD.sub (ws' := (arW 144 cy (fun i => a (i + 4)) (fun i => (upr (upr P 2 (ups (shb ((P 2)) ((12 * t + q) + 1) ((12 * t + (P 1 t)) + 1) 1) (12 * t + q) f)) 3 (ups (shb ((P 3)) ((12 * t + q) + 1) ((12 * t + (P 1 t)) + 1) 1) (12 * t + q) x)) (i + 4)))) [4] (by decide) rfl
            have hFc := va_free (wc := (arW 144 cy (fun i => a (i + 4)) (fun i => (upr (upr P 2 (ups (shb ((P 2)) ((12 * t + q) + 1) ((12 * t + (P 1 t)) + 1) 1) (12 * t + q) f)) 3 (ups (shb ((P 3)) ((12 * t + q) + 1) ((12 * t + (P 1 t)) + 1) 1) (12 * t + q) x)) (i + 4)))) hD hS hA [4] rfl
            refine k_muv (k_runS (As := [.ref (a 4), .int (iI (12 * t + q)), .int (iI (12 * t + (P 1 t))), .int (iI y)]) (rest := []) ⟨hx, hb, hml, hown, hts⟩ (c_X4_insert l D cy H.size (fun i => a (i + 4)) (fun i => (upr (upr P 2 (ups (shb ((P 2)) ((12 * t + q) + 1) ((12 * t + (P 1 t)) + 1) 1) (12 * t + q) f)) 3 (ups (shb ((P 3)) ((12 * t + q) + 1) ((12 * t + (P 1 t)) + 1) 1) (12 * t + q) x)) (i + 4)) 144 (12 * t + q) (12 * t + (P 1 t)) y (show 0 ≤ (12 * t + q) ∧ (12 * t + q) ≤ (12 * t + (P 1 t)) by omega) (show (12 * t + (P 1 t)) < (144 : Int) by omega) (show (144 : Int) ≤ 1000 by omega)) gX4_putPoint_X4_insert rfl ⟨rfl, rfl⟩ 4 rfl (by decide +kernel) ⟨Nat.le_of_ble_eq_true rfl, Nat.le_of_ble_eq_true rfl⟩ (GG_ok D cy) hG hS hFc hPc hDc hl.1 rfl (Nat.le_of_ble_eq_true rfl) ⟨Nat.le_of_ble_eq_true rfl, Nat.le_of_ble_eq_true rfl⟩ dX4_putPoint_89) hFc hS (fun R_20 H1 locs1 hR_20 hP1 hD1 hS1 hk1 => ?_)
            have hR_20 : R_20 = (upr (fun i => (upr (upr P 2 (ups (shb ((P 2)) ((12 * t + q) + 1) ((12 * t + (P 1 t)) + 1) 1) (12 * t + q) f)) 3 (ups (shb ((P 3)) ((12 * t + q) + 1) ((12 * t + (P 1 t)) + 1) 1) (12 * t + q) x)) (i + 4)) 0 (ups (shb ((P 4)) ((12 * t + q) + 1) ((12 * t + (P 1 t)) + 1) 1) (12 * t + q) y)) := hR_20
            subst hR_20
            have hDn : va_D (va_A (plW cy a P) sz) (plW cy a (upr (upr (upr P 2 (ups (shb ((P 2)) ((12 * t + q) + 1) ((12 * t + (P 1 t)) + 1) 1) (12 * t + q) f)) 3 (ups (shb ((P 3)) ((12 * t + q) + 1) ((12 * t + (P 1 t)) + 1) 1) (12 * t + q) x)) 4 (ups (shb ((P 4)) ((12 * t + q) + 1) ((12 * t + (P 1 t)) + 1) 1) (12 * t + q) y))) := k_addr hD rfl
            have hPn := k_join (ws' := (plW cy a (upr (upr (upr P 2 (ups (shb ((P 2)) ((12 * t + q) + 1) ((12 * t + (P 1 t)) + 1) 1) (12 * t + q) f)) 3 (ups (shb ((P 3)) ((12 * t + q) + 1) ((12 * t + (P 1 t)) + 1) 1) (12 * t + q) x)) 4 (ups (shb ((P 4)) ((12 * t + q) + 1) ((12 * t + (P 1 t)) + 1) 1) (12 * t + q) y)))) hP hD [4] [none, none, none, none, some 0, none, none, none, none] rfl hk1 hP1 rfl rfl
            clear hP hD hS hP1 hD1 hk1
            have hP := hPn
            have hD := hDn
            have hS := hS1
            clear hPn hDn hS1
            generalize H1 = H at hP hS ⊢
            generalize locs1 = locs at hS ⊢
            refine lv_aload_n hx hb dX4_putPoint_92 rfl (lv_at hl 3 rfl) ?_
            refine va_get (D := D) (ci := 3) (v := .ref (a 1)) (C := RX4) (T := TX4) (N := 12) hx hb hts hinX4 hown hK hP 0 rfl rfl 4 (by decide) hm0 (fun _ h9 => h9) rfl dX4_putPoint_93 ?_
            refine lv_iload_n hx hb dX4_putPoint_96 rfl (lv_at hl 4 rfl) ?_
            refine lv_dup2_11 hx hb dX4_putPoint_97 rfl rfl ?_
            refine k_iald hx hb hK hP 1 0 (f := P 1) rfl rfl (i := t) (by omega) dX4_putPoint_98 ?_
            refine k_iconst hx hb dX4_putPoint_99 ?_
            refine k_iadd hx hb dX4_putPoint_100 ?_
            refine k_iast hx hb hK hP hD hS 1 0 (f := P 1) rfl rfl (i := t) (x := (P 1 t) + 1) (by omega) dX4_putPoint_101 (fun H locs hP hD hS => ?_)
            have hP : va_P D vwCl (plW cy a (upr (upr (upr (upr P 1 (ups (P 1) t ((P 1 t) + 1))) 2 (ups (shb ((P 2)) ((12 * t + q) + 1) ((12 * t + (P 1 t)) + 1) 1) (12 * t + q) f)) 3 (ups (shb ((P 3)) ((12 * t + q) + 1) ((12 * t + (P 1 t)) + 1) 1) (12 * t + q) x)) 4 (ups (shb ((P 4)) ((12 * t + q) + 1) ((12 * t + (P 1 t)) + 1) 1) (12 * t + q) y))) H := hP
            have hD : va_D (va_A (plW cy a P) sz) (plW cy a (upr (upr (upr (upr P 1 (ups (P 1) t ((P 1 t) + 1))) 2 (ups (shb ((P 2)) ((12 * t + q) + 1) ((12 * t + (P 1 t)) + 1) 1) (12 * t + q) f)) 3 (ups (shb ((P 3)) ((12 * t + q) + 1) ((12 * t + (P 1 t)) + 1) 1) (12 * t + q) x)) 4 (ups (shb ((P 4)) ((12 * t + q) + 1) ((12 * t + (P 1 t)) + 1) 1) (12 * t + q) y))) := hD
            refine lv_iload hx hb dX4_putPoint_102 (lv_at hl 2 rfl) ?_
            exact W.iret (v := iI q) hx hb hr (fun t9 ht _ => ⟨⟨iI q, (upr (upr (upr (upr P 1 (ups (P 1) t ((P 1 t) + 1))) 2 (ups (shb ((P 2)) ((12 * t + q) + 1) ((12 * t + (P 1 t)) + 1) 1) (12 * t + q) f)) 3 (ups (shb ((P 3)) ((12 * t + q) + 1) ((12 * t + (P 1 t)) + 1) 1) (12 * t + q) x)) 4 (ups (shb ((P 4)) ((12 * t + q) + 1) ((12 * t + (P 1 t)) + 1) 1) (12 * t + q) y)), rfl, ⟨q, rfl, (⟨e9.symm, (by rw [show (ups (shb ((P 2)) ((12 * t + q) + 1) ((12 * t + (P 1 t)) + 1) 1) (12 * t + q) f) = (ups (shb (P 2) (12 * t + posF (mO P) t f + 1) (12 * t + P 1 t + 1) 1) (12 * t + posF (mO P) t f) f) from by rw [e9], show (ups (shb ((P 3)) ((12 * t + q) + 1) ((12 * t + (P 1 t)) + 1) 1) (12 * t + q) x) = (ups (shb (P 3) (12 * t + posF (mO P) t f + 1) (12 * t + P 1 t + 1) 1) (12 * t + posF (mO P) t f) x) from by rw [e9], show (ups (shb ((P 4)) ((12 * t + q) + 1) ((12 * t + (P 1 t)) + 1) 1) (12 * t + q) y) = (ups (shb (P 4) (12 * t + posF (mO P) t f + 1) (12 * t + P 1 t + 1) 1) (12 * t + posF (mO P) t f) y) from by rw [e9]])⟩ : (q : Int) = posF (mO P) t f ∧ (upr (upr (upr (upr P 1 (ups (P 1) t ((P 1 t) + 1))) 2 (ups (shb ((P 2)) ((12 * t + q) + 1) ((12 * t + (P 1 t)) + 1) 1) (12 * t + q) f)) 3 (ups (shb ((P 3)) ((12 * t + q) + 1) ((12 * t + (P 1 t)) + 1) 1) (12 * t + q) x)) 4 (ups (shb ((P 4)) ((12 * t + q) + 1) ((12 * t + (P 1 t)) + 1) 1) (12 * t + q) y)) = (upr (upr (upr (upr P 1 (ups (P 1) t (P 1 t + 1))) 2 (ups (shb (P 2) (12 * t + posF (mO P) t f + 1) (12 * t + P 1 t + 1) 1) (12 * t + posF (mO P) t f) f)) 3 (ups (shb (P 3) (12 * t + posF (mO P) t f + 1) (12 * t + P 1 t + 1) 1) (12 * t + posF (mO P) t f) x)) 4 (ups (shb (P 4) (12 * t + posF (mO P) t f + 1) (12 * t + P 1 t + 1) 1) (12 * t + posF (mO P) t f) y)))⟩, by rw [ht]; exact hP, hD⟩, hS.F ht⟩) hS.2.2 dX4_putPoint_104 hlocks
          · skip
            refine lv_iinc (v := iI (q + 1)) (lv' := [(5, .int (iI (q + 1))), (0, .ref (a 0)), (1, .int (iI t)), (2, .int (iI f)), (3, .int (iI x)), (4, .int (iI y))]) hx hb dX4_putPoint_29 hl (k := 0) rfl (iI_add _ _) (by decide) rfl (fun ls hl => ?_)
            refine lv_goto (tgt := 3) hx hb dX4_putPoint_32 (by decide) ?_
            exact ih3 (q + 1)  (by omega) (by omega) (fun k a b => by by_cases e9 : k = q; (subst e9; assumption); exact hi2 k a (by omega)) (by omega) ls (lv_sub hl [0, 1, 2, 3, 4, 5] rfl)
    exact loop3 ((P 1 t - 0 : Int) + 1).toNat 0  (by omega) (by omega) (fun k a b => by omega) (by omega) ls (lv_sub hl [0, 1, 2, 3, 4, 5] rfl)
  exact hbody s.heap [] hP hS ls hl
set_option maxHeartbeats 4000000 in
set_option maxRecDepth 100000 in
theorem c_X4_pointsInAll (l : Launch) (D : va_G) (cy : Nat → ClassId) (a : Nat → Nat) (P : Nat → Int → Int)  (hI : Inv (mO P)) : Met l yX4_pointsInAll wsX4_pointsInAll { frames := 0, cells := 0, slots := 0, locals := 0 } (kPre (GG D cy) D (plW cy a P) ([.ref (a 0)] : List Value)) (kRO (fun r => r = sumZ (P 1) (P 0 0))) 0 0 (fun _ => False) := by
  refine kRO_start (cc := cX4_pointsInAll) (maxL := 3) (ret := (some .int)) (by decide) rfl (Nat.le_of_ble_eq_true rfl) ?_
  intro p e s m below meth c hx hb hr hlocks hml hts hown hG hP ls hl
  have hK := hG.1
  have hl : lv_has ls 3 [(0, .ref (a 0))] := hl
  have hinX4 : ∀ w ∈ u_ws RX4 TX4 12, w ∈ wsX4_pointsInAll := by decide +kernel
  have hm0 := hts (.fieldLink RX4 9 "ArcPlate$Plate" "trails" "I") (by decide +kernel)
  have hm1 := hts (.fieldLink RX4 24 "ArcPlate$Plate" "points" "[I") (by decide +kernel)
  have hS0 := po_S hI
  refine k_iconst hx hb dX4_pointsInAll_0 ?_
  refine lv_istore_n (lv' := [(1, .int (iI 0)), (0, .ref (a 0))]) hx hb dX4_pointsInAll_1 rfl hl (by decide) rfl (fun ls hl => ?_)
  refine k_iconst hx hb dX4_pointsInAll_2 ?_
  refine lv_istore_n (lv' := [(2, .int (iI 0)), (1, .int (iI 0)), (0, .ref (a 0))]) hx hb dX4_pointsInAll_3 rfl hl (by decide) rfl (fun ls hl => ?_)
  have loop4 : ∀ (n_1 : Nat) (t : Int) (x1 : Int) (hi0 : 0 ≤ t) (hi1 : t ≤ P 0 0) (hex1 : x1 = sumZ (P 1) t) (hn : P 0 0 - t < (n_1 : Int)) (ls : Array Slot) (hl : lv_has ls 3 [(2, .int (iI t)), (1, .int (iI x1)), (0, .ref (a 0))]), W p l e { frames := 0, cells := 0, slots := 0, locals := 0 } s m ([.ref (a 0)] : List Value).toArray below meth c s.heap [] 0 0 (MQ below (kRO (fun r => r = sumZ (P 1) (P 0 0))) ([.ref (a 0)] : List Value).toArray s 0 0 (fun _ => False)) (F0 m 4 ls []) := by
    intro n_1
    induction n_1 with
    | zero => intro t x1 hi0 hi1 hex1 hn ls hl; exfalso; omega
    | succ n_1 ih4 =>
      intro t x1 hi0 hi1 hex1 hn ls hl
      subst hex1
      refine lv_iload_n hx hb dX4_pointsInAll_4 rfl (lv_at hl 0 rfl) ?_
      refine lv_aload_n hx hb dX4_pointsInAll_5 rfl (lv_at hl 2 rfl) ?_
      refine va_get (D := D) (ci := 3) (v := .int (iI (P 0 0))) (C := RX4) (T := TX4) (N := 12) hx hb hts hinX4 hown hK hP 0 rfl rfl 0 (by decide) hm0 (fun _ h9 => h9) rfl dX4_pointsInAll_6 ?_
      refine k_icmp_ge (tgt := 27) hx hb dX4_pointsInAll_9 (by decide) (by omega) (by omega) (fun c_2 => ?_) (fun c_2 => ?_)
      · skip
        refine lv_iload_n hx hb dX4_pointsInAll_27 rfl (lv_at hl 1 rfl) ?_
        exact W.iret (v := iI (sumZ (P 1) t)) hx hb hr (fun t9 ht _ => ⟨(sumZ (P 1) t), rfl, (by have e9 : t = P 0 0 := (by omega); subst e9; rfl : (sumZ (P 1) t : Int) = sumZ (P 1) (P 0 0)), ht⟩) (fun _ h => nomatch h) dX4_pointsInAll_28 hlocks
      · skip
        refine lv_iload_n hx hb dX4_pointsInAll_12 rfl (lv_at hl 1 rfl) ?_
        refine lv_aload_n hx hb dX4_pointsInAll_13 rfl (lv_at hl 2 rfl) ?_
        refine va_get (D := D) (ci := 3) (v := .ref (a 1)) (C := RX4) (T := TX4) (N := 12) hx hb hts hinX4 hown hK hP 0 rfl rfl 4 (by decide) hm1 (fun _ h9 => h9) rfl dX4_pointsInAll_14 ?_
        refine lv_iload_n hx hb dX4_pointsInAll_17 rfl (lv_at hl 0 rfl) ?_
        refine k_iald hx hb hK hP 1 0 (f := P 1) rfl rfl (i := t) (by omega) dX4_pointsInAll_18 ?_
        refine k_iadd hx hb dX4_pointsInAll_19 ?_
        refine lv_istore_n (lv' := [(1, .int (iI ((sumZ (P 1) t) + (P 1 t)))), (2, .int (iI t)), (0, .ref (a 0))]) hx hb dX4_pointsInAll_20 rfl hl (by decide) rfl (fun ls hl => ?_)
        refine lv_iinc (v := iI (t + 1)) (lv' := [(2, .int (iI (t + 1))), (1, .int (iI ((sumZ (P 1) t) + (P 1 t)))), (0, .ref (a 0))]) hx hb dX4_pointsInAll_21 hl (k := 1) rfl (iI_add _ _) (by decide) rfl (fun ls hl => ?_)
        refine lv_goto (tgt := 4) hx hb dX4_pointsInAll_24 (by decide) ?_
        exact ih4 (t + 1) ((sumZ (P 1) t) + (P 1 t)) (by omega) (by omega) ((sumZ_s _ hi0).symm) (by omega) ls (lv_sub hl [0, 1, 2] rfl)
  exact loop4 ((P 0 0 - 0 : Int) + 1).toNat 0 0 (by omega) (by omega) (rfl) (by omega) ls (lv_sub hl [0, 1, 2] rfl)
set_option maxHeartbeats 4000000 in
set_option maxRecDepth 100000 in
theorem c_X4_frameSpan (l : Launch) (D : va_G) (cy : Nat → ClassId) (a : Nat → Nat) (P : Nat → Int → Int) (t : Int) (hI : Inv (mO P)) (h0 : 0 ≤ t) (h1 : t < P 0 0) (hp0 : 0 < P 1 t) : Met l yX4_frameSpan wsX4_frameSpan { frames := 1, cells := 0, slots := 0, locals := 21 } (kPre (GG D cy) D (plW cy a P) ([.ref (a 0), .int (iI t)] : List Value)) (kRO (fun r => r = fspan (mO P) t)) 0 0 (fun _ => False) := by
  refine kRO_start (cc := cX4_frameSpan) (maxL := 3) (ret := (some .int)) (by decide) rfl (Nat.le_of_ble_eq_true rfl) ?_
  intro p e s m below meth c hx hb hr hlocks hml hts hown hG hP ls hl
  have hK := hG.1
  have hl : lv_has ls 3 [(0, .ref (a 0)), (1, .int (iI t))] := hl
  have hinX4 : ∀ w ∈ u_ws RX4 TX4 12, w ∈ wsX4_frameSpan := by decide +kernel
  have hm0 := hts (.fieldLink RX4 24 "ArcPlate$Plate" "points" "[I") (by decide +kernel)
  have hm1 := hts (.fieldLink RX4 28 "ArcPlate$Plate" "frames" "[I") (by decide +kernel)
  have hS0 := po_S hI
  have hp := po_pts hI h0 h1
  have hfs := fsp_mO hI h0 h1 hp0
  refine lv_aload_n hx hb dX4_frameSpan_0 rfl (lv_at hl 0 rfl) ?_
  refine va_get (D := D) (ci := 3) (v := .ref (a 1)) (C := RX4) (T := TX4) (N := 12) hx hb hts hinX4 hown hK hP 0 rfl rfl 4 (by decide) hm0 (fun _ h9 => h9) rfl dX4_frameSpan_1 ?_
  refine lv_iload_n hx hb dX4_frameSpan_4 rfl (lv_at hl 1 rfl) ?_
  refine k_iald hx hb hK hP 1 0 (f := P 1) rfl rfl (i := t) (by omega) dX4_frameSpan_5 ?_
  refine k_iconst hx hb dX4_frameSpan_6 ?_
  refine k_isub hx hb dX4_frameSpan_7 ?_
  refine lv_istore_n (lv' := [(2, .int (iI ((P 1 t) - 1))), (0, .ref (a 0)), (1, .int (iI t))]) hx hb dX4_frameSpan_8 rfl hl (by decide) rfl (fun ls hl => ?_)
  refine lv_iload_n hx hb dX4_frameSpan_9 rfl (lv_at hl 0 rfl) ?_
  refine k_if_le (tgt := 37) hx hb dX4_frameSpan_10 (by decide) (by omega) (fun c_1 => ?_) (fun c_1 => ?_)
  · skip
    refine k_iconst hx hb dX4_frameSpan_37 ?_
    exact W.iret (v := iI 0) hx hb hr (fun t9 ht _ => ⟨0, rfl, (by first | exact hfs.symm | (have e9 : P 1 t - 1 = 0 := (by omega); rw [e9] at hfs; omega) : (0 : Int) = fspan (mO P) t), ht⟩) (fun _ h => nomatch h) dX4_frameSpan_38 hlocks
  · skip
    refine lv_aload_n hx hb dX4_frameSpan_13 rfl (lv_at hl 1 rfl) ?_
    refine va_get (D := D) (ci := 3) (v := .ref (a 2)) (C := RX4) (T := TX4) (N := 12) hx hb hts hinX4 hown hK hP 0 rfl rfl 5 (by decide) hm1 (fun _ h9 => h9) rfl dX4_frameSpan_14 ?_
    refine lv_iload_n hx hb dX4_frameSpan_17 rfl (lv_at hl 2 rfl) ?_
    refine lv_iload_n hx hb dX4_frameSpan_18 rfl (lv_at hl 0 rfl) ?_
    refine k_roS (As := [.int (iI t), .int (iI ((P 1 t) - 1))]) (rest := [.ref (a 2)]) ⟨hx, hb, hml, hown, hts⟩ (c_X4_slot l D t ((P 1 t) - 1) ) gX4_frameSpan_X4_slot rfl ⟨rfl, rfl⟩ 2 rfl (by decide +kernel) ⟨Nat.le_of_ble_eq_true rfl, Nat.le_of_ble_eq_true rfl⟩ kGT_ok trivial (fun k q h => by simp at h) hl.1 rfl (Nat.le_of_ble_eq_true rfl) ⟨Nat.le_of_ble_eq_true rfl, Nat.le_of_ble_eq_true rfl⟩ dX4_frameSpan_19 (fun r_2 hr_2 => ?_)
    have hr_2 : r_2 = 12 * t + ((P 1 t) - 1) := hr_2
    subst hr_2
    refine k_iald hx hb hK hP 2 0 (f := P 2) rfl rfl (i := 12 * t + ((P 1 t) - 1)) (by omega) dX4_frameSpan_22 ?_
    refine lv_aload_n hx hb dX4_frameSpan_23 rfl (lv_at hl 1 rfl) ?_
    refine va_get (D := D) (ci := 3) (v := .ref (a 2)) (C := RX4) (T := TX4) (N := 12) hx hb hts hinX4 hown hK hP 0 rfl rfl 5 (by decide) hm1 (fun _ h9 => h9) rfl dX4_frameSpan_24 ?_
    refine lv_iload_n hx hb dX4_frameSpan_27 rfl (lv_at hl 2 rfl) ?_
    refine k_iconst hx hb dX4_frameSpan_28 ?_
    refine k_roS (As := [.int (iI t), .int (iI 0)]) (rest := [.ref (a 2), .int (iI (P 2 (12 * t + ((P 1 t) - 1))))]) ⟨hx, hb, hml, hown, hts⟩ (c_X4_slot l D t 0 ) gX4_frameSpan_X4_slot rfl ⟨rfl, rfl⟩ 2 rfl (by decide +kernel) ⟨Nat.le_of_ble_eq_true rfl, Nat.le_of_ble_eq_true rfl⟩ kGT_ok trivial (fun k q h => by simp at h) hl.1 rfl (Nat.le_of_ble_eq_true rfl) ⟨Nat.le_of_ble_eq_true rfl, Nat.le_of_ble_eq_true rfl⟩ dX4_frameSpan_29 (fun r_3 hr_3 => ?_)
    have hr_3 : r_3 = 12 * t + 0 := hr_3
    subst hr_3
    refine k_iald hx hb hK hP 2 0 (f := P 2) rfl rfl (i := 12 * t + 0) (by omega) dX4_frameSpan_32 ?_
    refine k_isub hx hb dX4_frameSpan_33 ?_
    refine lv_goto (tgt := 38) hx hb dX4_frameSpan_34 (by decide) ?_
    exact W.iret (v := iI ((P 2 (12 * t + ((P 1 t) - 1))) - (P 2 (12 * t + 0)))) hx hb hr (fun t9 ht _ => ⟨((P 2 (12 * t + ((P 1 t) - 1))) - (P 2 (12 * t + 0))), rfl, (by first | exact hfs.symm | (have e9 : P 1 t - 1 = 0 := (by omega); rw [e9] at hfs; omega) : ((P 2 (12 * t + ((P 1 t) - 1))) - (P 2 (12 * t + 0)) : Int) = fspan (mO P) t), ht⟩) (fun _ h => nomatch h) dX4_frameSpan_38 hlocks
set_option maxHeartbeats 4000000 in
set_option maxRecDepth 100000 in
theorem c_X4_placeX (l : Launch) (D : va_G) (cy : Nat → ClassId) (a : Nat → Nat) (P : Nat → Int → Int) (k u : Int) (hk : 0 ≤ k ∧ k < 144) (hu : -100 ≤ u ∧ u ≤ 100) (hf : 0 ≤ P 2 k ∧ P 2 k ≤ 1000) : Met l yX4_placeX wsX4_placeX { frames := 1, cells := 0, slots := 0, locals := 22 } (kPre (GG D cy) D (plW cy a P) ([.ref (a 0), .int (iI k), .int (iI u)] : List Value)) (kRO (fun r => r = dplX P k u)) 0 0 (fun _ => False) := by
  refine kRO_start (cc := cX4_placeX) (maxL := 3) (ret := (some .int)) (by decide) rfl (Nat.le_of_ble_eq_true rfl) ?_
  intro p e s m below meth c hx hb hr hlocks hml hts hown hG hP ls hl
  have hK := hG.1
  have hl : lv_has ls 3 [(0, .ref (a 0)), (1, .int (iI k)), (2, .int (iI u))] := hl
  have hinX4 : ∀ w ∈ u_ws RX4 TX4 12, w ∈ wsX4_placeX := by decide +kernel
  have hm0 := hts (.fieldLink RX4 31 "ArcPlate$Plate" "xs" "[I") (by decide +kernel)
  have hm1 := hts (.fieldLink RX4 28 "ArcPlate$Plate" "frames" "[I") (by decide +kernel)
  have hm := mul_bd (a := 100) (b := 1000) hu hf
  refine lv_aload_n hx hb dX4_placeX_0 rfl (lv_at hl 0 rfl) ?_
  refine va_get (D := D) (ci := 3) (v := .ref (a 3)) (C := RX4) (T := TX4) (N := 12) hx hb hts hinX4 hown hK hP 0 rfl rfl 6 (by decide) hm0 (fun _ h9 => h9) rfl dX4_placeX_1 ?_
  refine lv_iload_n hx hb dX4_placeX_4 rfl (lv_at hl 1 rfl) ?_
  refine k_iald hx hb hK hP 3 0 (f := P 3) rfl rfl (i := k) (by omega) dX4_placeX_5 ?_
  refine lv_iload_n hx hb dX4_placeX_6 rfl (lv_at hl 2 rfl) ?_
  refine lv_aload_n hx hb dX4_placeX_7 rfl (lv_at hl 0 rfl) ?_
  refine va_get (D := D) (ci := 3) (v := .ref (a 2)) (C := RX4) (T := TX4) (N := 12) hx hb hts hinX4 hown hK hP 0 rfl rfl 5 (by decide) hm1 (fun _ h9 => h9) rfl dX4_placeX_8 ?_
  refine lv_iload_n hx hb dX4_placeX_11 rfl (lv_at hl 1 rfl) ?_
  refine k_iald hx hb hK hP 2 0 (f := P 2) rfl rfl (i := k) (by omega) dX4_placeX_12 ?_
  refine k_imul hx hb dX4_placeX_13 ?_
  refine k_bipush hx hb dX4_placeX_14 (by decide +kernel) ?_
  refine k_roS (As := [.int (iI (u * (P 2 k))), .int (iI 100)]) (rest := [.int (iI (P 3 k))]) ⟨hx, hb, hml, hown, hts⟩ (c_J9_floorDiv_7cf53 l D (u * (P 2 k)) 100 (show -2147483648 ≤ (u * (P 2 k)) ∧ (u * (P 2 k)) ≤ 2147483647 by omega) (show 0 < 100 ∧ 100 ≤ 2147483647 by omega)) gX4_placeX_J9_floorDiv_7cf53 rfl ⟨rfl, rfl⟩ 2 rfl (by decide +kernel) ⟨Nat.le_of_ble_eq_true rfl, Nat.le_of_ble_eq_true rfl⟩ kGT_ok trivial (fun k q h => by simp at h) hl.1 rfl (Nat.le_of_ble_eq_true rfl) ⟨Nat.le_of_ble_eq_true rfl, Nat.le_of_ble_eq_true rfl⟩ dX4_placeX_16 (fun r_1 hr_1 => ?_)
  have hr_1 : r_1 = (u * (P 2 k)) / 100 := hr_1
  subst hr_1
  refine k_isub hx hb dX4_placeX_19 ?_
  exact W.iret (v := iI ((P 3 k) - ((u * (P 2 k)) / 100))) hx hb hr (fun t9 ht _ => ⟨((P 3 k) - ((u * (P 2 k)) / 100)), rfl, (by first | rfl | omega : ((P 3 k) - ((u * (P 2 k)) / 100) : Int) = dplX P k u), ht⟩) (fun _ h => nomatch h) dX4_placeX_20 hlocks
set_option maxHeartbeats 4000000 in
set_option maxRecDepth 100000 in
theorem c_X4_placeY (l : Launch) (D : va_G) (cy : Nat → ClassId) (a : Nat → Nat) (P : Nat → Int → Int) (k u : Int) (hk : 0 ≤ k ∧ k < 144) (hu : -100 ≤ u ∧ u ≤ 100) (hf : 0 ≤ P 2 k ∧ P 2 k ≤ 1000) : Met l yX4_placeY wsX4_placeY { frames := 1, cells := 0, slots := 0, locals := 22 } (kPre (GG D cy) D (plW cy a P) ([.ref (a 0), .int (iI k), .int (iI u)] : List Value)) (kRO (fun r => r = dplY P k u)) 0 0 (fun _ => False) := by
  refine kRO_start (cc := cX4_placeY) (maxL := 3) (ret := (some .int)) (by decide) rfl (Nat.le_of_ble_eq_true rfl) ?_
  intro p e s m below meth c hx hb hr hlocks hml hts hown hG hP ls hl
  have hK := hG.1
  have hl : lv_has ls 3 [(0, .ref (a 0)), (1, .int (iI k)), (2, .int (iI u))] := hl
  have hinX4 : ∀ w ∈ u_ws RX4 TX4 12, w ∈ wsX4_placeY := by decide +kernel
  have hm0 := hts (.fieldLink RX4 34 "ArcPlate$Plate" "ys" "[I") (by decide +kernel)
  have hm1 := hts (.fieldLink RX4 28 "ArcPlate$Plate" "frames" "[I") (by decide +kernel)
  have hm := mul_bd (a := 100) (b := 1000) hu hf
  refine lv_aload_n hx hb dX4_placeY_0 rfl (lv_at hl 0 rfl) ?_
  refine va_get (D := D) (ci := 3) (v := .ref (a 4)) (C := RX4) (T := TX4) (N := 12) hx hb hts hinX4 hown hK hP 0 rfl rfl 7 (by decide) hm0 (fun _ h9 => h9) rfl dX4_placeY_1 ?_
  refine lv_iload_n hx hb dX4_placeY_4 rfl (lv_at hl 1 rfl) ?_
  refine k_iald hx hb hK hP 4 0 (f := P 4) rfl rfl (i := k) (by omega) dX4_placeY_5 ?_
  refine lv_iload_n hx hb dX4_placeY_6 rfl (lv_at hl 2 rfl) ?_
  refine lv_aload_n hx hb dX4_placeY_7 rfl (lv_at hl 0 rfl) ?_
  refine va_get (D := D) (ci := 3) (v := .ref (a 2)) (C := RX4) (T := TX4) (N := 12) hx hb hts hinX4 hown hK hP 0 rfl rfl 5 (by decide) hm1 (fun _ h9 => h9) rfl dX4_placeY_8 ?_
  refine lv_iload_n hx hb dX4_placeY_11 rfl (lv_at hl 1 rfl) ?_
  refine k_iald hx hb hK hP 2 0 (f := P 2) rfl rfl (i := k) (by omega) dX4_placeY_12 ?_
  refine k_imul hx hb dX4_placeY_13 ?_
  refine k_bipush hx hb dX4_placeY_14 (by decide +kernel) ?_
  refine k_roS (As := [.int (iI (u * (P 2 k))), .int (iI 100)]) (rest := [.int (iI (P 4 k))]) ⟨hx, hb, hml, hown, hts⟩ (c_J9_floorDiv_7cf53 l D (u * (P 2 k)) 100 (show -2147483648 ≤ (u * (P 2 k)) ∧ (u * (P 2 k)) ≤ 2147483647 by omega) (show 0 < 100 ∧ 100 ≤ 2147483647 by omega)) gX4_placeY_J9_floorDiv_7cf53 rfl ⟨rfl, rfl⟩ 2 rfl (by decide +kernel) ⟨Nat.le_of_ble_eq_true rfl, Nat.le_of_ble_eq_true rfl⟩ kGT_ok trivial (fun k q h => by simp at h) hl.1 rfl (Nat.le_of_ble_eq_true rfl) ⟨Nat.le_of_ble_eq_true rfl, Nat.le_of_ble_eq_true rfl⟩ dX4_placeY_16 (fun r_1 hr_1 => ?_)
  have hr_1 : r_1 = (u * (P 2 k)) / 100 := hr_1
  subst hr_1
  refine k_isub hx hb dX4_placeY_19 ?_
  exact W.iret (v := iI ((P 4 k) - ((u * (P 2 k)) / 100))) hx hb hr (fun t9 ht _ => ⟨((P 4 k) - ((u * (P 2 k)) / 100)), rfl, (by first | rfl | omega : ((P 4 k) - ((u * (P 2 k)) / 100) : Int) = dplY P k u), ht⟩) (fun _ h => nomatch h) dX4_placeY_20 hlocks
set_option maxHeartbeats 4000000 in
set_option maxRecDepth 100000 in
theorem c_X4_radiusAt (l : Launch) (D : va_G) (cy : Nat → ClassId) (a : Nat → Nat) (P : Nat → Int → Int) (k : Int) (hI : Inv (mO P)) (hk : 0 ≤ k ∧ k < 144) (hf : 0 ≤ P 2 k ∧ P 2 k ≤ 1000) (hdx : -7000 ≤ dplX P k (P 8 1) - P 0 2 ∧ dplX P k (P 8 1) - P 0 2 ≤ 7000) (hdy : -7000 ≤ dplY P k (P 8 2) - P 0 3 ∧ dplY P k (P 8 2) - P 0 3 ≤ 7000) : Met l yX4_radiusAt wsX4_radiusAt { frames := 2, cells := 0, slots := 0, locals := 44 } (kPre (GG D cy) D (plW cy a P) ([.ref (a 0), .int (iI k)] : List Value)) (kRO (fun r => r = rt ((dplX P k (P 8 1) - P 0 2) * (dplX P k (P 8 1) - P 0 2) + (dplY P k (P 8 2) - P 0 3) * (dplY P k (P 8 2) - P 0 3)))) 0 0 (fun _ => False) := by
  refine kRO_start (cc := cX4_radiusAt) (maxL := 4) (ret := (some .int)) (by decide) rfl (Nat.le_of_ble_eq_true rfl) ?_
  intro p e s m below meth c hx hb hr hlocks hml hts hown hG hP ls hl
  have hK := hG.1
  have hl : lv_has ls 4 [(0, .ref (a 0)), (1, .int (iI k))] := hl
  have hinX4 : ∀ w ∈ u_ws RX4 TX4 12, w ∈ wsX4_radiusAt := by decide +kernel
  have hm0 := hts (.fieldLink RX4 54 "ArcPlate$Plate" "settings" "[I") (by decide +kernel)
  have hm1 := hts (.fieldLink RX4 18 "ArcPlate$Plate" "poleX" "I") (by decide +kernel)
  have hm2 := hts (.fieldLink RX4 21 "ArcPlate$Plate" "poleY" "I") (by decide +kernel)
  have hset := po_set hI
  have hs := sum_sq hdx hdy
  refine lv_aload_n hx hb dX4_radiusAt_0 rfl (lv_at hl 0 rfl) ?_
  refine lv_iload_n hx hb dX4_radiusAt_1 rfl (lv_at hl 1 rfl) ?_
  refine lv_aload_n hx hb dX4_radiusAt_2 rfl (lv_at hl 0 rfl) ?_
  refine va_get (D := D) (ci := 3) (v := .ref (a 8)) (C := RX4) (T := TX4) (N := 12) hx hb hts hinX4 hown hK hP 0 rfl rfl 11 (by decide) hm0 (fun _ h9 => h9) rfl dX4_radiusAt_3 ?_
  refine k_iconst hx hb dX4_radiusAt_6 ?_
  refine k_iald hx hb hK hP 8 0 (f := P 8) rfl rfl (i := 1) (by omega) dX4_radiusAt_7 ?_
  refine k_roV (As := [.int (iI k), .int (iI (P 8 1))]) (rest := []) ⟨hx, hb, hml, hown, hts⟩ (c_X4_placeX l D cy a P k (P 8 1) (show 0 ≤ k ∧ k < 144 by omega) (show -100 ≤ (P 8 1) ∧ (P 8 1) ≤ 100 by omega) (show 0 ≤ P 2 k ∧ P 2 k ≤ 1000 by omega)) gX4_radiusAt_X4_placeX rfl ⟨rfl, rfl⟩ 2 rfl (by decide +kernel) ⟨Nat.le_of_ble_eq_true rfl, Nat.le_of_ble_eq_true rfl⟩ (GG_ok D cy) hG hP (va_recv hK hP (ci := 3) (q0 := 0) rfl rfl) hl.1 rfl (Nat.le_of_ble_eq_true rfl) ⟨Nat.le_of_ble_eq_true rfl, Nat.le_of_ble_eq_true rfl⟩ dX4_radiusAt_8 (fun r_1 hr_1 => ?_)
  have hr_1 : r_1 = dplX P k (P 8 1) := hr_1
  subst hr_1
  refine lv_aload_n hx hb dX4_radiusAt_11 rfl (lv_at hl 0 rfl) ?_
  refine va_get (D := D) (ci := 3) (v := .int (iI (P 0 2))) (C := RX4) (T := TX4) (N := 12) hx hb hts hinX4 hown hK hP 0 rfl rfl 2 (by decide) hm1 (fun _ h9 => h9) rfl dX4_radiusAt_12 ?_
  refine k_isub hx hb dX4_radiusAt_15 ?_
  refine lv_istore_n (lv' := [(2, .int (iI ((dplX P k (P 8 1)) - (P 0 2)))), (0, .ref (a 0)), (1, .int (iI k))]) hx hb dX4_radiusAt_16 rfl hl (by decide) rfl (fun ls hl => ?_)
  refine lv_aload_n hx hb dX4_radiusAt_17 rfl (lv_at hl 1 rfl) ?_
  refine lv_iload_n hx hb dX4_radiusAt_18 rfl (lv_at hl 2 rfl) ?_
  refine lv_aload_n hx hb dX4_radiusAt_19 rfl (lv_at hl 1 rfl) ?_
  refine va_get (D := D) (ci := 3) (v := .ref (a 8)) (C := RX4) (T := TX4) (N := 12) hx hb hts hinX4 hown hK hP 0 rfl rfl 11 (by decide) hm0 (fun _ h9 => h9) rfl dX4_radiusAt_20 ?_
  refine k_iconst hx hb dX4_radiusAt_23 ?_
  refine k_iald hx hb hK hP 8 0 (f := P 8) rfl rfl (i := 2) (by omega) dX4_radiusAt_24 ?_
  refine k_roV (As := [.int (iI k), .int (iI (P 8 2))]) (rest := []) ⟨hx, hb, hml, hown, hts⟩ (c_X4_placeY l D cy a P k (P 8 2) (show 0 ≤ k ∧ k < 144 by omega) (show -100 ≤ (P 8 2) ∧ (P 8 2) ≤ 100 by omega) (show 0 ≤ P 2 k ∧ P 2 k ≤ 1000 by omega)) gX4_radiusAt_X4_placeY rfl ⟨rfl, rfl⟩ 2 rfl (by decide +kernel) ⟨Nat.le_of_ble_eq_true rfl, Nat.le_of_ble_eq_true rfl⟩ (GG_ok D cy) hG hP (va_recv hK hP (ci := 3) (q0 := 0) rfl rfl) hl.1 rfl (Nat.le_of_ble_eq_true rfl) ⟨Nat.le_of_ble_eq_true rfl, Nat.le_of_ble_eq_true rfl⟩ dX4_radiusAt_25 (fun r_2 hr_2 => ?_)
  have hr_2 : r_2 = dplY P k (P 8 2) := hr_2
  subst hr_2
  refine lv_aload_n hx hb dX4_radiusAt_28 rfl (lv_at hl 1 rfl) ?_
  refine va_get (D := D) (ci := 3) (v := .int (iI (P 0 3))) (C := RX4) (T := TX4) (N := 12) hx hb hts hinX4 hown hK hP 0 rfl rfl 3 (by decide) hm2 (fun _ h9 => h9) rfl dX4_radiusAt_29 ?_
  refine k_isub hx hb dX4_radiusAt_32 ?_
  refine lv_istore_n (lv' := [(3, .int (iI ((dplY P k (P 8 2)) - (P 0 3)))), (2, .int (iI ((dplX P k (P 8 1)) - (P 0 2)))), (0, .ref (a 0)), (1, .int (iI k))]) hx hb dX4_radiusAt_33 rfl hl (by decide) rfl (fun ls hl => ?_)
  refine lv_iload_n hx hb dX4_radiusAt_34 rfl (lv_at hl 1 rfl) ?_
  refine lv_iload_n hx hb dX4_radiusAt_35 rfl (lv_at hl 1 rfl) ?_
  refine k_imul hx hb dX4_radiusAt_36 ?_
  refine lv_iload_n hx hb dX4_radiusAt_37 rfl (lv_at hl 0 rfl) ?_
  refine lv_iload_n hx hb dX4_radiusAt_38 rfl (lv_at hl 0 rfl) ?_
  refine k_imul hx hb dX4_radiusAt_39 ?_
  refine k_iadd hx hb dX4_radiusAt_40 ?_
  refine k_roS (As := [.int (iI ((((dplX P k (P 8 1)) - (P 0 2)) * ((dplX P k (P 8 1)) - (P 0 2))) + (((dplY P k (P 8 2)) - (P 0 3)) * ((dplY P k (P 8 2)) - (P 0 3)))))]) (rest := []) ⟨hx, hb, hml, hown, hts⟩ (c_X0_root l D ((((dplX P k (P 8 1)) - (P 0 2)) * ((dplX P k (P 8 1)) - (P 0 2))) + (((dplY P k (P 8 2)) - (P 0 3)) * ((dplY P k (P 8 2)) - (P 0 3)))) (show 0 ≤ ((((dplX P k (P 8 1)) - (P 0 2)) * ((dplX P k (P 8 1)) - (P 0 2))) + (((dplY P k (P 8 2)) - (P 0 3)) * ((dplY P k (P 8 2)) - (P 0 3)))) ∧ ((((dplX P k (P 8 1)) - (P 0 2)) * ((dplX P k (P 8 1)) - (P 0 2))) + (((dplY P k (P 8 2)) - (P 0 3)) * ((dplY P k (P 8 2)) - (P 0 3)))) ≤ 200000000 by omega)) gX4_radiusAt_X0_root rfl ⟨rfl, rfl⟩ 1 rfl (by decide +kernel) ⟨Nat.le_of_ble_eq_true rfl, Nat.le_of_ble_eq_true rfl⟩ kGT_ok trivial (fun k q h => by simp at h) hl.1 rfl (Nat.le_of_ble_eq_true rfl) ⟨Nat.le_of_ble_eq_true rfl, Nat.le_of_ble_eq_true rfl⟩ dX4_radiusAt_41 (fun r_3 hr_3 => ?_)
  have hr_3 : r_3 = rt ((((dplX P k (P 8 1)) - (P 0 2)) * ((dplX P k (P 8 1)) - (P 0 2))) + (((dplY P k (P 8 2)) - (P 0 3)) * ((dplY P k (P 8 2)) - (P 0 3)))) := hr_3
  subst hr_3
  exact W.iret (v := iI (rt ((((dplX P k (P 8 1)) - (P 0 2)) * ((dplX P k (P 8 1)) - (P 0 2))) + (((dplY P k (P 8 2)) - (P 0 3)) * ((dplY P k (P 8 2)) - (P 0 3)))))) hx hb hr (fun t9 ht _ => ⟨(rt ((((dplX P k (P 8 1)) - (P 0 2)) * ((dplX P k (P 8 1)) - (P 0 2))) + (((dplY P k (P 8 2)) - (P 0 3)) * ((dplY P k (P 8 2)) - (P 0 3))))), rfl, (by first | rfl | omega : (rt ((((dplX P k (P 8 1)) - (P 0 2)) * ((dplX P k (P 8 1)) - (P 0 2))) + (((dplY P k (P 8 2)) - (P 0 3)) * ((dplY P k (P 8 2)) - (P 0 3)))) : Int) = rt ((dplX P k (P 8 1) - P 0 2) * (dplX P k (P 8 1) - P 0 2) + (dplY P k (P 8 2) - P 0 3) * (dplY P k (P 8 2) - P 0 3))), ht⟩) (fun _ h => nomatch h) dX4_radiusAt_44 hlocks
set_option maxHeartbeats 4000000 in
set_option maxRecDepth 100000 in
theorem c_X4_angleAt (l : Launch) (D : va_G) (cy : Nat → ClassId) (a : Nat → Nat) (P : Nat → Int → Int) (k : Int) (hI : Inv (mO P)) (hk : 0 ≤ k ∧ k < 144) (hf : 0 ≤ P 2 k ∧ P 2 k ≤ 1000) (hdx : -7000 ≤ dplX P k (P 8 1) - P 0 2 ∧ dplX P k (P 8 1) - P 0 2 ≤ 7000) (hdy : -7000 ≤ dplY P k (P 8 2) - P 0 3 ∧ dplY P k (P 8 2) - P 0 3 ≤ 7000) : Met l yX4_angleAt wsX4_angleAt { frames := 2, cells := 0, slots := 0, locals := 50 } (kPre (GG D cy) D (plW cy a P) ([.ref (a 0), .int (iI k)] : List Value)) (kRO (fun r => r = angF (dplX P k (P 8 1) - P 0 2) (dplY P k (P 8 2) - P 0 3))) 0 0 (fun _ => False) := by
  refine kRO_start (cc := cX4_angleAt) (maxL := 4) (ret := (some .int)) (by decide) rfl (Nat.le_of_ble_eq_true rfl) ?_
  intro p e s m below meth c hx hb hr hlocks hml hts hown hG hP ls hl
  have hK := hG.1
  have hl : lv_has ls 4 [(0, .ref (a 0)), (1, .int (iI k))] := hl
  have hinX4 : ∀ w ∈ u_ws RX4 TX4 12, w ∈ wsX4_angleAt := by decide +kernel
  have hm0 := hts (.fieldLink RX4 54 "ArcPlate$Plate" "settings" "[I") (by decide +kernel)
  have hm1 := hts (.fieldLink RX4 18 "ArcPlate$Plate" "poleX" "I") (by decide +kernel)
  have hm2 := hts (.fieldLink RX4 21 "ArcPlate$Plate" "poleY" "I") (by decide +kernel)
  have hset := po_set hI
  refine lv_aload_n hx hb dX4_angleAt_0 rfl (lv_at hl 0 rfl) ?_
  refine lv_iload_n hx hb dX4_angleAt_1 rfl (lv_at hl 1 rfl) ?_
  refine lv_aload_n hx hb dX4_angleAt_2 rfl (lv_at hl 0 rfl) ?_
  refine va_get (D := D) (ci := 3) (v := .ref (a 8)) (C := RX4) (T := TX4) (N := 12) hx hb hts hinX4 hown hK hP 0 rfl rfl 11 (by decide) hm0 (fun _ h9 => h9) rfl dX4_angleAt_3 ?_
  refine k_iconst hx hb dX4_angleAt_6 ?_
  refine k_iald hx hb hK hP 8 0 (f := P 8) rfl rfl (i := 1) (by omega) dX4_angleAt_7 ?_
  refine k_roV (As := [.int (iI k), .int (iI (P 8 1))]) (rest := []) ⟨hx, hb, hml, hown, hts⟩ (c_X4_placeX l D cy a P k (P 8 1) (show 0 ≤ k ∧ k < 144 by omega) (show -100 ≤ (P 8 1) ∧ (P 8 1) ≤ 100 by omega) (show 0 ≤ P 2 k ∧ P 2 k ≤ 1000 by omega)) gX4_angleAt_X4_placeX rfl ⟨rfl, rfl⟩ 2 rfl (by decide +kernel) ⟨Nat.le_of_ble_eq_true rfl, Nat.le_of_ble_eq_true rfl⟩ (GG_ok D cy) hG hP (va_recv hK hP (ci := 3) (q0 := 0) rfl rfl) hl.1 rfl (Nat.le_of_ble_eq_true rfl) ⟨Nat.le_of_ble_eq_true rfl, Nat.le_of_ble_eq_true rfl⟩ dX4_angleAt_8 (fun r_1 hr_1 => ?_)
  have hr_1 : r_1 = dplX P k (P 8 1) := hr_1
  subst hr_1
  refine lv_aload_n hx hb dX4_angleAt_11 rfl (lv_at hl 0 rfl) ?_
  refine va_get (D := D) (ci := 3) (v := .int (iI (P 0 2))) (C := RX4) (T := TX4) (N := 12) hx hb hts hinX4 hown hK hP 0 rfl rfl 2 (by decide) hm1 (fun _ h9 => h9) rfl dX4_angleAt_12 ?_
  refine k_isub hx hb dX4_angleAt_15 ?_
  refine lv_istore_n (lv' := [(2, .int (iI ((dplX P k (P 8 1)) - (P 0 2)))), (0, .ref (a 0)), (1, .int (iI k))]) hx hb dX4_angleAt_16 rfl hl (by decide) rfl (fun ls hl => ?_)
  refine lv_aload_n hx hb dX4_angleAt_17 rfl (lv_at hl 1 rfl) ?_
  refine lv_iload_n hx hb dX4_angleAt_18 rfl (lv_at hl 2 rfl) ?_
  refine lv_aload_n hx hb dX4_angleAt_19 rfl (lv_at hl 1 rfl) ?_
  refine va_get (D := D) (ci := 3) (v := .ref (a 8)) (C := RX4) (T := TX4) (N := 12) hx hb hts hinX4 hown hK hP 0 rfl rfl 11 (by decide) hm0 (fun _ h9 => h9) rfl dX4_angleAt_20 ?_
  refine k_iconst hx hb dX4_angleAt_23 ?_
  refine k_iald hx hb hK hP 8 0 (f := P 8) rfl rfl (i := 2) (by omega) dX4_angleAt_24 ?_
  refine k_roV (As := [.int (iI k), .int (iI (P 8 2))]) (rest := []) ⟨hx, hb, hml, hown, hts⟩ (c_X4_placeY l D cy a P k (P 8 2) (show 0 ≤ k ∧ k < 144 by omega) (show -100 ≤ (P 8 2) ∧ (P 8 2) ≤ 100 by omega) (show 0 ≤ P 2 k ∧ P 2 k ≤ 1000 by omega)) gX4_angleAt_X4_placeY rfl ⟨rfl, rfl⟩ 2 rfl (by decide +kernel) ⟨Nat.le_of_ble_eq_true rfl, Nat.le_of_ble_eq_true rfl⟩ (GG_ok D cy) hG hP (va_recv hK hP (ci := 3) (q0 := 0) rfl rfl) hl.1 rfl (Nat.le_of_ble_eq_true rfl) ⟨Nat.le_of_ble_eq_true rfl, Nat.le_of_ble_eq_true rfl⟩ dX4_angleAt_25 (fun r_2 hr_2 => ?_)
  have hr_2 : r_2 = dplY P k (P 8 2) := hr_2
  subst hr_2
  refine lv_aload_n hx hb dX4_angleAt_28 rfl (lv_at hl 1 rfl) ?_
  refine va_get (D := D) (ci := 3) (v := .int (iI (P 0 3))) (C := RX4) (T := TX4) (N := 12) hx hb hts hinX4 hown hK hP 0 rfl rfl 3 (by decide) hm2 (fun _ h9 => h9) rfl dX4_angleAt_29 ?_
  refine k_isub hx hb dX4_angleAt_32 ?_
  refine lv_istore_n (lv' := [(3, .int (iI ((dplY P k (P 8 2)) - (P 0 3)))), (2, .int (iI ((dplX P k (P 8 1)) - (P 0 2)))), (0, .ref (a 0)), (1, .int (iI k))]) hx hb dX4_angleAt_33 rfl hl (by decide) rfl (fun ls hl => ?_)
  refine lv_iload_n hx hb dX4_angleAt_34 rfl (lv_at hl 1 rfl) ?_
  refine lv_iload_n hx hb dX4_angleAt_35 rfl (lv_at hl 0 rfl) ?_
  refine k_roS (As := [.int (iI ((dplX P k (P 8 1)) - (P 0 2))), .int (iI ((dplY P k (P 8 2)) - (P 0 3)))]) (rest := []) ⟨hx, hb, hml, hown, hts⟩ (c_X0_angle l D cy ((dplX P k (P 8 1)) - (P 0 2)) ((dplY P k (P 8 2)) - (P 0 3)) (show -7000 ≤ ((dplX P k (P 8 1)) - (P 0 2)) ∧ ((dplX P k (P 8 1)) - (P 0 2)) ≤ 7000 by omega) (show -7000 ≤ ((dplY P k (P 8 2)) - (P 0 3)) ∧ ((dplY P k (P 8 2)) - (P 0 3)) ≤ 7000 by omega)) gX4_angleAt_X0_angle rfl ⟨rfl, rfl⟩ 2 rfl (by decide +kernel) ⟨Nat.le_of_ble_eq_true rfl, Nat.le_of_ble_eq_true rfl⟩ (GG_ok D cy) hG (fun k q h => by simp at h) hl.1 rfl (Nat.le_of_ble_eq_true rfl) ⟨Nat.le_of_ble_eq_true rfl, Nat.le_of_ble_eq_true rfl⟩ dX4_angleAt_36 (fun r_3 hr_3 => ?_)
  have hr_3 : r_3 = angF ((dplX P k (P 8 1)) - (P 0 2)) ((dplY P k (P 8 2)) - (P 0 3)) := hr_3
  subst hr_3
  exact W.iret (v := iI (angF ((dplX P k (P 8 1)) - (P 0 2)) ((dplY P k (P 8 2)) - (P 0 3)))) hx hb hr (fun t9 ht _ => ⟨(angF ((dplX P k (P 8 1)) - (P 0 2)) ((dplY P k (P 8 2)) - (P 0 3))), rfl, (by first | rfl | omega : (angF ((dplX P k (P 8 1)) - (P 0 2)) ((dplY P k (P 8 2)) - (P 0 3)) : Int) = angF (dplX P k (P 8 1) - P 0 2) (dplY P k (P 8 2) - P 0 3)), ht⟩) (fun _ h => nomatch h) dX4_angleAt_39 hlocks
set_option maxHeartbeats 4000000 in
set_option maxRecDepth 100000 in
theorem c_X4_pointValue (l : Launch) (D : va_G) (cy : Nat → ClassId) (a : Nat → Nat) (P : Nat → Int → Int) (t q w : Int) (hI : Inv (mO P)) (h0 : 0 ≤ t) (h1 : t < P 0 0) (h2 : 0 ≤ q) (h3 : q < P 1 t) (hw : 0 ≤ w ∧ w ≤ 6) : Met l yX4_pointValue wsX4_pointValue { frames := 3, cells := 0, slots := 0, locals := 73 } (kPre (GG D cy) D (plW cy a P) ([.ref (a 0), .int (iI t), .int (iI q), .int (iI w)] : List Value)) (kRO (fun r => r = ptV (mO P) t q w)) 0 0 (fun _ => False) := by
  refine kRO_start (cc := cX4_pointValue) (maxL := 5) (ret := (some .int)) (by decide) rfl (Nat.le_of_ble_eq_true rfl) ?_
  intro p e s m below meth c hx hb hr hlocks hml hts hown hG hP ls hl
  have hK := hG.1
  have hl : lv_has ls 5 [(0, .ref (a 0)), (1, .int (iI t)), (2, .int (iI q)), (3, .int (iI w))] := hl
  have hinX4 : ∀ w ∈ u_ws RX4 TX4 12, w ∈ wsX4_pointValue := by decide +kernel
  have hm0 := hts (.fieldLink RX4 28 "ArcPlate$Plate" "frames" "[I") (by decide +kernel)
  have hm1 := hts (.fieldLink RX4 31 "ArcPlate$Plate" "xs" "[I") (by decide +kernel)
  have hm2 := hts (.fieldLink RX4 34 "ArcPlate$Plate" "ys" "[I") (by decide +kernel)
  have hm3 := hts (.fieldLink RX4 54 "ArcPlate$Plate" "settings" "[I") (by decide +kernel)
  have hS0 := po_S hI
  have hp := po_pts hI h0 h1
  have hset := po_set hI
  have hpt := po_pt hI h0 h1 h2 h3
  have hd := dxy_mO hI h0 h1 h2 h3
  have hv := ptV_mO (P := P) (t := t) (q := q) h0 (by omega) h2 (by omega) hw
  have hrd := rd_mO P (t := t) (q := q) h0 (by omega) h2 (by omega)
  have han := an_mO P (t := t) (q := q) h0 (by omega) h2 (by omega)
  refine lv_iload_n hx hb dX4_pointValue_0 rfl (lv_at hl 1 rfl) ?_
  refine lv_iload_n hx hb dX4_pointValue_1 rfl (lv_at hl 2 rfl) ?_
  refine k_roS (As := [.int (iI t), .int (iI q)]) (rest := []) ⟨hx, hb, hml, hown, hts⟩ (c_X4_slot l D t q ) gX4_pointValue_X4_slot rfl ⟨rfl, rfl⟩ 2 rfl (by decide +kernel) ⟨Nat.le_of_ble_eq_true rfl, Nat.le_of_ble_eq_true rfl⟩ kGT_ok trivial (fun k q h => by simp at h) hl.1 rfl (Nat.le_of_ble_eq_true rfl) ⟨Nat.le_of_ble_eq_true rfl, Nat.le_of_ble_eq_true rfl⟩ dX4_pointValue_2 (fun r_1 hr_1 => ?_)
  have hr_1 : r_1 = 12 * t + q := hr_1
  subst hr_1
  refine lv_istore (lv' := [(4, .int (iI (12 * t + q))), (0, .ref (a 0)), (1, .int (iI t)), (2, .int (iI q)), (3, .int (iI w))]) hx hb dX4_pointValue_5 hl (by decide) rfl (fun ls hl => ?_)
  refine lv_iload_n hx hb dX4_pointValue_7 rfl (lv_at hl 4 rfl) ?_
  rcases (show w = 0 ∨ w = 1 ∨ w = 2 ∨ w = 3 ∨ w = 4 ∨ w = 5 ∨ (w < 0 ∨ 5 < w) by omega) with c_2 | c_2 | c_2 | c_2 | c_2 | c_2 | c_2
  · skip
    refine k_tin (tgt := 48) hx hb 0 c_2 (by decide) dX4_pointValue_8 (by decide) (by decide) rfl (by decide) ?_
    refine lv_aload_n hx hb dX4_pointValue_48 rfl (lv_at hl 1 rfl) ?_
    refine va_get (D := D) (ci := 3) (v := .ref (a 2)) (C := RX4) (T := TX4) (N := 12) hx hb hts hinX4 hown hK hP 0 rfl rfl 5 (by decide) hm0 (fun _ h9 => h9) rfl dX4_pointValue_49 ?_
    refine lv_iload hx hb dX4_pointValue_52 (lv_at hl 0 rfl) ?_
    refine k_iald hx hb hK hP 2 0 (f := P 2) rfl rfl (i := 12 * t + q) (by omega) dX4_pointValue_54 ?_
    exact W.iret (v := iI (P 2 (12 * t + q))) hx hb hr (fun t9 ht _ => ⟨(P 2 (12 * t + q)), rfl, (by first | exact (hv.1 (by omega)).symm | exact (hv.2.1 (by omega)).symm | exact (hv.2.2.1 (by omega)).symm | exact (hv.2.2.2.1 (by omega)).symm | exact (hv.2.2.2.2.1 (by omega)).symm | exact ((hv.2.2.2.2.2.1 (by omega)).trans hrd).symm | exact ((hv.2.2.2.2.2.2 (by omega)).trans han).symm : (P 2 (12 * t + q) : Int) = ptV (mO P) t q w), ht⟩) (fun _ h => nomatch h) dX4_pointValue_55 hlocks
  · skip
    refine k_tin (tgt := 56) hx hb 1 c_2 (by decide) dX4_pointValue_8 (by decide) (by decide) rfl (by decide) ?_
    refine lv_aload_n hx hb dX4_pointValue_56 rfl (lv_at hl 1 rfl) ?_
    refine va_get (D := D) (ci := 3) (v := .ref (a 3)) (C := RX4) (T := TX4) (N := 12) hx hb hts hinX4 hown hK hP 0 rfl rfl 6 (by decide) hm1 (fun _ h9 => h9) rfl dX4_pointValue_57 ?_
    refine lv_iload hx hb dX4_pointValue_60 (lv_at hl 0 rfl) ?_
    refine k_iald hx hb hK hP 3 0 (f := P 3) rfl rfl (i := 12 * t + q) (by omega) dX4_pointValue_62 ?_
    exact W.iret (v := iI (P 3 (12 * t + q))) hx hb hr (fun t9 ht _ => ⟨(P 3 (12 * t + q)), rfl, (by first | exact (hv.1 (by omega)).symm | exact (hv.2.1 (by omega)).symm | exact (hv.2.2.1 (by omega)).symm | exact (hv.2.2.2.1 (by omega)).symm | exact (hv.2.2.2.2.1 (by omega)).symm | exact ((hv.2.2.2.2.2.1 (by omega)).trans hrd).symm | exact ((hv.2.2.2.2.2.2 (by omega)).trans han).symm : (P 3 (12 * t + q) : Int) = ptV (mO P) t q w), ht⟩) (fun _ h => nomatch h) dX4_pointValue_63 hlocks
  · skip
    refine k_tin (tgt := 64) hx hb 2 c_2 (by decide) dX4_pointValue_8 (by decide) (by decide) rfl (by decide) ?_
    refine lv_aload_n hx hb dX4_pointValue_64 rfl (lv_at hl 1 rfl) ?_
    refine va_get (D := D) (ci := 3) (v := .ref (a 4)) (C := RX4) (T := TX4) (N := 12) hx hb hts hinX4 hown hK hP 0 rfl rfl 7 (by decide) hm2 (fun _ h9 => h9) rfl dX4_pointValue_65 ?_
    refine lv_iload hx hb dX4_pointValue_68 (lv_at hl 0 rfl) ?_
    refine k_iald hx hb hK hP 4 0 (f := P 4) rfl rfl (i := 12 * t + q) (by omega) dX4_pointValue_70 ?_
    exact W.iret (v := iI (P 4 (12 * t + q))) hx hb hr (fun t9 ht _ => ⟨(P 4 (12 * t + q)), rfl, (by first | exact (hv.1 (by omega)).symm | exact (hv.2.1 (by omega)).symm | exact (hv.2.2.1 (by omega)).symm | exact (hv.2.2.2.1 (by omega)).symm | exact (hv.2.2.2.2.1 (by omega)).symm | exact ((hv.2.2.2.2.2.1 (by omega)).trans hrd).symm | exact ((hv.2.2.2.2.2.2 (by omega)).trans han).symm : (P 4 (12 * t + q) : Int) = ptV (mO P) t q w), ht⟩) (fun _ h => nomatch h) dX4_pointValue_71 hlocks
  · skip
    refine k_tin (tgt := 72) hx hb 3 c_2 (by decide) dX4_pointValue_8 (by decide) (by decide) rfl (by decide) ?_
    refine lv_aload_n hx hb dX4_pointValue_72 rfl (lv_at hl 1 rfl) ?_
    refine lv_iload hx hb dX4_pointValue_73 (lv_at hl 0 rfl) ?_
    refine lv_aload_n hx hb dX4_pointValue_75 rfl (lv_at hl 1 rfl) ?_
    refine va_get (D := D) (ci := 3) (v := .ref (a 8)) (C := RX4) (T := TX4) (N := 12) hx hb hts hinX4 hown hK hP 0 rfl rfl 11 (by decide) hm3 (fun _ h9 => h9) rfl dX4_pointValue_76 ?_
    refine k_iconst hx hb dX4_pointValue_79 ?_
    refine k_iald hx hb hK hP 8 0 (f := P 8) rfl rfl (i := 1) (by omega) dX4_pointValue_80 ?_
    refine k_roV (As := [.int (iI (12 * t + q)), .int (iI (P 8 1))]) (rest := []) ⟨hx, hb, hml, hown, hts⟩ (c_X4_placeX l D cy a P (12 * t + q) (P 8 1) (show 0 ≤ (12 * t + q) ∧ (12 * t + q) < 144 by omega) (show -100 ≤ (P 8 1) ∧ (P 8 1) ≤ 100 by omega) (show 0 ≤ P 2 (12 * t + q) ∧ P 2 (12 * t + q) ≤ 1000 by omega)) gX4_pointValue_X4_placeX rfl ⟨rfl, rfl⟩ 2 rfl (by decide +kernel) ⟨Nat.le_of_ble_eq_true rfl, Nat.le_of_ble_eq_true rfl⟩ (GG_ok D cy) hG hP (va_recv hK hP (ci := 3) (q0 := 0) rfl rfl) hl.1 rfl (Nat.le_of_ble_eq_true rfl) ⟨Nat.le_of_ble_eq_true rfl, Nat.le_of_ble_eq_true rfl⟩ dX4_pointValue_81 (fun r_3 hr_3 => ?_)
    have hr_3 : r_3 = dplX P (12 * t + q) (P 8 1) := hr_3
    subst hr_3
    exact W.iret (v := iI (dplX P (12 * t + q) (P 8 1))) hx hb hr (fun t9 ht _ => ⟨(dplX P (12 * t + q) (P 8 1)), rfl, (by first | exact (hv.1 (by omega)).symm | exact (hv.2.1 (by omega)).symm | exact (hv.2.2.1 (by omega)).symm | exact (hv.2.2.2.1 (by omega)).symm | exact (hv.2.2.2.2.1 (by omega)).symm | exact ((hv.2.2.2.2.2.1 (by omega)).trans hrd).symm | exact ((hv.2.2.2.2.2.2 (by omega)).trans han).symm : (dplX P (12 * t + q) (P 8 1) : Int) = ptV (mO P) t q w), ht⟩) (fun _ h => nomatch h) dX4_pointValue_84 hlocks
  · skip
    refine k_tin (tgt := 85) hx hb 4 c_2 (by decide) dX4_pointValue_8 (by decide) (by decide) rfl (by decide) ?_
    refine lv_aload_n hx hb dX4_pointValue_85 rfl (lv_at hl 1 rfl) ?_
    refine lv_iload hx hb dX4_pointValue_86 (lv_at hl 0 rfl) ?_
    refine lv_aload_n hx hb dX4_pointValue_88 rfl (lv_at hl 1 rfl) ?_
    refine va_get (D := D) (ci := 3) (v := .ref (a 8)) (C := RX4) (T := TX4) (N := 12) hx hb hts hinX4 hown hK hP 0 rfl rfl 11 (by decide) hm3 (fun _ h9 => h9) rfl dX4_pointValue_89 ?_
    refine k_iconst hx hb dX4_pointValue_92 ?_
    refine k_iald hx hb hK hP 8 0 (f := P 8) rfl rfl (i := 2) (by omega) dX4_pointValue_93 ?_
    refine k_roV (As := [.int (iI (12 * t + q)), .int (iI (P 8 2))]) (rest := []) ⟨hx, hb, hml, hown, hts⟩ (c_X4_placeY l D cy a P (12 * t + q) (P 8 2) (show 0 ≤ (12 * t + q) ∧ (12 * t + q) < 144 by omega) (show -100 ≤ (P 8 2) ∧ (P 8 2) ≤ 100 by omega) (show 0 ≤ P 2 (12 * t + q) ∧ P 2 (12 * t + q) ≤ 1000 by omega)) gX4_pointValue_X4_placeY rfl ⟨rfl, rfl⟩ 2 rfl (by decide +kernel) ⟨Nat.le_of_ble_eq_true rfl, Nat.le_of_ble_eq_true rfl⟩ (GG_ok D cy) hG hP (va_recv hK hP (ci := 3) (q0 := 0) rfl rfl) hl.1 rfl (Nat.le_of_ble_eq_true rfl) ⟨Nat.le_of_ble_eq_true rfl, Nat.le_of_ble_eq_true rfl⟩ dX4_pointValue_94 (fun r_4 hr_4 => ?_)
    have hr_4 : r_4 = dplY P (12 * t + q) (P 8 2) := hr_4
    subst hr_4
    exact W.iret (v := iI (dplY P (12 * t + q) (P 8 2))) hx hb hr (fun t9 ht _ => ⟨(dplY P (12 * t + q) (P 8 2)), rfl, (by first | exact (hv.1 (by omega)).symm | exact (hv.2.1 (by omega)).symm | exact (hv.2.2.1 (by omega)).symm | exact (hv.2.2.2.1 (by omega)).symm | exact (hv.2.2.2.2.1 (by omega)).symm | exact ((hv.2.2.2.2.2.1 (by omega)).trans hrd).symm | exact ((hv.2.2.2.2.2.2 (by omega)).trans han).symm : (dplY P (12 * t + q) (P 8 2) : Int) = ptV (mO P) t q w), ht⟩) (fun _ h => nomatch h) dX4_pointValue_97 hlocks
  · skip
    refine k_tin (tgt := 98) hx hb 5 c_2 (by decide) dX4_pointValue_8 (by decide) (by decide) rfl (by decide) ?_
    refine lv_aload_n hx hb dX4_pointValue_98 rfl (lv_at hl 1 rfl) ?_
    refine lv_iload hx hb dX4_pointValue_99 (lv_at hl 0 rfl) ?_
    refine k_roV (As := [.int (iI (12 * t + q))]) (rest := []) ⟨hx, hb, hml, hown, hts⟩ (c_X4_radiusAt l D cy a P (12 * t + q) hI (show 0 ≤ (12 * t + q) ∧ (12 * t + q) < 144 by omega) (show 0 ≤ P 2 (12 * t + q) ∧ P 2 (12 * t + q) ≤ 1000 by omega) (show -7000 ≤ dplX P (12 * t + q) (P 8 1) - P 0 2 ∧ dplX P (12 * t + q) (P 8 1) - P 0 2 ≤ 7000 by omega) (show -7000 ≤ dplY P (12 * t + q) (P 8 2) - P 0 3 ∧ dplY P (12 * t + q) (P 8 2) - P 0 3 ≤ 7000 by omega)) gX4_pointValue_X4_radiusAt rfl ⟨rfl, rfl⟩ 1 rfl (by decide +kernel) ⟨Nat.le_of_ble_eq_true rfl, Nat.le_of_ble_eq_true rfl⟩ (GG_ok D cy) hG hP (va_recv hK hP (ci := 3) (q0 := 0) rfl rfl) hl.1 rfl (Nat.le_of_ble_eq_true rfl) ⟨Nat.le_of_ble_eq_true rfl, Nat.le_of_ble_eq_true rfl⟩ dX4_pointValue_101 (fun r_5 hr_5 => ?_)
    have hr_5 : r_5 = rt ((dplX P (12 * t + q) (P 8 1) - P 0 2) * (dplX P (12 * t + q) (P 8 1) - P 0 2) + (dplY P (12 * t + q) (P 8 2) - P 0 3) * (dplY P (12 * t + q) (P 8 2) - P 0 3)) := hr_5
    subst hr_5
    exact W.iret (v := iI (rt ((dplX P (12 * t + q) (P 8 1) - P 0 2) * (dplX P (12 * t + q) (P 8 1) - P 0 2) + (dplY P (12 * t + q) (P 8 2) - P 0 3) * (dplY P (12 * t + q) (P 8 2) - P 0 3)))) hx hb hr (fun t9 ht _ => ⟨(rt ((dplX P (12 * t + q) (P 8 1) - P 0 2) * (dplX P (12 * t + q) (P 8 1) - P 0 2) + (dplY P (12 * t + q) (P 8 2) - P 0 3) * (dplY P (12 * t + q) (P 8 2) - P 0 3))), rfl, (by first | exact (hv.1 (by omega)).symm | exact (hv.2.1 (by omega)).symm | exact (hv.2.2.1 (by omega)).symm | exact (hv.2.2.2.1 (by omega)).symm | exact (hv.2.2.2.2.1 (by omega)).symm | exact ((hv.2.2.2.2.2.1 (by omega)).trans hrd).symm | exact ((hv.2.2.2.2.2.2 (by omega)).trans han).symm : (rt ((dplX P (12 * t + q) (P 8 1) - P 0 2) * (dplX P (12 * t + q) (P 8 1) - P 0 2) + (dplY P (12 * t + q) (P 8 2) - P 0 3) * (dplY P (12 * t + q) (P 8 2) - P 0 3)) : Int) = ptV (mO P) t q w), ht⟩) (fun _ h => nomatch h) dX4_pointValue_104 hlocks
  · skip
    refine k_tout (tgt := 105) hx hb (by omega) dX4_pointValue_8 c_2 (by decide) ?_
    refine lv_aload_n hx hb dX4_pointValue_105 rfl (lv_at hl 1 rfl) ?_
    refine lv_iload hx hb dX4_pointValue_106 (lv_at hl 0 rfl) ?_
    refine k_roV (As := [.int (iI (12 * t + q))]) (rest := []) ⟨hx, hb, hml, hown, hts⟩ (c_X4_angleAt l D cy a P (12 * t + q) hI (show 0 ≤ (12 * t + q) ∧ (12 * t + q) < 144 by omega) (show 0 ≤ P 2 (12 * t + q) ∧ P 2 (12 * t + q) ≤ 1000 by omega) (show -7000 ≤ dplX P (12 * t + q) (P 8 1) - P 0 2 ∧ dplX P (12 * t + q) (P 8 1) - P 0 2 ≤ 7000 by omega) (show -7000 ≤ dplY P (12 * t + q) (P 8 2) - P 0 3 ∧ dplY P (12 * t + q) (P 8 2) - P 0 3 ≤ 7000 by omega)) gX4_pointValue_X4_angleAt rfl ⟨rfl, rfl⟩ 1 rfl (by decide +kernel) ⟨Nat.le_of_ble_eq_true rfl, Nat.le_of_ble_eq_true rfl⟩ (GG_ok D cy) hG hP (va_recv hK hP (ci := 3) (q0 := 0) rfl rfl) hl.1 rfl (Nat.le_of_ble_eq_true rfl) ⟨Nat.le_of_ble_eq_true rfl, Nat.le_of_ble_eq_true rfl⟩ dX4_pointValue_108 (fun r_6 hr_6 => ?_)
    have hr_6 : r_6 = angF (dplX P (12 * t + q) (P 8 1) - P 0 2) (dplY P (12 * t + q) (P 8 2) - P 0 3) := hr_6
    subst hr_6
    exact W.iret (v := iI (angF (dplX P (12 * t + q) (P 8 1) - P 0 2) (dplY P (12 * t + q) (P 8 2) - P 0 3))) hx hb hr (fun t9 ht _ => ⟨(angF (dplX P (12 * t + q) (P 8 1) - P 0 2) (dplY P (12 * t + q) (P 8 2) - P 0 3)), rfl, (by first | exact (hv.1 (by omega)).symm | exact (hv.2.1 (by omega)).symm | exact (hv.2.2.1 (by omega)).symm | exact (hv.2.2.2.1 (by omega)).symm | exact (hv.2.2.2.2.1 (by omega)).symm | exact ((hv.2.2.2.2.2.1 (by omega)).trans hrd).symm | exact ((hv.2.2.2.2.2.2 (by omega)).trans han).symm : (angF (dplX P (12 * t + q) (P 8 1) - P 0 2) (dplY P (12 * t + q) (P 8 2) - P 0 3) : Int) = ptV (mO P) t q w), ht⟩) (fun _ h => nomatch h) dX4_pointValue_111 hlocks
set_option maxHeartbeats 4000000 in
set_option maxRecDepth 100000 in
theorem c_X4_radiusOfStar (l : Launch) (D : va_G) (cy : Nat → ClassId) (a : Nat → Nat) (P : Nat → Int → Int) (u : Int) (hI : Inv (mO P)) (h0u : 0 ≤ u) (h1u : u < P 0 1) : Met l yX4_radiusOfStar wsX4_radiusOfStar { frames := 0, cells := 0, slots := 0, locals := 0 } (kPre (GG D cy) D (plW cy a P) ([.ref (a 0), .int (iI u)] : List Value)) (kRO (fun r => r = plR (mO P) u)) 0 0 (fun _ => False) := by
  refine kRO_start (cc := cX4_radiusOfStar) (maxL := 2) (ret := (some .int)) (by decide) rfl (Nat.le_of_ble_eq_true rfl) ?_
  intro p e s m below meth c hx hb hr hlocks hml hts hown hG hP ls hl
  have hK := hG.1
  have hl : lv_has ls 2 [(0, .ref (a 0)), (1, .int (iI u))] := hl
  have hinX4 : ∀ w ∈ u_ws RX4 TX4 12, w ∈ wsX4_radiusOfStar := by decide +kernel
  have hm0 := hts (.fieldLink RX4 37 "ArcPlate$Plate" "radii" "[I") (by decide +kernel)
  have hm1 := hts (.fieldLink RX4 54 "ArcPlate$Plate" "settings" "[I") (by decide +kernel)
  have hm2 := hts (.constantLong RX4 130 (1000)) (by decide +kernel)
  have hS0 := po_S hI
  have hset := po_set hI
  have hst := po_star hI h0u h1u
  have hmu : 0 ≤ P 5 u * P 8 7 ∧ P 5 u * P 8 7 ≤ 10000000000 := ⟨Int.mul_nonneg (by omega) (by omega), Int.le_trans (Int.mul_le_mul hst.1.2 hset.2.2.2.2.2.2.2.1.2 (by omega) (by decide)) (by decide)⟩
  refine lv_aload_n hx hb dX4_radiusOfStar_0 rfl (lv_at hl 0 rfl) ?_
  refine va_get (D := D) (ci := 3) (v := .ref (a 5)) (C := RX4) (T := TX4) (N := 12) hx hb hts hinX4 hown hK hP 0 rfl rfl 8 (by decide) hm0 (fun _ h9 => h9) rfl dX4_radiusOfStar_1 ?_
  refine lv_iload_n hx hb dX4_radiusOfStar_4 rfl (lv_at hl 1 rfl) ?_
  refine k_iald hx hb hK hP 5 0 (f := P 5) rfl rfl (i := u) (by omega) dX4_radiusOfStar_5 ?_
  refine k_i2l hx hb dX4_radiusOfStar_6 (by omega) ?_
  refine lv_aload_n hx hb dX4_radiusOfStar_7 rfl (lv_at hl 0 rfl) ?_
  refine va_get (D := D) (ci := 3) (v := .ref (a 8)) (C := RX4) (T := TX4) (N := 12) hx hb hts hinX4 hown hK hP 0 rfl rfl 11 (by decide) hm1 (fun _ h9 => h9) rfl dX4_radiusOfStar_8 ?_
  refine k_bipush hx hb dX4_radiusOfStar_11 (by decide +kernel) ?_
  refine k_iald hx hb hK hP 8 0 (f := P 8) rfl rfl (i := 7) (by omega) dX4_radiusOfStar_13 ?_
  refine k_i2l hx hb dX4_radiusOfStar_14 (by omega) ?_
  refine k_lmul hx hb dX4_radiusOfStar_15 ?_
  refine k_ldc2 (z := 1000) hx hb hown hm2 (by decide +kernel) dX4_radiusOfStar_16 ?_
  refine k_ldiv hx hb dX4_radiusOfStar_19 (by omega) (by omega) ?_
  refine k_l2i hx hb dX4_radiusOfStar_20 (by omega) ?_
  exact W.iret (v := iI (((P 5 u) * (P 8 7)) / 1000)) hx hb hr (fun t9 ht _ => ⟨(((P 5 u) * (P 8 7)) / 1000), rfl, ((plR_mO P h0u).symm : (((P 5 u) * (P 8 7)) / 1000 : Int) = plR (mO P) u), ht⟩) (fun _ h => nomatch h) dX4_radiusOfStar_21 hlocks
set_option maxHeartbeats 4000000 in
set_option maxRecDepth 100000 in
theorem c_X4_angleOfStar (l : Launch) (D : va_G) (cy : Nat → ClassId) (a : Nat → Nat) (P : Nat → Int → Int) (u z f : Int) (hI : Inv (mO P)) (h0u : 0 ≤ u) (h1u : u < P 0 1) (hz : 0 ≤ z ∧ z ≤ 359999) (hf : 0 ≤ f ∧ f ≤ 1000) : Met l yX4_angleOfStar wsX4_angleOfStar { frames := 1, cells := 0, slots := 0, locals := 22 } (kPre (GG D cy) D (plW cy a P) ([.ref (a 0), .int (iI u), .int (iI z), .int (iI f)] : List Value)) (kRO (fun r => r = stAng (mO P) z u f)) 0 0 (fun _ => False) := by
  refine kRO_start (cc := cX4_angleOfStar) (maxL := 4) (ret := (some .int)) (by decide) rfl (Nat.le_of_ble_eq_true rfl) ?_
  intro p e s m below meth c hx hb hr hlocks hml hts hown hG hP ls hl
  have hK := hG.1
  have hl : lv_has ls 4 [(0, .ref (a 0)), (1, .int (iI u)), (2, .int (iI z)), (3, .int (iI f))] := hl
  have hinX4 : ∀ w ∈ u_ws RX4 TX4 12, w ∈ wsX4_angleOfStar := by decide +kernel
  have hm0 := hts (.fieldLink RX4 40 "ArcPlate$Plate" "angles" "[I") (by decide +kernel)
  have hm1 := hts (.fieldLink RX4 54 "ArcPlate$Plate" "settings" "[I") (by decide +kernel)
  have hm2 := hts (.constant RX4 132 (360000)) (by decide +kernel)
  have hS0 := po_S hI
  have hset := po_set hI
  have hst := po_star hI h0u h1u
  have hm := mul_bd (a := 5000) (b := 1000) hset.1 hf
  refine lv_aload_n hx hb dX4_angleOfStar_0 rfl (lv_at hl 0 rfl) ?_
  refine va_get (D := D) (ci := 3) (v := .ref (a 6)) (C := RX4) (T := TX4) (N := 12) hx hb hts hinX4 hown hK hP 0 rfl rfl 9 (by decide) hm0 (fun _ h9 => h9) rfl dX4_angleOfStar_1 ?_
  refine lv_iload_n hx hb dX4_angleOfStar_4 rfl (lv_at hl 1 rfl) ?_
  refine k_iald hx hb hK hP 6 0 (f := P 6) rfl rfl (i := u) (by omega) dX4_angleOfStar_5 ?_
  refine lv_iload_n hx hb dX4_angleOfStar_6 rfl (lv_at hl 2 rfl) ?_
  refine k_iadd hx hb dX4_angleOfStar_7 ?_
  refine lv_aload_n hx hb dX4_angleOfStar_8 rfl (lv_at hl 0 rfl) ?_
  refine va_get (D := D) (ci := 3) (v := .ref (a 8)) (C := RX4) (T := TX4) (N := 12) hx hb hts hinX4 hown hK hP 0 rfl rfl 11 (by decide) hm1 (fun _ h9 => h9) rfl dX4_angleOfStar_9 ?_
  refine k_iconst hx hb dX4_angleOfStar_12 ?_
  refine k_iald hx hb hK hP 8 0 (f := P 8) rfl rfl (i := 0) (by omega) dX4_angleOfStar_13 ?_
  refine lv_iload_n hx hb dX4_angleOfStar_14 rfl (lv_at hl 3 rfl) ?_
  refine k_imul hx hb dX4_angleOfStar_15 ?_
  refine k_iadd hx hb dX4_angleOfStar_16 ?_
  refine k_ldc (z := 360000) hx hb hown hm2 (by decide +kernel) dX4_angleOfStar_17 ?_
  refine k_roS (As := [.int (iI (((P 6 u) + z) + ((P 8 0) * f))), .int (iI 360000)]) (rest := []) ⟨hx, hb, hml, hown, hts⟩ (c_J9_floorMod_7cf53 l D (((P 6 u) + z) + ((P 8 0) * f)) 360000 (show -2147483648 ≤ (((P 6 u) + z) + ((P 8 0) * f)) ∧ (((P 6 u) + z) + ((P 8 0) * f)) ≤ 2147483647 by omega) (show 0 < 360000 ∧ 360000 ≤ 1073741824 by omega)) gX4_angleOfStar_J9_floorMod_7cf53 rfl ⟨rfl, rfl⟩ 2 rfl (by decide +kernel) ⟨Nat.le_of_ble_eq_true rfl, Nat.le_of_ble_eq_true rfl⟩ kGT_ok trivial (fun k q h => by simp at h) hl.1 rfl (Nat.le_of_ble_eq_true rfl) ⟨Nat.le_of_ble_eq_true rfl, Nat.le_of_ble_eq_true rfl⟩ dX4_angleOfStar_19 (fun r_1 hr_1 => ?_)
  have hr_1 : r_1 = (((P 6 u) + z) + ((P 8 0) * f)) % 360000 := hr_1
  subst hr_1
  exact W.iret (v := iI ((((P 6 u) + z) + ((P 8 0) * f)) % 360000)) hx hb hr (fun t9 ht _ => ⟨((((P 6 u) + z) + ((P 8 0) * f)) % 360000), rfl, ((sta_mO P z f h0u).symm : ((((P 6 u) + z) + ((P 8 0) * f)) % 360000 : Int) = stAng (mO P) z u f), ht⟩) (fun _ h => nomatch h) dX4_angleOfStar_22 hlocks
set_option maxHeartbeats 4000000 in
set_option maxRecDepth 100000 in
theorem c_X4_spreadWith (l : Launch) (D : va_G) (cy : Nat → ClassId) (a : Nat → Nat) (P : Nat → Int → Int) (t x y u v : Int) (hI : Inv (mO P)) (h0 : 0 ≤ t) (h1 : t < P 0 0) (hp0 : 0 < P 1 t) (hu : -100 ≤ u ∧ u ≤ 100) (hv : -100 ≤ v ∧ v ≤ 100) (hpo : poleOK x y) : Met l yX4_spreadWith wsX4_spreadWith { frames := 2, cells := 0, slots := 0, locals := 44 } (kPre (GG D cy) D (plW cy a P) ([.ref (a 0), .int (iI t), .int (iI x), .int (iI y), .int (iI u), .int (iI v)] : List Value)) (kRO (fun r => r = sprd (tPo (tDr (mO P) u v) x y) t)) 0 0 (fun _ => False) := by
  refine kRO_start (cc := cX4_spreadWith) (maxL := 13) (ret := (some .int)) (by decide) rfl (Nat.le_of_ble_eq_true rfl) ?_
  intro p e s m below meth c hx hb hr hlocks hml hts hown hG hP ls hl
  have hK := hG.1
  have hl : lv_has ls 13 [(0, .ref (a 0)), (1, .int (iI t)), (2, .int (iI x)), (3, .int (iI y)), (4, .int (iI u)), (5, .int (iI v))] := hl
  have hinX4 : ∀ w ∈ u_ws RX4 TX4 12, w ∈ wsX4_spreadWith := by decide +kernel
  have hm0 := hts (.fieldLink RX4 24 "ArcPlate$Plate" "points" "[I") (by decide +kernel)
  have hm1 := hts (.methodLink RX4 61 Lib.Math.min.name) (by decide +kernel)
  have hm2 := hts (.static Lib.Math.min.name) (by decide +kernel)
  have hm3 := hts (.initialized "java/lang/Math") (by decide +kernel)
  have hm4 := hts (.code Lib.Math.min.name Lib.Math.min.code 2 (some .int)) (by decide +kernel)
  have hm5 := hts (.methodLink RX4 144 Lib.Math.max.name) (by decide +kernel)
  have hm6 := hts (.static Lib.Math.max.name) (by decide +kernel)
  have hm7 := hts (.code Lib.Math.max.name Lib.Math.max.code 2 (some .int)) (by decide +kernel)
  have hS0 := po_S hI
  have hp := po_pts hI h0 h1
  have hpo2 := id hpo
  unfold poleOK at hpo2
  refine k_iconst hx hb dX4_spreadWith_0 ?_
  refine lv_istore (lv' := [(6, .int (iI 0)), (0, .ref (a 0)), (1, .int (iI t)), (2, .int (iI x)), (3, .int (iI y)), (4, .int (iI u)), (5, .int (iI v))]) hx hb dX4_spreadWith_1 hl (by decide) rfl (fun ls hl => ?_)
  refine k_iconst hx hb dX4_spreadWith_3 ?_
  refine lv_istore (lv' := [(7, .int (iI 0)), (6, .int (iI 0)), (0, .ref (a 0)), (1, .int (iI t)), (2, .int (iI x)), (3, .int (iI y)), (4, .int (iI u)), (5, .int (iI v))]) hx hb dX4_spreadWith_4 hl (by decide) rfl (fun ls hl => ?_)
  refine k_iconst hx hb dX4_spreadWith_6 ?_
  refine lv_istore (lv' := [(8, .int (iI 0)), (7, .int (iI 0)), (6, .int (iI 0)), (0, .ref (a 0)), (1, .int (iI t)), (2, .int (iI x)), (3, .int (iI y)), (4, .int (iI u)), (5, .int (iI v))]) hx hb dX4_spreadWith_7 hl (by decide) rfl (fun ls hl => ?_)
  have loop9 : ∀ (n_1 : Nat) (q : Int) (lo : Int) (hh : Int) (hi0 : 0 ≤ q) (hi1 : q ≤ P 1 t) (hi2 : (q = 0 ∧ lo = 0 ∧ hh = 0) ∨ (1 ≤ q ∧ lo = minZ (sqA P t x y u v) q ∧ hh = maxZ (sqA P t x y u v) q)) (hi3 : (0 ≤ lo ∧ lo ≤ 98000000) ∧ (0 ≤ hh ∧ hh ≤ 98000000)) (hn : P 1 t - q < (n_1 : Int)) (ls : Array Slot) (hl : lv_has ls 13 [(8, .int (iI q)), (7, .int (iI hh)), (6, .int (iI lo)), (0, .ref (a 0)), (1, .int (iI t)), (2, .int (iI x)), (3, .int (iI y)), (4, .int (iI u)), (5, .int (iI v))]), W p l e { frames := 2, cells := 0, slots := 0, locals := 44 } s m ([.ref (a 0), .int (iI t), .int (iI x), .int (iI y), .int (iI u), .int (iI v)] : List Value).toArray below meth c s.heap [] 0 0 (MQ below (kRO (fun r => r = sprd (tPo (tDr (mO P) u v) x y) t)) ([.ref (a 0), .int (iI t), .int (iI x), .int (iI y), .int (iI u), .int (iI v)] : List Value).toArray s 0 0 (fun _ => False)) (F0 m 9 ls []) := by
    intro n_1
    induction n_1 with
    | zero => intro q lo hh hi0 hi1 hi2 hi3 hn ls hl; exfalso; omega
    | succ n_1 ih9 =>
      intro q lo hh hi0 hi1 hi2 hi3 hn ls hl
      refine lv_iload hx hb dX4_spreadWith_9 (lv_at hl 0 rfl) ?_
      refine lv_aload_n hx hb dX4_spreadWith_11 rfl (lv_at hl 3 rfl) ?_
      refine va_get (D := D) (ci := 3) (v := .ref (a 1)) (C := RX4) (T := TX4) (N := 12) hx hb hts hinX4 hown hK hP 0 rfl rfl 4 (by decide) hm0 (fun _ h9 => h9) rfl dX4_spreadWith_12 ?_
      refine lv_iload_n hx hb dX4_spreadWith_15 rfl (lv_at hl 4 rfl) ?_
      refine k_iald hx hb hK hP 1 0 (f := P 1) rfl rfl (i := t) (by omega) dX4_spreadWith_16 ?_
      refine k_icmp_ge (tgt := 109) hx hb dX4_spreadWith_17 (by decide) (by omega) (by omega) (fun c_2 => ?_) (fun c_2 => ?_)
      · skip
        have e9 : q = P 1 t := by omega
        refine lv_iload hx hb dX4_spreadWith_109 (lv_at hl 1 rfl) ?_
        refine k_roS (As := [.int (iI hh)]) (rest := []) ⟨hx, hb, hml, hown, hts⟩ (c_X0_root l D hh (show 0 ≤ hh ∧ hh ≤ 200000000 by omega)) gX4_spreadWith_X0_root rfl ⟨rfl, rfl⟩ 1 rfl (by decide +kernel) ⟨Nat.le_of_ble_eq_true rfl, Nat.le_of_ble_eq_true rfl⟩ kGT_ok trivial (fun k q h => by simp at h) hl.1 rfl (Nat.le_of_ble_eq_true rfl) ⟨Nat.le_of_ble_eq_true rfl, Nat.le_of_ble_eq_true rfl⟩ dX4_spreadWith_111 (fun r_3 hr_3 => ?_)
        have hr_3 : r_3 = rt hh := hr_3
        subst hr_3
        refine lv_iload hx hb dX4_spreadWith_114 (lv_at hl 2 rfl) ?_
        refine k_roS (As := [.int (iI lo)]) (rest := [.int (iI (rt hh))]) ⟨hx, hb, hml, hown, hts⟩ (c_X0_root l D lo (show 0 ≤ lo ∧ lo ≤ 200000000 by omega)) gX4_spreadWith_X0_root rfl ⟨rfl, rfl⟩ 1 rfl (by decide +kernel) ⟨Nat.le_of_ble_eq_true rfl, Nat.le_of_ble_eq_true rfl⟩ kGT_ok trivial (fun k q h => by simp at h) hl.1 rfl (Nat.le_of_ble_eq_true rfl) ⟨Nat.le_of_ble_eq_true rfl, Nat.le_of_ble_eq_true rfl⟩ dX4_spreadWith_116 (fun r_4 hr_4 => ?_)
        have hr_4 : r_4 = rt lo := hr_4
        subst hr_4
        refine k_isub hx hb dX4_spreadWith_119 ?_
        exact W.iret (v := iI ((rt hh) - (rt lo))) hx hb hr (fun t9 ht _ => ⟨((rt hh) - (rt lo)), rfl, (by subst e9; rw [spr_sqA hI h0 h1 hp0 hu hv hpo]; rcases hi2 with h9 | ⟨g1, g2, g3⟩; omega; rw [g2, g3] : ((rt hh) - (rt lo) : Int) = sprd (tPo (tDr (mO P) u v) x y) t), ht⟩) (fun _ h => nomatch h) dX4_spreadWith_120 hlocks
      · skip
        have hpt := po_pt hI h0 h1 hi0 (show q < P 1 t by omega)
        have hsq := sqA_bd hI h0 h1 hi0 (show q < P 1 t by omega) hu hv hpo
        have hdl := dpl_bd hI h0 h1 hi0 (show q < P 1 t by omega) hu
        have hdm := dpl_bd hI h0 h1 hi0 (show q < P 1 t by omega) hv
        refine lv_iload_n hx hb dX4_spreadWith_20 rfl (lv_at hl 4 rfl) ?_
        refine lv_iload hx hb dX4_spreadWith_21 (lv_at hl 0 rfl) ?_
        refine k_roS (As := [.int (iI t), .int (iI q)]) (rest := []) ⟨hx, hb, hml, hown, hts⟩ (c_X4_slot l D t q ) gX4_spreadWith_X4_slot rfl ⟨rfl, rfl⟩ 2 rfl (by decide +kernel) ⟨Nat.le_of_ble_eq_true rfl, Nat.le_of_ble_eq_true rfl⟩ kGT_ok trivial (fun k q h => by simp at h) hl.1 rfl (Nat.le_of_ble_eq_true rfl) ⟨Nat.le_of_ble_eq_true rfl, Nat.le_of_ble_eq_true rfl⟩ dX4_spreadWith_23 (fun r_5 hr_5 => ?_)
        have hr_5 : r_5 = 12 * t + q := hr_5
        subst hr_5
        refine lv_istore (lv' := [(9, .int (iI (12 * t + q))), (8, .int (iI q)), (7, .int (iI hh)), (6, .int (iI lo)), (0, .ref (a 0)), (1, .int (iI t)), (2, .int (iI x)), (3, .int (iI y)), (4, .int (iI u)), (5, .int (iI v))]) hx hb dX4_spreadWith_26 hl (by decide) rfl (fun ls hl => ?_)
        refine lv_aload_n hx hb dX4_spreadWith_28 rfl (lv_at hl 4 rfl) ?_
        refine lv_iload hx hb dX4_spreadWith_29 (lv_at hl 0 rfl) ?_
        refine lv_iload hx hb dX4_spreadWith_31 (lv_at hl 8 rfl) ?_
        refine k_roV (As := [.int (iI (12 * t + q)), .int (iI u)]) (rest := []) ⟨hx, hb, hml, hown, hts⟩ (c_X4_placeX l D cy a P (12 * t + q) u (show 0 ≤ (12 * t + q) ∧ (12 * t + q) < 144 by omega) (show -100 ≤ u ∧ u ≤ 100 by omega) (show 0 ≤ P 2 (12 * t + q) ∧ P 2 (12 * t + q) ≤ 1000 by omega)) gX4_spreadWith_X4_placeX rfl ⟨rfl, rfl⟩ 2 rfl (by decide +kernel) ⟨Nat.le_of_ble_eq_true rfl, Nat.le_of_ble_eq_true rfl⟩ (GG_ok D cy) hG hP (va_recv hK hP (ci := 3) (q0 := 0) rfl rfl) hl.1 rfl (Nat.le_of_ble_eq_true rfl) ⟨Nat.le_of_ble_eq_true rfl, Nat.le_of_ble_eq_true rfl⟩ dX4_spreadWith_33 (fun r_6 hr_6 => ?_)
        have hr_6 : r_6 = dplX P (12 * t + q) u := hr_6
        subst hr_6
        refine lv_iload_n hx hb dX4_spreadWith_36 rfl (lv_at hl 6 rfl) ?_
        refine k_isub hx hb dX4_spreadWith_37 ?_
        refine lv_istore (lv' := [(10, .int (iI ((dplX P (12 * t + q) u) - x))), (9, .int (iI (12 * t + q))), (8, .int (iI q)), (7, .int (iI hh)), (6, .int (iI lo)), (0, .ref (a 0)), (1, .int (iI t)), (2, .int (iI x)), (3, .int (iI y)), (4, .int (iI u)), (5, .int (iI v))]) hx hb dX4_spreadWith_38 hl (by decide) rfl (fun ls hl => ?_)
        refine lv_aload_n hx hb dX4_spreadWith_40 rfl (lv_at hl 5 rfl) ?_
        refine lv_iload hx hb dX4_spreadWith_41 (lv_at hl 1 rfl) ?_
        refine lv_iload hx hb dX4_spreadWith_43 (lv_at hl 10 rfl) ?_
        refine k_roV (As := [.int (iI (12 * t + q)), .int (iI v)]) (rest := []) ⟨hx, hb, hml, hown, hts⟩ (c_X4_placeY l D cy a P (12 * t + q) v (show 0 ≤ (12 * t + q) ∧ (12 * t + q) < 144 by omega) (show -100 ≤ v ∧ v ≤ 100 by omega) (show 0 ≤ P 2 (12 * t + q) ∧ P 2 (12 * t + q) ≤ 1000 by omega)) gX4_spreadWith_X4_placeY rfl ⟨rfl, rfl⟩ 2 rfl (by decide +kernel) ⟨Nat.le_of_ble_eq_true rfl, Nat.le_of_ble_eq_true rfl⟩ (GG_ok D cy) hG hP (va_recv hK hP (ci := 3) (q0 := 0) rfl rfl) hl.1 rfl (Nat.le_of_ble_eq_true rfl) ⟨Nat.le_of_ble_eq_true rfl, Nat.le_of_ble_eq_true rfl⟩ dX4_spreadWith_45 (fun r_7 hr_7 => ?_)
        have hr_7 : r_7 = dplY P (12 * t + q) v := hr_7
        subst hr_7
        refine lv_iload_n hx hb dX4_spreadWith_48 rfl (lv_at hl 8 rfl) ?_
        refine k_isub hx hb dX4_spreadWith_49 ?_
        refine lv_istore (lv' := [(11, .int (iI ((dplY P (12 * t + q) v) - y))), (10, .int (iI ((dplX P (12 * t + q) u) - x))), (9, .int (iI (12 * t + q))), (8, .int (iI q)), (7, .int (iI hh)), (6, .int (iI lo)), (0, .ref (a 0)), (1, .int (iI t)), (2, .int (iI x)), (3, .int (iI y)), (4, .int (iI u)), (5, .int (iI v))]) hx hb dX4_spreadWith_50 hl (by decide) rfl (fun ls hl => ?_)
        refine lv_iload hx hb dX4_spreadWith_52 (lv_at hl 1 rfl) ?_
        refine lv_iload hx hb dX4_spreadWith_54 (lv_at hl 1 rfl) ?_
        refine k_imul hx hb dX4_spreadWith_56 ?_
        refine lv_iload hx hb dX4_spreadWith_57 (lv_at hl 0 rfl) ?_
        refine lv_iload hx hb dX4_spreadWith_59 (lv_at hl 0 rfl) ?_
        refine k_imul hx hb dX4_spreadWith_61 ?_
        refine k_iadd hx hb dX4_spreadWith_62 ?_
        refine lv_istore (lv' := [(12, .int (iI ((((dplX P (12 * t + q) u) - x) * ((dplX P (12 * t + q) u) - x)) + (((dplY P (12 * t + q) v) - y) * ((dplY P (12 * t + q) v) - y))))), (11, .int (iI ((dplY P (12 * t + q) v) - y))), (10, .int (iI ((dplX P (12 * t + q) u) - x))), (9, .int (iI (12 * t + q))), (8, .int (iI q)), (7, .int (iI hh)), (6, .int (iI lo)), (0, .ref (a 0)), (1, .int (iI t)), (2, .int (iI x)), (3, .int (iI y)), (4, .int (iI u)), (5, .int (iI v))]) hx hb dX4_spreadWith_63 hl (by decide) rfl (fun ls hl => ?_)
        have hsq2 : 0 ≤ ((((dplX P (12 * t + q) u) - x) * ((dplX P (12 * t + q) u) - x)) + (((dplY P (12 * t + q) v) - y) * ((dplY P (12 * t + q) v) - y))) ∧ ((((dplX P (12 * t + q) u) - x) * ((dplX P (12 * t + q) u) - x)) + (((dplY P (12 * t + q) v) - y) * ((dplY P (12 * t + q) v) - y))) ≤ 98000000 := hsq
        refine lv_iload hx hb dX4_spreadWith_65 (lv_at hl 4 rfl) ?_
        refine k_if_ne (tgt := 75) hx hb dX4_spreadWith_67 (by decide) (by omega) (fun c_8 => ?_) (fun c_8 => ?_)
        · skip
          refine lv_iload hx hb dX4_spreadWith_75 (lv_at hl 6 rfl) ?_
          refine lv_iload hx hb dX4_spreadWith_77 (lv_at hl 0 rfl) ?_
          refine k_mmin hx hb (hml.trans hl.1.symm) hown hm1 hm2 hm3 hm4 (Nat.le_of_ble_eq_true rfl) (Nat.le_of_ble_eq_true rfl) (Nat.le_of_ble_eq_true rfl) (Nat.le_of_ble_eq_true rfl) (by omega) (by omega) dX4_spreadWith_79 ?_
          refine lv_istore (lv' := [(6, .int (iI (min lo ((((dplX P (12 * t + q) u) - x) * ((dplX P (12 * t + q) u) - x)) + (((dplY P (12 * t + q) v) - y) * ((dplY P (12 * t + q) v) - y)))))), (12, .int (iI ((((dplX P (12 * t + q) u) - x) * ((dplX P (12 * t + q) u) - x)) + (((dplY P (12 * t + q) v) - y) * ((dplY P (12 * t + q) v) - y))))), (11, .int (iI ((dplY P (12 * t + q) v) - y))), (10, .int (iI ((dplX P (12 * t + q) u) - x))), (9, .int (iI (12 * t + q))), (8, .int (iI q)), (7, .int (iI hh)), (0, .ref (a 0)), (1, .int (iI t)), (2, .int (iI x)), (3, .int (iI y)), (4, .int (iI u)), (5, .int (iI v))]) hx hb dX4_spreadWith_82 hl (by decide) rfl (fun ls hl => ?_)
          refine lv_iload hx hb dX4_spreadWith_84 (lv_at hl 5 rfl) ?_
          refine k_if_ne (tgt := 94) hx hb dX4_spreadWith_86 (by decide) (by omega) (fun c_9 => ?_) (fun c_9 => ?_)
          · skip
            refine lv_iload hx hb dX4_spreadWith_94 (lv_at hl 6 rfl) ?_
            refine lv_iload hx hb dX4_spreadWith_96 (lv_at hl 1 rfl) ?_
            refine k_mmax hx hb (hml.trans hl.1.symm) hown hm5 hm6 hm3 hm7 (Nat.le_of_ble_eq_true rfl) (Nat.le_of_ble_eq_true rfl) (Nat.le_of_ble_eq_true rfl) (Nat.le_of_ble_eq_true rfl) (by omega) (by omega) dX4_spreadWith_98 ?_
            refine lv_istore (lv' := [(7, .int (iI (max hh ((((dplX P (12 * t + q) u) - x) * ((dplX P (12 * t + q) u) - x)) + (((dplY P (12 * t + q) v) - y) * ((dplY P (12 * t + q) v) - y)))))), (6, .int (iI (min lo ((((dplX P (12 * t + q) u) - x) * ((dplX P (12 * t + q) u) - x)) + (((dplY P (12 * t + q) v) - y) * ((dplY P (12 * t + q) v) - y)))))), (12, .int (iI ((((dplX P (12 * t + q) u) - x) * ((dplX P (12 * t + q) u) - x)) + (((dplY P (12 * t + q) v) - y) * ((dplY P (12 * t + q) v) - y))))), (11, .int (iI ((dplY P (12 * t + q) v) - y))), (10, .int (iI ((dplX P (12 * t + q) u) - x))), (9, .int (iI (12 * t + q))), (8, .int (iI q)), (0, .ref (a 0)), (1, .int (iI t)), (2, .int (iI x)), (3, .int (iI y)), (4, .int (iI u)), (5, .int (iI v))]) hx hb dX4_spreadWith_101 hl (by decide) rfl (fun ls hl => ?_)
            refine lv_iinc (v := iI (q + 1)) (lv' := [(8, .int (iI (q + 1))), (7, .int (iI (max hh ((((dplX P (12 * t + q) u) - x) * ((dplX P (12 * t + q) u) - x)) + (((dplY P (12 * t + q) v) - y) * ((dplY P (12 * t + q) v) - y)))))), (6, .int (iI (min lo ((((dplX P (12 * t + q) u) - x) * ((dplX P (12 * t + q) u) - x)) + (((dplY P (12 * t + q) v) - y) * ((dplY P (12 * t + q) v) - y)))))), (12, .int (iI ((((dplX P (12 * t + q) u) - x) * ((dplX P (12 * t + q) u) - x)) + (((dplY P (12 * t + q) v) - y) * ((dplY P (12 * t + q) v) - y))))), (11, .int (iI ((dplY P (12 * t + q) v) - y))), (10, .int (iI ((dplX P (12 * t + q) u) - x))), (9, .int (iI (12 * t + q))), (0, .ref (a 0)), (1, .int (iI t)), (2, .int (iI x)), (3, .int (iI y)), (4, .int (iI u)), (5, .int (iI v))]) hx hb dX4_spreadWith_103 hl (k := 6) rfl (iI_add _ _) (by decide) rfl (fun ls hl => ?_)
            refine lv_goto (tgt := 9) hx hb dX4_spreadWith_106 (by decide) ?_
            exact ih9 (q + 1) (min lo ((((dplX P (12 * t + q) u) - x) * ((dplX P (12 * t + q) u) - x)) + (((dplY P (12 * t + q) v) - y) * ((dplY P (12 * t + q) v) - y)))) (max hh ((((dplX P (12 * t + q) u) - x) * ((dplX P (12 * t + q) u) - x)) + (((dplY P (12 * t + q) v) - y) * ((dplY P (12 * t + q) v) - y))))  (by omega) (by omega) (by first | (exfalso; omega) | (right; refine ⟨by omega, ?_, ?_⟩; (have e9 : q = 0 := (by omega); subst e9; rfl); (have e9 : q = 0 := (by omega); subst e9; rfl)) | (right; rcases hi2 with h9 | ⟨g1, g2, g3⟩; omega; refine ⟨by omega, ?_, ?_⟩; (rw [minZ_s _ g1, ← g2]; rfl); (rw [maxZ_s _ g1, ← g3]; rfl))) (by first | (exfalso; omega) | omega) (by omega) ls (lv_sub hl [0, 1, 2, 7, 8, 9, 10, 11, 12] rfl)
          · skip
            refine lv_iload hx hb dX4_spreadWith_89 (lv_at hl 1 rfl) ?_
            refine lv_goto (tgt := 101) hx hb dX4_spreadWith_91 (by decide) ?_
            refine lv_istore (lv' := [(7, .int (iI ((((dplX P (12 * t + q) u) - x) * ((dplX P (12 * t + q) u) - x)) + (((dplY P (12 * t + q) v) - y) * ((dplY P (12 * t + q) v) - y))))), (6, .int (iI (min lo ((((dplX P (12 * t + q) u) - x) * ((dplX P (12 * t + q) u) - x)) + (((dplY P (12 * t + q) v) - y) * ((dplY P (12 * t + q) v) - y)))))), (12, .int (iI ((((dplX P (12 * t + q) u) - x) * ((dplX P (12 * t + q) u) - x)) + (((dplY P (12 * t + q) v) - y) * ((dplY P (12 * t + q) v) - y))))), (11, .int (iI ((dplY P (12 * t + q) v) - y))), (10, .int (iI ((dplX P (12 * t + q) u) - x))), (9, .int (iI (12 * t + q))), (8, .int (iI q)), (0, .ref (a 0)), (1, .int (iI t)), (2, .int (iI x)), (3, .int (iI y)), (4, .int (iI u)), (5, .int (iI v))]) hx hb dX4_spreadWith_101 hl (by decide) rfl (fun ls hl => ?_)
            refine lv_iinc (v := iI (q + 1)) (lv' := [(8, .int (iI (q + 1))), (7, .int (iI ((((dplX P (12 * t + q) u) - x) * ((dplX P (12 * t + q) u) - x)) + (((dplY P (12 * t + q) v) - y) * ((dplY P (12 * t + q) v) - y))))), (6, .int (iI (min lo ((((dplX P (12 * t + q) u) - x) * ((dplX P (12 * t + q) u) - x)) + (((dplY P (12 * t + q) v) - y) * ((dplY P (12 * t + q) v) - y)))))), (12, .int (iI ((((dplX P (12 * t + q) u) - x) * ((dplX P (12 * t + q) u) - x)) + (((dplY P (12 * t + q) v) - y) * ((dplY P (12 * t + q) v) - y))))), (11, .int (iI ((dplY P (12 * t + q) v) - y))), (10, .int (iI ((dplX P (12 * t + q) u) - x))), (9, .int (iI (12 * t + q))), (0, .ref (a 0)), (1, .int (iI t)), (2, .int (iI x)), (3, .int (iI y)), (4, .int (iI u)), (5, .int (iI v))]) hx hb dX4_spreadWith_103 hl (k := 6) rfl (iI_add _ _) (by decide) rfl (fun ls hl => ?_)
            refine lv_goto (tgt := 9) hx hb dX4_spreadWith_106 (by decide) ?_
            exact ih9 (q + 1) (min lo ((((dplX P (12 * t + q) u) - x) * ((dplX P (12 * t + q) u) - x)) + (((dplY P (12 * t + q) v) - y) * ((dplY P (12 * t + q) v) - y)))) ((((dplX P (12 * t + q) u) - x) * ((dplX P (12 * t + q) u) - x)) + (((dplY P (12 * t + q) v) - y) * ((dplY P (12 * t + q) v) - y)))  (by omega) (by omega) (by first | (exfalso; omega) | (right; refine ⟨by omega, ?_, ?_⟩; (have e9 : q = 0 := (by omega); subst e9; rfl); (have e9 : q = 0 := (by omega); subst e9; rfl)) | (right; rcases hi2 with h9 | ⟨g1, g2, g3⟩; omega; refine ⟨by omega, ?_, ?_⟩; (rw [minZ_s _ g1, ← g2]; rfl); (rw [maxZ_s _ g1, ← g3]; rfl))) (by first | (exfalso; omega) | omega) (by omega) ls (lv_sub hl [0, 1, 2, 7, 8, 9, 10, 11, 12] rfl)
        · skip
          refine lv_iload hx hb dX4_spreadWith_70 (lv_at hl 0 rfl) ?_
          refine lv_goto (tgt := 82) hx hb dX4_spreadWith_72 (by decide) ?_
          refine lv_istore (lv' := [(6, .int (iI ((((dplX P (12 * t + q) u) - x) * ((dplX P (12 * t + q) u) - x)) + (((dplY P (12 * t + q) v) - y) * ((dplY P (12 * t + q) v) - y))))), (12, .int (iI ((((dplX P (12 * t + q) u) - x) * ((dplX P (12 * t + q) u) - x)) + (((dplY P (12 * t + q) v) - y) * ((dplY P (12 * t + q) v) - y))))), (11, .int (iI ((dplY P (12 * t + q) v) - y))), (10, .int (iI ((dplX P (12 * t + q) u) - x))), (9, .int (iI (12 * t + q))), (8, .int (iI q)), (7, .int (iI hh)), (0, .ref (a 0)), (1, .int (iI t)), (2, .int (iI x)), (3, .int (iI y)), (4, .int (iI u)), (5, .int (iI v))]) hx hb dX4_spreadWith_82 hl (by decide) rfl (fun ls hl => ?_)
          refine lv_iload hx hb dX4_spreadWith_84 (lv_at hl 5 rfl) ?_
          refine k_if_ne (tgt := 94) hx hb dX4_spreadWith_86 (by decide) (by omega) (fun c_10 => ?_) (fun c_10 => ?_)
          · skip
            refine lv_iload hx hb dX4_spreadWith_94 (lv_at hl 6 rfl) ?_
            refine lv_iload hx hb dX4_spreadWith_96 (lv_at hl 1 rfl) ?_
            refine k_mmax hx hb (hml.trans hl.1.symm) hown hm5 hm6 hm3 hm7 (Nat.le_of_ble_eq_true rfl) (Nat.le_of_ble_eq_true rfl) (Nat.le_of_ble_eq_true rfl) (Nat.le_of_ble_eq_true rfl) (by omega) (by omega) dX4_spreadWith_98 ?_
            refine lv_istore (lv' := [(7, .int (iI (max hh ((((dplX P (12 * t + q) u) - x) * ((dplX P (12 * t + q) u) - x)) + (((dplY P (12 * t + q) v) - y) * ((dplY P (12 * t + q) v) - y)))))), (6, .int (iI ((((dplX P (12 * t + q) u) - x) * ((dplX P (12 * t + q) u) - x)) + (((dplY P (12 * t + q) v) - y) * ((dplY P (12 * t + q) v) - y))))), (12, .int (iI ((((dplX P (12 * t + q) u) - x) * ((dplX P (12 * t + q) u) - x)) + (((dplY P (12 * t + q) v) - y) * ((dplY P (12 * t + q) v) - y))))), (11, .int (iI ((dplY P (12 * t + q) v) - y))), (10, .int (iI ((dplX P (12 * t + q) u) - x))), (9, .int (iI (12 * t + q))), (8, .int (iI q)), (0, .ref (a 0)), (1, .int (iI t)), (2, .int (iI x)), (3, .int (iI y)), (4, .int (iI u)), (5, .int (iI v))]) hx hb dX4_spreadWith_101 hl (by decide) rfl (fun ls hl => ?_)
            refine lv_iinc (v := iI (q + 1)) (lv' := [(8, .int (iI (q + 1))), (7, .int (iI (max hh ((((dplX P (12 * t + q) u) - x) * ((dplX P (12 * t + q) u) - x)) + (((dplY P (12 * t + q) v) - y) * ((dplY P (12 * t + q) v) - y)))))), (6, .int (iI ((((dplX P (12 * t + q) u) - x) * ((dplX P (12 * t + q) u) - x)) + (((dplY P (12 * t + q) v) - y) * ((dplY P (12 * t + q) v) - y))))), (12, .int (iI ((((dplX P (12 * t + q) u) - x) * ((dplX P (12 * t + q) u) - x)) + (((dplY P (12 * t + q) v) - y) * ((dplY P (12 * t + q) v) - y))))), (11, .int (iI ((dplY P (12 * t + q) v) - y))), (10, .int (iI ((dplX P (12 * t + q) u) - x))), (9, .int (iI (12 * t + q))), (0, .ref (a 0)), (1, .int (iI t)), (2, .int (iI x)), (3, .int (iI y)), (4, .int (iI u)), (5, .int (iI v))]) hx hb dX4_spreadWith_103 hl (k := 6) rfl (iI_add _ _) (by decide) rfl (fun ls hl => ?_)
            refine lv_goto (tgt := 9) hx hb dX4_spreadWith_106 (by decide) ?_
            exact ih9 (q + 1) ((((dplX P (12 * t + q) u) - x) * ((dplX P (12 * t + q) u) - x)) + (((dplY P (12 * t + q) v) - y) * ((dplY P (12 * t + q) v) - y))) (max hh ((((dplX P (12 * t + q) u) - x) * ((dplX P (12 * t + q) u) - x)) + (((dplY P (12 * t + q) v) - y) * ((dplY P (12 * t + q) v) - y))))  (by omega) (by omega) (by first | (exfalso; omega) | (right; refine ⟨by omega, ?_, ?_⟩; (have e9 : q = 0 := (by omega); subst e9; rfl); (have e9 : q = 0 := (by omega); subst e9; rfl)) | (right; rcases hi2 with h9 | ⟨g1, g2, g3⟩; omega; refine ⟨by omega, ?_, ?_⟩; (rw [minZ_s _ g1, ← g2]; rfl); (rw [maxZ_s _ g1, ← g3]; rfl))) (by first | (exfalso; omega) | omega) (by omega) ls (lv_sub hl [0, 1, 2, 7, 8, 9, 10, 11, 12] rfl)
          · skip
            refine lv_iload hx hb dX4_spreadWith_89 (lv_at hl 1 rfl) ?_
            refine lv_goto (tgt := 101) hx hb dX4_spreadWith_91 (by decide) ?_
            refine lv_istore (lv' := [(7, .int (iI ((((dplX P (12 * t + q) u) - x) * ((dplX P (12 * t + q) u) - x)) + (((dplY P (12 * t + q) v) - y) * ((dplY P (12 * t + q) v) - y))))), (6, .int (iI ((((dplX P (12 * t + q) u) - x) * ((dplX P (12 * t + q) u) - x)) + (((dplY P (12 * t + q) v) - y) * ((dplY P (12 * t + q) v) - y))))), (12, .int (iI ((((dplX P (12 * t + q) u) - x) * ((dplX P (12 * t + q) u) - x)) + (((dplY P (12 * t + q) v) - y) * ((dplY P (12 * t + q) v) - y))))), (11, .int (iI ((dplY P (12 * t + q) v) - y))), (10, .int (iI ((dplX P (12 * t + q) u) - x))), (9, .int (iI (12 * t + q))), (8, .int (iI q)), (0, .ref (a 0)), (1, .int (iI t)), (2, .int (iI x)), (3, .int (iI y)), (4, .int (iI u)), (5, .int (iI v))]) hx hb dX4_spreadWith_101 hl (by decide) rfl (fun ls hl => ?_)
            refine lv_iinc (v := iI (q + 1)) (lv' := [(8, .int (iI (q + 1))), (7, .int (iI ((((dplX P (12 * t + q) u) - x) * ((dplX P (12 * t + q) u) - x)) + (((dplY P (12 * t + q) v) - y) * ((dplY P (12 * t + q) v) - y))))), (6, .int (iI ((((dplX P (12 * t + q) u) - x) * ((dplX P (12 * t + q) u) - x)) + (((dplY P (12 * t + q) v) - y) * ((dplY P (12 * t + q) v) - y))))), (12, .int (iI ((((dplX P (12 * t + q) u) - x) * ((dplX P (12 * t + q) u) - x)) + (((dplY P (12 * t + q) v) - y) * ((dplY P (12 * t + q) v) - y))))), (11, .int (iI ((dplY P (12 * t + q) v) - y))), (10, .int (iI ((dplX P (12 * t + q) u) - x))), (9, .int (iI (12 * t + q))), (0, .ref (a 0)), (1, .int (iI t)), (2, .int (iI x)), (3, .int (iI y)), (4, .int (iI u)), (5, .int (iI v))]) hx hb dX4_spreadWith_103 hl (k := 6) rfl (iI_add _ _) (by decide) rfl (fun ls hl => ?_)
            refine lv_goto (tgt := 9) hx hb dX4_spreadWith_106 (by decide) ?_
            exact ih9 (q + 1) ((((dplX P (12 * t + q) u) - x) * ((dplX P (12 * t + q) u) - x)) + (((dplY P (12 * t + q) v) - y) * ((dplY P (12 * t + q) v) - y))) ((((dplX P (12 * t + q) u) - x) * ((dplX P (12 * t + q) u) - x)) + (((dplY P (12 * t + q) v) - y) * ((dplY P (12 * t + q) v) - y)))  (by omega) (by omega) (by first | (exfalso; omega) | (right; refine ⟨by omega, ?_, ?_⟩; (have e9 : q = 0 := (by omega); subst e9; rfl); (have e9 : q = 0 := (by omega); subst e9; rfl)) | (right; rcases hi2 with h9 | ⟨g1, g2, g3⟩; omega; refine ⟨by omega, ?_, ?_⟩; (rw [minZ_s _ g1, ← g2]; rfl); (rw [maxZ_s _ g1, ← g3]; rfl))) (by first | (exfalso; omega) | omega) (by omega) ls (lv_sub hl [0, 1, 2, 7, 8, 9, 10, 11, 12] rfl)
  exact loop9 ((P 1 t - 0 : Int) + 1).toNat 0 0 0  (by omega) (by omega) (Or.inl ⟨rfl, rfl, rfl⟩) (by omega) (by omega) ls (lv_sub hl [0, 1, 2, 3, 4, 5, 6, 7, 8] rfl)
set_option maxHeartbeats 4000000 in
set_option maxRecDepth 100000 in
theorem c_X4_costWith (l : Launch) (D : va_G) (cy : Nat → ClassId) (a : Nat → Nat) (P : Nat → Int → Int) (x y u v : Int) (hI : Inv (mO P)) (hu : -100 ≤ u ∧ u ≤ 100) (hv : -100 ≤ v ∧ v ≤ 100) (hpo : poleOK x y) : Met l yX4_costWith wsX4_costWith { frames := 3, cells := 0, slots := 0, locals := 76 } (kPre (GG D cy) D (plW cy a P) ([.ref (a 0), .int (iI x), .int (iI y), .int (iI u), .int (iI v)] : List Value)) (kRO (fun r => r = pcost (tPo (tDr (mO P) u v) x y))) 0 0 (fun _ => False) := by
  refine kRO_start (cc := cX4_costWith) (maxL := 7) (ret := (some .int)) (by decide) rfl (Nat.le_of_ble_eq_true rfl) ?_
  intro p e s m below meth c hx hb hr hlocks hml hts hown hG hP ls hl
  have hK := hG.1
  have hl : lv_has ls 7 [(0, .ref (a 0)), (1, .int (iI x)), (2, .int (iI y)), (3, .int (iI u)), (4, .int (iI v))] := hl
  have hinX4 : ∀ w ∈ u_ws RX4 TX4 12, w ∈ wsX4_costWith := by decide +kernel
  have hm0 := hts (.fieldLink RX4 9 "ArcPlate$Plate" "trails" "I") (by decide +kernel)
  have hm1 := hts (.fieldLink RX4 24 "ArcPlate$Plate" "points" "[I") (by decide +kernel)
  have hS0 := po_S hI
  have hIt := inv_tPo (inv_tDr hI hu hv) hpo
  refine k_iconst hx hb dX4_costWith_0 ?_
  refine lv_istore (lv' := [(5, .int (iI 0)), (0, .ref (a 0)), (1, .int (iI x)), (2, .int (iI y)), (3, .int (iI u)), (4, .int (iI v))]) hx hb dX4_costWith_1 hl (by decide) rfl (fun ls hl => ?_)
  refine k_iconst hx hb dX4_costWith_3 ?_
  refine lv_istore (lv' := [(6, .int (iI 0)), (5, .int (iI 0)), (0, .ref (a 0)), (1, .int (iI x)), (2, .int (iI y)), (3, .int (iI u)), (4, .int (iI v))]) hx hb dX4_costWith_4 hl (by decide) rfl (fun ls hl => ?_)
  have loop6 : ∀ (n_1 : Nat) (t : Int) (x5 : Int) (hi0 : 0 ≤ t) (hi1 : t ≤ P 0 0) (hex5 : x5 = sumZ (fun t => if 1 < P 1 t then sprd (tPo (tDr (mO P) u v) x y) t else 0) t) (hn : P 0 0 - t < (n_1 : Int)) (ls : Array Slot) (hl : lv_has ls 7 [(6, .int (iI t)), (5, .int (iI x5)), (0, .ref (a 0)), (1, .int (iI x)), (2, .int (iI y)), (3, .int (iI u)), (4, .int (iI v))]), W p l e { frames := 3, cells := 0, slots := 0, locals := 76 } s m ([.ref (a 0), .int (iI x), .int (iI y), .int (iI u), .int (iI v)] : List Value).toArray below meth c s.heap [] 0 0 (MQ below (kRO (fun r => r = pcost (tPo (tDr (mO P) u v) x y))) ([.ref (a 0), .int (iI x), .int (iI y), .int (iI u), .int (iI v)] : List Value).toArray s 0 0 (fun _ => False)) (F0 m 6 ls []) := by
    intro n_1
    induction n_1 with
    | zero => intro t x5 hi0 hi1 hex5 hn ls hl; exfalso; omega
    | succ n_1 ih6 =>
      intro t x5 hi0 hi1 hex5 hn ls hl
      subst hex5
      refine lv_iload hx hb dX4_costWith_6 (lv_at hl 0 rfl) ?_
      refine lv_aload_n hx hb dX4_costWith_8 rfl (lv_at hl 2 rfl) ?_
      refine va_get (D := D) (ci := 3) (v := .int (iI (P 0 0))) (C := RX4) (T := TX4) (N := 12) hx hb hts hinX4 hown hK hP 0 rfl rfl 0 (by decide) hm0 (fun _ h9 => h9) rfl dX4_costWith_9 ?_
      refine k_icmp_ge (tgt := 48) hx hb dX4_costWith_12 (by decide) (by omega) (by omega) (fun c_2 => ?_) (fun c_2 => ?_)
      · skip
        refine lv_iload hx hb dX4_costWith_48 (lv_at hl 1 rfl) ?_
        exact W.iret (v := iI (sumZ (fun t => if 1 < P 1 t then sprd (tPo (tDr (mO P) u v) x y) t else 0) t)) hx hb hr (fun t9 ht _ => ⟨(sumZ (fun t => if 1 < P 1 t then sprd (tPo (tDr (mO P) u v) x y) t else 0) t), rfl, (by have e9 : t = P 0 0 := (by omega); subst e9; exact (pc_mO P x y u v hS0.1).symm : (sumZ (fun t => if 1 < P 1 t then sprd (tPo (tDr (mO P) u v) x y) t else 0) t : Int) = pcost (tPo (tDr (mO P) u v) x y)), ht⟩) (fun _ h => nomatch h) dX4_costWith_50 hlocks
      · skip
        refine lv_aload_n hx hb dX4_costWith_15 rfl (lv_at hl 2 rfl) ?_
        refine va_get (D := D) (ci := 3) (v := .ref (a 1)) (C := RX4) (T := TX4) (N := 12) hx hb hts hinX4 hown hK hP 0 rfl rfl 4 (by decide) hm1 (fun _ h9 => h9) rfl dX4_costWith_16 ?_
        refine lv_iload hx hb dX4_costWith_19 (lv_at hl 0 rfl) ?_
        refine k_iald hx hb hK hP 1 0 (f := P 1) rfl rfl (i := t) (by omega) dX4_costWith_21 ?_
        have hp := po_pts hI hi0 (by omega)
        refine k_iconst hx hb dX4_costWith_22 ?_
        refine k_icmp_lt (tgt := 42) hx hb dX4_costWith_23 (by decide) (by omega) (by omega) (fun c_3 => ?_) (fun c_3 => ?_)
        · skip
          refine lv_iinc (v := iI (t + 1)) (lv' := [(6, .int (iI (t + 1))), (5, .int (iI (sumZ (fun t => if 1 < P 1 t then sprd (tPo (tDr (mO P) u v) x y) t else 0) t))), (0, .ref (a 0)), (1, .int (iI x)), (2, .int (iI y)), (3, .int (iI u)), (4, .int (iI v))]) hx hb dX4_costWith_42 hl (k := 0) rfl (iI_add _ _) (by decide) rfl (fun ls hl => ?_)
          refine lv_goto (tgt := 6) hx hb dX4_costWith_45 (by decide) ?_
          exact ih6 (t + 1) (sumZ (fun t => if 1 < P 1 t then sprd (tPo (tDr (mO P) u v) x y) t else 0) t) (by omega) (by omega) (by rw [sumZ_s _ hi0]; (try dsimp only); split <;> omega) (by omega) ls (lv_sub hl [0, 1, 2, 3, 4, 5, 6] rfl)
        · skip
          refine lv_iload hx hb dX4_costWith_26 (lv_at hl 1 rfl) ?_
          refine lv_aload_n hx hb dX4_costWith_28 rfl (lv_at hl 2 rfl) ?_
          refine lv_iload hx hb dX4_costWith_29 (lv_at hl 0 rfl) ?_
          refine lv_iload_n hx hb dX4_costWith_31 rfl (lv_at hl 3 rfl) ?_
          refine lv_iload_n hx hb dX4_costWith_32 rfl (lv_at hl 4 rfl) ?_
          refine lv_iload_n hx hb dX4_costWith_33 rfl (lv_at hl 5 rfl) ?_
          refine lv_iload hx hb dX4_costWith_34 (lv_at hl 6 rfl) ?_
          refine k_roV (As := [.int (iI t), .int (iI x), .int (iI y), .int (iI u), .int (iI v)]) (rest := [.int (iI (sumZ (fun t => if 1 < P 1 t then sprd (tPo (tDr (mO P) u v) x y) t else 0) t))]) ⟨hx, hb, hml, hown, hts⟩ (c_X4_spreadWith l D cy a P t x y u v hI (show 0 ≤ t by omega) (show t < P 0 0 by omega) (show 0 < P 1 t by omega) (show -100 ≤ u ∧ u ≤ 100 by omega) (show -100 ≤ v ∧ v ≤ 100 by omega) (show poleOK x y by omega)) gX4_costWith_X4_spreadWith rfl ⟨rfl, rfl⟩ 5 rfl (by decide +kernel) ⟨Nat.le_of_ble_eq_true rfl, Nat.le_of_ble_eq_true rfl⟩ (GG_ok D cy) hG hP (va_recv hK hP (ci := 3) (q0 := 0) rfl rfl) hl.1 rfl (Nat.le_of_ble_eq_true rfl) ⟨Nat.le_of_ble_eq_true rfl, Nat.le_of_ble_eq_true rfl⟩ dX4_costWith_36 (fun r_4 hr_4 => ?_)
          have hr_4 : r_4 = sprd (tPo (tDr (mO P) u v) x y) t := hr_4
          subst hr_4
          refine k_iadd hx hb dX4_costWith_39 ?_
          refine lv_istore (lv' := [(5, .int (iI ((sumZ (fun t => if 1 < P 1 t then sprd (tPo (tDr (mO P) u v) x y) t else 0) t) + (sprd (tPo (tDr (mO P) u v) x y) t)))), (6, .int (iI t)), (0, .ref (a 0)), (1, .int (iI x)), (2, .int (iI y)), (3, .int (iI u)), (4, .int (iI v))]) hx hb dX4_costWith_40 hl (by decide) rfl (fun ls hl => ?_)
          refine lv_iinc (v := iI (t + 1)) (lv' := [(6, .int (iI (t + 1))), (5, .int (iI ((sumZ (fun t => if 1 < P 1 t then sprd (tPo (tDr (mO P) u v) x y) t else 0) t) + (sprd (tPo (tDr (mO P) u v) x y) t)))), (0, .ref (a 0)), (1, .int (iI x)), (2, .int (iI y)), (3, .int (iI u)), (4, .int (iI v))]) hx hb dX4_costWith_42 hl (k := 1) rfl (iI_add _ _) (by decide) rfl (fun ls hl => ?_)
          refine lv_goto (tgt := 6) hx hb dX4_costWith_45 (by decide) ?_
          exact ih6 (t + 1) ((sumZ (fun t => if 1 < P 1 t then sprd (tPo (tDr (mO P) u v) x y) t else 0) t) + (sprd (tPo (tDr (mO P) u v) x y) t)) (by omega) (by omega) (by rw [sumZ_s _ hi0]; (try dsimp only); split <;> omega) (by omega) ls (lv_sub hl [0, 1, 2, 3, 4, 5, 6] rfl)
  exact loop6 ((P 0 0 - 0 : Int) + 1).toNat 0 0 (by omega) (by omega) (rfl) (by omega) ls (lv_sub hl [0, 1, 2, 3, 4, 5, 6] rfl)
set_option maxHeartbeats 4000000 in
set_option maxRecDepth 100000 in
theorem c_X4_costWithPole (l : Launch) (D : va_G) (cy : Nat → ClassId) (a : Nat → Nat) (P : Nat → Int → Int) (x y : Int) (hI : Inv (mO P)) (hpo : poleOK x y) : Met l yX4_costWithPole wsX4_costWithPole { frames := 4, cells := 0, slots := 0, locals := 102 } (kPre (GG D cy) D (plW cy a P) ([.ref (a 0), .int (iI x), .int (iI y)] : List Value)) (kRO (fun r => r = pcost (tPo (mO P) x y))) 0 0 (fun _ => False) := by
  refine kRO_start (cc := cX4_costWithPole) (maxL := 3) (ret := (some .int)) (by decide) rfl (Nat.le_of_ble_eq_true rfl) ?_
  intro p e s m below meth c hx hb hr hlocks hml hts hown hG hP ls hl
  have hK := hG.1
  have hl : lv_has ls 3 [(0, .ref (a 0)), (1, .int (iI x)), (2, .int (iI y))] := hl
  have hinX4 : ∀ w ∈ u_ws RX4 TX4 12, w ∈ wsX4_costWithPole := by decide +kernel
  have hm0 := hts (.fieldLink RX4 54 "ArcPlate$Plate" "settings" "[I") (by decide +kernel)
  have hset := po_set hI
  refine lv_aload_n hx hb dX4_costWithPole_0 rfl (lv_at hl 0 rfl) ?_
  refine lv_iload_n hx hb dX4_costWithPole_1 rfl (lv_at hl 1 rfl) ?_
  refine lv_iload_n hx hb dX4_costWithPole_2 rfl (lv_at hl 2 rfl) ?_
  refine lv_aload_n hx hb dX4_costWithPole_3 rfl (lv_at hl 0 rfl) ?_
  refine va_get (D := D) (ci := 3) (v := .ref (a 8)) (C := RX4) (T := TX4) (N := 12) hx hb hts hinX4 hown hK hP 0 rfl rfl 11 (by decide) hm0 (fun _ h9 => h9) rfl dX4_costWithPole_4 ?_
  refine k_iconst hx hb dX4_costWithPole_7 ?_
  refine k_iald hx hb hK hP 8 0 (f := P 8) rfl rfl (i := 1) (by omega) dX4_costWithPole_8 ?_
  refine lv_aload_n hx hb dX4_costWithPole_9 rfl (lv_at hl 0 rfl) ?_
  refine va_get (D := D) (ci := 3) (v := .ref (a 8)) (C := RX4) (T := TX4) (N := 12) hx hb hts hinX4 hown hK hP 0 rfl rfl 11 (by decide) hm0 (fun _ h9 => h9) rfl dX4_costWithPole_10 ?_
  refine k_iconst hx hb dX4_costWithPole_13 ?_
  refine k_iald hx hb hK hP 8 0 (f := P 8) rfl rfl (i := 2) (by omega) dX4_costWithPole_14 ?_
  refine k_roV (As := [.int (iI x), .int (iI y), .int (iI (P 8 1)), .int (iI (P 8 2))]) (rest := []) ⟨hx, hb, hml, hown, hts⟩ (c_X4_costWith l D cy a P x y (P 8 1) (P 8 2) hI (show -100 ≤ (P 8 1) ∧ (P 8 1) ≤ 100 by omega) (show -100 ≤ (P 8 2) ∧ (P 8 2) ≤ 100 by omega) (show poleOK x y by omega)) gX4_costWithPole_X4_costWith rfl ⟨rfl, rfl⟩ 4 rfl (by decide +kernel) ⟨Nat.le_of_ble_eq_true rfl, Nat.le_of_ble_eq_true rfl⟩ (GG_ok D cy) hG hP (va_recv hK hP (ci := 3) (q0 := 0) rfl rfl) hl.1 rfl (Nat.le_of_ble_eq_true rfl) ⟨Nat.le_of_ble_eq_true rfl, Nat.le_of_ble_eq_true rfl⟩ dX4_costWithPole_15 (fun r_1 hr_1 => ?_)
  have hr_1 : r_1 = pcost (tPo (tDr (mO P) (P 8 1) (P 8 2)) x y) := hr_1
  subst hr_1
  exact W.iret (v := iI (pcost (tPo (tDr (mO P) (P 8 1) (P 8 2)) x y))) hx hb hr (fun t9 ht _ => ⟨(pcost (tPo (tDr (mO P) (P 8 1) (P 8 2)) x y)), rfl, (by rw [tDr_mO] : (pcost (tPo (tDr (mO P) (P 8 1) (P 8 2)) x y) : Int) = pcost (tPo (mO P) x y)), ht⟩) (fun _ h => nomatch h) dX4_costWithPole_18 hlocks
