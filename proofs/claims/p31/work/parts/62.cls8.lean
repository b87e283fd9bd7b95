set_option maxHeartbeats 4000000 in
set_option maxRecDepth 100000 in
theorem c_X6_point (l : Launch) (D : va_G) (cy : Nat → ClassId) (a : Nat → Nat) (P : Nat → Int → Int) (t q w : Int) (hI : Inv (mO P)) (h0 : 0 ≤ t) (h1 : t < P 0 0) (h2 : 0 ≤ q) (h3 : q < P 1 t) (hw : 0 ≤ w ∧ w ≤ 6) : Met l yX6_point wsX6_point { frames := 4, cells := 0, slots := 0, locals := 97 } (kPre (GG D cy) D (obplW cy a P) ([.ref (a 100), .int (iI t), .int (iI q), .int (iI w)] : List Value)) (kRO (fun r => r = ptV (mO P) t q w)) 0 0 (fun _ => False) := by
  refine kRO_start (cc := cX6_point) (maxL := 4) (ret := (some .int)) (by decide) rfl (Nat.le_of_ble_eq_true rfl) ?_
  intro p e s m below meth c hx hb hr hlocks hml hts hown hG hP ls hl
  have hK := hG.1
  have hl : lv_has ls 4 [(0, .ref (a 100)), (1, .int (iI t)), (2, .int (iI q)), (3, .int (iI w))] := hl
  have hinX6 : ∀ w ∈ u_ws RX6 TX6 8, w ∈ wsX6_point := by decide +kernel
  have hmw0 := hts (.fieldLink RX6 10 "ArcPlate" "plate" "LArcPlate$Plate;") (by decide +kernel)
  have hS0 := po_S hI
  have hp := po_pts hI h0 h1
  refine lv_aload_n hx hb dX6_point_0 rfl (lv_at hl 0 rfl) ?_
  refine va_get (D := D) (ci := 5) (v := .ref (a 0)) (C := RX6) (T := TX6) (N := 8) hx hb hts hinX6 hown hK hP 0 rfl rfl 0 (by decide) hmw0 (fun _ h9 => h9) rfl dX6_point_1 ?_
  refine lv_iload_n hx hb dX6_point_4 rfl (lv_at hl 1 rfl) ?_
  refine lv_iload_n hx hb dX6_point_5 rfl (lv_at hl 2 rfl) ?_
  refine k_roV (As := [.int (iI t), .int (iI q)]) (rest := []) ⟨hx, hb, hml, hown, hts⟩ (c_X4_hasPoint l D cy a P t q hI (show -2147483648 ≤ t ∧ t ≤ 2147483647 by omega) (show -2147483648 ≤ q ∧ q ≤ 2147483647 by omega)) gX6_point_X4_hasPoint rfl ⟨rfl, rfl⟩ 2 rfl (by decide +kernel) ⟨Nat.le_of_ble_eq_true rfl, Nat.le_of_ble_eq_true rfl⟩ (GG_ok D cy) hG (hP.sub (ws' := (plW cy a P)) [1, 2, 3, 4, 5, 6, 7, 8, 9] rfl) (va_recv hK hP (ci := 3) (q0 := 1) rfl rfl) hl.1 rfl (Nat.le_of_ble_eq_true rfl) ⟨Nat.le_of_ble_eq_true rfl, Nat.le_of_ble_eq_true rfl⟩ dX6_point_6 (fun r_1 hr_1 => ?_)
  have hr_1 : (((0 ≤ t ∧ t < P 0 0) ∧ 0 ≤ q ∧ q < P 1 t) ∧ r_1 = 1) ∨ (¬ ((0 ≤ t ∧ t < P 0 0) ∧ 0 ≤ q ∧ q < P 1 t) ∧ r_1 = 0) := hr_1
  rcases hr_1 with ⟨c_2, hr_1⟩ | ⟨c_2, hr_1⟩ <;> subst hr_1
  · skip
    refine k_if_eq (tgt := 16) hx hb dX6_point_9 (by decide) (by omega) (fun c_3 => ?_) (fun c_3 => ?_)
    · exfalso; omega
    · skip
      refine k_iconst hx hb dX6_point_12 ?_
      refine lv_goto (tgt := 17) hx hb dX6_point_13 (by decide) ?_
      refine k_rovS (As := [.int (iI 0)]) (rest := []) ⟨hx, hb, hml, hown, hts⟩ (c_X6_refuse l D) gX6_point_X6_refuse rfl ⟨rfl, rfl⟩ 1 rfl (by decide +kernel) ⟨Nat.le_of_ble_eq_true rfl, Nat.le_of_ble_eq_true rfl⟩ kGT_ok trivial (fun k q h => by simp at h) hl.1 rfl (Nat.le_of_ble_eq_true rfl) ⟨Nat.le_of_ble_eq_true rfl, Nat.le_of_ble_eq_true rfl⟩ dX6_point_17 ?_
      refine lv_iload_n hx hb dX6_point_20 rfl (lv_at hl 3 rfl) ?_
      refine k_iconst hx hb dX6_point_21 ?_
      refine k_bipush hx hb dX6_point_22 (by decide +kernel) ?_
      refine k_roS (As := [.int (iI w), .int (iI 0), .int (iI 6)]) (rest := []) ⟨hx, hb, hml, hown, hts⟩ (c_X6_inRange l D w 0 6 (show -2147483648 ≤ w ∧ w ≤ 2147483647 by omega) (show -2147483648 ≤ 0 ∧ 0 ≤ 2147483647 by omega) (show -2147483648 ≤ 6 ∧ 6 ≤ 2147483647 by omega)) gX6_point_X6_inRange rfl ⟨rfl, rfl⟩ 3 rfl (by decide +kernel) ⟨Nat.le_of_ble_eq_true rfl, Nat.le_of_ble_eq_true rfl⟩ kGT_ok trivial (fun k q h => by simp at h) hl.1 rfl (Nat.le_of_ble_eq_true rfl) ⟨Nat.le_of_ble_eq_true rfl, Nat.le_of_ble_eq_true rfl⟩ dX6_point_24 (fun r_4 hr_4 => ?_)
      have hr_4 : ((0 ≤ w ∧ w ≤ 6) ∧ r_4 = 1) ∨ (¬ (0 ≤ w ∧ w ≤ 6) ∧ r_4 = 0) := hr_4
      rcases hr_4 with ⟨c_5, hr_4⟩ | ⟨c_5, hr_4⟩ <;> subst hr_4
      · skip
        refine k_if_eq (tgt := 34) hx hb dX6_point_27 (by decide) (by omega) (fun c_6 => ?_) (fun c_6 => ?_)
        · exfalso; omega
        · skip
          refine k_iconst hx hb dX6_point_30 ?_
          refine lv_goto (tgt := 35) hx hb dX6_point_31 (by decide) ?_
          refine k_rovS (As := [.int (iI 0)]) (rest := []) ⟨hx, hb, hml, hown, hts⟩ (c_X6_refuse l D) gX6_point_X6_refuse rfl ⟨rfl, rfl⟩ 1 rfl (by decide +kernel) ⟨Nat.le_of_ble_eq_true rfl, Nat.le_of_ble_eq_true rfl⟩ kGT_ok trivial (fun k q h => by simp at h) hl.1 rfl (Nat.le_of_ble_eq_true rfl) ⟨Nat.le_of_ble_eq_true rfl, Nat.le_of_ble_eq_true rfl⟩ dX6_point_35 ?_
          refine lv_aload_n hx hb dX6_point_38 rfl (lv_at hl 0 rfl) ?_
          refine va_get (D := D) (ci := 5) (v := .ref (a 0)) (C := RX6) (T := TX6) (N := 8) hx hb hts hinX6 hown hK hP 0 rfl rfl 0 (by decide) hmw0 (fun _ h9 => h9) rfl dX6_point_39 ?_
          refine lv_iload_n hx hb dX6_point_42 rfl (lv_at hl 1 rfl) ?_
          refine lv_iload_n hx hb dX6_point_43 rfl (lv_at hl 2 rfl) ?_
          refine lv_iload_n hx hb dX6_point_44 rfl (lv_at hl 3 rfl) ?_
          refine k_roV (As := [.int (iI t), .int (iI q), .int (iI w)]) (rest := []) ⟨hx, hb, hml, hown, hts⟩ (c_X4_pointValue l D cy a P t q w hI (show 0 ≤ t by omega) (show t < P 0 0 by omega) (show 0 ≤ q by omega) (show q < P 1 t by omega) (show 0 ≤ w ∧ w ≤ 6 by omega)) gX6_point_X4_pointValue rfl ⟨rfl, rfl⟩ 3 rfl (by decide +kernel) ⟨Nat.le_of_ble_eq_true rfl, Nat.le_of_ble_eq_true rfl⟩ (GG_ok D cy) hG (hP.sub (ws' := (plW cy a P)) [1, 2, 3, 4, 5, 6, 7, 8, 9] rfl) (va_recv hK hP (ci := 3) (q0 := 1) rfl rfl) hl.1 rfl (Nat.le_of_ble_eq_true rfl) ⟨Nat.le_of_ble_eq_true rfl, Nat.le_of_ble_eq_true rfl⟩ dX6_point_45 (fun r_7 hr_7 => ?_)
          have hr_7 : r_7 = ptV (mO P) t q w := hr_7
          subst hr_7
          exact W.iret (v := iI (ptV (mO P) t q w)) hx hb hr (fun t9 ht _ => ⟨(ptV (mO P) t q w), rfl, (by first | rfl | omega : (ptV (mO P) t q w : Int) = ptV (mO P) t q w), ht⟩) (fun _ h => nomatch h) dX6_point_48 hlocks
      · skip
        refine k_if_eq (tgt := 34) hx hb dX6_point_27 (by decide) (by omega) (fun c_8 => ?_) (fun c_8 => ?_)
        · skip
          refine k_iconst hx hb dX6_point_34 ?_
          exfalso; first | omega | omega
        · exfalso; omega
  · skip
    refine k_if_eq (tgt := 16) hx hb dX6_point_9 (by decide) (by omega) (fun c_9 => ?_) (fun c_9 => ?_)
    · skip
      refine k_iconst hx hb dX6_point_16 ?_
      exfalso; first | omega | omega
    · exfalso; omega
set_option maxHeartbeats 4000000 in
set_option maxRecDepth 100000 in
theorem c_X6_point_t1 (l : Launch) (hl9 : l.stackTraces = false) (D : va_G) (cy : Nat → ClassId) (a : Nat → Nat) (P : Nat → Int → Int) (t q w : Int) (hI : Inv (mO P)) (hrt : -2147483648 ≤ t ∧ t ≤ 2147483647) (hrq : -2147483648 ≤ q ∧ q ≤ 2147483647) (hno : ¬ ((0 ≤ t ∧ t < P 0 0) ∧ 0 ≤ q ∧ q < P 1 t)) : vx_Met l yX6_point wsX6_point { frames := 7, cells := 1, slots := 6, locals := 110 } (kPre (GX D cy) D (obplW cy a P) ([.ref (a 100), .int (iI t), .int (iI q), .int (iI w)] : List Value)) kNo (XK (exN 0)) 1 6 (fun _ => False) := by
  refine kTH_start (cc := cX6_point) (maxL := 4) (ret := (some .int)) (by decide) rfl (Nat.le_of_ble_eq_true rfl) ?_
  intro p e s m below meth c hx hb hr hlocks hml hts hown ht hG hP ls hl
  have hGe := hG.2
  have hGs := hG.1
  have hJd := hGs.2.1
  have hG := hGs.1
  have hK := hG.1
  have hl : lv_has ls 4 [(0, .ref (a 100)), (1, .int (iI t)), (2, .int (iI q)), (3, .int (iI w))] := hl
  have hinX6 : ∀ w ∈ u_ws RX6 TX6 8, w ∈ wsX6_point := by decide +kernel
  have hmw0 := hts (.fieldLink RX6 10 "ArcPlate" "plate" "LArcPlate$Plate;") (by decide +kernel)
  have hS0 := po_S hI
  refine lv_aload_n hx hb dX6_point_0 rfl (lv_at hl 0 rfl) ?_
  refine va_get (D := D) (ci := 5) (v := .ref (a 0)) (C := RX6) (T := TX6) (N := 8) hx hb hts hinX6 hown hK hP 0 rfl rfl 0 (by decide) hmw0 (fun _ h9 => h9) rfl dX6_point_1 ?_
  refine lv_iload_n hx hb dX6_point_4 rfl (lv_at hl 1 rfl) ?_
  refine lv_iload_n hx hb dX6_point_5 rfl (lv_at hl 2 rfl) ?_
  refine k_roV (As := [.int (iI t), .int (iI q)]) (rest := []) ⟨hx, hb, hml, hown, hts⟩ (c_X4_hasPoint l D cy a P t q hI (show -2147483648 ≤ t ∧ t ≤ 2147483647 by omega) (show -2147483648 ≤ q ∧ q ≤ 2147483647 by omega)) gX6_point_X4_hasPoint rfl ⟨rfl, rfl⟩ 2 rfl (by decide +kernel) ⟨Nat.le_of_ble_eq_true rfl, Nat.le_of_ble_eq_true rfl⟩ (GG_ok D cy) hG (hP.sub (ws' := (plW cy a P)) [1, 2, 3, 4, 5, 6, 7, 8, 9] rfl) (va_recv hK hP (ci := 3) (q0 := 1) rfl rfl) hl.1 rfl (Nat.le_of_ble_eq_true rfl) ⟨Nat.le_of_ble_eq_true rfl, Nat.le_of_ble_eq_true rfl⟩ dX6_point_6 (fun r_1 hr_1 => ?_)
  have hr_1 : (((0 ≤ t ∧ t < P 0 0) ∧ 0 ≤ q ∧ q < P 1 t) ∧ r_1 = 1) ∨ (¬ ((0 ≤ t ∧ t < P 0 0) ∧ 0 ≤ q ∧ q < P 1 t) ∧ r_1 = 0) := hr_1
  rcases hr_1 with ⟨c_2, hr_1⟩ | ⟨c_2, hr_1⟩ <;> subst hr_1
  · skip
    refine k_if_eq (tgt := 16) hx hb dX6_point_9 (by decide) (by omega) (fun c_3 => ?_) (fun c_3 => ?_)
    · exfalso; omega
    · skip
      refine k_iconst hx hb dX6_point_12 ?_
      refine lv_goto (tgt := 17) hx hb dX6_point_13 (by decide) ?_
      exfalso; first | omega | omega
  · skip
    refine k_if_eq (tgt := 16) hx hb dX6_point_9 (by decide) (by omega) (fun c_4 => ?_) (fun c_4 => ?_)
    · skip
      refine k_iconst hx hb dX6_point_16 ?_
      exact k_thS (As := [.int (iI 1)]) (rest := []) ⟨hx, hb, hml, hown, hts⟩ (c_X6_refuse1 l hl9 D) gX6_point_X6_refuse rfl ⟨rfl, rfl⟩ 1 rfl (by decide +kernel) ⟨Nat.le_of_ble_eq_true rfl, Nat.le_of_ble_eq_true rfl⟩ exA_ok hGe (fun k q h => by simp at h) hl.1 rfl (Nat.le_of_ble_eq_true rfl) ⟨Nat.le_of_ble_eq_true rfl, Nat.le_of_ble_eq_true rfl⟩ dX6_point_17 ht hlocks
    · exfalso; omega
set_option maxHeartbeats 4000000 in
set_option maxRecDepth 100000 in
theorem c_X6_point_t2 (l : Launch) (hl9 : l.stackTraces = false) (D : va_G) (cy : Nat → ClassId) (a : Nat → Nat) (P : Nat → Int → Int) (t q w : Int) (hI : Inv (mO P)) (h0 : 0 ≤ t) (h1 : t < P 0 0) (h2 : 0 ≤ q) (h3 : q < P 1 t) (hrw : -2147483648 ≤ w ∧ w ≤ 2147483647) (hno : ¬ (0 ≤ w ∧ w ≤ 6)) : vx_Met l yX6_point wsX6_point { frames := 7, cells := 1, slots := 6, locals := 110 } (kPre (GX D cy) D (obplW cy a P) ([.ref (a 100), .int (iI t), .int (iI q), .int (iI w)] : List Value)) kNo (XK (exN 1)) 1 6 (fun _ => False) := by
  refine kTH_start (cc := cX6_point) (maxL := 4) (ret := (some .int)) (by decide) rfl (Nat.le_of_ble_eq_true rfl) ?_
  intro p e s m below meth c hx hb hr hlocks hml hts hown ht hG hP ls hl
  have hGe := hG.2
  have hGs := hG.1
  have hJd := hGs.2.1
  have hG := hGs.1
  have hK := hG.1
  have hl : lv_has ls 4 [(0, .ref (a 100)), (1, .int (iI t)), (2, .int (iI q)), (3, .int (iI w))] := hl
  have hinX6 : ∀ w ∈ u_ws RX6 TX6 8, w ∈ wsX6_point := by decide +kernel
  have hmw0 := hts (.fieldLink RX6 10 "ArcPlate" "plate" "LArcPlate$Plate;") (by decide +kernel)
  have hS0 := po_S hI
  have hp := po_pts hI h0 h1
  refine lv_aload_n hx hb dX6_point_0 rfl (lv_at hl 0 rfl) ?_
  refine va_get (D := D) (ci := 5) (v := .ref (a 0)) (C := RX6) (T := TX6) (N := 8) hx hb hts hinX6 hown hK hP 0 rfl rfl 0 (by decide) hmw0 (fun _ h9 => h9) rfl dX6_point_1 ?_
  refine lv_iload_n hx hb dX6_point_4 rfl (lv_at hl 1 rfl) ?_
  refine lv_iload_n hx hb dX6_point_5 rfl (lv_at hl 2 rfl) ?_
  refine k_roV (As := [.int (iI t), .int (iI q)]) (rest := []) ⟨hx, hb, hml, hown, hts⟩ (c_X4_hasPoint l D cy a P t q hI (show -2147483648 ≤ t ∧ t ≤ 2147483647 by omega) (show -2147483648 ≤ q ∧ q ≤ 2147483647 by omega)) gX6_point_X4_hasPoint rfl ⟨rfl, rfl⟩ 2 rfl (by decide +kernel) ⟨Nat.le_of_ble_eq_true rfl, Nat.le_of_ble_eq_true rfl⟩ (GG_ok D cy) hG (hP.sub (ws' := (plW cy a P)) [1, 2, 3, 4, 5, 6, 7, 8, 9] rfl) (va_recv hK hP (ci := 3) (q0 := 1) rfl rfl) hl.1 rfl (Nat.le_of_ble_eq_true rfl) ⟨Nat.le_of_ble_eq_true rfl, Nat.le_of_ble_eq_true rfl⟩ dX6_point_6 (fun r_1 hr_1 => ?_)
  have hr_1 : (((0 ≤ t ∧ t < P 0 0) ∧ 0 ≤ q ∧ q < P 1 t) ∧ r_1 = 1) ∨ (¬ ((0 ≤ t ∧ t < P 0 0) ∧ 0 ≤ q ∧ q < P 1 t) ∧ r_1 = 0) := hr_1
  rcases hr_1 with ⟨c_2, hr_1⟩ | ⟨c_2, hr_1⟩ <;> subst hr_1
  · skip
    refine k_if_eq (tgt := 16) hx hb dX6_point_9 (by decide) (by omega) (fun c_3 => ?_) (fun c_3 => ?_)
    · exfalso; omega
    · skip
      refine k_iconst hx hb dX6_point_12 ?_
      refine lv_goto (tgt := 17) hx hb dX6_point_13 (by decide) ?_
      refine k_rovS (As := [.int (iI 0)]) (rest := []) ⟨hx, hb, hml, hown, hts⟩ (c_X6_refuse l D) gX6_point_X6_refuse rfl ⟨rfl, rfl⟩ 1 rfl (by decide +kernel) ⟨Nat.le_of_ble_eq_true rfl, Nat.le_of_ble_eq_true rfl⟩ kGT_ok trivial (fun k q h => by simp at h) hl.1 rfl (Nat.le_of_ble_eq_true rfl) ⟨Nat.le_of_ble_eq_true rfl, Nat.le_of_ble_eq_true rfl⟩ dX6_point_17 ?_
      refine lv_iload_n hx hb dX6_point_20 rfl (lv_at hl 3 rfl) ?_
      refine k_iconst hx hb dX6_point_21 ?_
      refine k_bipush hx hb dX6_point_22 (by decide +kernel) ?_
      refine k_roS (As := [.int (iI w), .int (iI 0), .int (iI 6)]) (rest := []) ⟨hx, hb, hml, hown, hts⟩ (c_X6_inRange l D w 0 6 (show -2147483648 ≤ w ∧ w ≤ 2147483647 by omega) (show -2147483648 ≤ 0 ∧ 0 ≤ 2147483647 by omega) (show -2147483648 ≤ 6 ∧ 6 ≤ 2147483647 by omega)) gX6_point_X6_inRange rfl ⟨rfl, rfl⟩ 3 rfl (by decide +kernel) ⟨Nat.le_of_ble_eq_true rfl, Nat.le_of_ble_eq_true rfl⟩ kGT_ok trivial (fun k q h => by simp at h) hl.1 rfl (Nat.le_of_ble_eq_true rfl) ⟨Nat.le_of_ble_eq_true rfl, Nat.le_of_ble_eq_true rfl⟩ dX6_point_24 (fun r_4 hr_4 => ?_)
      have hr_4 : ((0 ≤ w ∧ w ≤ 6) ∧ r_4 = 1) ∨ (¬ (0 ≤ w ∧ w ≤ 6) ∧ r_4 = 0) := hr_4
      rcases hr_4 with ⟨c_5, hr_4⟩ | ⟨c_5, hr_4⟩ <;> subst hr_4
      · skip
        refine k_if_eq (tgt := 34) hx hb dX6_point_27 (by decide) (by omega) (fun c_6 => ?_) (fun c_6 => ?_)
        · exfalso; omega
        · skip
          refine k_iconst hx hb dX6_point_30 ?_
          refine lv_goto (tgt := 35) hx hb dX6_point_31 (by decide) ?_
          exfalso; first | omega | omega
      · skip
        refine k_if_eq (tgt := 34) hx hb dX6_point_27 (by decide) (by omega) (fun c_7 => ?_) (fun c_7 => ?_)
        · skip
          refine k_iconst hx hb dX6_point_34 ?_
          exact k_thS (As := [.int (iI 2)]) (rest := []) ⟨hx, hb, hml, hown, hts⟩ (c_X6_refuse2 l hl9 D) gX6_point_X6_refuse rfl ⟨rfl, rfl⟩ 1 rfl (by decide +kernel) ⟨Nat.le_of_ble_eq_true rfl, Nat.le_of_ble_eq_true rfl⟩ exA_ok hGe (fun k q h => by simp at h) hl.1 rfl (Nat.le_of_ble_eq_true rfl) ⟨Nat.le_of_ble_eq_true rfl, Nat.le_of_ble_eq_true rfl⟩ dX6_point_35 ht hlocks
        · exfalso; omega
  · skip
    refine k_if_eq (tgt := 16) hx hb dX6_point_9 (by decide) (by omega) (fun c_8 => ?_) (fun c_8 => ?_)
    · skip
      refine k_iconst hx hb dX6_point_16 ?_
      exfalso; first | omega | omega
    · exfalso; omega
set_option maxHeartbeats 4000000 in
set_option maxRecDepth 100000 in
theorem c_X6_starAngle (l : Launch) (D : va_G) (cy : Nat → ClassId) (a : Nat → Nat) (P : Nat → Int → Int) (u f : Int) (hI : Inv (mO P)) (h0u : 0 ≤ u) (h1u : u < P 0 1) (hf : 0 ≤ f ∧ f ≤ 1000) : Met l yX6_starAngle wsX6_starAngle { frames := 2, cells := 0, slots := 0, locals := 45 } (kPre (GG D cy) D (obplW cy a P) ([.ref (a 100), .int (iI u), .int (iI f)] : List Value)) (kRO (fun r => r = stAng (mO P) (P 8 8) u f)) 0 0 (fun _ => False) := by
  refine kRO_start (cc := cX6_starAngle) (maxL := 3) (ret := (some .int)) (by decide) rfl (Nat.le_of_ble_eq_true rfl) ?_
  intro p e s m below meth c hx hb hr hlocks hml hts hown hG hP ls hl
  have hK := hG.1
  have hl : lv_has ls 3 [(0, .ref (a 100)), (1, .int (iI u)), (2, .int (iI f))] := hl
  have hinX4 : ∀ w ∈ u_ws RX4 TX4 12, w ∈ wsX6_starAngle := by decide +kernel
  have hinX6 : ∀ w ∈ u_ws RX6 TX6 8, w ∈ wsX6_starAngle := by decide +kernel
  have hmw0 := hts (.fieldLink RX6 10 "ArcPlate" "plate" "LArcPlate$Plate;") (by decide +kernel)
  have hmw1 := hts (.fieldLink RX6 143 "ArcPlate$Plate" "settings" "[I") (by decide +kernel)
  have hS0 := po_S hI
  have hset := po_set hI
  refine lv_aload_n hx hb dX6_starAngle_0 rfl (lv_at hl 0 rfl) ?_
  refine va_get (D := D) (ci := 5) (v := .ref (a 0)) (C := RX6) (T := TX6) (N := 8) hx hb hts hinX6 hown hK hP 0 rfl rfl 0 (by decide) hmw0 (fun _ h9 => h9) rfl dX6_starAngle_1 ?_
  refine lv_iload_n hx hb dX6_starAngle_4 rfl (lv_at hl 1 rfl) ?_
  refine k_roV (As := [.int (iI u)]) (rest := []) ⟨hx, hb, hml, hown, hts⟩ (c_X4_hasStar l D cy a P u hI (show -2147483648 ≤ u ∧ u ≤ 2147483647 by omega)) gX6_starAngle_X4_hasStar rfl ⟨rfl, rfl⟩ 1 rfl (by decide +kernel) ⟨Nat.le_of_ble_eq_true rfl, Nat.le_of_ble_eq_true rfl⟩ (GG_ok D cy) hG (hP.sub (ws' := (plW cy a P)) [1, 2, 3, 4, 5, 6, 7, 8, 9] rfl) (va_recv hK hP (ci := 3) (q0 := 1) rfl rfl) hl.1 rfl (Nat.le_of_ble_eq_true rfl) ⟨Nat.le_of_ble_eq_true rfl, Nat.le_of_ble_eq_true rfl⟩ dX6_starAngle_5 (fun r_1 hr_1 => ?_)
  have hr_1 : ((0 ≤ u ∧ u < P 0 1) ∧ r_1 = 1) ∨ (¬ (0 ≤ u ∧ u < P 0 1) ∧ r_1 = 0) := hr_1
  rcases hr_1 with ⟨c_2, hr_1⟩ | ⟨c_2, hr_1⟩ <;> subst hr_1
  · skip
    refine k_if_eq (tgt := 15) hx hb dX6_starAngle_8 (by decide) (by omega) (fun c_3 => ?_) (fun c_3 => ?_)
    · exfalso; omega
    · skip
      refine k_iconst hx hb dX6_starAngle_11 ?_
      refine lv_goto (tgt := 16) hx hb dX6_starAngle_12 (by decide) ?_
      refine k_rovS (As := [.int (iI 0)]) (rest := []) ⟨hx, hb, hml, hown, hts⟩ (c_X6_refuse l D) gX6_starAngle_X6_refuse rfl ⟨rfl, rfl⟩ 1 rfl (by decide +kernel) ⟨Nat.le_of_ble_eq_true rfl, Nat.le_of_ble_eq_true rfl⟩ kGT_ok trivial (fun k q h => by simp at h) hl.1 rfl (Nat.le_of_ble_eq_true rfl) ⟨Nat.le_of_ble_eq_true rfl, Nat.le_of_ble_eq_true rfl⟩ dX6_starAngle_16 ?_
      refine lv_iload_n hx hb dX6_starAngle_19 rfl (lv_at hl 2 rfl) ?_
      refine k_iconst hx hb dX6_starAngle_20 ?_
      refine k_sipush hx hb dX6_starAngle_21 (by decide +kernel) ?_
      refine k_roS (As := [.int (iI f), .int (iI 0), .int (iI 1000)]) (rest := []) ⟨hx, hb, hml, hown, hts⟩ (c_X6_inRange l D f 0 1000 (show -2147483648 ≤ f ∧ f ≤ 2147483647 by omega) (show -2147483648 ≤ 0 ∧ 0 ≤ 2147483647 by omega) (show -2147483648 ≤ 1000 ∧ 1000 ≤ 2147483647 by omega)) gX6_starAngle_X6_inRange rfl ⟨rfl, rfl⟩ 3 rfl (by decide +kernel) ⟨Nat.le_of_ble_eq_true rfl, Nat.le_of_ble_eq_true rfl⟩ kGT_ok trivial (fun k q h => by simp at h) hl.1 rfl (Nat.le_of_ble_eq_true rfl) ⟨Nat.le_of_ble_eq_true rfl, Nat.le_of_ble_eq_true rfl⟩ dX6_starAngle_24 (fun r_4 hr_4 => ?_)
      have hr_4 : ((0 ≤ f ∧ f ≤ 1000) ∧ r_4 = 1) ∨ (¬ (0 ≤ f ∧ f ≤ 1000) ∧ r_4 = 0) := hr_4
      rcases hr_4 with ⟨c_5, hr_4⟩ | ⟨c_5, hr_4⟩ <;> subst hr_4
      · skip
        refine k_if_eq (tgt := 34) hx hb dX6_starAngle_27 (by decide) (by omega) (fun c_6 => ?_) (fun c_6 => ?_)
        · exfalso; omega
        · skip
          refine k_iconst hx hb dX6_starAngle_30 ?_
          refine lv_goto (tgt := 35) hx hb dX6_starAngle_31 (by decide) ?_
          refine k_rovS (As := [.int (iI 0)]) (rest := []) ⟨hx, hb, hml, hown, hts⟩ (c_X6_refuse l D) gX6_starAngle_X6_refuse rfl ⟨rfl, rfl⟩ 1 rfl (by decide +kernel) ⟨Nat.le_of_ble_eq_true rfl, Nat.le_of_ble_eq_true rfl⟩ kGT_ok trivial (fun k q h => by simp at h) hl.1 rfl (Nat.le_of_ble_eq_true rfl) ⟨Nat.le_of_ble_eq_true rfl, Nat.le_of_ble_eq_true rfl⟩ dX6_starAngle_35 ?_
          refine lv_aload_n hx hb dX6_starAngle_38 rfl (lv_at hl 0 rfl) ?_
          refine va_get (D := D) (ci := 5) (v := .ref (a 0)) (C := RX6) (T := TX6) (N := 8) hx hb hts hinX6 hown hK hP 0 rfl rfl 0 (by decide) hmw0 (fun _ h9 => h9) rfl dX6_starAngle_39 ?_
          refine lv_iload_n hx hb dX6_starAngle_42 rfl (lv_at hl 1 rfl) ?_
          refine lv_aload_n hx hb dX6_starAngle_43 rfl (lv_at hl 0 rfl) ?_
          refine va_get (D := D) (ci := 5) (v := .ref (a 0)) (C := RX6) (T := TX6) (N := 8) hx hb hts hinX6 hown hK hP 0 rfl rfl 0 (by decide) hmw0 (fun _ h9 => h9) rfl dX6_starAngle_44 ?_
          refine va_get (D := D) (ci := 3) (v := .ref (a 8)) (C := RX4) (T := TX4) (N := 12) hx hb hts hinX4 hown hK hP 1 rfl rfl 11 (by decide) hmw1 (fun _ h9 => h9) rfl dX6_starAngle_47 ?_
          refine k_bipush hx hb dX6_starAngle_50 (by decide +kernel) ?_
          refine k_iald hx hb hK hP 9 0 (f := P 8) rfl rfl (i := 8) (by omega) dX6_starAngle_52 ?_
          refine lv_iload_n hx hb dX6_starAngle_53 rfl (lv_at hl 2 rfl) ?_
          refine k_roV (As := [.int (iI u), .int (iI (P 8 8)), .int (iI f)]) (rest := []) ⟨hx, hb, hml, hown, hts⟩ (c_X4_angleOfStar l D cy a P u (P 8 8) f hI (show 0 ≤ u by omega) (show u < P 0 1 by omega) (show 0 ≤ (P 8 8) ∧ (P 8 8) ≤ 359999 by omega) (show 0 ≤ f ∧ f ≤ 1000 by omega)) gX6_starAngle_X4_angleOfStar rfl ⟨rfl, rfl⟩ 3 rfl (by decide +kernel) ⟨Nat.le_of_ble_eq_true rfl, Nat.le_of_ble_eq_true rfl⟩ (GG_ok D cy) hG (hP.sub (ws' := (plW cy a P)) [1, 2, 3, 4, 5, 6, 7, 8, 9] rfl) (va_recv hK hP (ci := 3) (q0 := 1) rfl rfl) hl.1 rfl (Nat.le_of_ble_eq_true rfl) ⟨Nat.le_of_ble_eq_true rfl, Nat.le_of_ble_eq_true rfl⟩ dX6_starAngle_54 (fun r_7 hr_7 => ?_)
          have hr_7 : r_7 = stAng (mO P) (P 8 8) u f := hr_7
          subst hr_7
          exact W.iret (v := iI (stAng (mO P) (P 8 8) u f)) hx hb hr (fun t9 ht _ => ⟨(stAng (mO P) (P 8 8) u f), rfl, (by first | rfl | omega : (stAng (mO P) (P 8 8) u f : Int) = stAng (mO P) (P 8 8) u f), ht⟩) (fun _ h => nomatch h) dX6_starAngle_57 hlocks
      · skip
        refine k_if_eq (tgt := 34) hx hb dX6_starAngle_27 (by decide) (by omega) (fun c_8 => ?_) (fun c_8 => ?_)
        · skip
          refine k_iconst hx hb dX6_starAngle_34 ?_
          exfalso; first | omega | omega
        · exfalso; omega
  · skip
    refine k_if_eq (tgt := 15) hx hb dX6_starAngle_8 (by decide) (by omega) (fun c_9 => ?_) (fun c_9 => ?_)
    · skip
      refine k_iconst hx hb dX6_starAngle_15 ?_
      exfalso; first | omega | omega
    · exfalso; omega
set_option maxHeartbeats 4000000 in
set_option maxRecDepth 100000 in
theorem c_X6_starAngle_t1 (l : Launch) (hl9 : l.stackTraces = false) (D : va_G) (cy : Nat → ClassId) (a : Nat → Nat) (P : Nat → Int → Int) (u f : Int) (hI : Inv (mO P)) (hru : -2147483648 ≤ u ∧ u ≤ 2147483647) (hno : ¬ (0 ≤ u ∧ u < P 0 1)) : vx_Met l yX6_starAngle wsX6_starAngle { frames := 7, cells := 1, slots := 6, locals := 110 } (kPre (GX D cy) D (obplW cy a P) ([.ref (a 100), .int (iI u), .int (iI f)] : List Value)) kNo (XK (exN 0)) 1 6 (fun _ => False) := by
  refine kTH_start (cc := cX6_starAngle) (maxL := 3) (ret := (some .int)) (by decide) rfl (Nat.le_of_ble_eq_true rfl) ?_
  intro p e s m below meth c hx hb hr hlocks hml hts hown ht hG hP ls hl
  have hGe := hG.2
  have hGs := hG.1
  have hJd := hGs.2.1
  have hG := hGs.1
  have hK := hG.1
  have hl : lv_has ls 3 [(0, .ref (a 100)), (1, .int (iI u)), (2, .int (iI f))] := hl
  have hinX6 : ∀ w ∈ u_ws RX6 TX6 8, w ∈ wsX6_starAngle := by decide +kernel
  have hmw0 := hts (.fieldLink RX6 10 "ArcPlate" "plate" "LArcPlate$Plate;") (by decide +kernel)
  have hS0 := po_S hI
  refine lv_aload_n hx hb dX6_starAngle_0 rfl (lv_at hl 0 rfl) ?_
  refine va_get (D := D) (ci := 5) (v := .ref (a 0)) (C := RX6) (T := TX6) (N := 8) hx hb hts hinX6 hown hK hP 0 rfl rfl 0 (by decide) hmw0 (fun _ h9 => h9) rfl dX6_starAngle_1 ?_
  refine lv_iload_n hx hb dX6_starAngle_4 rfl (lv_at hl 1 rfl) ?_
  refine k_roV (As := [.int (iI u)]) (rest := []) ⟨hx, hb, hml, hown, hts⟩ (c_X4_hasStar l D cy a P u hI (show -2147483648 ≤ u ∧ u ≤ 2147483647 by omega)) gX6_starAngle_X4_hasStar rfl ⟨rfl, rfl⟩ 1 rfl (by decide +kernel) ⟨Nat.le_of_ble_eq_true rfl, Nat.le_of_ble_eq_true rfl⟩ (GG_ok D cy) hG (hP.sub (ws' := (plW cy a P)) [1, 2, 3, 4, 5, 6, 7, 8, 9] rfl) (va_recv hK hP (ci := 3) (q0 := 1) rfl rfl) hl.1 rfl (Nat.le_of_ble_eq_true rfl) ⟨Nat.le_of_ble_eq_true rfl, Nat.le_of_ble_eq_true rfl⟩ dX6_starAngle_5 (fun r_1 hr_1 => ?_)
  have hr_1 : ((0 ≤ u ∧ u < P 0 1) ∧ r_1 = 1) ∨ (¬ (0 ≤ u ∧ u < P 0 1) ∧ r_1 = 0) := hr_1
  rcases hr_1 with ⟨c_2, hr_1⟩ | ⟨c_2, hr_1⟩ <;> subst hr_1
  · skip
    refine k_if_eq (tgt := 15) hx hb dX6_starAngle_8 (by decide) (by omega) (fun c_3 => ?_) (fun c_3 => ?_)
    · exfalso; omega
    · skip
      refine k_iconst hx hb dX6_starAngle_11 ?_
      refine lv_goto (tgt := 16) hx hb dX6_starAngle_12 (by decide) ?_
      exfalso; first | omega | omega
  · skip
    refine k_if_eq (tgt := 15) hx hb dX6_starAngle_8 (by decide) (by omega) (fun c_4 => ?_) (fun c_4 => ?_)
    · skip
      refine k_iconst hx hb dX6_starAngle_15 ?_
      exact k_thS (As := [.int (iI 1)]) (rest := []) ⟨hx, hb, hml, hown, hts⟩ (c_X6_refuse1 l hl9 D) gX6_starAngle_X6_refuse rfl ⟨rfl, rfl⟩ 1 rfl (by decide +kernel) ⟨Nat.le_of_ble_eq_true rfl, Nat.le_of_ble_eq_true rfl⟩ exA_ok hGe (fun k q h => by simp at h) hl.1 rfl (Nat.le_of_ble_eq_true rfl) ⟨Nat.le_of_ble_eq_true rfl, Nat.le_of_ble_eq_true rfl⟩ dX6_starAngle_16 ht hlocks
    · exfalso; omega
set_option maxHeartbeats 4000000 in
set_option maxRecDepth 100000 in
theorem c_X6_starAngle_t2 (l : Launch) (hl9 : l.stackTraces = false) (D : va_G) (cy : Nat → ClassId) (a : Nat → Nat) (P : Nat → Int → Int) (u f : Int) (hI : Inv (mO P)) (h0u : 0 ≤ u) (h1u : u < P 0 1) (hrf : -2147483648 ≤ f ∧ f ≤ 2147483647) (hno : ¬ (0 ≤ f ∧ f ≤ 1000)) : vx_Met l yX6_starAngle wsX6_starAngle { frames := 7, cells := 1, slots := 6, locals := 110 } (kPre (GX D cy) D (obplW cy a P) ([.ref (a 100), .int (iI u), .int (iI f)] : List Value)) kNo (XK (exN 1)) 1 6 (fun _ => False) := by
  refine kTH_start (cc := cX6_starAngle) (maxL := 3) (ret := (some .int)) (by decide) rfl (Nat.le_of_ble_eq_true rfl) ?_
  intro p e s m below meth c hx hb hr hlocks hml hts hown ht hG hP ls hl
  have hGe := hG.2
  have hGs := hG.1
  have hJd := hGs.2.1
  have hG := hGs.1
  have hK := hG.1
  have hl : lv_has ls 3 [(0, .ref (a 100)), (1, .int (iI u)), (2, .int (iI f))] := hl
  have hinX6 : ∀ w ∈ u_ws RX6 TX6 8, w ∈ wsX6_starAngle := by decide +kernel
  have hmw0 := hts (.fieldLink RX6 10 "ArcPlate" "plate" "LArcPlate$Plate;") (by decide +kernel)
  have hS0 := po_S hI
  refine lv_aload_n hx hb dX6_starAngle_0 rfl (lv_at hl 0 rfl) ?_
  refine va_get (D := D) (ci := 5) (v := .ref (a 0)) (C := RX6) (T := TX6) (N := 8) hx hb hts hinX6 hown hK hP 0 rfl rfl 0 (by decide) hmw0 (fun _ h9 => h9) rfl dX6_starAngle_1 ?_
  refine lv_iload_n hx hb dX6_starAngle_4 rfl (lv_at hl 1 rfl) ?_
  refine k_roV (As := [.int (iI u)]) (rest := []) ⟨hx, hb, hml, hown, hts⟩ (c_X4_hasStar l D cy a P u hI (show -2147483648 ≤ u ∧ u ≤ 2147483647 by omega)) gX6_starAngle_X4_hasStar rfl ⟨rfl, rfl⟩ 1 rfl (by decide +kernel) ⟨Nat.le_of_ble_eq_true rfl, Nat.le_of_ble_eq_true rfl⟩ (GG_ok D cy) hG (hP.sub (ws' := (plW cy a P)) [1, 2, 3, 4, 5, 6, 7, 8, 9] rfl) (va_recv hK hP (ci := 3) (q0 := 1) rfl rfl) hl.1 rfl (Nat.le_of_ble_eq_true rfl) ⟨Nat.le_of_ble_eq_true rfl, Nat.le_of_ble_eq_true rfl⟩ dX6_starAngle_5 (fun r_1 hr_1 => ?_)
  have hr_1 : ((0 ≤ u ∧ u < P 0 1) ∧ r_1 = 1) ∨ (¬ (0 ≤ u ∧ u < P 0 1) ∧ r_1 = 0) := hr_1
  rcases hr_1 with ⟨c_2, hr_1⟩ | ⟨c_2, hr_1⟩ <;> subst hr_1
  · skip
    refine k_if_eq (tgt := 15) hx hb dX6_starAngle_8 (by decide) (by omega) (fun c_3 => ?_) (fun c_3 => ?_)
    · exfalso; omega
    · skip
      refine k_iconst hx hb dX6_starAngle_11 ?_
      refine lv_goto (tgt := 16) hx hb dX6_starAngle_12 (by decide) ?_
      refine k_rovS (As := [.int (iI 0)]) (rest := []) ⟨hx, hb, hml, hown, hts⟩ (c_X6_refuse l D) gX6_starAngle_X6_refuse rfl ⟨rfl, rfl⟩ 1 rfl (by decide +kernel) ⟨Nat.le_of_ble_eq_true rfl, Nat.le_of_ble_eq_true rfl⟩ kGT_ok trivial (fun k q h => by simp at h) hl.1 rfl (Nat.le_of_ble_eq_true rfl) ⟨Nat.le_of_ble_eq_true rfl, Nat.le_of_ble_eq_true rfl⟩ dX6_starAngle_16 ?_
      refine lv_iload_n hx hb dX6_starAngle_19 rfl (lv_at hl 2 rfl) ?_
      refine k_iconst hx hb dX6_starAngle_20 ?_
      refine k_sipush hx hb dX6_starAngle_21 (by decide +kernel) ?_
      refine k_roS (As := [.int (iI f), .int (iI 0), .int (iI 1000)]) (rest := []) ⟨hx, hb, hml, hown, hts⟩ (c_X6_inRange l D f 0 1000 (show -2147483648 ≤ f ∧ f ≤ 2147483647 by omega) (show -2147483648 ≤ 0 ∧ 0 ≤ 2147483647 by omega) (show -2147483648 ≤ 1000 ∧ 1000 ≤ 2147483647 by omega)) gX6_starAngle_X6_inRange rfl ⟨rfl, rfl⟩ 3 rfl (by decide +kernel) ⟨Nat.le_of_ble_eq_true rfl, Nat.le_of_ble_eq_true rfl⟩ kGT_ok trivial (fun k q h => by simp at h) hl.1 rfl (Nat.le_of_ble_eq_true rfl) ⟨Nat.le_of_ble_eq_true rfl, Nat.le_of_ble_eq_true rfl⟩ dX6_starAngle_24 (fun r_4 hr_4 => ?_)
      have hr_4 : ((0 ≤ f ∧ f ≤ 1000) ∧ r_4 = 1) ∨ (¬ (0 ≤ f ∧ f ≤ 1000) ∧ r_4 = 0) := hr_4
      rcases hr_4 with ⟨c_5, hr_4⟩ | ⟨c_5, hr_4⟩ <;> subst hr_4
      · skip
        refine k_if_eq (tgt := 34) hx hb dX6_starAngle_27 (by decide) (by omega) (fun c_6 => ?_) (fun c_6 => ?_)
        · exfalso; omega
        · skip
          refine k_iconst hx hb dX6_starAngle_30 ?_
          refine lv_goto (tgt := 35) hx hb dX6_starAngle_31 (by decide) ?_
          exfalso; first | omega | omega
      · skip
        refine k_if_eq (tgt := 34) hx hb dX6_starAngle_27 (by decide) (by omega) (fun c_7 => ?_) (fun c_7 => ?_)
        · skip
          refine k_iconst hx hb dX6_starAngle_34 ?_
          exact k_thS (As := [.int (iI 2)]) (rest := []) ⟨hx, hb, hml, hown, hts⟩ (c_X6_refuse2 l hl9 D) gX6_starAngle_X6_refuse rfl ⟨rfl, rfl⟩ 1 rfl (by decide +kernel) ⟨Nat.le_of_ble_eq_true rfl, Nat.le_of_ble_eq_true rfl⟩ exA_ok hGe (fun k q h => by simp at h) hl.1 rfl (Nat.le_of_ble_eq_true rfl) ⟨Nat.le_of_ble_eq_true rfl, Nat.le_of_ble_eq_true rfl⟩ dX6_starAngle_35 ht hlocks
        · exfalso; omega
  · skip
    refine k_if_eq (tgt := 15) hx hb dX6_starAngle_8 (by decide) (by omega) (fun c_8 => ?_) (fun c_8 => ?_)
    · skip
      refine k_iconst hx hb dX6_starAngle_15 ?_
      exfalso; first | omega | omega
    · exfalso; omega
set_option maxHeartbeats 4000000 in
set_option maxRecDepth 100000 in
theorem c_X6_setting (l : Launch) (D : va_G) (cy : Nat → ClassId) (a : Nat → Nat) (P : Nat → Int → Int) (w : Int) (hw : 0 ≤ w ∧ w ≤ 9) : Met l yX6_setting wsX6_setting { frames := 1, cells := 0, slots := 0, locals := 22 } (kPre (GG D cy) D (obplW cy a P) ([.ref (a 100), .int (iI w)] : List Value)) (kRO (fun r => r = P 8 w)) 0 0 (fun _ => False) := by
  refine kRO_start (cc := cX6_setting) (maxL := 2) (ret := (some .int)) (by decide) rfl (Nat.le_of_ble_eq_true rfl) ?_
  intro p e s m below meth c hx hb hr hlocks hml hts hown hG hP ls hl
  have hK := hG.1
  have hl : lv_has ls 2 [(0, .ref (a 100)), (1, .int (iI w))] := hl
  have hinX4 : ∀ w ∈ u_ws RX4 TX4 12, w ∈ wsX6_setting := by decide +kernel
  have hinX6 : ∀ w ∈ u_ws RX6 TX6 8, w ∈ wsX6_setting := by decide +kernel
  have hmw0 := hts (.fieldLink RX6 10 "ArcPlate" "plate" "LArcPlate$Plate;") (by decide +kernel)
  have hmw1 := hts (.fieldLink RX6 143 "ArcPlate$Plate" "settings" "[I") (by decide +kernel)
  refine lv_iload_n hx hb dX6_setting_0 rfl (lv_at hl 1 rfl) ?_
  refine k_iconst hx hb dX6_setting_1 ?_
  refine k_bipush hx hb dX6_setting_2 (by decide +kernel) ?_
  refine k_roS (As := [.int (iI w), .int (iI 0), .int (iI 9)]) (rest := []) ⟨hx, hb, hml, hown, hts⟩ (c_X6_inRange l D w 0 9 (show -2147483648 ≤ w ∧ w ≤ 2147483647 by omega) (show -2147483648 ≤ 0 ∧ 0 ≤ 2147483647 by omega) (show -2147483648 ≤ 9 ∧ 9 ≤ 2147483647 by omega)) gX6_setting_X6_inRange rfl ⟨rfl, rfl⟩ 3 rfl (by decide +kernel) ⟨Nat.le_of_ble_eq_true rfl, Nat.le_of_ble_eq_true rfl⟩ kGT_ok trivial (fun k q h => by simp at h) hl.1 rfl (Nat.le_of_ble_eq_true rfl) ⟨Nat.le_of_ble_eq_true rfl, Nat.le_of_ble_eq_true rfl⟩ dX6_setting_4 (fun r_1 hr_1 => ?_)
  have hr_1 : ((0 ≤ w ∧ w ≤ 9) ∧ r_1 = 1) ∨ (¬ (0 ≤ w ∧ w ≤ 9) ∧ r_1 = 0) := hr_1
  rcases hr_1 with ⟨c_2, hr_1⟩ | ⟨c_2, hr_1⟩ <;> subst hr_1
  · skip
    refine k_if_eq (tgt := 14) hx hb dX6_setting_7 (by decide) (by omega) (fun c_3 => ?_) (fun c_3 => ?_)
    · exfalso; omega
    · skip
      refine k_iconst hx hb dX6_setting_10 ?_
      refine lv_goto (tgt := 15) hx hb dX6_setting_11 (by decide) ?_
      refine k_rovS (As := [.int (iI 0)]) (rest := []) ⟨hx, hb, hml, hown, hts⟩ (c_X6_refuse l D) gX6_setting_X6_refuse rfl ⟨rfl, rfl⟩ 1 rfl (by decide +kernel) ⟨Nat.le_of_ble_eq_true rfl, Nat.le_of_ble_eq_true rfl⟩ kGT_ok trivial (fun k q h => by simp at h) hl.1 rfl (Nat.le_of_ble_eq_true rfl) ⟨Nat.le_of_ble_eq_true rfl, Nat.le_of_ble_eq_true rfl⟩ dX6_setting_15 ?_
      refine lv_aload_n hx hb dX6_setting_18 rfl (lv_at hl 0 rfl) ?_
      refine va_get (D := D) (ci := 5) (v := .ref (a 0)) (C := RX6) (T := TX6) (N := 8) hx hb hts hinX6 hown hK hP 0 rfl rfl 0 (by decide) hmw0 (fun _ h9 => h9) rfl dX6_setting_19 ?_
      refine va_get (D := D) (ci := 3) (v := .ref (a 8)) (C := RX4) (T := TX4) (N := 12) hx hb hts hinX4 hown hK hP 1 rfl rfl 11 (by decide) hmw1 (fun _ h9 => h9) rfl dX6_setting_22 ?_
      refine lv_iload_n hx hb dX6_setting_25 rfl (lv_at hl 1 rfl) ?_
      refine k_iald hx hb hK hP 9 0 (f := P 8) rfl rfl (i := w) (by omega) dX6_setting_26 ?_
      exact W.iret (v := iI (P 8 w)) hx hb hr (fun t9 ht _ => ⟨(P 8 w), rfl, (by first | rfl | omega : (P 8 w : Int) = P 8 w), ht⟩) (fun _ h => nomatch h) dX6_setting_27 hlocks
  · skip
    refine k_if_eq (tgt := 14) hx hb dX6_setting_7 (by decide) (by omega) (fun c_4 => ?_) (fun c_4 => ?_)
    · skip
      refine k_iconst hx hb dX6_setting_14 ?_
      exfalso; first | omega | omega
    · exfalso; omega
set_option maxHeartbeats 4000000 in
set_option maxRecDepth 100000 in
theorem c_X6_setting_t2 (l : Launch) (hl9 : l.stackTraces = false) (D : va_G) (cy : Nat → ClassId) (a : Nat → Nat) (P : Nat → Int → Int) (w : Int) (hrw : -2147483648 ≤ w ∧ w ≤ 2147483647) (hno : ¬ (0 ≤ w ∧ w ≤ 9)) : vx_Met l yX6_setting wsX6_setting { frames := 7, cells := 1, slots := 6, locals := 110 } (kPre (GX D cy) D (obplW cy a P) ([.ref (a 100), .int (iI w)] : List Value)) kNo (XK (exN 1)) 1 6 (fun _ => False) := by
  refine kTH_start (cc := cX6_setting) (maxL := 2) (ret := (some .int)) (by decide) rfl (Nat.le_of_ble_eq_true rfl) ?_
  intro p e s m below meth c hx hb hr hlocks hml hts hown ht hG hP ls hl
  have hGe := hG.2
  have hGs := hG.1
  have hJd := hGs.2.1
  have hG := hGs.1
  have hK := hG.1
  have hl : lv_has ls 2 [(0, .ref (a 100)), (1, .int (iI w))] := hl
  refine lv_iload_n hx hb dX6_setting_0 rfl (lv_at hl 1 rfl) ?_
  refine k_iconst hx hb dX6_setting_1 ?_
  refine k_bipush hx hb dX6_setting_2 (by decide +kernel) ?_
  refine k_roS (As := [.int (iI w), .int (iI 0), .int (iI 9)]) (rest := []) ⟨hx, hb, hml, hown, hts⟩ (c_X6_inRange l D w 0 9 (show -2147483648 ≤ w ∧ w ≤ 2147483647 by omega) (show -2147483648 ≤ 0 ∧ 0 ≤ 2147483647 by omega) (show -2147483648 ≤ 9 ∧ 9 ≤ 2147483647 by omega)) gX6_setting_X6_inRange rfl ⟨rfl, rfl⟩ 3 rfl (by decide +kernel) ⟨Nat.le_of_ble_eq_true rfl, Nat.le_of_ble_eq_true rfl⟩ kGT_ok trivial (fun k q h => by simp at h) hl.1 rfl (Nat.le_of_ble_eq_true rfl) ⟨Nat.le_of_ble_eq_true rfl, Nat.le_of_ble_eq_true rfl⟩ dX6_setting_4 (fun r_1 hr_1 => ?_)
  have hr_1 : ((0 ≤ w ∧ w ≤ 9) ∧ r_1 = 1) ∨ (¬ (0 ≤ w ∧ w ≤ 9) ∧ r_1 = 0) := hr_1
  rcases hr_1 with ⟨c_2, hr_1⟩ | ⟨c_2, hr_1⟩ <;> subst hr_1
  · skip
    refine k_if_eq (tgt := 14) hx hb dX6_setting_7 (by decide) (by omega) (fun c_3 => ?_) (fun c_3 => ?_)
    · exfalso; omega
    · skip
      refine k_iconst hx hb dX6_setting_10 ?_
      refine lv_goto (tgt := 15) hx hb dX6_setting_11 (by decide) ?_
      exfalso; first | omega | omega
  · skip
    refine k_if_eq (tgt := 14) hx hb dX6_setting_7 (by decide) (by omega) (fun c_4 => ?_) (fun c_4 => ?_)
    · skip
      refine k_iconst hx hb dX6_setting_14 ?_
      exact k_thS (As := [.int (iI 2)]) (rest := []) ⟨hx, hb, hml, hown, hts⟩ (c_X6_refuse2 l hl9 D) gX6_setting_X6_refuse rfl ⟨rfl, rfl⟩ 1 rfl (by decide +kernel) ⟨Nat.le_of_ble_eq_true rfl, Nat.le_of_ble_eq_true rfl⟩ exA_ok hGe (fun k q h => by simp at h) hl.1 rfl (Nat.le_of_ble_eq_true rfl) ⟨Nat.le_of_ble_eq_true rfl, Nat.le_of_ble_eq_true rfl⟩ dX6_setting_15 ht hlocks
    · exfalso; omega
set_option maxHeartbeats 4000000 in
set_option maxRecDepth 100000 in
theorem c_X6_costAt (l : Launch) (D : va_G) (cy : Nat → ClassId) (a : Nat → Nat) (P : Nat → Int → Int) (x y : Int) (hI : Inv (mO P)) (hpo : poleOK x y) (hrx : -2147483648 ≤ x ∧ x ≤ 2147483647) (hry : -2147483648 ≤ y ∧ y ≤ 2147483647) : Met l yX6_costAt wsX6_costAt { frames := 5, cells := 0, slots := 0, locals := 124 } (kPre (GG D cy) D (obplW cy a P) ([.ref (a 100), .int (iI x), .int (iI y)] : List Value)) (kRO (fun r => r = pcost (tPo (mO P) x y))) 0 0 (fun _ => False) := by
  refine kRO_start (cc := cX6_costAt) (maxL := 3) (ret := (some .int)) (by decide) rfl (Nat.le_of_ble_eq_true rfl) ?_
  intro p e s m below meth c hx hb hr hlocks hml hts hown hG hP ls hl
  have hK := hG.1
  have hl : lv_has ls 3 [(0, .ref (a 100)), (1, .int (iI x)), (2, .int (iI y))] := hl
  have hinX6 : ∀ w ∈ u_ws RX6 TX6 8, w ∈ wsX6_costAt := by decide +kernel
  have hmw0 := hts (.fieldLink RX6 10 "ArcPlate" "plate" "LArcPlate$Plate;") (by decide +kernel)
  refine lv_iload_n hx hb dX6_costAt_0 rfl (lv_at hl 1 rfl) ?_
  refine lv_iload_n hx hb dX6_costAt_1 rfl (lv_at hl 2 rfl) ?_
  refine k_roS (As := [.int (iI x), .int (iI y)]) (rest := []) ⟨hx, hb, hml, hown, hts⟩ (c_X4_faultOfPole l D cy x y (show -2147483648 ≤ x ∧ x ≤ 2147483647 by omega) (show -2147483648 ≤ y ∧ y ≤ 2147483647 by omega)) gX6_costAt_X4_faultOfPole rfl ⟨rfl, rfl⟩ 2 rfl (by decide +kernel) ⟨Nat.le_of_ble_eq_true rfl, Nat.le_of_ble_eq_true rfl⟩ (GG_ok D cy) hG (fun k q h => by simp at h) hl.1 rfl (Nat.le_of_ble_eq_true rfl) ⟨Nat.le_of_ble_eq_true rfl, Nat.le_of_ble_eq_true rfl⟩ dX6_costAt_2 (fun r_1 hr_1 => ?_)
  have hr_1 : ((poleOK x y) ∧ r_1 = 0) ∨ ((¬ poleOK x y) ∧ r_1 = 2) := hr_1
  rcases hr_1 with ⟨c_2, hr_1⟩ | ⟨c_2, hr_1⟩ <;> subst hr_1
  · skip
    refine k_rovS (As := [.int (iI 0)]) (rest := []) ⟨hx, hb, hml, hown, hts⟩ (c_X6_refuse l D) gX6_costAt_X6_refuse rfl ⟨rfl, rfl⟩ 1 rfl (by decide +kernel) ⟨Nat.le_of_ble_eq_true rfl, Nat.le_of_ble_eq_true rfl⟩ kGT_ok trivial (fun k q h => by simp at h) hl.1 rfl (Nat.le_of_ble_eq_true rfl) ⟨Nat.le_of_ble_eq_true rfl, Nat.le_of_ble_eq_true rfl⟩ dX6_costAt_5 ?_
    refine lv_aload_n hx hb dX6_costAt_8 rfl (lv_at hl 0 rfl) ?_
    refine va_get (D := D) (ci := 5) (v := .ref (a 0)) (C := RX6) (T := TX6) (N := 8) hx hb hts hinX6 hown hK hP 0 rfl rfl 0 (by decide) hmw0 (fun _ h9 => h9) rfl dX6_costAt_9 ?_
    refine lv_iload_n hx hb dX6_costAt_12 rfl (lv_at hl 1 rfl) ?_
    refine lv_iload_n hx hb dX6_costAt_13 rfl (lv_at hl 2 rfl) ?_
    refine k_roV (As := [.int (iI x), .int (iI y)]) (rest := []) ⟨hx, hb, hml, hown, hts⟩ (c_X4_costWithPole l D cy a P x y hI (show poleOK x y by omega)) gX6_costAt_X4_costWithPole rfl ⟨rfl, rfl⟩ 2 rfl (by decide +kernel) ⟨Nat.le_of_ble_eq_true rfl, Nat.le_of_ble_eq_true rfl⟩ (GG_ok D cy) hG (hP.sub (ws' := (plW cy a P)) [1, 2, 3, 4, 5, 6, 7, 8, 9] rfl) (va_recv hK hP (ci := 3) (q0 := 1) rfl rfl) hl.1 rfl (Nat.le_of_ble_eq_true rfl) ⟨Nat.le_of_ble_eq_true rfl, Nat.le_of_ble_eq_true rfl⟩ dX6_costAt_14 (fun r_3 hr_3 => ?_)
    have hr_3 : r_3 = pcost (tPo (mO P) x y) := hr_3
    subst hr_3
    exact W.iret (v := iI (pcost (tPo (mO P) x y))) hx hb hr (fun t9 ht _ => ⟨(pcost (tPo (mO P) x y)), rfl, (by first | rfl | omega : (pcost (tPo (mO P) x y) : Int) = pcost (tPo (mO P) x y)), ht⟩) (fun _ h => nomatch h) dX6_costAt_17 hlocks
  · skip
    exfalso; first | omega | exact absurd hpo (by assumption)
set_option maxHeartbeats 4000000 in
set_option maxRecDepth 100000 in
theorem c_X6_costAt_t2 (l : Launch) (hl9 : l.stackTraces = false) (D : va_G) (cy : Nat → ClassId) (a : Nat → Nat) (P : Nat → Int → Int) (x y : Int) (hrx : -2147483648 ≤ x ∧ x ≤ 2147483647) (hry : -2147483648 ≤ y ∧ y ≤ 2147483647) (hno : ¬ poleOK x y) : vx_Met l yX6_costAt wsX6_costAt { frames := 7, cells := 1, slots := 6, locals := 110 } (kPre (GX D cy) D (obplW cy a P) ([.ref (a 100), .int (iI x), .int (iI y)] : List Value)) kNo (XK (exN 1)) 1 6 (fun _ => False) := by
  refine kTH_start (cc := cX6_costAt) (maxL := 3) (ret := (some .int)) (by decide) rfl (Nat.le_of_ble_eq_true rfl) ?_
  intro p e s m below meth c hx hb hr hlocks hml hts hown ht hG hP ls hl
  have hGe := hG.2
  have hGs := hG.1
  have hJd := hGs.2.1
  have hG := hGs.1
  have hK := hG.1
  have hl : lv_has ls 3 [(0, .ref (a 100)), (1, .int (iI x)), (2, .int (iI y))] := hl
  refine lv_iload_n hx hb dX6_costAt_0 rfl (lv_at hl 1 rfl) ?_
  refine lv_iload_n hx hb dX6_costAt_1 rfl (lv_at hl 2 rfl) ?_
  refine k_roS (As := [.int (iI x), .int (iI y)]) (rest := []) ⟨hx, hb, hml, hown, hts⟩ (c_X4_faultOfPole l D cy x y (show -2147483648 ≤ x ∧ x ≤ 2147483647 by omega) (show -2147483648 ≤ y ∧ y ≤ 2147483647 by omega)) gX6_costAt_X4_faultOfPole rfl ⟨rfl, rfl⟩ 2 rfl (by decide +kernel) ⟨Nat.le_of_ble_eq_true rfl, Nat.le_of_ble_eq_true rfl⟩ (GG_ok D cy) hG (fun k q h => by simp at h) hl.1 rfl (Nat.le_of_ble_eq_true rfl) ⟨Nat.le_of_ble_eq_true rfl, Nat.le_of_ble_eq_true rfl⟩ dX6_costAt_2 (fun r_1 hr_1 => ?_)
  have hr_1 : ((poleOK x y) ∧ r_1 = 0) ∨ ((¬ poleOK x y) ∧ r_1 = 2) := hr_1
  rcases hr_1 with ⟨c_2, hr_1⟩ | ⟨c_2, hr_1⟩ <;> subst hr_1
  · skip
    exfalso; first | omega | exact absurd (by assumption) hno
  · skip
    exact k_thS (As := [.int (iI 2)]) (rest := []) ⟨hx, hb, hml, hown, hts⟩ (c_X6_refuse2 l hl9 D) gX6_costAt_X6_refuse rfl ⟨rfl, rfl⟩ 1 rfl (by decide +kernel) ⟨Nat.le_of_ble_eq_true rfl, Nat.le_of_ble_eq_true rfl⟩ exA_ok hGe (fun k q h => by simp at h) hl.1 rfl (Nat.le_of_ble_eq_true rfl) ⟨Nat.le_of_ble_eq_true rfl, Nat.le_of_ble_eq_true rfl⟩ dX6_costAt_5 ht hlocks
set_option maxHeartbeats 4000000 in
set_option maxRecDepth 100000 in
theorem c_X6_bestDrift (l : Launch) (D : va_G) (cy : Nat → ClassId) (a : Nat → Nat) (P : Nat → Int → Int) (m9 : Int) (hI : Inv (mO P)) (hm9 : 0 ≤ m9 ∧ m9 ≤ 5) : Met l yX6_bestDrift wsX6_bestDrift { frames := 4, cells := 0, slots := 0, locals := 102 } (kPre (GG D cy) D (obplW cy a P) ([.ref (a 100), .int (iI m9)] : List Value)) (kRO (fun r => r = bdF (mO P) m9)) 0 0 (fun _ => False) := by
  refine kRO_start (cc := cX6_bestDrift) (maxL := 10) (ret := (some .int)) (by decide) rfl (Nat.le_of_ble_eq_true rfl) ?_
  intro p e s m below meth c hx hb hr hlocks hml hts hown hG hP ls hl
  have hK := hG.1
  have hl : lv_has ls 10 [(0, .ref (a 100)), (1, .int (iI m9))] := hl
  have hinX4 : ∀ w ∈ u_ws RX4 TX4 12, w ∈ wsX6_bestDrift := by decide +kernel
  have hinX6 : ∀ w ∈ u_ws RX6 TX6 8, w ∈ wsX6_bestDrift := by decide +kernel
  have hmw0 := hts (.fieldLink RX6 10 "ArcPlate" "plate" "LArcPlate$Plate;") (by decide +kernel)
  have hmw1 := hts (.fieldLink RX6 143 "ArcPlate$Plate" "settings" "[I") (by decide +kernel)
  have hmw2 := hts (.constant RX6 153 (-1000000000)) (by decide +kernel)
  have hmw3 := hts (.methodLink RX6 207 Lib.Math.max.name) (by decide +kernel)
  have hmw4 := hts (.static Lib.Math.max.name) (by decide +kernel)
  have hmw5 := hts (.initialized "java/lang/Math") (by decide +kernel)
  have hmw6 := hts (.code Lib.Math.max.name Lib.Math.max.code 2 (some .int)) (by decide +kernel)
  have hmw7 := hts (.methodLink RX6 210 Lib.Math.min.name) (by decide +kernel)
  have hmw8 := hts (.static Lib.Math.min.name) (by decide +kernel)
  have hmw9 := hts (.code Lib.Math.min.name Lib.Math.min.code 2 (some .int)) (by decide +kernel)
  have hmw10 := hts (.fieldLink RX6 213 "ArcPlate$Plate" "poleX" "I") (by decide +kernel)
  have hmw11 := hts (.fieldLink RX6 216 "ArcPlate$Plate" "poleY" "I") (by decide +kernel)
  have hS0 := po_S hI
  have hset := po_set hI
  have hpo : poleOK (P 0 2) (P 0 3) := by unfold poleOK; omega
  have h1e : mO P 1 = P 8 1 := mO_set P (by decide)
  have h2e : mO P 2 = P 8 2 := mO_set P (by decide)
  have hpid := pole_id P
  refine lv_iload_n hx hb dX6_bestDrift_0 rfl (lv_at hl 1 rfl) ?_
  refine k_iconst hx hb dX6_bestDrift_1 ?_
  refine k_iconst hx hb dX6_bestDrift_2 ?_
  refine k_roS (As := [.int (iI m9), .int (iI 0), .int (iI 5)]) (rest := []) ⟨hx, hb, hml, hown, hts⟩ (c_X6_inRange l D m9 0 5 (show -2147483648 ≤ m9 ∧ m9 ≤ 2147483647 by omega) (show -2147483648 ≤ 0 ∧ 0 ≤ 2147483647 by omega) (show -2147483648 ≤ 5 ∧ 5 ≤ 2147483647 by omega)) gX6_bestDrift_X6_inRange rfl ⟨rfl, rfl⟩ 3 rfl (by decide +kernel) ⟨Nat.le_of_ble_eq_true rfl, Nat.le_of_ble_eq_true rfl⟩ kGT_ok trivial (fun k q h => by simp at h) hl.1 rfl (Nat.le_of_ble_eq_true rfl) ⟨Nat.le_of_ble_eq_true rfl, Nat.le_of_ble_eq_true rfl⟩ dX6_bestDrift_3 (fun r_1 hr_1 => ?_)
  have hr_1 : ((0 ≤ m9 ∧ m9 ≤ 5) ∧ r_1 = 1) ∨ (¬ (0 ≤ m9 ∧ m9 ≤ 5) ∧ r_1 = 0) := hr_1
  rcases hr_1 with ⟨c_2, hr_1⟩ | ⟨c_2, hr_1⟩ <;> subst hr_1
  · skip
    refine k_if_eq (tgt := 13) hx hb dX6_bestDrift_6 (by decide) (by omega) (fun c_3 => ?_) (fun c_3 => ?_)
    · exfalso; omega
    · skip
      refine k_iconst hx hb dX6_bestDrift_9 ?_
      refine lv_goto (tgt := 14) hx hb dX6_bestDrift_10 (by decide) ?_
      refine k_rovS (As := [.int (iI 0)]) (rest := []) ⟨hx, hb, hml, hown, hts⟩ (c_X6_refuse l D) gX6_bestDrift_X6_refuse rfl ⟨rfl, rfl⟩ 1 rfl (by decide +kernel) ⟨Nat.le_of_ble_eq_true rfl, Nat.le_of_ble_eq_true rfl⟩ kGT_ok trivial (fun k q h => by simp at h) hl.1 rfl (Nat.le_of_ble_eq_true rfl) ⟨Nat.le_of_ble_eq_true rfl, Nat.le_of_ble_eq_true rfl⟩ dX6_bestDrift_14 ?_
      refine lv_aload_n hx hb dX6_bestDrift_17 rfl (lv_at hl 0 rfl) ?_
      refine va_get (D := D) (ci := 5) (v := .ref (a 0)) (C := RX6) (T := TX6) (N := 8) hx hb hts hinX6 hown hK hP 0 rfl rfl 0 (by decide) hmw0 (fun _ h9 => h9) rfl dX6_bestDrift_18 ?_
      refine va_get (D := D) (ci := 3) (v := .ref (a 8)) (C := RX4) (T := TX4) (N := 12) hx hb hts hinX4 hown hK hP 1 rfl rfl 11 (by decide) hmw1 (fun _ h9 => h9) rfl dX6_bestDrift_21 ?_
      refine k_iconst hx hb dX6_bestDrift_24 ?_
      refine k_iald hx hb hK hP 9 0 (f := P 8) rfl rfl (i := 1) (by omega) dX6_bestDrift_25 ?_
      refine lv_istore_n (lv' := [(2, .int (iI (P 8 1))), (0, .ref (a 100)), (1, .int (iI m9))]) hx hb dX6_bestDrift_26 rfl hl (by decide) rfl (fun ls hl => ?_)
      refine lv_aload_n hx hb dX6_bestDrift_27 rfl (lv_at hl 1 rfl) ?_
      refine va_get (D := D) (ci := 5) (v := .ref (a 0)) (C := RX6) (T := TX6) (N := 8) hx hb hts hinX6 hown hK hP 0 rfl rfl 0 (by decide) hmw0 (fun _ h9 => h9) rfl dX6_bestDrift_28 ?_
      refine va_get (D := D) (ci := 3) (v := .ref (a 8)) (C := RX4) (T := TX4) (N := 12) hx hb hts hinX4 hown hK hP 1 rfl rfl 11 (by decide) hmw1 (fun _ h9 => h9) rfl dX6_bestDrift_31 ?_
      refine k_iconst hx hb dX6_bestDrift_34 ?_
      refine k_iald hx hb hK hP 9 0 (f := P 8) rfl rfl (i := 2) (by omega) dX6_bestDrift_35 ?_
      refine lv_istore_n (lv' := [(3, .int (iI (P 8 2))), (2, .int (iI (P 8 1))), (0, .ref (a 100)), (1, .int (iI m9))]) hx hb dX6_bestDrift_36 rfl hl (by decide) rfl (fun ls hl => ?_)
      refine lv_iload_n hx hb dX6_bestDrift_37 rfl (lv_at hl 1 rfl) ?_
      refine lv_istore (lv' := [(4, .int (iI (P 8 1))), (3, .int (iI (P 8 2))), (2, .int (iI (P 8 1))), (0, .ref (a 100)), (1, .int (iI m9))]) hx hb dX6_bestDrift_38 hl (by decide) rfl (fun ls hl => ?_)
      refine lv_iload_n hx hb dX6_bestDrift_40 rfl (lv_at hl 1 rfl) ?_
      refine lv_istore (lv' := [(5, .int (iI (P 8 2))), (4, .int (iI (P 8 1))), (3, .int (iI (P 8 2))), (2, .int (iI (P 8 1))), (0, .ref (a 100)), (1, .int (iI m9))]) hx hb dX6_bestDrift_41 hl (by decide) rfl (fun ls hl => ?_)
      refine k_ldc (z := (-1000000000)) hx hb hown hmw2 (by decide +kernel) dX6_bestDrift_43 ?_
      refine lv_istore (lv' := [(6, .int (iI (-1000000000))), (5, .int (iI (P 8 2))), (4, .int (iI (P 8 1))), (3, .int (iI (P 8 2))), (2, .int (iI (P 8 1))), (0, .ref (a 100)), (1, .int (iI m9))]) hx hb dX6_bestDrift_45 hl (by decide) rfl (fun ls hl => ?_)
      refine lv_iload_n hx hb dX6_bestDrift_47 rfl (lv_at hl 6 rfl) ?_
      refine k_ineg hx hb dX6_bestDrift_48 ?_
      refine k_bipush hx hb dX6_bestDrift_49 (by decide +kernel) ?_
      refine lv_iload_n hx hb dX6_bestDrift_51 rfl (lv_at hl 4 rfl) ?_
      refine k_isub hx hb dX6_bestDrift_52 ?_
      refine k_mmax hx hb (hml.trans hl.1.symm) hown hmw3 hmw4 hmw5 hmw6 (Nat.le_of_ble_eq_true rfl) (Nat.le_of_ble_eq_true rfl) (Nat.le_of_ble_eq_true rfl) (Nat.le_of_ble_eq_true rfl) (by omega) (by omega) dX6_bestDrift_53 ?_
      refine lv_istore (lv' := [(7, .int (iI (max (-m9) ((-100) - (P 8 1))))), (6, .int (iI (-1000000000))), (5, .int (iI (P 8 2))), (4, .int (iI (P 8 1))), (3, .int (iI (P 8 2))), (2, .int (iI (P 8 1))), (0, .ref (a 100)), (1, .int (iI m9))]) hx hb dX6_bestDrift_56 hl (by decide) rfl (fun ls hl => ?_)
      have loop58 : ∀ (n_4 : Nat) (U : Int) (V : Int) (L : Int) (du : Int) (hi0 : max (-m9) (-100 - P 8 1) ≤ du) (hi1 : du ≤ min m9 (100 - P 8 1) + 1) (hi2 : bdR (mO P) m9 ((du + m9) * (2 * m9 + 1)) U V L) (hi3 : (-200 ≤ U ∧ U ≤ 200) ∧ (-200 ≤ V ∧ V ≤ 200)) (hi4 : 0 < du → L ≠ -1000000000) (hi5 : -1000000000 ≤ L ∧ L ≤ 200000) (hn : 6 - du < (n_4 : Int)) (ls : Array Slot) (hl : lv_has ls 10 [(7, .int (iI du)), (6, .int (iI L)), (5, .int (iI V)), (4, .int (iI U)), (3, .int (iI (P 8 2))), (2, .int (iI (P 8 1))), (0, .ref (a 100)), (1, .int (iI m9))]), W p l e { frames := 4, cells := 0, slots := 0, locals := 102 } s m ([.ref (a 100), .int (iI m9)] : List Value).toArray below meth c s.heap [] 0 0 (MQ below (kRO (fun r => r = bdF (mO P) m9)) ([.ref (a 100), .int (iI m9)] : List Value).toArray s 0 0 (fun _ => False)) (F0 m 58 ls []) := by
        intro n_4
        induction n_4 with
        | zero => intro U V L du hi0 hi1 hi2 hi3 hi4 hi5 hn ls hl; exfalso; omega
        | succ n_4 ih58 =>
          intro U V L du hi0 hi1 hi2 hi3 hi4 hi5 hn ls hl
          refine lv_iload hx hb dX6_bestDrift_58 (lv_at hl 0 rfl) ?_
          refine lv_iload_n hx hb dX6_bestDrift_60 rfl (lv_at hl 7 rfl) ?_
          refine k_bipush hx hb dX6_bestDrift_61 (by decide +kernel) ?_
          refine lv_iload_n hx hb dX6_bestDrift_63 rfl (lv_at hl 5 rfl) ?_
          refine k_isub hx hb dX6_bestDrift_64 ?_
          refine k_mmin hx hb (hml.trans hl.1.symm) hown hmw7 hmw8 hmw5 hmw9 (Nat.le_of_ble_eq_true rfl) (Nat.le_of_ble_eq_true rfl) (Nat.le_of_ble_eq_true rfl) (Nat.le_of_ble_eq_true rfl) (by omega) (by omega) dX6_bestDrift_65 ?_
          refine k_icmp_gt (tgt := 168) hx hb dX6_bestDrift_68 (by decide) (by omega) (by omega) (fun c_5 => ?_) (fun c_5 => ?_)
          · skip
            refine k_sipush hx hb dX6_bestDrift_168 (by decide +kernel) ?_
            refine lv_iload hx hb dX6_bestDrift_171 (lv_at hl 3 rfl) ?_
            refine k_bipush hx hb dX6_bestDrift_173 (by decide +kernel) ?_
            refine k_iadd hx hb dX6_bestDrift_175 ?_
            refine k_imul hx hb dX6_bestDrift_176 ?_
            refine lv_iload hx hb dX6_bestDrift_177 (lv_at hl 2 rfl) ?_
            refine k_bipush hx hb dX6_bestDrift_179 (by decide +kernel) ?_
            refine k_iadd hx hb dX6_bestDrift_181 ?_
            refine k_iadd hx hb dX6_bestDrift_182 ?_
            exact W.iret (v := iI ((1000 * (U + 100)) + (V + 100))) hx hb hr (fun t9 ht _ => ⟨((1000 * (U + 100)) + (V + 100)), rfl, (bdR_end (by omega) hi2 (by omega) (by rw [h1e]; omega) (by omega) : ((1000 * (U + 100)) + (V + 100) : Int) = bdF (mO P) m9), ht⟩) (fun _ h => nomatch h) dX6_bestDrift_183 hlocks
          · skip
            refine lv_iload_n hx hb dX6_bestDrift_71 rfl (lv_at hl 7 rfl) ?_
            refine k_ineg hx hb dX6_bestDrift_72 ?_
            refine k_bipush hx hb dX6_bestDrift_73 (by decide +kernel) ?_
            refine lv_iload_n hx hb dX6_bestDrift_75 rfl (lv_at hl 4 rfl) ?_
            refine k_isub hx hb dX6_bestDrift_76 ?_
            refine k_mmax hx hb (hml.trans hl.1.symm) hown hmw3 hmw4 hmw5 hmw6 (Nat.le_of_ble_eq_true rfl) (Nat.le_of_ble_eq_true rfl) (Nat.le_of_ble_eq_true rfl) (Nat.le_of_ble_eq_true rfl) (by omega) (by omega) dX6_bestDrift_77 ?_
            refine lv_istore (lv' := [(8, .int (iI (max (-m9) ((-100) - (P 8 2))))), (7, .int (iI du)), (6, .int (iI L)), (5, .int (iI V)), (4, .int (iI U)), (3, .int (iI (P 8 2))), (2, .int (iI (P 8 1))), (0, .ref (a 100)), (1, .int (iI m9))]) hx hb dX6_bestDrift_80 hl (by decide) rfl (fun ls hl => ?_)
            have loop82 : ∀ (n_6 : Nat) (U2 : Int) (V2 : Int) (L2 : Int) (dv : Int) (hi0 : max (-m9) (-100 - P 8 2) ≤ dv) (hi1 : dv ≤ min m9 (100 - P 8 2) + 1) (hi2 : bdR (mO P) m9 ((du + m9) * (2 * m9 + 1) + (dv + m9)) U2 V2 L2) (hi3 : (-200 ≤ U2 ∧ U2 ≤ 200) ∧ (-200 ≤ V2 ∧ V2 ≤ 200)) (hi4 : (0 < du ∨ (du = 0 ∧ 0 < dv)) → L2 ≠ -1000000000) (hi5 : -1000000000 ≤ L2 ∧ L2 ≤ 200000) (hn : 6 - dv < (n_6 : Int)) (ls : Array Slot) (hl : lv_has ls 10 [(8, .int (iI dv)), (7, .int (iI du)), (6, .int (iI L2)), (5, .int (iI V2)), (4, .int (iI U2)), (3, .int (iI (P 8 2))), (2, .int (iI (P 8 1))), (0, .ref (a 100)), (1, .int (iI m9))]), W p l e { frames := 4, cells := 0, slots := 0, locals := 102 } s m ([.ref (a 100), .int (iI m9)] : List Value).toArray below meth c s.heap [] 0 0 (MQ below (kRO (fun r => r = bdF (mO P) m9)) ([.ref (a 100), .int (iI m9)] : List Value).toArray s 0 0 (fun _ => False)) (F0 m 82 ls []) := by
              intro n_6
              induction n_6 with
              | zero => intro U2 V2 L2 dv hi0 hi1 hi2 hi3 hi4 hi5 hn ls hl; exfalso; omega
              | succ n_6 ih82 =>
                intro U2 V2 L2 dv hi0 hi1 hi2 hi3 hi4 hi5 hn ls hl
                refine lv_iload hx hb dX6_bestDrift_82 (lv_at hl 0 rfl) ?_
                refine lv_iload_n hx hb dX6_bestDrift_84 rfl (lv_at hl 8 rfl) ?_
                refine k_bipush hx hb dX6_bestDrift_85 (by decide +kernel) ?_
                refine lv_iload_n hx hb dX6_bestDrift_87 rfl (lv_at hl 5 rfl) ?_
                refine k_isub hx hb dX6_bestDrift_88 ?_
                refine k_mmin hx hb (hml.trans hl.1.symm) hown hmw7 hmw8 hmw5 hmw9 (Nat.le_of_ble_eq_true rfl) (Nat.le_of_ble_eq_true rfl) (Nat.le_of_ble_eq_true rfl) (Nat.le_of_ble_eq_true rfl) (by omega) (by omega) dX6_bestDrift_89 ?_
                refine k_icmp_gt (tgt := 162) hx hb dX6_bestDrift_92 (by decide) (by omega) (by omega) (fun c_7 => ?_) (fun c_7 => ?_)
                · skip
                  refine lv_iinc (v := iI (du + 1)) (lv' := [(7, .int (iI (du + 1))), (8, .int (iI dv)), (6, .int (iI L2)), (5, .int (iI V2)), (4, .int (iI U2)), (3, .int (iI (P 8 2))), (2, .int (iI (P 8 1))), (0, .ref (a 100)), (1, .int (iI m9))]) hx hb dX6_bestDrift_162 hl (k := 1) rfl (iI_add _ _) (by decide) rfl (fun ls hl => ?_)
                  refine lv_goto (tgt := 58) hx hb dX6_bestDrift_165 (by decide) ?_
                  exact ih58 U2 V2 L2 (du + 1)  (by omega) (by omega) (bdR_row hi2 (by omega) (by omega) (by rw [h2e]; omega)) (by omega) (by omega) (by omega) (by omega) ls (lv_sub hl [0, 2, 3, 4, 5, 6, 7, 8] rfl)
                · skip
                  refine lv_aload_n hx hb dX6_bestDrift_95 rfl (lv_at hl 7 rfl) ?_
                  refine va_get (D := D) (ci := 5) (v := .ref (a 0)) (C := RX6) (T := TX6) (N := 8) hx hb hts hinX6 hown hK hP 0 rfl rfl 0 (by decide) hmw0 (fun _ h9 => h9) rfl dX6_bestDrift_96 ?_
                  refine lv_aload_n hx hb dX6_bestDrift_99 rfl (lv_at hl 7 rfl) ?_
                  refine va_get (D := D) (ci := 5) (v := .ref (a 0)) (C := RX6) (T := TX6) (N := 8) hx hb hts hinX6 hown hK hP 0 rfl rfl 0 (by decide) hmw0 (fun _ h9 => h9) rfl dX6_bestDrift_100 ?_
                  refine va_get (D := D) (ci := 3) (v := .int (iI (P 0 2))) (C := RX4) (T := TX4) (N := 12) hx hb hts hinX4 hown hK hP 1 rfl rfl 2 (by decide) hmw10 (fun _ h9 => h9) rfl dX6_bestDrift_103 ?_
                  refine lv_aload_n hx hb dX6_bestDrift_106 rfl (lv_at hl 7 rfl) ?_
                  refine va_get (D := D) (ci := 5) (v := .ref (a 0)) (C := RX6) (T := TX6) (N := 8) hx hb hts hinX6 hown hK hP 0 rfl rfl 0 (by decide) hmw0 (fun _ h9 => h9) rfl dX6_bestDrift_107 ?_
                  refine va_get (D := D) (ci := 3) (v := .int (iI (P 0 3))) (C := RX4) (T := TX4) (N := 12) hx hb hts hinX4 hown hK hP 1 rfl rfl 3 (by decide) hmw11 (fun _ h9 => h9) rfl dX6_bestDrift_110 ?_
                  refine lv_iload_n hx hb dX6_bestDrift_113 rfl (lv_at hl 6 rfl) ?_
                  refine lv_iload hx hb dX6_bestDrift_114 (lv_at hl 1 rfl) ?_
                  refine k_iadd hx hb dX6_bestDrift_116 ?_
                  refine lv_iload_n hx hb dX6_bestDrift_117 rfl (lv_at hl 5 rfl) ?_
                  refine lv_iload hx hb dX6_bestDrift_118 (lv_at hl 0 rfl) ?_
                  refine k_iadd hx hb dX6_bestDrift_120 ?_
                  refine k_roV (As := [.int (iI (P 0 2)), .int (iI (P 0 3)), .int (iI ((P 8 1) + du)), .int (iI ((P 8 2) + dv))]) (rest := []) ⟨hx, hb, hml, hown, hts⟩ (c_X4_costWith l D cy a P (P 0 2) (P 0 3) ((P 8 1) + du) ((P 8 2) + dv) hI (show -100 ≤ ((P 8 1) + du) ∧ ((P 8 1) + du) ≤ 100 by omega) (show -100 ≤ ((P 8 2) + dv) ∧ ((P 8 2) + dv) ≤ 100 by omega) (show poleOK (P 0 2) (P 0 3) by omega)) gX6_bestDrift_X4_costWith rfl ⟨rfl, rfl⟩ 4 rfl (by decide +kernel) ⟨Nat.le_of_ble_eq_true rfl, Nat.le_of_ble_eq_true rfl⟩ (GG_ok D cy) hG (hP.sub (ws' := (plW cy a P)) [1, 2, 3, 4, 5, 6, 7, 8, 9] rfl) (va_recv hK hP (ci := 3) (q0 := 1) rfl rfl) hl.1 rfl (Nat.le_of_ble_eq_true rfl) ⟨Nat.le_of_ble_eq_true rfl, Nat.le_of_ble_eq_true rfl⟩ dX6_bestDrift_121 (fun r_8 hr_8 => ?_)
                  have hr_8 : r_8 = pcost (tPo (tDr (mO P) ((P 8 1) + du) ((P 8 2) + dv)) (P 0 2) (P 0 3)) := hr_8
                  subst hr_8
                  refine k_eqI (v := pcost (tPo (tDr (mO P) ((P 8 1) + du) ((P 8 2) + dv)) (P 0 2) (P 0 3))) (w := pcost (tDr (mO P) (P 8 1 + du) (P 8 2 + dv))) (by rw [← tDr_tPo, hpid]) ?_
                  have hcb := inv_pcost (inv_tDr hI (u := P 8 1 + du) (v := P 8 2 + dv) (by omega) (by omega))
                  refine lv_istore (lv' := [(9, .int (iI (pcost (tDr (mO P) (P 8 1 + du) (P 8 2 + dv))))), (8, .int (iI dv)), (7, .int (iI du)), (6, .int (iI L2)), (5, .int (iI V2)), (4, .int (iI U2)), (3, .int (iI (P 8 2))), (2, .int (iI (P 8 1))), (0, .ref (a 100)), (1, .int (iI m9))]) hx hb dX6_bestDrift_124 hl (by decide) rfl (fun ls hl => ?_)
                  refine lv_iload hx hb dX6_bestDrift_126 (lv_at hl 3 rfl) ?_
                  refine k_ldc (z := (-1000000000)) hx hb hown hmw2 (by decide +kernel) dX6_bestDrift_128 ?_
                  refine k_icmp_eq (tgt := 140) hx hb dX6_bestDrift_130 (by decide) (by omega) (by omega) (fun c_9 => ?_) (fun c_9 => ?_)
                  · skip
                    refine lv_iload hx hb dX6_bestDrift_140 (lv_at hl 0 rfl) ?_
                    refine lv_istore (lv' := [(6, .int (iI (pcost (tDr (mO P) (P 8 1 + du) (P 8 2 + dv))))), (9, .int (iI (pcost (tDr (mO P) (P 8 1 + du) (P 8 2 + dv))))), (8, .int (iI dv)), (7, .int (iI du)), (5, .int (iI V2)), (4, .int (iI U2)), (3, .int (iI (P 8 2))), (2, .int (iI (P 8 1))), (0, .ref (a 100)), (1, .int (iI m9))]) hx hb dX6_bestDrift_142 hl (by decide) rfl (fun ls hl => ?_)
                    refine lv_iload_n hx hb dX6_bestDrift_144 rfl (lv_at hl 7 rfl) ?_
                    refine lv_iload hx hb dX6_bestDrift_145 (lv_at hl 3 rfl) ?_
                    refine k_iadd hx hb dX6_bestDrift_147 ?_
                    refine lv_istore (lv' := [(4, .int (iI ((P 8 1) + du))), (6, .int (iI (pcost (tDr (mO P) (P 8 1 + du) (P 8 2 + dv))))), (9, .int (iI (pcost (tDr (mO P) (P 8 1 + du) (P 8 2 + dv))))), (8, .int (iI dv)), (7, .int (iI du)), (5, .int (iI V2)), (3, .int (iI (P 8 2))), (2, .int (iI (P 8 1))), (0, .ref (a 100)), (1, .int (iI m9))]) hx hb dX6_bestDrift_148 hl (by decide) rfl (fun ls hl => ?_)
                    refine lv_iload_n hx hb dX6_bestDrift_150 rfl (lv_at hl 6 rfl) ?_
                    refine lv_iload hx hb dX6_bestDrift_151 (lv_at hl 3 rfl) ?_
                    refine k_iadd hx hb dX6_bestDrift_153 ?_
                    refine lv_istore (lv' := [(5, .int (iI ((P 8 2) + dv))), (4, .int (iI ((P 8 1) + du))), (6, .int (iI (pcost (tDr (mO P) (P 8 1 + du) (P 8 2 + dv))))), (9, .int (iI (pcost (tDr (mO P) (P 8 1 + du) (P 8 2 + dv))))), (8, .int (iI dv)), (7, .int (iI du)), (3, .int (iI (P 8 2))), (2, .int (iI (P 8 1))), (0, .ref (a 100)), (1, .int (iI m9))]) hx hb dX6_bestDrift_154 hl (by decide) rfl (fun ls hl => ?_)
                    refine lv_iinc (v := iI (dv + 1)) (lv' := [(8, .int (iI (dv + 1))), (5, .int (iI ((P 8 2) + dv))), (4, .int (iI ((P 8 1) + du))), (6, .int (iI (pcost (tDr (mO P) (P 8 1 + du) (P 8 2 + dv))))), (9, .int (iI (pcost (tDr (mO P) (P 8 1 + du) (P 8 2 + dv))))), (7, .int (iI du)), (3, .int (iI (P 8 2))), (2, .int (iI (P 8 1))), (0, .ref (a 100)), (1, .int (iI m9))]) hx hb dX6_bestDrift_156 hl (k := 4) rfl (iI_add _ _) (by decide) rfl (fun ls hl => ?_)
                    refine lv_goto (tgt := 82) hx hb dX6_bestDrift_159 (by decide) ?_
                    exact ih82 ((P 8 1) + du) ((P 8 2) + dv) (pcost (tDr (mO P) (P 8 1 + du) (P 8 2 + dv))) (dv + 1)  (by omega) (by omega) (by first | (have h9 := bdR_y hi2 (by omega) (by omega) (by rw [h1e]; omega) (by rw [h2e]; omega) rfl (by rw [h1e, h2e]; omega) (by rw [h1e, h2e]; omega); rw [h1e, h2e] at h9; exact h9) | exact bdR_n hi2 (by omega) (by omega) rfl (by omega) (by rw [h1e, h2e]; omega)) (by omega) (by omega) (by omega) (by omega) ls (lv_sub hl [0, 5, 3, 1, 2, 6, 7, 8, 9] rfl)
                  · skip
                    refine lv_iload hx hb dX6_bestDrift_133 (lv_at hl 0 rfl) ?_
                    refine lv_iload hx hb dX6_bestDrift_135 (lv_at hl 3 rfl) ?_
                    refine k_icmp_ge (tgt := 156) hx hb dX6_bestDrift_137 (by decide) (by omega) (by omega) (fun c_10 => ?_) (fun c_10 => ?_)
                    · skip
                      refine lv_iinc (v := iI (dv + 1)) (lv' := [(8, .int (iI (dv + 1))), (9, .int (iI (pcost (tDr (mO P) (P 8 1 + du) (P 8 2 + dv))))), (7, .int (iI du)), (6, .int (iI L2)), (5, .int (iI V2)), (4, .int (iI U2)), (3, .int (iI (P 8 2))), (2, .int (iI (P 8 1))), (0, .ref (a 100)), (1, .int (iI m9))]) hx hb dX6_bestDrift_156 hl (k := 1) rfl (iI_add _ _) (by decide) rfl (fun ls hl => ?_)
                      refine lv_goto (tgt := 82) hx hb dX6_bestDrift_159 (by decide) ?_
                      exact ih82 U2 V2 L2 (dv + 1)  (by omega) (by omega) (by first | (have h9 := bdR_y hi2 (by omega) (by omega) (by rw [h1e]; omega) (by rw [h2e]; omega) rfl (by rw [h1e, h2e]; omega) (by rw [h1e, h2e]; omega); rw [h1e, h2e] at h9; exact h9) | exact bdR_n hi2 (by omega) (by omega) rfl (by omega) (by rw [h1e, h2e]; omega)) (by omega) (by omega) (by omega) (by omega) ls (lv_sub hl [0, 2, 3, 4, 5, 6, 7, 8, 9] rfl)
                    · skip
                      refine lv_iload hx hb dX6_bestDrift_140 (lv_at hl 0 rfl) ?_
                      refine lv_istore (lv' := [(6, .int (iI (pcost (tDr (mO P) (P 8 1 + du) (P 8 2 + dv))))), (9, .int (iI (pcost (tDr (mO P) (P 8 1 + du) (P 8 2 + dv))))), (8, .int (iI dv)), (7, .int (iI du)), (5, .int (iI V2)), (4, .int (iI U2)), (3, .int (iI (P 8 2))), (2, .int (iI (P 8 1))), (0, .ref (a 100)), (1, .int (iI m9))]) hx hb dX6_bestDrift_142 hl (by decide) rfl (fun ls hl => ?_)
                      refine lv_iload_n hx hb dX6_bestDrift_144 rfl (lv_at hl 7 rfl) ?_
                      refine lv_iload hx hb dX6_bestDrift_145 (lv_at hl 3 rfl) ?_
                      refine k_iadd hx hb dX6_bestDrift_147 ?_
                      refine lv_istore (lv' := [(4, .int (iI ((P 8 1) + du))), (6, .int (iI (pcost (tDr (mO P) (P 8 1 + du) (P 8 2 + dv))))), (9, .int (iI (pcost (tDr (mO P) (P 8 1 + du) (P 8 2 + dv))))), (8, .int (iI dv)), (7, .int (iI du)), (5, .int (iI V2)), (3, .int (iI (P 8 2))), (2, .int (iI (P 8 1))), (0, .ref (a 100)), (1, .int (iI m9))]) hx hb dX6_bestDrift_148 hl (by decide) rfl (fun ls hl => ?_)
                      refine lv_iload_n hx hb dX6_bestDrift_150 rfl (lv_at hl 6 rfl) ?_
                      refine lv_iload hx hb dX6_bestDrift_151 (lv_at hl 3 rfl) ?_
                      refine k_iadd hx hb dX6_bestDrift_153 ?_
                      refine lv_istore (lv' := [(5, .int (iI ((P 8 2) + dv))), (4, .int (iI ((P 8 1) + du))), (6, .int (iI (pcost (tDr (mO P) (P 8 1 + du) (P 8 2 + dv))))), (9, .int (iI (pcost (tDr (mO P) (P 8 1 + du) (P 8 2 + dv))))), (8, .int (iI dv)), (7, .int (iI du)), (3, .int (iI (P 8 2))), (2, .int (iI (P 8 1))), (0, .ref (a 100)), (1, .int (iI m9))]) hx hb dX6_bestDrift_154 hl (by decide) rfl (fun ls hl => ?_)
                      refine lv_iinc (v := iI (dv + 1)) (lv' := [(8, .int (iI (dv + 1))), (5, .int (iI ((P 8 2) + dv))), (4, .int (iI ((P 8 1) + du))), (6, .int (iI (pcost (tDr (mO P) (P 8 1 + du) (P 8 2 + dv))))), (9, .int (iI (pcost (tDr (mO P) (P 8 1 + du) (P 8 2 + dv))))), (7, .int (iI du)), (3, .int (iI (P 8 2))), (2, .int (iI (P 8 1))), (0, .ref (a 100)), (1, .int (iI m9))]) hx hb dX6_bestDrift_156 hl (k := 4) rfl (iI_add _ _) (by decide) rfl (fun ls hl => ?_)
                      refine lv_goto (tgt := 82) hx hb dX6_bestDrift_159 (by decide) ?_
                      exact ih82 ((P 8 1) + du) ((P 8 2) + dv) (pcost (tDr (mO P) (P 8 1 + du) (P 8 2 + dv))) (dv + 1)  (by omega) (by omega) (by first | (have h9 := bdR_y hi2 (by omega) (by omega) (by rw [h1e]; omega) (by rw [h2e]; omega) rfl (by rw [h1e, h2e]; omega) (by rw [h1e, h2e]; omega); rw [h1e, h2e] at h9; exact h9) | exact bdR_n hi2 (by omega) (by omega) rfl (by omega) (by rw [h1e, h2e]; omega)) (by omega) (by omega) (by omega) (by omega) ls (lv_sub hl [0, 5, 3, 1, 2, 6, 7, 8, 9] rfl)
            exact loop82 ((6 - (max (-m9) ((-100) - (P 8 2))) : Int) + 1).toNat U V L (max (-m9) ((-100) - (P 8 2)))  (by omega) (by omega) (bdR_st hi2 (by omega) (by omega) (by rw [h2e]; omega)) (by omega) (by omega) (by omega) (by omega) ls (lv_sub hl [0, 1, 2, 3, 4, 5, 6, 7, 8] rfl)
      exact loop58 ((6 - (max (-m9) ((-100) - (P 8 1))) : Int) + 1).toNat (P 8 1) (P 8 2) (-1000000000) (max (-m9) ((-100) - (P 8 1)))  (by omega) (by omega) (bdR_lo (by omega) (by omega) (by rw [h1e]; omega) _ _) (by omega) (by omega) (by omega) (by omega) ls (lv_sub hl [0, 1, 2, 3, 4, 5, 6, 7] rfl)
  · skip
    refine k_if_eq (tgt := 13) hx hb dX6_bestDrift_6 (by decide) (by omega) (fun c_11 => ?_) (fun c_11 => ?_)
    · skip
      refine k_iconst hx hb dX6_bestDrift_13 ?_
      exfalso; first | omega | omega
    · exfalso; omega
set_option maxHeartbeats 4000000 in
set_option maxRecDepth 100000 in
theorem c_X6_bestDrift_t2 (l : Launch) (hl9 : l.stackTraces = false) (D : va_G) (cy : Nat → ClassId) (a : Nat → Nat) (P : Nat → Int → Int) (m9 : Int) (hrm9 : -2147483648 ≤ m9 ∧ m9 ≤ 2147483647) (hno : ¬ (0 ≤ m9 ∧ m9 ≤ 5)) : vx_Met l yX6_bestDrift wsX6_bestDrift { frames := 7, cells := 1, slots := 6, locals := 110 } (kPre (GX D cy) D (obplW cy a P) ([.ref (a 100), .int (iI m9)] : List Value)) kNo (XK (exN 1)) 1 6 (fun _ => False) := by
  refine kTH_start (cc := cX6_bestDrift) (maxL := 10) (ret := (some .int)) (by decide) rfl (Nat.le_of_ble_eq_true rfl) ?_
  intro p e s m below meth c hx hb hr hlocks hml hts hown ht hG hP ls hl
  have hGe := hG.2
  have hGs := hG.1
  have hJd := hGs.2.1
  have hG := hGs.1
  have hK := hG.1
  have hl : lv_has ls 10 [(0, .ref (a 100)), (1, .int (iI m9))] := hl
  refine lv_iload_n hx hb dX6_bestDrift_0 rfl (lv_at hl 1 rfl) ?_
  refine k_iconst hx hb dX6_bestDrift_1 ?_
  refine k_iconst hx hb dX6_bestDrift_2 ?_
  refine k_roS (As := [.int (iI m9), .int (iI 0), .int (iI 5)]) (rest := []) ⟨hx, hb, hml, hown, hts⟩ (c_X6_inRange l D m9 0 5 (show -2147483648 ≤ m9 ∧ m9 ≤ 2147483647 by omega) (show -2147483648 ≤ 0 ∧ 0 ≤ 2147483647 by omega) (show -2147483648 ≤ 5 ∧ 5 ≤ 2147483647 by omega)) gX6_bestDrift_X6_inRange rfl ⟨rfl, rfl⟩ 3 rfl (by decide +kernel) ⟨Nat.le_of_ble_eq_true rfl, Nat.le_of_ble_eq_true rfl⟩ kGT_ok trivial (fun k q h => by simp at h) hl.1 rfl (Nat.le_of_ble_eq_true rfl) ⟨Nat.le_of_ble_eq_true rfl, Nat.le_of_ble_eq_true rfl⟩ dX6_bestDrift_3 (fun r_1 hr_1 => ?_)
  have hr_1 : ((0 ≤ m9 ∧ m9 ≤ 5) ∧ r_1 = 1) ∨ (¬ (0 ≤ m9 ∧ m9 ≤ 5) ∧ r_1 = 0) := hr_1
  rcases hr_1 with ⟨c_2, hr_1⟩ | ⟨c_2, hr_1⟩ <;> subst hr_1
  · skip
    refine k_if_eq (tgt := 13) hx hb dX6_bestDrift_6 (by decide) (by omega) (fun c_3 => ?_) (fun c_3 => ?_)
    · exfalso; omega
    · skip
      refine k_iconst hx hb dX6_bestDrift_9 ?_
      refine lv_goto (tgt := 14) hx hb dX6_bestDrift_10 (by decide) ?_
      exfalso; first | omega | omega
  · skip
    refine k_if_eq (tgt := 13) hx hb dX6_bestDrift_6 (by decide) (by omega) (fun c_4 => ?_) (fun c_4 => ?_)
    · skip
      refine k_iconst hx hb dX6_bestDrift_13 ?_
      exact k_thS (As := [.int (iI 2)]) (rest := []) ⟨hx, hb, hml, hown, hts⟩ (c_X6_refuse2 l hl9 D) gX6_bestDrift_X6_refuse rfl ⟨rfl, rfl⟩ 1 rfl (by decide +kernel) ⟨Nat.le_of_ble_eq_true rfl, Nat.le_of_ble_eq_true rfl⟩ exA_ok hGe (fun k q h => by simp at h) hl.1 rfl (Nat.le_of_ble_eq_true rfl) ⟨Nat.le_of_ble_eq_true rfl, Nat.le_of_ble_eq_true rfl⟩ dX6_bestDrift_14 ht hlocks
    · exfalso; omega
