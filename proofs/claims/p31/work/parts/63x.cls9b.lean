set_option maxHeartbeats 4000000 in
set_option maxRecDepth 100000 in
theorem c_X6_undo_0 (l : Launch) (D : va_G) (cy : Nat → ClassId) (sz : Nat) (a : Nat → Nat) (P : Nat → Int → Int)  (hk9 : P 50 1 = 1) (hIp : Inv (mO (rpg 0 P))) : Met l yX6_undo wsX6_undo { frames := 4, cells := 0, slots := 0, locals := 85 } (mPre (GG D cy) D (obhsW cy a P) sz ([.ref (a 100)] : List Value)) (kQi D (obhsW cy a P) sz (fun u9 : Nat → Int → Int => obhsW cy a u9) (fun r9 u9 => r9 = 0 ∧ u9 100 = ups (P 100) 6 0 ∧ backO P u9 0)) 0 0 (va_A (obhsW cy a P) sz) := by
  refine kM_start (cc := cX6_undo) (maxL := 1) (ret := (some .int)) (by decide) rfl (Nat.le_of_ble_eq_true rfl) ?_
  intro p e s m below meth c hx hb hr hlocks hml hts hown hsz hA hG hP hD hS hin ls hl
  have hK := hG.1
  have hl : lv_has ls 1 [(0, .ref (a 100))] := hl
  have hinX2 : ∀ w ∈ u_ws RX2 TX2 2, w ∈ wsX6_undo := by decide +kernel
  have hinX6 : ∀ w ∈ u_ws RX6 TX6 8, w ∈ wsX6_undo := by decide +kernel
  have hmw0 := hts (.fieldLink RX6 19 "ArcPlate" "history" "LArcPlate$History;") (by decide +kernel)
  have hmw1 := hts (.fieldLink RX6 245 "ArcPlate$History" "saved" "I") (by decide +kernel)
  have hmw2 := hts (.fieldLink RX6 47 "ArcPlate" "looked" "Z") (by decide +kernel)
  have hmw3 := hts (.fieldLink RX6 10 "ArcPlate" "plate" "LArcPlate$Plate;") (by decide +kernel)
  have hbody : ∀ (H : Heap) (locs : List Loc) (hP : va_P D vwCl (obhsW cy a P) H) (hS : va_S (va_A (obhsW cy a P) sz) s.heap H locs) (ls : Array Slot) (hl : lv_has ls 1 [(0, .ref (a 100))]), W p l e { frames := 4, cells := 0, slots := 0, locals := 85 } s m ([.ref (a 100)] : List Value).toArray below meth c H locs 0 0 (MQ below (kQi D (obhsW cy a P) sz (fun u9 : Nat → Int → Int => obhsW cy a u9) (fun r9 u9 => r9 = 0 ∧ u9 100 = ups (P 100) 6 0 ∧ backO P u9 0)) ([.ref (a 100)] : List Value).toArray s 0 0 (va_A (obhsW cy a P) sz)) (F0 m 0 ls []) := by
    intro H locs hP hS ls hl
    refine lv_aload_n hx hb dX6_undo_0 rfl (lv_at hl 0 rfl) ?_
    refine va_get (D := D) (ci := 5) (v := .ref (a 50)) (C := RX6) (T := TX6) (N := 8) hx hb hts hinX6 hown hK hP 0 rfl rfl 1 (by decide) hmw0 (fun _ h9 => h9) rfl dX6_undo_1 ?_
    refine va_get (D := D) (ci := 1) (v := .int (iI (P 50 1))) (C := RX2) (T := TX2) (N := 2) hx hb hts hinX2 hown hK hP 1 rfl rfl 1 (by decide) hmw1 (fun _ h9 => h9) rfl dX6_undo_4 ?_
    refine k_eqI (v := P 50 1) (w := 1) (hk9) ?_
    refine k_if_le (tgt := 14) hx hb dX6_undo_7 (by decide) (by omega) (fun c_1 => ?_) (fun c_1 => ?_)
    · exfalso; omega
    · skip
      refine k_iconst hx hb dX6_undo_10 ?_
      refine lv_goto (tgt := 15) hx hb dX6_undo_11 (by decide) ?_
      refine k_rovS (As := [.int (iI 0)]) (rest := []) ⟨hx, hb, hml, hown, hts⟩ (c_X6_refuse l D) gX6_undo_X6_refuse rfl ⟨rfl, rfl⟩ 1 rfl (by decide +kernel) ⟨Nat.le_of_ble_eq_true rfl, Nat.le_of_ble_eq_true rfl⟩ kGT_ok trivial (fun k q h => by simp at h) hl.1 rfl (Nat.le_of_ble_eq_true rfl) ⟨Nat.le_of_ble_eq_true rfl, Nat.le_of_ble_eq_true rfl⟩ dX6_undo_15 ?_
      refine lv_aload_n hx hb dX6_undo_18 rfl (lv_at hl 0 rfl) ?_
      refine k_iconst hx hb dX6_undo_19 ?_
      refine va_put (D := D) (ci := 5) (v := .int (iI 0)) (ty := .boolean) (C := RX6) (T := TX6) (N := 8) hx hb hts hinX6 tyX6 tyX6_ok nmX6 hown hK hP hD hS 0 rfl rfl 6 (by decide) hmw2 (fun _ h9 => h9) rfl (by decide +kernel) (by decide +kernel) (by decide +kernel) (Nat.le_of_ble_eq_true rfl) dX6_undo_20 (fun H locs hP hD hS => ?_)
      have hP : va_P D vwCl (obhsW cy a (upr P 100 (ups (P 100) 6 0))) H := hP
      have hD : va_D (va_A (obhsW cy a P) sz) (obhsW cy a (upr P 100 (ups (P 100) 6 0))) := hD
      refine lv_aload_n hx hb dX6_undo_23 rfl (lv_at hl 0 rfl) ?_
      refine va_get (D := D) (ci := 5) (v := .ref (a 50)) (C := RX6) (T := TX6) (N := 8) hx hb hts hinX6 hown hK hP 0 rfl rfl 1 (by decide) hmw0 (fun _ h9 => h9) rfl dX6_undo_24 ?_
      refine lv_aload_n hx hb dX6_undo_27 rfl (lv_at hl 0 rfl) ?_
      refine va_get (D := D) (ci := 5) (v := .ref (a 0)) (C := RX6) (T := TX6) (N := 8) hx hb hts hinX6 hown hK hP 0 rfl rfl 0 (by decide) hmw3 (fun _ h9 => h9) rfl dX6_undo_28 ?_
      have hPc := hP.sub (ws' := (hsplW cy a (upr P 100 (ups (P 100) 6 0)))) [1, 2, 3, 4, 5, 6, 7, 8, 9, 10, 11, 12, 13, 14, 15, 16, 17, 18, 19, 20, 21, 22, 23, 24, 25, 26, 27, 28, 29, 30, 31, 32, 33, 34, 35, 36, 37, 38, 39, 40, 41, 42, 43, 44, 45, 46, 47] rfl
      have hDc := hD.sub (ws' := (hsplW cy a (upr P 100 (ups (P 100) 6 0)))) [1, 2, 3, 4, 5, 6, 7, 8, 9, 10, 11, 12, 13, 14, 15, 16, 17, 18, 19, 20, 21, 22, 23, 24, 25, 26, 27, 28, 29, 30, 31, 32, 33, 34, 35, 36, 37, 38, 39, 40, 41, 42, 43, 44, 45, 46, 47] (by decide) rfl
      have hFc := va_free (wc := (hsplW cy a (upr P 100 (ups (P 100) 6 0)))) hD hS hA [1, 2, 3, 4, 5, 6, 7, 8, 9, 10, 11, 12, 13, 14, 15, 16, 17, 18, 19, 20, 21, 22, 23, 24, 25, 26, 27, 28, 29, 30, 31, 32, 33, 34, 35, 36, 37, 38, 39, 40, 41, 42, 43, 44, 45, 46, 47] rfl
      refine k_mui (k_runV (As := [.ref (a 0)]) (rest := []) ⟨hx, hb, hml, hown, hts⟩ (c_X2_restore_0 l D cy H.size a (upr P 100 (ups (P 100) 6 0)) (show (P 50) 1 = 1 by omega) (show Inv (mO (rpg 0 (upr P 100 (ups (P 100) 6 0)))) from hIp)) gX6_undo_X2_restore rfl ⟨rfl, rfl⟩ 1 rfl (by decide +kernel) ⟨Nat.le_of_ble_eq_true rfl, Nat.le_of_ble_eq_true rfl⟩ (GG_ok D cy) hG hS hFc hPc hDc (va_recv hK hP (ci := 1) (q0 := 1) rfl rfl) hl.1 rfl (Nat.le_of_ble_eq_true rfl) ⟨Nat.le_of_ble_eq_true rfl, Nat.le_of_ble_eq_true rfl⟩ dX6_undo_31) hFc hS (fun r_2 R_3 H1 locs1 hR_3 hP1 hD1 hS1 hk1 => ?_)
      have hR_3 : r_2 = 0 ∧ back (upr P 100 (ups (P 100) 6 0)) R_3 0 := hR_3
      obtain ⟨hr_2, hR_3⟩ := hR_3
      have hr_2 : r_2 = 0 := hr_2
      subst hr_2
      have hDn : va_D (va_A (obhsW cy a P) sz) (obhsW cy a (upr R_3 100 (ups (P 100) 6 0))) := k_addr hD rfl
      have hPn := k_join (ws' := (obhsW cy a (upr R_3 100 (ups (P 100) 6 0)))) hP hD [1, 2, 3, 4, 5, 6, 7, 8, 9, 10, 11, 12, 13, 14, 15, 16, 17, 18, 19, 20, 21, 22, 23, 24, 25, 26, 27, 28, 29, 30, 31, 32, 33, 34, 35, 36, 37, 38, 39, 40, 41, 42, 43, 44, 45, 46, 47] [none, some 0, some 1, some 2, some 3, some 4, some 5, some 6, some 7, some 8, some 9, some 10, some 11, some 12, some 13, some 14, some 15, some 16, some 17, some 18, some 19, some 20, some 21, some 22, some 23, some 24, some 25, some 26, some 27, some 28, some 29, some 30, some 31, some 32, some 33, some 34, some 35, some 36, some 37, some 38, some 39, some 40, some 41, some 42, some 43, some 44, some 45, some 46] rfl hk1 hP1 rfl rfl
      clear hP hD hS hP1 hD1 hk1
      have hP := hPn
      have hD := hDn
      have hS := hS1
      clear hPn hDn hS1
      generalize H1 = H at hP hS ⊢
      generalize locs1 = locs at hS ⊢
      have hbk := hR_3
      exact W.iret (v := iI 0) hx hb hr (fun t9 ht _ => ⟨⟨iI 0, (upr R_3 100 (ups (P 100) 6 0)), rfl, ⟨0, rfl, (⟨rfl, rfl, backO_of hbk.2 (fun c9 h9 => (by (repeat rw [upr_o _ _ (by omega)]))) (fun c9 h9 => (by (repeat rw [upr_o _ _ (by omega)]))) (by decide)⟩ : (0 : Int) = 0 ∧ (upr R_3 100 (ups (P 100) 6 0)) 100 = ups (P 100) 6 0 ∧ backO P (upr R_3 100 (ups (P 100) 6 0)) 0)⟩, by rw [ht]; exact hP, hD⟩, hS.F ht⟩) hS.2.2 dX6_undo_34 hlocks
  exact hbody s.heap [] hP hS ls hl
set_option maxHeartbeats 4000000 in
set_option maxRecDepth 100000 in
theorem c_X6_undo_1 (l : Launch) (D : va_G) (cy : Nat → ClassId) (sz : Nat) (a : Nat → Nat) (P : Nat → Int → Int)  (hk9 : P 50 1 = 2) (hIp : Inv (mO (rpg 1 P))) : Met l yX6_undo wsX6_undo { frames := 4, cells := 0, slots := 0, locals := 85 } (mPre (GG D cy) D (obhsW cy a P) sz ([.ref (a 100)] : List Value)) (kQi D (obhsW cy a P) sz (fun u9 : Nat → Int → Int => obhsW cy a u9) (fun r9 u9 => r9 = 1 ∧ u9 100 = ups (P 100) 6 0 ∧ backO P u9 1)) 0 0 (va_A (obhsW cy a P) sz) := by
  refine kM_start (cc := cX6_undo) (maxL := 1) (ret := (some .int)) (by decide) rfl (Nat.le_of_ble_eq_true rfl) ?_
  intro p e s m below meth c hx hb hr hlocks hml hts hown hsz hA hG hP hD hS hin ls hl
  have hK := hG.1
  have hl : lv_has ls 1 [(0, .ref (a 100))] := hl
  have hinX2 : ∀ w ∈ u_ws RX2 TX2 2, w ∈ wsX6_undo := by decide +kernel
  have hinX6 : ∀ w ∈ u_ws RX6 TX6 8, w ∈ wsX6_undo := by decide +kernel
  have hmw0 := hts (.fieldLink RX6 19 "ArcPlate" "history" "LArcPlate$History;") (by decide +kernel)
  have hmw1 := hts (.fieldLink RX6 245 "ArcPlate$History" "saved" "I") (by decide +kernel)
  have hmw2 := hts (.fieldLink RX6 47 "ArcPlate" "looked" "Z") (by decide +kernel)
  have hmw3 := hts (.fieldLink RX6 10 "ArcPlate" "plate" "LArcPlate$Plate;") (by decide +kernel)
  have hbody : ∀ (H : Heap) (locs : List Loc) (hP : va_P D vwCl (obhsW cy a P) H) (hS : va_S (va_A (obhsW cy a P) sz) s.heap H locs) (ls : Array Slot) (hl : lv_has ls 1 [(0, .ref (a 100))]), W p l e { frames := 4, cells := 0, slots := 0, locals := 85 } s m ([.ref (a 100)] : List Value).toArray below meth c H locs 0 0 (MQ below (kQi D (obhsW cy a P) sz (fun u9 : Nat → Int → Int => obhsW cy a u9) (fun r9 u9 => r9 = 1 ∧ u9 100 = ups (P 100) 6 0 ∧ backO P u9 1)) ([.ref (a 100)] : List Value).toArray s 0 0 (va_A (obhsW cy a P) sz)) (F0 m 0 ls []) := by
    intro H locs hP hS ls hl
    refine lv_aload_n hx hb dX6_undo_0 rfl (lv_at hl 0 rfl) ?_
    refine va_get (D := D) (ci := 5) (v := .ref (a 50)) (C := RX6) (T := TX6) (N := 8) hx hb hts hinX6 hown hK hP 0 rfl rfl 1 (by decide) hmw0 (fun _ h9 => h9) rfl dX6_undo_1 ?_
    refine va_get (D := D) (ci := 1) (v := .int (iI (P 50 1))) (C := RX2) (T := TX2) (N := 2) hx hb hts hinX2 hown hK hP 1 rfl rfl 1 (by decide) hmw1 (fun _ h9 => h9) rfl dX6_undo_4 ?_
    refine k_eqI (v := P 50 1) (w := 2) (hk9) ?_
    refine k_if_le (tgt := 14) hx hb dX6_undo_7 (by decide) (by omega) (fun c_1 => ?_) (fun c_1 => ?_)
    · exfalso; omega
    · skip
      refine k_iconst hx hb dX6_undo_10 ?_
      refine lv_goto (tgt := 15) hx hb dX6_undo_11 (by decide) ?_
      refine k_rovS (As := [.int (iI 0)]) (rest := []) ⟨hx, hb, hml, hown, hts⟩ (c_X6_refuse l D) gX6_undo_X6_refuse rfl ⟨rfl, rfl⟩ 1 rfl (by decide +kernel) ⟨Nat.le_of_ble_eq_true rfl, Nat.le_of_ble_eq_true rfl⟩ kGT_ok trivial (fun k q h => by simp at h) hl.1 rfl (Nat.le_of_ble_eq_true rfl) ⟨Nat.le_of_ble_eq_true rfl, Nat.le_of_ble_eq_true rfl⟩ dX6_undo_15 ?_
      refine lv_aload_n hx hb dX6_undo_18 rfl (lv_at hl 0 rfl) ?_
      refine k_iconst hx hb dX6_undo_19 ?_
      refine va_put (D := D) (ci := 5) (v := .int (iI 0)) (ty := .boolean) (C := RX6) (T := TX6) (N := 8) hx hb hts hinX6 tyX6 tyX6_ok nmX6 hown hK hP hD hS 0 rfl rfl 6 (by decide) hmw2 (fun _ h9 => h9) rfl (by decide +kernel) (by decide +kernel) (by decide +kernel) (Nat.le_of_ble_eq_true rfl) dX6_undo_20 (fun H locs hP hD hS => ?_)
      have hP : va_P D vwCl (obhsW cy a (upr P 100 (ups (P 100) 6 0))) H := hP
      have hD : va_D (va_A (obhsW cy a P) sz) (obhsW cy a (upr P 100 (ups (P 100) 6 0))) := hD
      refine lv_aload_n hx hb dX6_undo_23 rfl (lv_at hl 0 rfl) ?_
      refine va_get (D := D) (ci := 5) (v := .ref (a 50)) (C := RX6) (T := TX6) (N := 8) hx hb hts hinX6 hown hK hP 0 rfl rfl 1 (by decide) hmw0 (fun _ h9 => h9) rfl dX6_undo_24 ?_
      refine lv_aload_n hx hb dX6_undo_27 rfl (lv_at hl 0 rfl) ?_
      refine va_get (D := D) (ci := 5) (v := .ref (a 0)) (C := RX6) (T := TX6) (N := 8) hx hb hts hinX6 hown hK hP 0 rfl rfl 0 (by decide) hmw3 (fun _ h9 => h9) rfl dX6_undo_28 ?_
      have hPc := hP.sub (ws' := (hsplW cy a (upr P 100 (ups (P 100) 6 0)))) [1, 2, 3, 4, 5, 6, 7, 8, 9, 10, 11, 12, 13, 14, 15, 16, 17, 18, 19, 20, 21, 22, 23, 24, 25, 26, 27, 28, 29, 30, 31, 32, 33, 34, 35, 36, 37, 38, 39, 40, 41, 42, 43, 44, 45, 46, 47] rfl
      have hDc := hD.sub (ws' := (hsplW cy a (upr P 100 (ups (P 100) 6 0)))) [1, 2, 3, 4, 5, 6, 7, 8, 9, 10, 11, 12, 13, 14, 15, 16, 17, 18, 19, 20, 21, 22, 23, 24, 25, 26, 27, 28, 29, 30, 31, 32, 33, 34, 35, 36, 37, 38, 39, 40, 41, 42, 43, 44, 45, 46, 47] (by decide) rfl
      have hFc := va_free (wc := (hsplW cy a (upr P 100 (ups (P 100) 6 0)))) hD hS hA [1, 2, 3, 4, 5, 6, 7, 8, 9, 10, 11, 12, 13, 14, 15, 16, 17, 18, 19, 20, 21, 22, 23, 24, 25, 26, 27, 28, 29, 30, 31, 32, 33, 34, 35, 36, 37, 38, 39, 40, 41, 42, 43, 44, 45, 46, 47] rfl
      refine k_mui (k_runV (As := [.ref (a 0)]) (rest := []) ⟨hx, hb, hml, hown, hts⟩ (c_X2_restore_1 l D cy H.size a (upr P 100 (ups (P 100) 6 0)) (show (P 50) 1 = 2 by omega) (show Inv (mO (rpg 1 (upr P 100 (ups (P 100) 6 0)))) from hIp)) gX6_undo_X2_restore rfl ⟨rfl, rfl⟩ 1 rfl (by decide +kernel) ⟨Nat.le_of_ble_eq_true rfl, Nat.le_of_ble_eq_true rfl⟩ (GG_ok D cy) hG hS hFc hPc hDc (va_recv hK hP (ci := 1) (q0 := 1) rfl rfl) hl.1 rfl (Nat.le_of_ble_eq_true rfl) ⟨Nat.le_of_ble_eq_true rfl, Nat.le_of_ble_eq_true rfl⟩ dX6_undo_31) hFc hS (fun r_2 R_3 H1 locs1 hR_3 hP1 hD1 hS1 hk1 => ?_)
      have hR_3 : r_2 = 1 ∧ back (upr P 100 (ups (P 100) 6 0)) R_3 1 := hR_3
      obtain ⟨hr_2, hR_3⟩ := hR_3
      have hr_2 : r_2 = 1 := hr_2
      subst hr_2
      have hDn : va_D (va_A (obhsW cy a P) sz) (obhsW cy a (upr R_3 100 (ups (P 100) 6 0))) := k_addr hD rfl
      have hPn := k_join (ws' := (obhsW cy a (upr R_3 100 (ups (P 100) 6 0)))) hP hD [1, 2, 3, 4, 5, 6, 7, 8, 9, 10, 11, 12, 13, 14, 15, 16, 17, 18, 19, 20, 21, 22, 23, 24, 25, 26, 27, 28, 29, 30, 31, 32, 33, 34, 35, 36, 37, 38, 39, 40, 41, 42, 43, 44, 45, 46, 47] [none, some 0, some 1, some 2, some 3, some 4, some 5, some 6, some 7, some 8, some 9, some 10, some 11, some 12, some 13, some 14, some 15, some 16, some 17, some 18, some 19, some 20, some 21, some 22, some 23, some 24, some 25, some 26, some 27, some 28, some 29, some 30, some 31, some 32, some 33, some 34, some 35, some 36, some 37, some 38, some 39, some 40, some 41, some 42, some 43, some 44, some 45, some 46] rfl hk1 hP1 rfl rfl
      clear hP hD hS hP1 hD1 hk1
      have hP := hPn
      have hD := hDn
      have hS := hS1
      clear hPn hDn hS1
      generalize H1 = H at hP hS ⊢
      generalize locs1 = locs at hS ⊢
      have hbk := hR_3
      exact W.iret (v := iI 1) hx hb hr (fun t9 ht _ => ⟨⟨iI 1, (upr R_3 100 (ups (P 100) 6 0)), rfl, ⟨1, rfl, (⟨rfl, rfl, backO_of hbk.2 (fun c9 h9 => (by (repeat rw [upr_o _ _ (by omega)]))) (fun c9 h9 => (by (repeat rw [upr_o _ _ (by omega)]))) (by decide)⟩ : (1 : Int) = 1 ∧ (upr R_3 100 (ups (P 100) 6 0)) 100 = ups (P 100) 6 0 ∧ backO P (upr R_3 100 (ups (P 100) 6 0)) 1)⟩, by rw [ht]; exact hP, hD⟩, hS.F ht⟩) hS.2.2 dX6_undo_34 hlocks
  exact hbody s.heap [] hP hS ls hl
set_option maxHeartbeats 4000000 in
set_option maxRecDepth 100000 in
theorem c_X6_undo_2 (l : Launch) (D : va_G) (cy : Nat → ClassId) (sz : Nat) (a : Nat → Nat) (P : Nat → Int → Int)  (hk9 : P 50 1 = 3) (hIp : Inv (mO (rpg 2 P))) : Met l yX6_undo wsX6_undo { frames := 4, cells := 0, slots := 0, locals := 85 } (mPre (GG D cy) D (obhsW cy a P) sz ([.ref (a 100)] : List Value)) (kQi D (obhsW cy a P) sz (fun u9 : Nat → Int → Int => obhsW cy a u9) (fun r9 u9 => r9 = 2 ∧ u9 100 = ups (P 100) 6 0 ∧ backO P u9 2)) 0 0 (va_A (obhsW cy a P) sz) := by
  refine kM_start (cc := cX6_undo) (maxL := 1) (ret := (some .int)) (by decide) rfl (Nat.le_of_ble_eq_true rfl) ?_
  intro p e s m below meth c hx hb hr hlocks hml hts hown hsz hA hG hP hD hS hin ls hl
  have hK := hG.1
  have hl : lv_has ls 1 [(0, .ref (a 100))] := hl
  have hinX2 : ∀ w ∈ u_ws RX2 TX2 2, w ∈ wsX6_undo := by decide +kernel
  have hinX6 : ∀ w ∈ u_ws RX6 TX6 8, w ∈ wsX6_undo := by decide +kernel
  have hmw0 := hts (.fieldLink RX6 19 "ArcPlate" "history" "LArcPlate$History;") (by decide +kernel)
  have hmw1 := hts (.fieldLink RX6 245 "ArcPlate$History" "saved" "I") (by decide +kernel)
  have hmw2 := hts (.fieldLink RX6 47 "ArcPlate" "looked" "Z") (by decide +kernel)
  have hmw3 := hts (.fieldLink RX6 10 "ArcPlate" "plate" "LArcPlate$Plate;") (by decide +kernel)
  have hbody : ∀ (H : Heap) (locs : List Loc) (hP : va_P D vwCl (obhsW cy a P) H) (hS : va_S (va_A (obhsW cy a P) sz) s.heap H locs) (ls : Array Slot) (hl : lv_has ls 1 [(0, .ref (a 100))]), W p l e { frames := 4, cells := 0, slots := 0, locals := 85 } s m ([.ref (a 100)] : List Value).toArray below meth c H locs 0 0 (MQ below (kQi D (obhsW cy a P) sz (fun u9 : Nat → Int → Int => obhsW cy a u9) (fun r9 u9 => r9 = 2 ∧ u9 100 = ups (P 100) 6 0 ∧ backO P u9 2)) ([.ref (a 100)] : List Value).toArray s 0 0 (va_A (obhsW cy a P) sz)) (F0 m 0 ls []) := by
    intro H locs hP hS ls hl
    refine lv_aload_n hx hb dX6_undo_0 rfl (lv_at hl 0 rfl) ?_
    refine va_get (D := D) (ci := 5) (v := .ref (a 50)) (C := RX6) (T := TX6) (N := 8) hx hb hts hinX6 hown hK hP 0 rfl rfl 1 (by decide) hmw0 (fun _ h9 => h9) rfl dX6_undo_1 ?_
    refine va_get (D := D) (ci := 1) (v := .int (iI (P 50 1))) (C := RX2) (T := TX2) (N := 2) hx hb hts hinX2 hown hK hP 1 rfl rfl 1 (by decide) hmw1 (fun _ h9 => h9) rfl dX6_undo_4 ?_
    refine k_eqI (v := P 50 1) (w := 3) (hk9) ?_
    refine k_if_le (tgt := 14) hx hb dX6_undo_7 (by decide) (by omega) (fun c_1 => ?_) (fun c_1 => ?_)
    · exfalso; omega
    · skip
      refine k_iconst hx hb dX6_undo_10 ?_
      refine lv_goto (tgt := 15) hx hb dX6_undo_11 (by decide) ?_
      refine k_rovS (As := [.int (iI 0)]) (rest := []) ⟨hx, hb, hml, hown, hts⟩ (c_X6_refuse l D) gX6_undo_X6_refuse rfl ⟨rfl, rfl⟩ 1 rfl (by decide +kernel) ⟨Nat.le_of_ble_eq_true rfl, Nat.le_of_ble_eq_true rfl⟩ kGT_ok trivial (fun k q h => by simp at h) hl.1 rfl (Nat.le_of_ble_eq_true rfl) ⟨Nat.le_of_ble_eq_true rfl, Nat.le_of_ble_eq_true rfl⟩ dX6_undo_15 ?_
      refine lv_aload_n hx hb dX6_undo_18 rfl (lv_at hl 0 rfl) ?_
      refine k_iconst hx hb dX6_undo_19 ?_
      refine va_put (D := D) (ci := 5) (v := .int (iI 0)) (ty := .boolean) (C := RX6) (T := TX6) (N := 8) hx hb hts hinX6 tyX6 tyX6_ok nmX6 hown hK hP hD hS 0 rfl rfl 6 (by decide) hmw2 (fun _ h9 => h9) rfl (by decide +kernel) (by decide +kernel) (by decide +kernel) (Nat.le_of_ble_eq_true rfl) dX6_undo_20 (fun H locs hP hD hS => ?_)
      have hP : va_P D vwCl (obhsW cy a (upr P 100 (ups (P 100) 6 0))) H := hP
      have hD : va_D (va_A (obhsW cy a P) sz) (obhsW cy a (upr P 100 (ups (P 100) 6 0))) := hD
      refine lv_aload_n hx hb dX6_undo_23 rfl (lv_at hl 0 rfl) ?_
      refine va_get (D := D) (ci := 5) (v := .ref (a 50)) (C := RX6) (T := TX6) (N := 8) hx hb hts hinX6 hown hK hP 0 rfl rfl 1 (by decide) hmw0 (fun _ h9 => h9) rfl dX6_undo_24 ?_
      refine lv_aload_n hx hb dX6_undo_27 rfl (lv_at hl 0 rfl) ?_
      refine va_get (D := D) (ci := 5) (v := .ref (a 0)) (C := RX6) (T := TX6) (N := 8) hx hb hts hinX6 hown hK hP 0 rfl rfl 0 (by decide) hmw3 (fun _ h9 => h9) rfl dX6_undo_28 ?_
      have hPc := hP.sub (ws' := (hsplW cy a (upr P 100 (ups (P 100) 6 0)))) [1, 2, 3, 4, 5, 6, 7, 8, 9, 10, 11, 12, 13, 14, 15, 16, 17, 18, 19, 20, 21, 22, 23, 24, 25, 26, 27, 28, 29, 30, 31, 32, 33, 34, 35, 36, 37, 38, 39, 40, 41, 42, 43, 44, 45, 46, 47] rfl
      have hDc := hD.sub (ws' := (hsplW cy a (upr P 100 (ups (P 100) 6 0)))) [1, 2, 3, 4, 5, 6, 7, 8, 9, 10, 11, 12, 13, 14, 15, 16, 17, 18, 19, 20, 21, 22, 23, 24, 25, 26, 27, 28, 29, 30, 31, 32, 33, 34, 35, 36, 37, 38, 39, 40, 41, 42, 43, 44, 45, 46, 47] (by decide) rfl
      have hFc := va_free (wc := (hsplW cy a (upr P 100 (ups (P 100) 6 0)))) hD hS hA [1, 2, 3, 4, 5, 6, 7, 8, 9, 10, 11, 12, 13, 14, 15, 16, 17, 18, 19, 20, 21, 22, 23, 24, 25, 26, 27, 28, 29, 30, 31, 32, 33, 34, 35, 36, 37, 38, 39, 40, 41, 42, 43, 44, 45, 46, 47] rfl
      refine k_mui (k_runV (As := [.ref (a 0)]) (rest := []) ⟨hx, hb, hml, hown, hts⟩ (c_X2_restore_2 l D cy H.size a (upr P 100 (ups (P 100) 6 0)) (show (P 50) 1 = 3 by omega) (show Inv (mO (rpg 2 (upr P 100 (ups (P 100) 6 0)))) from hIp)) gX6_undo_X2_restore rfl ⟨rfl, rfl⟩ 1 rfl (by decide +kernel) ⟨Nat.le_of_ble_eq_true rfl, Nat.le_of_ble_eq_true rfl⟩ (GG_ok D cy) hG hS hFc hPc hDc (va_recv hK hP (ci := 1) (q0 := 1) rfl rfl) hl.1 rfl (Nat.le_of_ble_eq_true rfl) ⟨Nat.le_of_ble_eq_true rfl, Nat.le_of_ble_eq_true rfl⟩ dX6_undo_31) hFc hS (fun r_2 R_3 H1 locs1 hR_3 hP1 hD1 hS1 hk1 => ?_)
      have hR_3 : r_2 = 2 ∧ back (upr P 100 (ups (P 100) 6 0)) R_3 2 := hR_3
      obtain ⟨hr_2, hR_3⟩ := hR_3
      have hr_2 : r_2 = 2 := hr_2
      subst hr_2
      have hDn : va_D (va_A (obhsW cy a P) sz) (obhsW cy a (upr R_3 100 (ups (P 100) 6 0))) := k_addr hD rfl
      have hPn := k_join (ws' := (obhsW cy a (upr R_3 100 (ups (P 100) 6 0)))) hP hD [1, 2, 3, 4, 5, 6, 7, 8, 9, 10, 11, 12, 13, 14, 15, 16, 17, 18, 19, 20, 21, 22, 23, 24, 25, 26, 27, 28, 29, 30, 31, 32, 33, 34, 35, 36, 37, 38, 39, 40, 41, 42, 43, 44, 45, 46, 47] [none, some 0, some 1, some 2, some 3, some 4, some 5, some 6, some 7, some 8, some 9, some 10, some 11, some 12, some 13, some 14, some 15, some 16, some 17, some 18, some 19, some 20, some 21, some 22, some 23, some 24, some 25, some 26, some 27, some 28, some 29, some 30, some 31, some 32, some 33, some 34, some 35, some 36, some 37, some 38, some 39, some 40, some 41, some 42, some 43, some 44, some 45, some 46] rfl hk1 hP1 rfl rfl
      clear hP hD hS hP1 hD1 hk1
      have hP := hPn
      have hD := hDn
      have hS := hS1
      clear hPn hDn hS1
      generalize H1 = H at hP hS ⊢
      generalize locs1 = locs at hS ⊢
      have hbk := hR_3
      exact W.iret (v := iI 2) hx hb hr (fun t9 ht _ => ⟨⟨iI 2, (upr R_3 100 (ups (P 100) 6 0)), rfl, ⟨2, rfl, (⟨rfl, rfl, backO_of hbk.2 (fun c9 h9 => (by (repeat rw [upr_o _ _ (by omega)]))) (fun c9 h9 => (by (repeat rw [upr_o _ _ (by omega)]))) (by decide)⟩ : (2 : Int) = 2 ∧ (upr R_3 100 (ups (P 100) 6 0)) 100 = ups (P 100) 6 0 ∧ backO P (upr R_3 100 (ups (P 100) 6 0)) 2)⟩, by rw [ht]; exact hP, hD⟩, hS.F ht⟩) hS.2.2 dX6_undo_34 hlocks
  exact hbody s.heap [] hP hS ls hl
set_option maxHeartbeats 4000000 in
set_option maxRecDepth 100000 in
theorem c_X6_undo_3 (l : Launch) (D : va_G) (cy : Nat → ClassId) (sz : Nat) (a : Nat → Nat) (P : Nat → Int → Int)  (hk9 : P 50 1 = 4) (hIp : Inv (mO (rpg 3 P))) : Met l yX6_undo wsX6_undo { frames := 4, cells := 0, slots := 0, locals := 85 } (mPre (GG D cy) D (obhsW cy a P) sz ([.ref (a 100)] : List Value)) (kQi D (obhsW cy a P) sz (fun u9 : Nat → Int → Int => obhsW cy a u9) (fun r9 u9 => r9 = 3 ∧ u9 100 = ups (P 100) 6 0 ∧ backO P u9 3)) 0 0 (va_A (obhsW cy a P) sz) := by
  refine kM_start (cc := cX6_undo) (maxL := 1) (ret := (some .int)) (by decide) rfl (Nat.le_of_ble_eq_true rfl) ?_
  intro p e s m below meth c hx hb hr hlocks hml hts hown hsz hA hG hP hD hS hin ls hl
  have hK := hG.1
  have hl : lv_has ls 1 [(0, .ref (a 100))] := hl
  have hinX2 : ∀ w ∈ u_ws RX2 TX2 2, w ∈ wsX6_undo := by decide +kernel
  have hinX6 : ∀ w ∈ u_ws RX6 TX6 8, w ∈ wsX6_undo := by decide +kernel
  have hmw0 := hts (.fieldLink RX6 19 "ArcPlate" "history" "LArcPlate$History;") (by decide +kernel)
  have hmw1 := hts (.fieldLink RX6 245 "ArcPlate$History" "saved" "I") (by decide +kernel)
  have hmw2 := hts (.fieldLink RX6 47 "ArcPlate" "looked" "Z") (by decide +kernel)
  have hmw3 := hts (.fieldLink RX6 10 "ArcPlate" "plate" "LArcPlate$Plate;") (by decide +kernel)
  have hbody : ∀ (H : Heap) (locs : List Loc) (hP : va_P D vwCl (obhsW cy a P) H) (hS : va_S (va_A (obhsW cy a P) sz) s.heap H locs) (ls : Array Slot) (hl : lv_has ls 1 [(0, .ref (a 100))]), W p l e { frames := 4, cells := 0, slots := 0, locals := 85 } s m ([.ref (a 100)] : List Value).toArray below meth c H locs 0 0 (MQ below (kQi D (obhsW cy a P) sz (fun u9 : Nat → Int → Int => obhsW cy a u9) (fun r9 u9 => r9 = 3 ∧ u9 100 = ups (P 100) 6 0 ∧ backO P u9 3)) ([.ref (a 100)] : List Value).toArray s 0 0 (va_A (obhsW cy a P) sz)) (F0 m 0 ls []) := by
    intro H locs hP hS ls hl
    refine lv_aload_n hx hb dX6_undo_0 rfl (lv_at hl 0 rfl) ?_
    refine va_get (D := D) (ci := 5) (v := .ref (a 50)) (C := RX6) (T := TX6) (N := 8) hx hb hts hinX6 hown hK hP 0 rfl rfl 1 (by decide) hmw0 (fun _ h9 => h9) rfl dX6_undo_1 ?_
    refine va_get (D := D) (ci := 1) (v := .int (iI (P 50 1))) (C := RX2) (T := TX2) (N := 2) hx hb hts hinX2 hown hK hP 1 rfl rfl 1 (by decide) hmw1 (fun _ h9 => h9) rfl dX6_undo_4 ?_
    refine k_eqI (v := P 50 1) (w := 4) (hk9) ?_
    refine k_if_le (tgt := 14) hx hb dX6_undo_7 (by decide) (by omega) (fun c_1 => ?_) (fun c_1 => ?_)
    · exfalso; omega
    · skip
      refine k_iconst hx hb dX6_undo_10 ?_
      refine lv_goto (tgt := 15) hx hb dX6_undo_11 (by decide) ?_
      refine k_rovS (As := [.int (iI 0)]) (rest := []) ⟨hx, hb, hml, hown, hts⟩ (c_X6_refuse l D) gX6_undo_X6_refuse rfl ⟨rfl, rfl⟩ 1 rfl (by decide +kernel) ⟨Nat.le_of_ble_eq_true rfl, Nat.le_of_ble_eq_true rfl⟩ kGT_ok trivial (fun k q h => by simp at h) hl.1 rfl (Nat.le_of_ble_eq_true rfl) ⟨Nat.le_of_ble_eq_true rfl, Nat.le_of_ble_eq_true rfl⟩ dX6_undo_15 ?_
      refine lv_aload_n hx hb dX6_undo_18 rfl (lv_at hl 0 rfl) ?_
      refine k_iconst hx hb dX6_undo_19 ?_
      refine va_put (D := D) (ci := 5) (v := .int (iI 0)) (ty := .boolean) (C := RX6) (T := TX6) (N := 8) hx hb hts hinX6 tyX6 tyX6_ok nmX6 hown hK hP hD hS 0 rfl rfl 6 (by decide) hmw2 (fun _ h9 => h9) rfl (by decide +kernel) (by decide +kernel) (by decide +kernel) (Nat.le_of_ble_eq_true rfl) dX6_undo_20 (fun H locs hP hD hS => ?_)
      have hP : va_P D vwCl (obhsW cy a (upr P 100 (ups (P 100) 6 0))) H := hP
      have hD : va_D (va_A (obhsW cy a P) sz) (obhsW cy a (upr P 100 (ups (P 100) 6 0))) := hD
      refine lv_aload_n hx hb dX6_undo_23 rfl (lv_at hl 0 rfl) ?_
      refine va_get (D := D) (ci := 5) (v := .ref (a 50)) (C := RX6) (T := TX6) (N := 8) hx hb hts hinX6 hown hK hP 0 rfl rfl 1 (by decide) hmw0 (fun _ h9 => h9) rfl dX6_undo_24 ?_
      refine lv_aload_n hx hb dX6_undo_27 rfl (lv_at hl 0 rfl) ?_
      refine va_get (D := D) (ci := 5) (v := .ref (a 0)) (C := RX6) (T := TX6) (N := 8) hx hb hts hinX6 hown hK hP 0 rfl rfl 0 (by decide) hmw3 (fun _ h9 => h9) rfl dX6_undo_28 ?_
      have hPc := hP.sub (ws' := (hsplW cy a (upr P 100 (ups (P 100) 6 0)))) [1, 2, 3, 4, 5, 6, 7, 8, 9, 10, 11, 12, 13, 14, 15, 16, 17, 18, 19, 20, 21, 22, 23, 24, 25, 26, 27, 28, 29, 30, 31, 32, 33, 34, 35, 36, 37, 38, 39, 40, 41, 42, 43, 44, 45, 46, 47] rfl
      have hDc := hD.sub (ws' := (hsplW cy a (upr P 100 (ups (P 100) 6 0)))) [1, 2, 3, 4, 5, 6, 7, 8, 9, 10, 11, 12, 13, 14, 15, 16, 17, 18, 19, 20, 21, 22, 23, 24, 25, 26, 27, 28, 29, 30, 31, 32, 33, 34, 35, 36, 37, 38, 39, 40, 41, 42, 43, 44, 45, 46, 47] (by decide) rfl
      have hFc := va_free (wc := (hsplW cy a (upr P 100 (ups (P 100) 6 0)))) hD hS hA [1, 2, 3, 4, 5, 6, 7, 8, 9, 10, 11, 12, 13, 14, 15, 16, 17, 18, 19, 20, 21, 22, 23, 24, 25, 26, 27, 28, 29, 30, 31, 32, 33, 34, 35, 36, 37, 38, 39, 40, 41, 42, 43, 44, 45, 46, 47] rfl
      refine k_mui (k_runV (As := [.ref (a 0)]) (rest := []) ⟨hx, hb, hml, hown, hts⟩ (c_X2_restore_3 l D cy H.size a (upr P 100 (ups (P 100) 6 0)) (show (P 50) 1 = 4 by omega) (show Inv (mO (rpg 3 (upr P 100 (ups (P 100) 6 0)))) from hIp)) gX6_undo_X2_restore rfl ⟨rfl, rfl⟩ 1 rfl (by decide +kernel) ⟨Nat.le_of_ble_eq_true rfl, Nat.le_of_ble_eq_true rfl⟩ (GG_ok D cy) hG hS hFc hPc hDc (va_recv hK hP (ci := 1) (q0 := 1) rfl rfl) hl.1 rfl (Nat.le_of_ble_eq_true rfl) ⟨Nat.le_of_ble_eq_true rfl, Nat.le_of_ble_eq_true rfl⟩ dX6_undo_31) hFc hS (fun r_2 R_3 H1 locs1 hR_3 hP1 hD1 hS1 hk1 => ?_)
      have hR_3 : r_2 = 3 ∧ back (upr P 100 (ups (P 100) 6 0)) R_3 3 := hR_3
      obtain ⟨hr_2, hR_3⟩ := hR_3
      have hr_2 : r_2 = 3 := hr_2
      subst hr_2
      have hDn : va_D (va_A (obhsW cy a P) sz) (obhsW cy a (upr R_3 100 (ups (P 100) 6 0))) := k_addr hD rfl
      have hPn := k_join (ws' := (obhsW cy a (upr R_3 100 (ups (P 100) 6 0)))) hP hD [1, 2, 3, 4, 5, 6, 7, 8, 9, 10, 11, 12, 13, 14, 15, 16, 17, 18, 19, 20, 21, 22, 23, 24, 25, 26, 27, 28, 29, 30, 31, 32, 33, 34, 35, 36, 37, 38, 39, 40, 41, 42, 43, 44, 45, 46, 47] [none, some 0, some 1, some 2, some 3, some 4, some 5, some 6, some 7, some 8, some 9, some 10, some 11, some 12, some 13, some 14, some 15, some 16, some 17, some 18, some 19, some 20, some 21, some 22, some 23, some 24, some 25, some 26, some 27, some 28, some 29, some 30, some 31, some 32, some 33, some 34, some 35, some 36, some 37, some 38, some 39, some 40, some 41, some 42, some 43, some 44, some 45, some 46] rfl hk1 hP1 rfl rfl
      clear hP hD hS hP1 hD1 hk1
      have hP := hPn
      have hD := hDn
      have hS := hS1
      clear hPn hDn hS1
      generalize H1 = H at hP hS ⊢
      generalize locs1 = locs at hS ⊢
      have hbk := hR_3
      exact W.iret (v := iI 3) hx hb hr (fun t9 ht _ => ⟨⟨iI 3, (upr R_3 100 (ups (P 100) 6 0)), rfl, ⟨3, rfl, (⟨rfl, rfl, backO_of hbk.2 (fun c9 h9 => (by (repeat rw [upr_o _ _ (by omega)]))) (fun c9 h9 => (by (repeat rw [upr_o _ _ (by omega)]))) (by decide)⟩ : (3 : Int) = 3 ∧ (upr R_3 100 (ups (P 100) 6 0)) 100 = ups (P 100) 6 0 ∧ backO P (upr R_3 100 (ups (P 100) 6 0)) 3)⟩, by rw [ht]; exact hP, hD⟩, hS.F ht⟩) hS.2.2 dX6_undo_34 hlocks
  exact hbody s.heap [] hP hS ls hl
set_option maxHeartbeats 4000000 in
set_option maxRecDepth 100000 in
theorem c_X6_undo_t3 (l : Launch) (hl9 : l.stackTraces = false) (D : va_G) (cy : Nat → ClassId) (a : Nat → Nat) (P : Nat → Int → Int)  (hno : P 50 1 = 0) : vx_Met l yX6_undo wsX6_undo { frames := 7, cells := 1, slots := 6, locals := 110 } (kPre (GX D cy) D (obhsW cy a P) ([.ref (a 100)] : List Value)) kNo (XK (exN 2)) 1 6 (fun _ => False) := by
  refine kTH_start (cc := cX6_undo) (maxL := 1) (ret := (some .int)) (by decide) rfl (Nat.le_of_ble_eq_true rfl) ?_
  intro p e s m below meth c hx hb hr hlocks hml hts hown ht hG hP ls hl
  have hGe := hG.2
  have hGs := hG.1
  have hJd := hGs.2.1
  have hG := hGs.1
  have hK := hG.1
  have hl : lv_has ls 1 [(0, .ref (a 100))] := hl
  have hinX2 : ∀ w ∈ u_ws RX2 TX2 2, w ∈ wsX6_undo := by decide +kernel
  have hinX6 : ∀ w ∈ u_ws RX6 TX6 8, w ∈ wsX6_undo := by decide +kernel
  have hmw0 := hts (.fieldLink RX6 19 "ArcPlate" "history" "LArcPlate$History;") (by decide +kernel)
  have hmw1 := hts (.fieldLink RX6 245 "ArcPlate$History" "saved" "I") (by decide +kernel)
  refine lv_aload_n hx hb dX6_undo_0 rfl (lv_at hl 0 rfl) ?_
  refine va_get (D := D) (ci := 5) (v := .ref (a 50)) (C := RX6) (T := TX6) (N := 8) hx hb hts hinX6 hown hK hP 0 rfl rfl 1 (by decide) hmw0 (fun _ h9 => h9) rfl dX6_undo_1 ?_
  refine va_get (D := D) (ci := 1) (v := .int (iI (P 50 1))) (C := RX2) (T := TX2) (N := 2) hx hb hts hinX2 hown hK hP 1 rfl rfl 1 (by decide) hmw1 (fun _ h9 => h9) rfl dX6_undo_4 ?_
  refine k_eqI (v := P 50 1) (w := 0) (hno) ?_
  refine k_if_le (tgt := 14) hx hb dX6_undo_7 (by decide) (by omega) (fun c_1 => ?_) (fun c_1 => ?_)
  · skip
    refine k_iconst hx hb dX6_undo_14 ?_
    exact k_thS (As := [.int (iI 3)]) (rest := []) ⟨hx, hb, hml, hown, hts⟩ (c_X6_refuse3 l hl9 D) gX6_undo_X6_refuse rfl ⟨rfl, rfl⟩ 1 rfl (by decide +kernel) ⟨Nat.le_of_ble_eq_true rfl, Nat.le_of_ble_eq_true rfl⟩ exA_ok hGe (fun k q h => by simp at h) hl.1 rfl (Nat.le_of_ble_eq_true rfl) ⟨Nat.le_of_ble_eq_true rfl, Nat.le_of_ble_eq_true rfl⟩ dX6_undo_15 ht hlocks
  · exfalso; omega
set_option maxHeartbeats 4000000 in
set_option maxRecDepth 100000 in
theorem c_X6_type (l : Launch) (D : va_G) (cy : Nat → ClassId) (sz : Nat) (a : Nat → Nat) (P : Nat → Int → Int) (v : Int) (hv : 0 ≤ v ∧ v ≤ 127) (hn : 0 ≤ P 10 0 ∧ P 10 0 < 150) : Met l yX6_type wsX6_type { frames := 1, cells := 0, slots := 0, locals := 22 } (mPre (GG D cy) D (obscW cy a P) sz ([.ref (a 100), .int (iI v)] : List Value)) (kQi D (obscW cy a P) sz (fun u9 : Nat → Int → Int => obscW cy a u9) (fun r9 u9 => r9 = P 10 0 + 1 ∧ u9 = (upr (upr P 10 (ups (P 10) 0 (P 10 0 + 1))) 11 (ups (P 11) (P 10 0) v)))) 0 0 (va_A (obscW cy a P) sz) := by
  refine kM_start (cc := cX6_type) (maxL := 2) (ret := (some .int)) (by decide) rfl (Nat.le_of_ble_eq_true rfl) ?_
  intro p e s m below meth c hx hb hr hlocks hml hts hown hsz hA hG hP hD hS hin ls hl
  have hK := hG.1
  have hl : lv_has ls 2 [(0, .ref (a 100)), (1, .int (iI v))] := hl
  have hinX5 : ∀ w ∈ u_ws RX5 TX5 6, w ∈ wsX6_type := by decide +kernel
  have hinX6 : ∀ w ∈ u_ws RX6 TX6 8, w ∈ wsX6_type := by decide +kernel
  have hmw0 := hts (.fieldLink RX6 26 "ArcPlate" "script" "LArcPlate$Script;") (by decide +kernel)
  have hmw1 := hts (.fieldLink RX6 222 "ArcPlate$Script" "length" "I") (by decide +kernel)
  have hbody : ∀ (H : Heap) (locs : List Loc) (hP : va_P D vwCl (obscW cy a P) H) (hS : va_S (va_A (obscW cy a P) sz) s.heap H locs) (ls : Array Slot) (hl : lv_has ls 2 [(0, .ref (a 100)), (1, .int (iI v))]), W p l e { frames := 1, cells := 0, slots := 0, locals := 22 } s m ([.ref (a 100), .int (iI v)] : List Value).toArray below meth c H locs 0 0 (MQ below (kQi D (obscW cy a P) sz (fun u9 : Nat → Int → Int => obscW cy a u9) (fun r9 u9 => r9 = P 10 0 + 1 ∧ u9 = (upr (upr P 10 (ups (P 10) 0 (P 10 0 + 1))) 11 (ups (P 11) (P 10 0) v)))) ([.ref (a 100), .int (iI v)] : List Value).toArray s 0 0 (va_A (obscW cy a P) sz)) (F0 m 0 ls []) := by
    intro H locs hP hS ls hl
    refine lv_iload_n hx hb dX6_type_0 rfl (lv_at hl 1 rfl) ?_
    refine k_iconst hx hb dX6_type_1 ?_
    refine k_bipush hx hb dX6_type_2 (by decide +kernel) ?_
    refine k_roS (As := [.int (iI v), .int (iI 0), .int (iI 127)]) (rest := []) ⟨hx, hb, hml, hown, hts⟩ (c_X6_inRange l D v 0 127 (show -2147483648 ≤ v ∧ v ≤ 2147483647 by omega) (show -2147483648 ≤ 0 ∧ 0 ≤ 2147483647 by omega) (show -2147483648 ≤ 127 ∧ 127 ≤ 2147483647 by omega)) gX6_type_X6_inRange rfl ⟨rfl, rfl⟩ 3 rfl (by decide +kernel) ⟨Nat.le_of_ble_eq_true rfl, Nat.le_of_ble_eq_true rfl⟩ kGT_ok trivial (fun k q h => by simp at h) hl.1 rfl (Nat.le_of_ble_eq_true rfl) ⟨Nat.le_of_ble_eq_true rfl, Nat.le_of_ble_eq_true rfl⟩ dX6_type_4 (fun r_1 hr_1 => ?_)
    have hr_1 : ((0 ≤ v ∧ v ≤ 127) ∧ r_1 = 1) ∨ (¬ (0 ≤ v ∧ v ≤ 127) ∧ r_1 = 0) := hr_1
    rcases hr_1 with ⟨c_2, hr_1⟩ | ⟨c_2, hr_1⟩ <;> subst hr_1
    · skip
      refine k_if_eq (tgt := 14) hx hb dX6_type_7 (by decide) (by omega) (fun c_3 => ?_) (fun c_3 => ?_)
      · exfalso; omega
      · skip
        refine k_iconst hx hb dX6_type_10 ?_
        refine lv_goto (tgt := 15) hx hb dX6_type_11 (by decide) ?_
        refine k_rovS (As := [.int (iI 0)]) (rest := []) ⟨hx, hb, hml, hown, hts⟩ (c_X6_refuse l D) gX6_type_X6_refuse rfl ⟨rfl, rfl⟩ 1 rfl (by decide +kernel) ⟨Nat.le_of_ble_eq_true rfl, Nat.le_of_ble_eq_true rfl⟩ kGT_ok trivial (fun k q h => by simp at h) hl.1 rfl (Nat.le_of_ble_eq_true rfl) ⟨Nat.le_of_ble_eq_true rfl, Nat.le_of_ble_eq_true rfl⟩ dX6_type_15 ?_
        refine lv_aload_n hx hb dX6_type_18 rfl (lv_at hl 0 rfl) ?_
        refine va_get (D := D) (ci := 5) (v := .ref (a 10)) (C := RX6) (T := TX6) (N := 8) hx hb hts hinX6 hown hK hP 0 rfl rfl 2 (by decide) hmw0 (fun _ h9 => h9) rfl dX6_type_19 ?_
        refine va_get (D := D) (ci := 4) (v := .int (iI (P 10 0))) (C := RX5) (T := TX5) (N := 6) hx hb hts hinX5 hown hK hP 1 rfl rfl 0 (by decide) hmw1 (fun _ h9 => h9) rfl dX6_type_22 ?_
        refine k_sipush hx hb dX6_type_25 (by decide +kernel) ?_
        refine k_icmp_ge (tgt := 35) hx hb dX6_type_28 (by decide) (by omega) (by omega) (fun c_4 => ?_) (fun c_4 => ?_)
        · skip
          refine k_iconst hx hb dX6_type_35 ?_
          exfalso; first | omega | omega
        · skip
          refine k_iconst hx hb dX6_type_31 ?_
          refine lv_goto (tgt := 36) hx hb dX6_type_32 (by decide) ?_
          refine k_rovS (As := [.int (iI 0)]) (rest := []) ⟨hx, hb, hml, hown, hts⟩ (c_X6_refuse l D) gX6_type_X6_refuse rfl ⟨rfl, rfl⟩ 1 rfl (by decide +kernel) ⟨Nat.le_of_ble_eq_true rfl, Nat.le_of_ble_eq_true rfl⟩ kGT_ok trivial (fun k q h => by simp at h) hl.1 rfl (Nat.le_of_ble_eq_true rfl) ⟨Nat.le_of_ble_eq_true rfl, Nat.le_of_ble_eq_true rfl⟩ dX6_type_36 ?_
          refine lv_aload_n hx hb dX6_type_39 rfl (lv_at hl 0 rfl) ?_
          refine va_get (D := D) (ci := 5) (v := .ref (a 10)) (C := RX6) (T := TX6) (N := 8) hx hb hts hinX6 hown hK hP 0 rfl rfl 2 (by decide) hmw0 (fun _ h9 => h9) rfl dX6_type_40 ?_
          refine lv_iload_n hx hb dX6_type_43 rfl (lv_at hl 1 rfl) ?_
          have hPc := hP.sub (ws' := (scW cy a P)) [1, 2, 3, 4] rfl
          have hDc := hD.sub (ws' := (scW cy a P)) [1, 2, 3, 4] (by decide) rfl
          have hFc := va_free (wc := (scW cy a P)) hD hS hA [1, 2, 3, 4] rfl
          refine k_mui (k_runV (As := [.int (iI v)]) (rest := []) ⟨hx, hb, hml, hown, hts⟩ (c_X5_append l D cy H.size a P v (show 0 ≤ v ∧ v ≤ 127 by omega) (show 0 ≤ P 10 0 ∧ P 10 0 < 150 by omega)) gX6_type_X5_append rfl ⟨rfl, rfl⟩ 1 rfl (by decide +kernel) ⟨Nat.le_of_ble_eq_true rfl, Nat.le_of_ble_eq_true rfl⟩ (GG_ok D cy) hG hS hFc hPc hDc (va_recv hK hP (ci := 4) (q0 := 1) rfl rfl) hl.1 rfl (Nat.le_of_ble_eq_true rfl) ⟨Nat.le_of_ble_eq_true rfl, Nat.le_of_ble_eq_true rfl⟩ dX6_type_44) hFc hS (fun r_5 R_6 H1 locs1 hR_6 hP1 hD1 hS1 hk1 => ?_)
          have hR_6 : r_5 = P 10 0 + 1 ∧ R_6 = (upr (upr P 10 (ups (P 10) 0 (P 10 0 + 1))) 11 (ups (P 11) (P 10 0) v)) := hR_6
          obtain ⟨hr_5, rfl⟩ := hR_6
          have hr_5 : r_5 = P 10 0 + 1 := hr_5
          subst hr_5
          have hDn : va_D (va_A (obscW cy a P) sz) (obscW cy a (upr (upr P 10 (ups (P 10) 0 (P 10 0 + 1))) 11 (ups (P 11) (P 10 0) v))) := k_addr hD rfl
          have hPn := k_join (ws' := (obscW cy a (upr (upr P 10 (ups (P 10) 0 (P 10 0 + 1))) 11 (ups (P 11) (P 10 0) v)))) hP hD [1, 2, 3, 4] [none, some 0, some 1, some 2, some 3] rfl hk1 hP1 rfl rfl
          clear hP hD hS hP1 hD1 hk1
          have hP := hPn
          have hD := hDn
          have hS := hS1
          clear hPn hDn hS1
          generalize H1 = H at hP hS ⊢
          generalize locs1 = locs at hS ⊢
          exact W.iret (v := iI (P 10 0 + 1)) hx hb hr (fun t9 ht _ => ⟨⟨iI (P 10 0 + 1), (upr (upr P 10 (ups (P 10) 0 (P 10 0 + 1))) 11 (ups (P 11) (P 10 0) v)), rfl, ⟨(P 10 0 + 1), rfl, (⟨by first | rfl | omega, rfl⟩ : (P 10 0 + 1 : Int) = P 10 0 + 1 ∧ (upr (upr P 10 (ups (P 10) 0 (P 10 0 + 1))) 11 (ups (P 11) (P 10 0) v)) = (upr (upr P 10 (ups (P 10) 0 (P 10 0 + 1))) 11 (ups (P 11) (P 10 0) v)))⟩, by rw [ht]; exact hP, hD⟩, hS.F ht⟩) hS.2.2 dX6_type_47 hlocks
    · skip
      refine k_if_eq (tgt := 14) hx hb dX6_type_7 (by decide) (by omega) (fun c_7 => ?_) (fun c_7 => ?_)
      · skip
        refine k_iconst hx hb dX6_type_14 ?_
        exfalso; first | omega | omega
      · exfalso; omega
  exact hbody s.heap [] hP hS ls hl
set_option maxHeartbeats 4000000 in
set_option maxRecDepth 100000 in
theorem c_X6_type_t2 (l : Launch) (hl9 : l.stackTraces = false) (D : va_G) (cy : Nat → ClassId) (a : Nat → Nat) (P : Nat → Int → Int) (v : Int) (hrv : -2147483648 ≤ v ∧ v ≤ 2147483647) (hno : ¬ (0 ≤ v ∧ v ≤ 127)) : vx_Met l yX6_type wsX6_type { frames := 7, cells := 1, slots := 6, locals := 110 } (kPre (GX D cy) D (obscW cy a P) ([.ref (a 100), .int (iI v)] : List Value)) kNo (XK (exN 1)) 1 6 (fun _ => False) := by
  refine kTH_start (cc := cX6_type) (maxL := 2) (ret := (some .int)) (by decide) rfl (Nat.le_of_ble_eq_true rfl) ?_
  intro p e s m below meth c hx hb hr hlocks hml hts hown ht hG hP ls hl
  have hGe := hG.2
  have hGs := hG.1
  have hJd := hGs.2.1
  have hG := hGs.1
  have hK := hG.1
  have hl : lv_has ls 2 [(0, .ref (a 100)), (1, .int (iI v))] := hl
  refine lv_iload_n hx hb dX6_type_0 rfl (lv_at hl 1 rfl) ?_
  refine k_iconst hx hb dX6_type_1 ?_
  refine k_bipush hx hb dX6_type_2 (by decide +kernel) ?_
  refine k_roS (As := [.int (iI v), .int (iI 0), .int (iI 127)]) (rest := []) ⟨hx, hb, hml, hown, hts⟩ (c_X6_inRange l D v 0 127 (show -2147483648 ≤ v ∧ v ≤ 2147483647 by omega) (show -2147483648 ≤ 0 ∧ 0 ≤ 2147483647 by omega) (show -2147483648 ≤ 127 ∧ 127 ≤ 2147483647 by omega)) gX6_type_X6_inRange rfl ⟨rfl, rfl⟩ 3 rfl (by decide +kernel) ⟨Nat.le_of_ble_eq_true rfl, Nat.le_of_ble_eq_true rfl⟩ kGT_ok trivial (fun k q h => by simp at h) hl.1 rfl (Nat.le_of_ble_eq_true rfl) ⟨Nat.le_of_ble_eq_true rfl, Nat.le_of_ble_eq_true rfl⟩ dX6_type_4 (fun r_1 hr_1 => ?_)
  have hr_1 : ((0 ≤ v ∧ v ≤ 127) ∧ r_1 = 1) ∨ (¬ (0 ≤ v ∧ v ≤ 127) ∧ r_1 = 0) := hr_1
  rcases hr_1 with ⟨c_2, hr_1⟩ | ⟨c_2, hr_1⟩ <;> subst hr_1
  · skip
    refine k_if_eq (tgt := 14) hx hb dX6_type_7 (by decide) (by omega) (fun c_3 => ?_) (fun c_3 => ?_)
    · exfalso; omega
    · skip
      refine k_iconst hx hb dX6_type_10 ?_
      refine lv_goto (tgt := 15) hx hb dX6_type_11 (by decide) ?_
      exfalso; first | omega | omega
  · skip
    refine k_if_eq (tgt := 14) hx hb dX6_type_7 (by decide) (by omega) (fun c_4 => ?_) (fun c_4 => ?_)
    · skip
      refine k_iconst hx hb dX6_type_14 ?_
      exact k_thS (As := [.int (iI 2)]) (rest := []) ⟨hx, hb, hml, hown, hts⟩ (c_X6_refuse2 l hl9 D) gX6_type_X6_refuse rfl ⟨rfl, rfl⟩ 1 rfl (by decide +kernel) ⟨Nat.le_of_ble_eq_true rfl, Nat.le_of_ble_eq_true rfl⟩ exA_ok hGe (fun k q h => by simp at h) hl.1 rfl (Nat.le_of_ble_eq_true rfl) ⟨Nat.le_of_ble_eq_true rfl, Nat.le_of_ble_eq_true rfl⟩ dX6_type_15 ht hlocks
    · exfalso; omega
set_option maxHeartbeats 4000000 in
set_option maxRecDepth 100000 in
theorem c_X6_type_t3 (l : Launch) (hl9 : l.stackTraces = false) (D : va_G) (cy : Nat → ClassId) (a : Nat → Nat) (P : Nat → Int → Int) (v : Int) (hv : 0 ≤ v ∧ v ≤ 127) (hno : P 10 0 = 150) : vx_Met l yX6_type wsX6_type { frames := 7, cells := 1, slots := 6, locals := 110 } (kPre (GX D cy) D (obscW cy a P) ([.ref (a 100), .int (iI v)] : List Value)) kNo (XK (exN 2)) 1 6 (fun _ => False) := by
  refine kTH_start (cc := cX6_type) (maxL := 2) (ret := (some .int)) (by decide) rfl (Nat.le_of_ble_eq_true rfl) ?_
  intro p e s m below meth c hx hb hr hlocks hml hts hown ht hG hP ls hl
  have hGe := hG.2
  have hGs := hG.1
  have hJd := hGs.2.1
  have hG := hGs.1
  have hK := hG.1
  have hl : lv_has ls 2 [(0, .ref (a 100)), (1, .int (iI v))] := hl
  have hinX5 : ∀ w ∈ u_ws RX5 TX5 6, w ∈ wsX6_type := by decide +kernel
  have hinX6 : ∀ w ∈ u_ws RX6 TX6 8, w ∈ wsX6_type := by decide +kernel
  have hmw0 := hts (.fieldLink RX6 26 "ArcPlate" "script" "LArcPlate$Script;") (by decide +kernel)
  have hmw1 := hts (.fieldLink RX6 222 "ArcPlate$Script" "length" "I") (by decide +kernel)
  refine lv_iload_n hx hb dX6_type_0 rfl (lv_at hl 1 rfl) ?_
  refine k_iconst hx hb dX6_type_1 ?_
  refine k_bipush hx hb dX6_type_2 (by decide +kernel) ?_
  refine k_roS (As := [.int (iI v), .int (iI 0), .int (iI 127)]) (rest := []) ⟨hx, hb, hml, hown, hts⟩ (c_X6_inRange l D v 0 127 (show -2147483648 ≤ v ∧ v ≤ 2147483647 by omega) (show -2147483648 ≤ 0 ∧ 0 ≤ 2147483647 by omega) (show -2147483648 ≤ 127 ∧ 127 ≤ 2147483647 by omega)) gX6_type_X6_inRange rfl ⟨rfl, rfl⟩ 3 rfl (by decide +kernel) ⟨Nat.le_of_ble_eq_true rfl, Nat.le_of_ble_eq_true rfl⟩ kGT_ok trivial (fun k q h => by simp at h) hl.1 rfl (Nat.le_of_ble_eq_true rfl) ⟨Nat.le_of_ble_eq_true rfl, Nat.le_of_ble_eq_true rfl⟩ dX6_type_4 (fun r_1 hr_1 => ?_)
  have hr_1 : ((0 ≤ v ∧ v ≤ 127) ∧ r_1 = 1) ∨ (¬ (0 ≤ v ∧ v ≤ 127) ∧ r_1 = 0) := hr_1
  rcases hr_1 with ⟨c_2, hr_1⟩ | ⟨c_2, hr_1⟩ <;> subst hr_1
  · skip
    refine k_if_eq (tgt := 14) hx hb dX6_type_7 (by decide) (by omega) (fun c_3 => ?_) (fun c_3 => ?_)
    · exfalso; omega
    · skip
      refine k_iconst hx hb dX6_type_10 ?_
      refine lv_goto (tgt := 15) hx hb dX6_type_11 (by decide) ?_
      refine k_rovS (As := [.int (iI 0)]) (rest := []) ⟨hx, hb, hml, hown, hts⟩ (c_X6_refuse l D) gX6_type_X6_refuse rfl ⟨rfl, rfl⟩ 1 rfl (by decide +kernel) ⟨Nat.le_of_ble_eq_true rfl, Nat.le_of_ble_eq_true rfl⟩ kGT_ok trivial (fun k q h => by simp at h) hl.1 rfl (Nat.le_of_ble_eq_true rfl) ⟨Nat.le_of_ble_eq_true rfl, Nat.le_of_ble_eq_true rfl⟩ dX6_type_15 ?_
      refine lv_aload_n hx hb dX6_type_18 rfl (lv_at hl 0 rfl) ?_
      refine va_get (D := D) (ci := 5) (v := .ref (a 10)) (C := RX6) (T := TX6) (N := 8) hx hb hts hinX6 hown hK hP 0 rfl rfl 2 (by decide) hmw0 (fun _ h9 => h9) rfl dX6_type_19 ?_
      refine va_get (D := D) (ci := 4) (v := .int (iI (P 10 0))) (C := RX5) (T := TX5) (N := 6) hx hb hts hinX5 hown hK hP 1 rfl rfl 0 (by decide) hmw1 (fun _ h9 => h9) rfl dX6_type_22 ?_
      refine k_sipush hx hb dX6_type_25 (by decide +kernel) ?_
      refine k_icmp_ge (tgt := 35) hx hb dX6_type_28 (by decide) (by omega) (by omega) (fun c_4 => ?_) (fun c_4 => ?_)
      · skip
        refine k_iconst hx hb dX6_type_35 ?_
        exact k_thS (As := [.int (iI 3)]) (rest := []) ⟨hx, hb, hml, hown, hts⟩ (c_X6_refuse3 l hl9 D) gX6_type_X6_refuse rfl ⟨rfl, rfl⟩ 1 rfl (by decide +kernel) ⟨Nat.le_of_ble_eq_true rfl, Nat.le_of_ble_eq_true rfl⟩ exA_ok hGe (fun k q h => by simp at h) hl.1 rfl (Nat.le_of_ble_eq_true rfl) ⟨Nat.le_of_ble_eq_true rfl, Nat.le_of_ble_eq_true rfl⟩ dX6_type_36 ht hlocks
      · skip
        refine k_iconst hx hb dX6_type_31 ?_
        refine lv_goto (tgt := 36) hx hb dX6_type_32 (by decide) ?_
        exfalso; first | omega | omega
  · skip
    refine k_if_eq (tgt := 14) hx hb dX6_type_7 (by decide) (by omega) (fun c_5 => ?_) (fun c_5 => ?_)
    · skip
      refine k_iconst hx hb dX6_type_14 ?_
      exfalso; first | omega | omega
    · exfalso; omega