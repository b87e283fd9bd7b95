set_option maxHeartbeats 4000000 in
set_option maxRecDepth 100000 in
theorem c_X6_keepState (l : Launch) (D : va_G) (cy : Nat → ClassId) (sz : Nat) (a : Nat → Nat) (P : Nat → Int → Int)  (hI : Inv (mO P)) (hsv : 0 ≤ P 50 1 ∧ P 50 1 ≤ 4) : Met l yX6_keepState wsX6_keepState { frames := 4, cells := 0, slots := 0, locals := 85 } (mPre (GG D cy) D (obhsW cy a P) sz ([.ref (a 100)] : List Value)) (kQv D (obhsW cy a P) sz (fun u9 : (Nat → Nat) × (Nat → Int → Int) => obhsW cy (pgm a u9.1) u9.2) (fun u9 => (∀ c9 : Nat, c9 < 50 → u9.2 c9 = P c9) ∧ u9.2 100 = ups (P 100) 6 0 ∧ kept2 P u9.2)) 0 0 (va_A (obhsW cy a P) sz) := by
  refine kM_start (cc := cX6_keepState) (maxL := 1) (ret := none) (by decide) rfl (Nat.le_of_ble_eq_true rfl) ?_
  intro p e s m below meth c hx hb hr hlocks hml hts hown hsz hA hG hP hD hS hin ls hl
  have hK := hG.1
  have hl : lv_has ls 1 [(0, .ref (a 100))] := hl
  have hinX6 : ∀ w ∈ u_ws RX6 TX6 8, w ∈ wsX6_keepState := by decide +kernel
  have hmw0 := hts (.fieldLink RX6 19 "ArcPlate" "history" "LArcPlate$History;") (by decide +kernel)
  have hmw1 := hts (.fieldLink RX6 10 "ArcPlate" "plate" "LArcPlate$Plate;") (by decide +kernel)
  have hmw2 := hts (.fieldLink RX6 47 "ArcPlate" "looked" "Z") (by decide +kernel)
  have hbody : ∀ (H : Heap) (locs : List Loc) (hP : va_P D vwCl (obhsW cy a P) H) (hS : va_S (va_A (obhsW cy a P) sz) s.heap H locs) (ls : Array Slot) (hl : lv_has ls 1 [(0, .ref (a 100))]), W p l e { frames := 4, cells := 0, slots := 0, locals := 85 } s m ([.ref (a 100)] : List Value).toArray below meth c H locs 0 0 (MQ below (kQv D (obhsW cy a P) sz (fun u9 : (Nat → Nat) × (Nat → Int → Int) => obhsW cy (pgm a u9.1) u9.2) (fun u9 => (∀ c9 : Nat, c9 < 50 → u9.2 c9 = P c9) ∧ u9.2 100 = ups (P 100) 6 0 ∧ kept2 P u9.2)) ([.ref (a 100)] : List Value).toArray s 0 0 (va_A (obhsW cy a P) sz)) (F0 m 0 ls []) := by
    intro H locs hP hS ls hl
    refine lv_aload_n hx hb dX6_keepState_0 rfl (lv_at hl 0 rfl) ?_
    refine va_get (D := D) (ci := 5) (v := .ref (a 50)) (C := RX6) (T := TX6) (N := 8) hx hb hts hinX6 hown hK hP 0 rfl rfl 1 (by decide) hmw0 (fun _ h9 => h9) rfl dX6_keepState_1 ?_
    refine lv_aload_n hx hb dX6_keepState_4 rfl (lv_at hl 0 rfl) ?_
    refine va_get (D := D) (ci := 5) (v := .ref (a 0)) (C := RX6) (T := TX6) (N := 8) hx hb hts hinX6 hown hK hP 0 rfl rfl 0 (by decide) hmw1 (fun _ h9 => h9) rfl dX6_keepState_5 ?_
    have hPc := hP.sub (ws' := (hsplW cy a P)) [1, 2, 3, 4, 5, 6, 7, 8, 9, 10, 11, 12, 13, 14, 15, 16, 17, 18, 19, 20, 21, 22, 23, 24, 25, 26, 27, 28, 29, 30, 31, 32, 33, 34, 35, 36, 37, 38, 39, 40, 41, 42, 43, 44, 45, 46, 47] rfl
    have hDc := hD.sub (ws' := (hsplW cy a P)) [1, 2, 3, 4, 5, 6, 7, 8, 9, 10, 11, 12, 13, 14, 15, 16, 17, 18, 19, 20, 21, 22, 23, 24, 25, 26, 27, 28, 29, 30, 31, 32, 33, 34, 35, 36, 37, 38, 39, 40, 41, 42, 43, 44, 45, 46, 47] (by decide) rfl
    have hFc := va_free (wc := (hsplW cy a P)) hD hS hA [1, 2, 3, 4, 5, 6, 7, 8, 9, 10, 11, 12, 13, 14, 15, 16, 17, 18, 19, 20, 21, 22, 23, 24, 25, 26, 27, 28, 29, 30, 31, 32, 33, 34, 35, 36, 37, 38, 39, 40, 41, 42, 43, 44, 45, 46, 47] rfl
    refine k_muv (k_runV (As := [.ref (a 0)]) (rest := []) ⟨hx, hb, hml, hown, hts⟩ (c_X2_save l D cy H.size a P hI (show 0 ≤ P 50 1 ∧ P 50 1 ≤ 4 by omega)) gX6_keepState_X2_save rfl ⟨rfl, rfl⟩ 1 rfl (by decide +kernel) ⟨Nat.le_of_ble_eq_true rfl, Nat.le_of_ble_eq_true rfl⟩ (GG_ok D cy) hG hS hFc hPc hDc (va_recv hK hP (ci := 1) (q0 := 1) rfl rfl) hl.1 rfl (Nat.le_of_ble_eq_true rfl) ⟨Nat.le_of_ble_eq_true rfl, Nat.le_of_ble_eq_true rfl⟩ dX6_keepState_8) hFc hS (fun R_2 H1 locs1 hR_2 hP1 hD1 hS1 hk1 => ?_)
    obtain ⟨g_3, Q_4⟩ := R_2
    have hR_2 : kept P Q_4 := hR_2
    have hDn : va_D (va_A (obhsW cy a P) sz) (obhsW cy (pgm a g_3) (upr Q_4 100 (P 100))) := k_joinD (ws' := (obhsW cy (pgm a g_3) (upr Q_4 100 (P 100)))) hP hD [1, 2, 3, 4, 5, 6, 7, 8, 9, 10, 11, 12, 13, 14, 15, 16, 17, 18, 19, 20, 21, 22, 23, 24, 25, 26, 27, 28, 29, 30, 31, 32, 33, 34, 35, 36, 37, 38, 39, 40, 41, 42, 43, 44, 45, 46, 47] [none, some 0, some 1, some 2, some 3, some 4, some 5, some 6, some 7, some 8, some 9, some 10, some 11, some 12, some 13, some 14, some 15, some 16, some 17, some 18, some 19, some 20, some 21, some 22, some 23, some 24, some 25, some 26, some 27, some 28, some 29, some 30, some 31, some 32, some 33, some 34, some 35, some 36, some 37, some 38, some 39, some 40, some 41, some 42, some 43, some 44, some 45, some 46] rfl hFc hD1 rfl rfl (by decide)
    have hPn := k_join (ws' := (obhsW cy (pgm a g_3) (upr Q_4 100 (P 100)))) hP hD [1, 2, 3, 4, 5, 6, 7, 8, 9, 10, 11, 12, 13, 14, 15, 16, 17, 18, 19, 20, 21, 22, 23, 24, 25, 26, 27, 28, 29, 30, 31, 32, 33, 34, 35, 36, 37, 38, 39, 40, 41, 42, 43, 44, 45, 46, 47] [none, some 0, some 1, some 2, some 3, some 4, some 5, some 6, some 7, some 8, some 9, some 10, some 11, some 12, some 13, some 14, some 15, some 16, some 17, some 18, some 19, some 20, some 21, some 22, some 23, some 24, some 25, some 26, some 27, some 28, some 29, some 30, some 31, some 32, some 33, some 34, some 35, some 36, some 37, some 38, some 39, some 40, some 41, some 42, some 43, some 44, some 45, some 46] rfl hk1 hP1 rfl rfl
    clear hP hD hS hP1 hD1 hk1
    have hP := hPn
    have hD := hDn
    have hS := hS1
    clear hPn hDn hS1
    generalize H1 = H at hP hS ⊢
    generalize locs1 = locs at hS ⊢
    have hkt := hR_2
    refine lv_aload_n hx hb dX6_keepState_11 rfl (lv_at hl 0 rfl) ?_
    refine k_iconst hx hb dX6_keepState_12 ?_
    refine va_put (D := D) (ci := 5) (v := .int (iI 0)) (ty := .boolean) (C := RX6) (T := TX6) (N := 8) hx hb hts hinX6 tyX6 tyX6_ok nmX6 hown hK hP hD hS 0 rfl rfl 6 (by decide) hmw2 (fun _ h9 => h9) rfl (by decide +kernel) (by decide +kernel) (by decide +kernel) (Nat.le_of_ble_eq_true rfl) dX6_keepState_13 (fun H locs hP hD hS => ?_)
    have hP : va_P D vwCl (obhsW cy (pgm a g_3) (upr Q_4 100 (ups (P 100) 6 0))) H := hP
    have hD : va_D (va_A (obhsW cy a P) sz) (obhsW cy (pgm a g_3) (upr Q_4 100 (ups (P 100) 6 0))) := hD
    exact W.vret hx hb hr (fun t9 ht _ => ⟨⟨(g_3, (upr Q_4 100 (ups (P 100) 6 0))), rfl, (⟨fun c9 h9 => by rw [upr_o _ _ (by omega)]; exact hkt.1.1 c9 h9, rfl, kept2_up hsv (fun c9 h9 h8 => upr_o _ _ (by omega)) hkt.2⟩ : (∀ c9 : Nat, c9 < 50 → (upr Q_4 100 (ups (P 100) 6 0)) c9 = P c9) ∧ (upr Q_4 100 (ups (P 100) 6 0)) 100 = ups (P 100) 6 0 ∧ kept2 P (upr Q_4 100 (ups (P 100) 6 0))), by rw [ht]; exact hP, hD⟩, hS.F ht⟩) hS.2.2 dX6_keepState_16 hlocks
  exact hbody s.heap [] hP hS ls hl
set_option maxHeartbeats 4000000 in
set_option maxRecDepth 100000 in
theorem c_X6_addTrail (l : Launch) (D : va_G) (cy : Nat → ClassId) (sz : Nat) (a : Nat → Nat) (P : Nat → Int → Int)  (hI : Inv (mO P)) (hsv : 0 ≤ P 50 1 ∧ P 50 1 ≤ 4) (hok : P 0 0 < 12) : Met l yX6_addTrail wsX6_addTrail { frames := 5, cells := 0, slots := 0, locals := 105 } (mPre (GG D cy) D (obhsW cy a P) sz ([.ref (a 100)] : List Value)) (kQi D (obhsW cy a P) sz (fun u9 : (Nat → Nat) × (Nat → Int → Int) => obhsW cy (pgm a u9.1) u9.2) (fun r9 u9 => r9 = P 0 0 ∧ opd P u9.2 (mO (cAT P)))) 0 0 (va_A (obhsW cy a P) sz) := by
  refine kM_start (cc := cX6_addTrail) (maxL := 1) (ret := (some .int)) (by decide) rfl (Nat.le_of_ble_eq_true rfl) ?_
  intro p e s m below meth c hx hb hr hlocks hml hts hown hsz hA hG hP hD hS hin ls hl
  have hK := hG.1
  have hl : lv_has ls 1 [(0, .ref (a 100))] := hl
  have hinX6 : ∀ w ∈ u_ws RX6 TX6 8, w ∈ wsX6_addTrail := by decide +kernel
  have hmw0 := hts (.fieldLink RX6 10 "ArcPlate" "plate" "LArcPlate$Plate;") (by decide +kernel)
  have hS0 := po_S hI
  have hbody : ∀ (H : Heap) (locs : List Loc) (hP : va_P D vwCl (obhsW cy a P) H) (hS : va_S (va_A (obhsW cy a P) sz) s.heap H locs) (ls : Array Slot) (hl : lv_has ls 1 [(0, .ref (a 100))]), W p l e { frames := 5, cells := 0, slots := 0, locals := 105 } s m ([.ref (a 100)] : List Value).toArray below meth c H locs 0 0 (MQ below (kQi D (obhsW cy a P) sz (fun u9 : (Nat → Nat) × (Nat → Int → Int) => obhsW cy (pgm a u9.1) u9.2) (fun r9 u9 => r9 = P 0 0 ∧ opd P u9.2 (mO (cAT P)))) ([.ref (a 100)] : List Value).toArray s 0 0 (va_A (obhsW cy a P) sz)) (F0 m 0 ls []) := by
    intro H locs hP hS ls hl
    refine lv_aload_n hx hb dX6_addTrail_0 rfl (lv_at hl 0 rfl) ?_
    refine va_get (D := D) (ci := 5) (v := .ref (a 0)) (C := RX6) (T := TX6) (N := 8) hx hb hts hinX6 hown hK hP 0 rfl rfl 0 (by decide) hmw0 (fun _ h9 => h9) rfl dX6_addTrail_1 ?_
    refine k_roV (As := []) (rest := []) ⟨hx, hb, hml, hown, hts⟩ (c_X4_faultOfNewTrail l D cy a P hI) gX6_addTrail_X4_faultOfNewTrail rfl ⟨rfl, rfl⟩ 0 rfl (by decide +kernel) ⟨Nat.le_of_ble_eq_true rfl, Nat.le_of_ble_eq_true rfl⟩ (GG_ok D cy) ((GG_ok D cy).2.2.2 _ _ _ _ (fun _ h => h.elim) ((GG_ok D cy).1 _ _ _ _ hS.2.1 hG)) (hP.sub (ws' := (plW cy a P)) [39, 40, 41, 42, 43, 44, 45, 46, 47] rfl) (va_recv hK hP (ci := 3) (q0 := 39) rfl rfl) hl.1 rfl (Nat.le_of_ble_eq_true rfl) ⟨Nat.le_of_ble_eq_true rfl, Nat.le_of_ble_eq_true rfl⟩ dX6_addTrail_4 (fun r_1 hr_1 => ?_)
    have hr_1 : ((P 0 0 < 12) ∧ r_1 = 0) ∨ ((P 0 0 = 12) ∧ r_1 = 3) := hr_1
    rcases hr_1 with ⟨c_2, hr_1⟩ | ⟨c_2, hr_1⟩ <;> subst hr_1
    · skip
      refine k_rovS (As := [.int (iI 0)]) (rest := []) ⟨hx, hb, hml, hown, hts⟩ (c_X6_refuse l D) gX6_addTrail_X6_refuse rfl ⟨rfl, rfl⟩ 1 rfl (by decide +kernel) ⟨Nat.le_of_ble_eq_true rfl, Nat.le_of_ble_eq_true rfl⟩ kGT_ok trivial (fun k q h => by simp at h) hl.1 rfl (Nat.le_of_ble_eq_true rfl) ⟨Nat.le_of_ble_eq_true rfl, Nat.le_of_ble_eq_true rfl⟩ dX6_addTrail_7 ?_
      refine lv_aload_n hx hb dX6_addTrail_10 rfl (lv_at hl 0 rfl) ?_
      refine k_muv (k_runV (As := []) (rest := []) ⟨hx, hb, hml, hown, hts⟩ (c_X6_keepState l D cy H.size a P hI (show 0 ≤ P 50 1 ∧ P 50 1 ≤ 4 by omega)) gX6_addTrail_X6_keepState rfl ⟨rfl, rfl⟩ 0 rfl (by decide +kernel) ⟨Nat.le_of_ble_eq_true rfl, Nat.le_of_ble_eq_true rfl⟩ (GG_ok D cy) hG hS (k_free hD hS hA) hP hD (va_recv hK hP (ci := 5) (q0 := 0) rfl rfl) hl.1 rfl (Nat.le_of_ble_eq_true rfl) ⟨Nat.le_of_ble_eq_true rfl, Nat.le_of_ble_eq_true rfl⟩ dX6_addTrail_11) (k_free hD hS hA) hS (fun R_4 H1 locs1 hR_4 hP1 hD1 hS1 hk1 => ?_)
      obtain ⟨g_5, Q_6⟩ := R_4
      have hR_4 : (∀ c9 : Nat, c9 < 50 → Q_6 c9 = P c9) ∧ Q_6 100 = ups (P 100) 6 0 ∧ kept2 P Q_6 := hR_4
      have hDn : va_D (va_A (obhsW cy a P) sz) (obhsW cy (pgm a g_5) (upr (upr (upr (upr (upr (upr (upr (upr (upr Q_6 0 (P 0)) 1 (P 1)) 2 (P 2)) 3 (P 3)) 4 (P 4)) 5 (P 5)) 6 (P 6)) 7 (P 7)) 8 (P 8))) := k_addr (A := va_A (obhsW cy a P) sz) (⟨hD1.1, fun k9 q9 h9 => (k_free hD hS hA) q9.1 (hD1.2 k9 q9 h9)⟩) rfl
      have hPn : va_P D vwCl (obhsW cy (pgm a g_5) (upr (upr (upr (upr (upr (upr (upr (upr (upr Q_6 0 (P 0)) 1 (P 1)) 2 (P 2)) 3 (P 3)) 4 (P 4)) 5 (P 5)) 6 (P 6)) 7 (P 7)) 8 (P 8))) H1 := by rw [← keep9 hR_4.1]; exact hP1
      clear hP hD hS hP1 hD1 hk1
      have hP := hPn
      have hD := hDn
      have hS := hS1
      clear hPn hDn hS1
      generalize H1 = H at hP hS ⊢
      generalize locs1 = locs at hS ⊢
      obtain ⟨hq, h100, hkp⟩ := hR_4
      refine lv_aload_n hx hb dX6_addTrail_14 rfl (lv_at hl 0 rfl) ?_
      refine va_get (D := D) (ci := 5) (v := .ref ((pgm a g_5) 0)) (C := RX6) (T := TX6) (N := 8) hx hb hts hinX6 hown hK hP 0 rfl rfl 0 (by decide) hmw0 (fun _ h9 => h9) rfl dX6_addTrail_15 ?_
      have hPc := hP.sub (ws' := (plW cy (pgm a g_5) (upr (upr (upr (upr (upr (upr (upr (upr (upr Q_6 0 (P 0)) 1 (P 1)) 2 (P 2)) 3 (P 3)) 4 (P 4)) 5 (P 5)) 6 (P 6)) 7 (P 7)) 8 (P 8)))) [39, 40, 41, 42, 43, 44, 45, 46, 47] rfl
      have hDc := hD.sub (ws' := (plW cy (pgm a g_5) (upr (upr (upr (upr (upr (upr (upr (upr (upr Q_6 0 (P 0)) 1 (P 1)) 2 (P 2)) 3 (P 3)) 4 (P 4)) 5 (P 5)) 6 (P 6)) 7 (P 7)) 8 (P 8)))) [39, 40, 41, 42, 43, 44, 45, 46, 47] (by decide) rfl
      have hFc := va_free (wc := (plW cy (pgm a g_5) (upr (upr (upr (upr (upr (upr (upr (upr (upr Q_6 0 (P 0)) 1 (P 1)) 2 (P 2)) 3 (P 3)) 4 (P 4)) 5 (P 5)) 6 (P 6)) 7 (P 7)) 8 (P 8)))) hD hS hA [39, 40, 41, 42, 43, 44, 45, 46, 47] rfl
      refine k_mui (k_runV (As := []) (rest := []) ⟨hx, hb, hml, hown, hts⟩ (c_X4_putTrail l D cy H.size (pgm a g_5) (upr (upr (upr (upr (upr (upr (upr (upr (upr Q_6 0 (P 0)) 1 (P 1)) 2 (P 2)) 3 (P 3)) 4 (P 4)) 5 (P 5)) 6 (P 6)) 7 (P 7)) 8 (P 8)) (show 0 ≤ (P 0) 0 ∧ (P 0) 0 < 12 by omega)) gX6_addTrail_X4_putTrail rfl ⟨rfl, rfl⟩ 0 rfl (by decide +kernel) ⟨Nat.le_of_ble_eq_true rfl, Nat.le_of_ble_eq_true rfl⟩ (GG_ok D cy) hG hS hFc hPc hDc (va_recv hK hP (ci := 3) (q0 := 39) rfl rfl) hl.1 rfl (Nat.le_of_ble_eq_true rfl) ⟨Nat.le_of_ble_eq_true rfl, Nat.le_of_ble_eq_true rfl⟩ dX6_addTrail_18) hFc hS (fun r_7 R_8 H1 locs1 hR_8 hP1 hD1 hS1 hk1 => ?_)
      have hR_8 : r_7 = (P 0) 0 ∧ R_8 = (upr (upr (upr (upr (upr (upr (upr (upr (upr (upr (upr Q_6 0 (P 0)) 1 (P 1)) 2 (P 2)) 3 (P 3)) 4 (P 4)) 5 (P 5)) 6 (P 6)) 7 (P 7)) 8 (P 8)) 0 (ups ((P 0)) 0 ((P 0) 0 + 1))) 1 (ups ((P 1)) ((P 0) 0) 0)) := hR_8
      obtain ⟨hr_7, rfl⟩ := hR_8
      have hr_7 : r_7 = (P 0) 0 := hr_7
      subst hr_7
      have hDn : va_D (va_A (obhsW cy a P) sz) (obhsW cy (pgm a g_5) (upr (upr (upr (upr (upr (upr (upr (upr (upr Q_6 0 (ups ((P 0)) 0 ((P 0) 0 + 1))) 1 (ups ((P 1)) ((P 0) 0) 0)) 2 (P 2)) 3 (P 3)) 4 (P 4)) 5 (P 5)) 6 (P 6)) 7 (P 7)) 8 (P 8))) := k_addr hD rfl
      have hPn := k_join (ws' := (obhsW cy (pgm a g_5) (upr (upr (upr (upr (upr (upr (upr (upr (upr Q_6 0 (ups ((P 0)) 0 ((P 0) 0 + 1))) 1 (ups ((P 1)) ((P 0) 0) 0)) 2 (P 2)) 3 (P 3)) 4 (P 4)) 5 (P 5)) 6 (P 6)) 7 (P 7)) 8 (P 8)))) hP hD [39, 40, 41, 42, 43, 44, 45, 46, 47] [none, none, none, none, none, none, none, none, none, none, none, none, none, none, none, none, none, none, none, none, none, none, none, none, none, none, none, none, none, none, none, none, none, none, none, none, none, none, none, some 0, some 1, some 2, some 3, some 4, some 5, some 6, some 7, some 8] rfl hk1 hP1 rfl rfl
      clear hP hD hS hP1 hD1 hk1
      have hP := hPn
      have hD := hDn
      have hS := hS1
      clear hPn hDn hS1
      generalize H1 = H at hP hS ⊢
      generalize locs1 = locs at hS ⊢
      exact W.iret (v := iI ((P 0) 0)) hx hb hr (fun t9 ht _ => ⟨⟨iI ((P 0) 0), (g_5, (upr (upr (upr (upr (upr (upr (upr (upr (upr Q_6 0 (ups ((P 0)) 0 ((P 0) 0 + 1))) 1 (ups ((P 1)) ((P 0) 0) 0)) 2 (P 2)) 3 (P 3)) 4 (P 4)) 5 (P 5)) 6 (P 6)) 7 (P 7)) 8 (P 8))), rfl, ⟨((P 0) 0), rfl, (⟨rfl, opd_of hsv hq h100 hkp (fun c9 h9 => by (repeat rw [upr_o _ _ (by omega)])) (rfl)⟩ : ((P 0) 0 : Int) = P 0 0 ∧ opd P (upr (upr (upr (upr (upr (upr (upr (upr (upr Q_6 0 (ups ((P 0)) 0 ((P 0) 0 + 1))) 1 (ups ((P 1)) ((P 0) 0) 0)) 2 (P 2)) 3 (P 3)) 4 (P 4)) 5 (P 5)) 6 (P 6)) 7 (P 7)) 8 (P 8)) (mO (cAT P)))⟩, by rw [ht]; exact hP, hD⟩, hS.F ht⟩) hS.2.2 dX6_addTrail_21 hlocks
    · skip
      exfalso; first | omega | omega
  exact hbody s.heap [] hP hS ls hl
set_option maxHeartbeats 4000000 in
set_option maxRecDepth 100000 in
theorem c_X6_addTrail_t3 (l : Launch) (hl9 : l.stackTraces = false) (D : va_G) (cy : Nat → ClassId) (a : Nat → Nat) (P : Nat → Int → Int)  (hI : Inv (mO P)) (hno : P 0 0 = 12) : vx_Met l yX6_addTrail wsX6_addTrail { frames := 7, cells := 1, slots := 6, locals := 110 } (kPre (GX D cy) D (obplW cy a P) ([.ref (a 100)] : List Value)) kNo (XK (exN 2)) 1 6 (fun _ => False) := by
  refine kTH_start (cc := cX6_addTrail) (maxL := 1) (ret := (some .int)) (by decide) rfl (Nat.le_of_ble_eq_true rfl) ?_
  intro p e s m below meth c hx hb hr hlocks hml hts hown ht hG hP ls hl
  have hGe := hG.2
  have hGs := hG.1
  have hJd := hGs.2.1
  have hG := hGs.1
  have hK := hG.1
  have hl : lv_has ls 1 [(0, .ref (a 100))] := hl
  have hinX6 : ∀ w ∈ u_ws RX6 TX6 8, w ∈ wsX6_addTrail := by decide +kernel
  have hmw0 := hts (.fieldLink RX6 10 "ArcPlate" "plate" "LArcPlate$Plate;") (by decide +kernel)
  have hS0 := po_S hI
  refine lv_aload_n hx hb dX6_addTrail_0 rfl (lv_at hl 0 rfl) ?_
  refine va_get (D := D) (ci := 5) (v := .ref (a 0)) (C := RX6) (T := TX6) (N := 8) hx hb hts hinX6 hown hK hP 0 rfl rfl 0 (by decide) hmw0 (fun _ h9 => h9) rfl dX6_addTrail_1 ?_
  refine k_roV (As := []) (rest := []) ⟨hx, hb, hml, hown, hts⟩ (c_X4_faultOfNewTrail l D cy a P hI) gX6_addTrail_X4_faultOfNewTrail rfl ⟨rfl, rfl⟩ 0 rfl (by decide +kernel) ⟨Nat.le_of_ble_eq_true rfl, Nat.le_of_ble_eq_true rfl⟩ (GG_ok D cy) hG (hP.sub (ws' := (plW cy a P)) [1, 2, 3, 4, 5, 6, 7, 8, 9] rfl) (va_recv hK hP (ci := 3) (q0 := 1) rfl rfl) hl.1 rfl (Nat.le_of_ble_eq_true rfl) ⟨Nat.le_of_ble_eq_true rfl, Nat.le_of_ble_eq_true rfl⟩ dX6_addTrail_4 (fun r_1 hr_1 => ?_)
  have hr_1 : ((P 0 0 < 12) ∧ r_1 = 0) ∨ ((P 0 0 = 12) ∧ r_1 = 3) := hr_1
  rcases hr_1 with ⟨c_2, hr_1⟩ | ⟨c_2, hr_1⟩ <;> subst hr_1
  · skip
    exfalso; first | omega | omega
  · skip
    exact k_thS (As := [.int (iI 3)]) (rest := []) ⟨hx, hb, hml, hown, hts⟩ (c_X6_refuse3 l hl9 D) gX6_addTrail_X6_refuse rfl ⟨rfl, rfl⟩ 1 rfl (by decide +kernel) ⟨Nat.le_of_ble_eq_true rfl, Nat.le_of_ble_eq_true rfl⟩ exA_ok hGe (fun k q h => by simp at h) hl.1 rfl (Nat.le_of_ble_eq_true rfl) ⟨Nat.le_of_ble_eq_true rfl, Nat.le_of_ble_eq_true rfl⟩ dX6_addTrail_7 ht hlocks
set_option maxHeartbeats 4000000 in
set_option maxRecDepth 100000 in
theorem c_X6_removeTrail (l : Launch) (D : va_G) (cy : Nat → ClassId) (sz : Nat) (a : Nat → Nat) (P : Nat → Int → Int) (t : Int) (hI : Inv (mO P)) (hsv : 0 ≤ P 50 1 ∧ P 50 1 ≤ 4) (h0 : 0 ≤ t) (h1 : t < P 0 0) : Met l yX6_removeTrail wsX6_removeTrail { frames := 5, cells := 0, slots := 0, locals := 105 } (mPre (GG D cy) D (obhsW cy a P) sz ([.ref (a 100), .int (iI t)] : List Value)) (kQi D (obhsW cy a P) sz (fun u9 : (Nat → Nat) × (Nat → Int → Int) => obhsW cy (pgm a u9.1) u9.2) (fun r9 u9 => r9 = P 0 0 - 1 ∧ opd P u9.2 (mO (cRT P t)))) 0 0 (va_A (obhsW cy a P) sz) := by
  refine kM_start (cc := cX6_removeTrail) (maxL := 2) (ret := (some .int)) (by decide) rfl (Nat.le_of_ble_eq_true rfl) ?_
  intro p e s m below meth c hx hb hr hlocks hml hts hown hsz hA hG hP hD hS hin ls hl
  have hK := hG.1
  have hl : lv_has ls 2 [(0, .ref (a 100)), (1, .int (iI t))] := hl
  have hinX6 : ∀ w ∈ u_ws RX6 TX6 8, w ∈ wsX6_removeTrail := by decide +kernel
  have hmw0 := hts (.fieldLink RX6 10 "ArcPlate" "plate" "LArcPlate$Plate;") (by decide +kernel)
  have hS0 := po_S hI
  have hbody : ∀ (H : Heap) (locs : List Loc) (hP : va_P D vwCl (obhsW cy a P) H) (hS : va_S (va_A (obhsW cy a P) sz) s.heap H locs) (ls : Array Slot) (hl : lv_has ls 2 [(0, .ref (a 100)), (1, .int (iI t))]), W p l e { frames := 5, cells := 0, slots := 0, locals := 105 } s m ([.ref (a 100), .int (iI t)] : List Value).toArray below meth c H locs 0 0 (MQ below (kQi D (obhsW cy a P) sz (fun u9 : (Nat → Nat) × (Nat → Int → Int) => obhsW cy (pgm a u9.1) u9.2) (fun r9 u9 => r9 = P 0 0 - 1 ∧ opd P u9.2 (mO (cRT P t)))) ([.ref (a 100), .int (iI t)] : List Value).toArray s 0 0 (va_A (obhsW cy a P) sz)) (F0 m 0 ls []) := by
    intro H locs hP hS ls hl
    refine lv_aload_n hx hb dX6_removeTrail_0 rfl (lv_at hl 0 rfl) ?_
    refine va_get (D := D) (ci := 5) (v := .ref (a 0)) (C := RX6) (T := TX6) (N := 8) hx hb hts hinX6 hown hK hP 0 rfl rfl 0 (by decide) hmw0 (fun _ h9 => h9) rfl dX6_removeTrail_1 ?_
    refine lv_iload_n hx hb dX6_removeTrail_4 rfl (lv_at hl 1 rfl) ?_
    refine k_roV (As := [.int (iI t)]) (rest := []) ⟨hx, hb, hml, hown, hts⟩ (c_X4_hasTrail l D cy a P t hI (show -2147483648 ≤ t ∧ t ≤ 2147483647 by omega)) gX6_removeTrail_X4_hasTrail rfl ⟨rfl, rfl⟩ 1 rfl (by decide +kernel) ⟨Nat.le_of_ble_eq_true rfl, Nat.le_of_ble_eq_true rfl⟩ (GG_ok D cy) ((GG_ok D cy).2.2.2 _ _ _ _ (fun _ h => h.elim) ((GG_ok D cy).1 _ _ _ _ hS.2.1 hG)) (hP.sub (ws' := (plW cy a P)) [39, 40, 41, 42, 43, 44, 45, 46, 47] rfl) (va_recv hK hP (ci := 3) (q0 := 39) rfl rfl) hl.1 rfl (Nat.le_of_ble_eq_true rfl) ⟨Nat.le_of_ble_eq_true rfl, Nat.le_of_ble_eq_true rfl⟩ dX6_removeTrail_5 (fun r_1 hr_1 => ?_)
    have hr_1 : ((0 ≤ t ∧ t < P 0 0) ∧ r_1 = 1) ∨ (¬ (0 ≤ t ∧ t < P 0 0) ∧ r_1 = 0) := hr_1
    rcases hr_1 with ⟨c_2, hr_1⟩ | ⟨c_2, hr_1⟩ <;> subst hr_1
    · skip
      refine k_if_eq (tgt := 15) hx hb dX6_removeTrail_8 (by decide) (by omega) (fun c_3 => ?_) (fun c_3 => ?_)
      · exfalso; omega
      · skip
        refine k_iconst hx hb dX6_removeTrail_11 ?_
        refine lv_goto (tgt := 16) hx hb dX6_removeTrail_12 (by decide) ?_
        refine k_rovS (As := [.int (iI 0)]) (rest := []) ⟨hx, hb, hml, hown, hts⟩ (c_X6_refuse l D) gX6_removeTrail_X6_refuse rfl ⟨rfl, rfl⟩ 1 rfl (by decide +kernel) ⟨Nat.le_of_ble_eq_true rfl, Nat.le_of_ble_eq_true rfl⟩ kGT_ok trivial (fun k q h => by simp at h) hl.1 rfl (Nat.le_of_ble_eq_true rfl) ⟨Nat.le_of_ble_eq_true rfl, Nat.le_of_ble_eq_true rfl⟩ dX6_removeTrail_16 ?_
        refine lv_aload_n hx hb dX6_removeTrail_19 rfl (lv_at hl 0 rfl) ?_
        refine k_muv (k_runV (As := []) (rest := []) ⟨hx, hb, hml, hown, hts⟩ (c_X6_keepState l D cy H.size a P hI (show 0 ≤ P 50 1 ∧ P 50 1 ≤ 4 by omega)) gX6_removeTrail_X6_keepState rfl ⟨rfl, rfl⟩ 0 rfl (by decide +kernel) ⟨Nat.le_of_ble_eq_true rfl, Nat.le_of_ble_eq_true rfl⟩ (GG_ok D cy) hG hS (k_free hD hS hA) hP hD (va_recv hK hP (ci := 5) (q0 := 0) rfl rfl) hl.1 rfl (Nat.le_of_ble_eq_true rfl) ⟨Nat.le_of_ble_eq_true rfl, Nat.le_of_ble_eq_true rfl⟩ dX6_removeTrail_20) (k_free hD hS hA) hS (fun R_5 H1 locs1 hR_5 hP1 hD1 hS1 hk1 => ?_)
        obtain ⟨g_6, Q_7⟩ := R_5
        have hR_5 : (∀ c9 : Nat, c9 < 50 → Q_7 c9 = P c9) ∧ Q_7 100 = ups (P 100) 6 0 ∧ kept2 P Q_7 := hR_5
        have hDn : va_D (va_A (obhsW cy a P) sz) (obhsW cy (pgm a g_6) (upr (upr (upr (upr (upr (upr (upr (upr (upr Q_7 0 (P 0)) 1 (P 1)) 2 (P 2)) 3 (P 3)) 4 (P 4)) 5 (P 5)) 6 (P 6)) 7 (P 7)) 8 (P 8))) := k_addr (A := va_A (obhsW cy a P) sz) (⟨hD1.1, fun k9 q9 h9 => (k_free hD hS hA) q9.1 (hD1.2 k9 q9 h9)⟩) rfl
        have hPn : va_P D vwCl (obhsW cy (pgm a g_6) (upr (upr (upr (upr (upr (upr (upr (upr (upr Q_7 0 (P 0)) 1 (P 1)) 2 (P 2)) 3 (P 3)) 4 (P 4)) 5 (P 5)) 6 (P 6)) 7 (P 7)) 8 (P 8))) H1 := by rw [← keep9 hR_5.1]; exact hP1
        clear hP hD hS hP1 hD1 hk1
        have hP := hPn
        have hD := hDn
        have hS := hS1
        clear hPn hDn hS1
        generalize H1 = H at hP hS ⊢
        generalize locs1 = locs at hS ⊢
        obtain ⟨hq, h100, hkp⟩ := hR_5
        refine lv_aload_n hx hb dX6_removeTrail_23 rfl (lv_at hl 0 rfl) ?_
        refine va_get (D := D) (ci := 5) (v := .ref ((pgm a g_6) 0)) (C := RX6) (T := TX6) (N := 8) hx hb hts hinX6 hown hK hP 0 rfl rfl 0 (by decide) hmw0 (fun _ h9 => h9) rfl dX6_removeTrail_24 ?_
        refine lv_iload_n hx hb dX6_removeTrail_27 rfl (lv_at hl 1 rfl) ?_
        have hPc := hP.sub (ws' := (plW cy (pgm a g_6) (upr (upr (upr (upr (upr (upr (upr (upr (upr Q_7 0 (P 0)) 1 (P 1)) 2 (P 2)) 3 (P 3)) 4 (P 4)) 5 (P 5)) 6 (P 6)) 7 (P 7)) 8 (P 8)))) [39, 40, 41, 42, 43, 44, 45, 46, 47] rfl
        have hDc := hD.sub (ws' := (plW cy (pgm a g_6) (upr (upr (upr (upr (upr (upr (upr (upr (upr Q_7 0 (P 0)) 1 (P 1)) 2 (P 2)) 3 (P 3)) 4 (P 4)) 5 (P 5)) 6 (P 6)) 7 (P 7)) 8 (P 8)))) [39, 40, 41, 42, 43, 44, 45, 46, 47] (by decide) rfl
        have hFc := va_free (wc := (plW cy (pgm a g_6) (upr (upr (upr (upr (upr (upr (upr (upr (upr Q_7 0 (P 0)) 1 (P 1)) 2 (P 2)) 3 (P 3)) 4 (P 4)) 5 (P 5)) 6 (P 6)) 7 (P 7)) 8 (P 8)))) hD hS hA [39, 40, 41, 42, 43, 44, 45, 46, 47] rfl
        refine k_mui (k_runV (As := [.int (iI t)]) (rest := []) ⟨hx, hb, hml, hown, hts⟩ (c_X4_dropTrail l D cy H.size (pgm a g_6) (upr (upr (upr (upr (upr (upr (upr (upr (upr Q_7 0 (P 0)) 1 (P 1)) 2 (P 2)) 3 (P 3)) 4 (P 4)) 5 (P 5)) 6 (P 6)) 7 (P 7)) 8 (P 8)) t hI (show 0 ≤ t by omega) (show t < (P 0) 0 by omega)) gX6_removeTrail_X4_dropTrail rfl ⟨rfl, rfl⟩ 1 rfl (by decide +kernel) ⟨Nat.le_of_ble_eq_true rfl, Nat.le_of_ble_eq_true rfl⟩ (GG_ok D cy) hG hS hFc hPc hDc (va_recv hK hP (ci := 3) (q0 := 39) rfl rfl) hl.1 rfl (Nat.le_of_ble_eq_true rfl) ⟨Nat.le_of_ble_eq_true rfl, Nat.le_of_ble_eq_true rfl⟩ dX6_removeTrail_28) hFc hS (fun r_8 R_9 H1 locs1 hR_9 hP1 hD1 hS1 hk1 => ?_)
        have hR_9 : r_8 = (P 0) 0 - 1 ∧ R_9 = (upr (upr (upr (upr (upr (upr (upr (upr (upr (upr (upr (upr (upr (upr Q_7 0 (P 0)) 1 (P 1)) 2 (P 2)) 3 (P 3)) 4 (P 4)) 5 (P 5)) 6 (P 6)) 7 (P 7)) 8 (P 8)) 0 (ups ((P 0)) 0 ((P 0) 0 - 1))) 1 (shf ((P 1)) t ((P 0) 0 - 1) 1)) 2 (shf ((P 2)) (12 * t + 0) (12 * (P 0) 0 + 0 - 12) 12)) 3 (shf ((P 3)) (12 * t + 0) (12 * (P 0) 0 + 0 - 12) 12)) 4 (shf ((P 4)) (12 * t + 0) (12 * (P 0) 0 + 0 - 12) 12)) := hR_9
        obtain ⟨hr_8, rfl⟩ := hR_9
        have hr_8 : r_8 = (P 0) 0 - 1 := hr_8
        subst hr_8
        have hDn : va_D (va_A (obhsW cy a P) sz) (obhsW cy (pgm a g_6) (upr (upr (upr (upr (upr (upr (upr (upr (upr Q_7 0 (ups ((P 0)) 0 ((P 0) 0 - 1))) 1 (shf ((P 1)) t ((P 0) 0 - 1) 1)) 2 (shf ((P 2)) (12 * t + 0) (12 * (P 0) 0 + 0 - 12) 12)) 3 (shf ((P 3)) (12 * t + 0) (12 * (P 0) 0 + 0 - 12) 12)) 4 (shf ((P 4)) (12 * t + 0) (12 * (P 0) 0 + 0 - 12) 12)) 5 (P 5)) 6 (P 6)) 7 (P 7)) 8 (P 8))) := k_addr hD rfl
        have hPn := k_join (ws' := (obhsW cy (pgm a g_6) (upr (upr (upr (upr (upr (upr (upr (upr (upr Q_7 0 (ups ((P 0)) 0 ((P 0) 0 - 1))) 1 (shf ((P 1)) t ((P 0) 0 - 1) 1)) 2 (shf ((P 2)) (12 * t + 0) (12 * (P 0) 0 + 0 - 12) 12)) 3 (shf ((P 3)) (12 * t + 0) (12 * (P 0) 0 + 0 - 12) 12)) 4 (shf ((P 4)) (12 * t + 0) (12 * (P 0) 0 + 0 - 12) 12)) 5 (P 5)) 6 (P 6)) 7 (P 7)) 8 (P 8)))) hP hD [39, 40, 41, 42, 43, 44, 45, 46, 47] [none, none, none, none, none, none, none, none, none, none, none, none, none, none, none, none, none, none, none, none, none, none, none, none, none, none, none, none, none, none, none, none, none, none, none, none, none, none, none, some 0, some 1, some 2, some 3, some 4, some 5, some 6, some 7, some 8] rfl hk1 hP1 rfl rfl
        clear hP hD hS hP1 hD1 hk1
        have hP := hPn
        have hD := hDn
        have hS := hS1
        clear hPn hDn hS1
        generalize H1 = H at hP hS ⊢
        generalize locs1 = locs at hS ⊢
        exact W.iret (v := iI ((P 0) 0 - 1)) hx hb hr (fun t9 ht _ => ⟨⟨iI ((P 0) 0 - 1), (g_6, (upr (upr (upr (upr (upr (upr (upr (upr (upr Q_7 0 (ups ((P 0)) 0 ((P 0) 0 - 1))) 1 (shf ((P 1)) t ((P 0) 0 - 1) 1)) 2 (shf ((P 2)) (12 * t + 0) (12 * (P 0) 0 + 0 - 12) 12)) 3 (shf ((P 3)) (12 * t + 0) (12 * (P 0) 0 + 0 - 12) 12)) 4 (shf ((P 4)) (12 * t + 0) (12 * (P 0) 0 + 0 - 12) 12)) 5 (P 5)) 6 (P 6)) 7 (P 7)) 8 (P 8))), rfl, ⟨((P 0) 0 - 1), rfl, (⟨rfl, opd_of hsv hq h100 hkp (fun c9 h9 => by (repeat rw [upr_o _ _ (by omega)])) (rfl)⟩ : ((P 0) 0 - 1 : Int) = P 0 0 - 1 ∧ opd P (upr (upr (upr (upr (upr (upr (upr (upr (upr Q_7 0 (ups ((P 0)) 0 ((P 0) 0 - 1))) 1 (shf ((P 1)) t ((P 0) 0 - 1) 1)) 2 (shf ((P 2)) (12 * t + 0) (12 * (P 0) 0 + 0 - 12) 12)) 3 (shf ((P 3)) (12 * t + 0) (12 * (P 0) 0 + 0 - 12) 12)) 4 (shf ((P 4)) (12 * t + 0) (12 * (P 0) 0 + 0 - 12) 12)) 5 (P 5)) 6 (P 6)) 7 (P 7)) 8 (P 8)) (mO (cRT P t)))⟩, by rw [ht]; exact hP, hD⟩, hS.F ht⟩) hS.2.2 dX6_removeTrail_31 hlocks
    · skip
      refine k_if_eq (tgt := 15) hx hb dX6_removeTrail_8 (by decide) (by omega) (fun c_10 => ?_) (fun c_10 => ?_)
      · skip
        refine k_iconst hx hb dX6_removeTrail_15 ?_
        exfalso; first | omega | omega
      · exfalso; omega
  exact hbody s.heap [] hP hS ls hl
set_option maxHeartbeats 4000000 in
set_option maxRecDepth 100000 in
theorem c_X6_removeTrail_t1 (l : Launch) (hl9 : l.stackTraces = false) (D : va_G) (cy : Nat → ClassId) (a : Nat → Nat) (P : Nat → Int → Int) (t : Int) (hI : Inv (mO P)) (hrt : -2147483648 ≤ t ∧ t ≤ 2147483647) (hno : ¬ (0 ≤ t ∧ t < P 0 0)) : vx_Met l yX6_removeTrail wsX6_removeTrail { frames := 7, cells := 1, slots := 6, locals := 110 } (kPre (GX D cy) D (obplW cy a P) ([.ref (a 100), .int (iI t)] : List Value)) kNo (XK (exN 0)) 1 6 (fun _ => False) := by
  refine kTH_start (cc := cX6_removeTrail) (maxL := 2) (ret := (some .int)) (by decide) rfl (Nat.le_of_ble_eq_true rfl) ?_
  intro p e s m below meth c hx hb hr hlocks hml hts hown ht hG hP ls hl
  have hGe := hG.2
  have hGs := hG.1
  have hJd := hGs.2.1
  have hG := hGs.1
  have hK := hG.1
  have hl : lv_has ls 2 [(0, .ref (a 100)), (1, .int (iI t))] := hl
  have hinX6 : ∀ w ∈ u_ws RX6 TX6 8, w ∈ wsX6_removeTrail := by decide +kernel
  have hmw0 := hts (.fieldLink RX6 10 "ArcPlate" "plate" "LArcPlate$Plate;") (by decide +kernel)
  have hS0 := po_S hI
  refine lv_aload_n hx hb dX6_removeTrail_0 rfl (lv_at hl 0 rfl) ?_
  refine va_get (D := D) (ci := 5) (v := .ref (a 0)) (C := RX6) (T := TX6) (N := 8) hx hb hts hinX6 hown hK hP 0 rfl rfl 0 (by decide) hmw0 (fun _ h9 => h9) rfl dX6_removeTrail_1 ?_
  refine lv_iload_n hx hb dX6_removeTrail_4 rfl (lv_at hl 1 rfl) ?_
  refine k_roV (As := [.int (iI t)]) (rest := []) ⟨hx, hb, hml, hown, hts⟩ (c_X4_hasTrail l D cy a P t hI (show -2147483648 ≤ t ∧ t ≤ 2147483647 by omega)) gX6_removeTrail_X4_hasTrail rfl ⟨rfl, rfl⟩ 1 rfl (by decide +kernel) ⟨Nat.le_of_ble_eq_true rfl, Nat.le_of_ble_eq_true rfl⟩ (GG_ok D cy) hG (hP.sub (ws' := (plW cy a P)) [1, 2, 3, 4, 5, 6, 7, 8, 9] rfl) (va_recv hK hP (ci := 3) (q0 := 1) rfl rfl) hl.1 rfl (Nat.le_of_ble_eq_true rfl) ⟨Nat.le_of_ble_eq_true rfl, Nat.le_of_ble_eq_true rfl⟩ dX6_removeTrail_5 (fun r_1 hr_1 => ?_)
  have hr_1 : ((0 ≤ t ∧ t < P 0 0) ∧ r_1 = 1) ∨ (¬ (0 ≤ t ∧ t < P 0 0) ∧ r_1 = 0) := hr_1
  rcases hr_1 with ⟨c_2, hr_1⟩ | ⟨c_2, hr_1⟩ <;> subst hr_1
  · skip
    refine k_if_eq (tgt := 15) hx hb dX6_removeTrail_8 (by decide) (by omega) (fun c_3 => ?_) (fun c_3 => ?_)
    · exfalso; omega
    · skip
      refine k_iconst hx hb dX6_removeTrail_11 ?_
      refine lv_goto (tgt := 16) hx hb dX6_removeTrail_12 (by decide) ?_
      exfalso; first | omega | omega
  · skip
    refine k_if_eq (tgt := 15) hx hb dX6_removeTrail_8 (by decide) (by omega) (fun c_4 => ?_) (fun c_4 => ?_)
    · skip
      refine k_iconst hx hb dX6_removeTrail_15 ?_
      exact k_thS (As := [.int (iI 1)]) (rest := []) ⟨hx, hb, hml, hown, hts⟩ (c_X6_refuse1 l hl9 D) gX6_removeTrail_X6_refuse rfl ⟨rfl, rfl⟩ 1 rfl (by decide +kernel) ⟨Nat.le_of_ble_eq_true rfl, Nat.le_of_ble_eq_true rfl⟩ exA_ok hGe (fun k q h => by simp at h) hl.1 rfl (Nat.le_of_ble_eq_true rfl) ⟨Nat.le_of_ble_eq_true rfl, Nat.le_of_ble_eq_true rfl⟩ dX6_removeTrail_16 ht hlocks
    · exfalso; omega
set_option maxHeartbeats 4000000 in
set_option maxRecDepth 100000 in
theorem c_X6_addPoint (l : Launch) (D : va_G) (cy : Nat → ClassId) (sz : Nat) (a : Nat → Nat) (P : Nat → Int → Int) (t f x y : Int) (hI : Inv (mO P)) (hsv : 0 ≤ P 50 1 ∧ P 50 1 ≤ 4) (h0 : 0 ≤ t) (h1 : t < P 0 0) (hrf : -2147483648 ≤ f ∧ f ≤ 2147483647) (hrx : -2147483648 ≤ x ∧ x ≤ 2147483647) (hry : -2147483648 ≤ y ∧ y ≤ 2147483647) (hpk : pointOK f x y) (hp12 : P 1 t < 12) (hnf : ¬ hasF (mO P) t f) : Met l yX6_addPoint wsX6_addPoint { frames := 5, cells := 0, slots := 0, locals := 105 } (mPre (GG D cy) D (obhsW cy a P) sz ([.ref (a 100), .int (iI t), .int (iI f), .int (iI x), .int (iI y)] : List Value)) (kQi D (obhsW cy a P) sz (fun u9 : (Nat → Nat) × (Nat → Int → Int) => obhsW cy (pgm a u9.1) u9.2) (fun r9 u9 => r9 = posF (mO P) t f ∧ opd P u9.2 (mO (cAP P t f x y)))) 0 0 (va_A (obhsW cy a P) sz) := by
  refine kM_start (cc := cX6_addPoint) (maxL := 5) (ret := (some .int)) (by decide) rfl (Nat.le_of_ble_eq_true rfl) ?_
  intro p e s m below meth c hx hb hr hlocks hml hts hown hsz hA hG hP hD hS hin ls hl
  have hK := hG.1
  have hl : lv_has ls 5 [(0, .ref (a 100)), (1, .int (iI t)), (2, .int (iI f)), (3, .int (iI x)), (4, .int (iI y))] := hl
  have hinX6 : ∀ w ∈ u_ws RX6 TX6 8, w ∈ wsX6_addPoint := by decide +kernel
  have hmw0 := hts (.fieldLink RX6 10 "ArcPlate" "plate" "LArcPlate$Plate;") (by decide +kernel)
  have hS0 := po_S hI
  have hbody : ∀ (H : Heap) (locs : List Loc) (hP : va_P D vwCl (obhsW cy a P) H) (hS : va_S (va_A (obhsW cy a P) sz) s.heap H locs) (ls : Array Slot) (hl : lv_has ls 5 [(0, .ref (a 100)), (1, .int (iI t)), (2, .int (iI f)), (3, .int (iI x)), (4, .int (iI y))]), W p l e { frames := 5, cells := 0, slots := 0, locals := 105 } s m ([.ref (a 100), .int (iI t), .int (iI f), .int (iI x), .int (iI y)] : List Value).toArray below meth c H locs 0 0 (MQ below (kQi D (obhsW cy a P) sz (fun u9 : (Nat → Nat) × (Nat → Int → Int) => obhsW cy (pgm a u9.1) u9.2) (fun r9 u9 => r9 = posF (mO P) t f ∧ opd P u9.2 (mO (cAP P t f x y)))) ([.ref (a 100), .int (iI t), .int (iI f), .int (iI x), .int (iI y)] : List Value).toArray s 0 0 (va_A (obhsW cy a P) sz)) (F0 m 0 ls []) := by
    intro H locs hP hS ls hl
    refine lv_aload_n hx hb dX6_addPoint_0 rfl (lv_at hl 0 rfl) ?_
    refine va_get (D := D) (ci := 5) (v := .ref (a 0)) (C := RX6) (T := TX6) (N := 8) hx hb hts hinX6 hown hK hP 0 rfl rfl 0 (by decide) hmw0 (fun _ h9 => h9) rfl dX6_addPoint_1 ?_
    refine lv_iload_n hx hb dX6_addPoint_4 rfl (lv_at hl 1 rfl) ?_
    refine lv_iload_n hx hb dX6_addPoint_5 rfl (lv_at hl 2 rfl) ?_
    refine lv_iload_n hx hb dX6_addPoint_6 rfl (lv_at hl 3 rfl) ?_
    refine lv_iload hx hb dX6_addPoint_7 (lv_at hl 4 rfl) ?_
    refine k_roV (As := [.int (iI t), .int (iI f), .int (iI x), .int (iI y)]) (rest := []) ⟨hx, hb, hml, hown, hts⟩ (c_X4_faultOfNewPoint l D cy a P t f x y hI (show -2147483648 ≤ t ∧ t ≤ 2147483647 by omega) (show -2147483648 ≤ f ∧ f ≤ 2147483647 by omega) (show -2147483648 ≤ x ∧ x ≤ 2147483647 by omega) (show -2147483648 ≤ y ∧ y ≤ 2147483647 by omega)) gX6_addPoint_X4_faultOfNewPoint rfl ⟨rfl, rfl⟩ 4 rfl (by decide +kernel) ⟨Nat.le_of_ble_eq_true rfl, Nat.le_of_ble_eq_true rfl⟩ (GG_ok D cy) ((GG_ok D cy).2.2.2 _ _ _ _ (fun _ h => h.elim) ((GG_ok D cy).1 _ _ _ _ hS.2.1 hG)) (hP.sub (ws' := (plW cy a P)) [39, 40, 41, 42, 43, 44, 45, 46, 47] rfl) (va_recv hK hP (ci := 3) (q0 := 39) rfl rfl) hl.1 rfl (Nat.le_of_ble_eq_true rfl) ⟨Nat.le_of_ble_eq_true rfl, Nat.le_of_ble_eq_true rfl⟩ dX6_addPoint_9 (fun r_1 hr_1 => ?_)
    have hr_1 : ((¬ (0 ≤ t ∧ t < P 0 0)) ∧ r_1 = 1) ∨ (((0 ≤ t ∧ t < P 0 0) ∧ ¬ pointOK f x y) ∧ r_1 = 2) ∨ ((((0 ≤ t ∧ t < P 0 0) ∧ pointOK f x y) ∧ (P 1 t = 12 ∨ hasF (mO P) t f)) ∧ r_1 = 3) ∨ ((((0 ≤ t ∧ t < P 0 0) ∧ pointOK f x y) ∧ (P 1 t < 12 ∧ ¬ hasF (mO P) t f)) ∧ r_1 = 0) := hr_1
    rcases hr_1 with ⟨c_2, hr_1⟩ | ⟨c_2, hr_1⟩ | ⟨c_2, hr_1⟩ | ⟨c_2, hr_1⟩ <;> subst hr_1
    · skip
      exfalso; first | omega | exact absurd hpk (show (0 ≤ t ∧ t < P 0 0) ∧ ¬ pointOK f x y by assumption).2 | exact absurd ((show ((0 ≤ t ∧ t < P 0 0) ∧ pointOK f x y) ∧ (P 1 t = 12 ∨ hasF (mO P) t f) by assumption).2.resolve_left (by omega)) hnf
    · skip
      exfalso; first | omega | exact absurd hpk (show (0 ≤ t ∧ t < P 0 0) ∧ ¬ pointOK f x y by assumption).2 | exact absurd ((show ((0 ≤ t ∧ t < P 0 0) ∧ pointOK f x y) ∧ (P 1 t = 12 ∨ hasF (mO P) t f) by assumption).2.resolve_left (by omega)) hnf
    · skip
      exfalso; first | omega | exact absurd hpk (show (0 ≤ t ∧ t < P 0 0) ∧ ¬ pointOK f x y by assumption).2 | exact absurd ((show ((0 ≤ t ∧ t < P 0 0) ∧ pointOK f x y) ∧ (P 1 t = 12 ∨ hasF (mO P) t f) by assumption).2.resolve_left (by omega)) hnf
    · skip
      refine k_rovS (As := [.int (iI 0)]) (rest := []) ⟨hx, hb, hml, hown, hts⟩ (c_X6_refuse l D) gX6_addPoint_X6_refuse rfl ⟨rfl, rfl⟩ 1 rfl (by decide +kernel) ⟨Nat.le_of_ble_eq_true rfl, Nat.le_of_ble_eq_true rfl⟩ kGT_ok trivial (fun k q h => by simp at h) hl.1 rfl (Nat.le_of_ble_eq_true rfl) ⟨Nat.le_of_ble_eq_true rfl, Nat.le_of_ble_eq_true rfl⟩ dX6_addPoint_12 ?_
      refine lv_aload_n hx hb dX6_addPoint_15 rfl (lv_at hl 0 rfl) ?_
      refine k_muv (k_runV (As := []) (rest := []) ⟨hx, hb, hml, hown, hts⟩ (c_X6_keepState l D cy H.size a P hI (show 0 ≤ P 50 1 ∧ P 50 1 ≤ 4 by omega)) gX6_addPoint_X6_keepState rfl ⟨rfl, rfl⟩ 0 rfl (by decide +kernel) ⟨Nat.le_of_ble_eq_true rfl, Nat.le_of_ble_eq_true rfl⟩ (GG_ok D cy) hG hS (k_free hD hS hA) hP hD (va_recv hK hP (ci := 5) (q0 := 0) rfl rfl) hl.1 rfl (Nat.le_of_ble_eq_true rfl) ⟨Nat.le_of_ble_eq_true rfl, Nat.le_of_ble_eq_true rfl⟩ dX6_addPoint_16) (k_free hD hS hA) hS (fun R_4 H1 locs1 hR_4 hP1 hD1 hS1 hk1 => ?_)
      obtain ⟨g_5, Q_6⟩ := R_4
      have hR_4 : (∀ c9 : Nat, c9 < 50 → Q_6 c9 = P c9) ∧ Q_6 100 = ups (P 100) 6 0 ∧ kept2 P Q_6 := hR_4
      have hDn : va_D (va_A (obhsW cy a P) sz) (obhsW cy (pgm a g_5) (upr (upr (upr (upr (upr (upr (upr (upr (upr Q_6 0 (P 0)) 1 (P 1)) 2 (P 2)) 3 (P 3)) 4 (P 4)) 5 (P 5)) 6 (P 6)) 7 (P 7)) 8 (P 8))) := k_addr (A := va_A (obhsW cy a P) sz) (⟨hD1.1, fun k9 q9 h9 => (k_free hD hS hA) q9.1 (hD1.2 k9 q9 h9)⟩) rfl
      have hPn : va_P D vwCl (obhsW cy (pgm a g_5) (upr (upr (upr (upr (upr (upr (upr (upr (upr Q_6 0 (P 0)) 1 (P 1)) 2 (P 2)) 3 (P 3)) 4 (P 4)) 5 (P 5)) 6 (P 6)) 7 (P 7)) 8 (P 8))) H1 := by rw [← keep9 hR_4.1]; exact hP1
      clear hP hD hS hP1 hD1 hk1
      have hP := hPn
      have hD := hDn
      have hS := hS1
      clear hPn hDn hS1
      generalize H1 = H at hP hS ⊢
      generalize locs1 = locs at hS ⊢
      obtain ⟨hq, h100, hkp⟩ := hR_4
      refine lv_aload_n hx hb dX6_addPoint_19 rfl (lv_at hl 0 rfl) ?_
      refine va_get (D := D) (ci := 5) (v := .ref ((pgm a g_5) 0)) (C := RX6) (T := TX6) (N := 8) hx hb hts hinX6 hown hK hP 0 rfl rfl 0 (by decide) hmw0 (fun _ h9 => h9) rfl dX6_addPoint_20 ?_
      refine lv_iload_n hx hb dX6_addPoint_23 rfl (lv_at hl 1 rfl) ?_
      refine lv_iload_n hx hb dX6_addPoint_24 rfl (lv_at hl 2 rfl) ?_
      refine lv_iload_n hx hb dX6_addPoint_25 rfl (lv_at hl 3 rfl) ?_
      refine lv_iload hx hb dX6_addPoint_26 (lv_at hl 4 rfl) ?_
      have hPc := hP.sub (ws' := (plW cy (pgm a g_5) (upr (upr (upr (upr (upr (upr (upr (upr (upr Q_6 0 (P 0)) 1 (P 1)) 2 (P 2)) 3 (P 3)) 4 (P 4)) 5 (P 5)) 6 (P 6)) 7 (P 7)) 8 (P 8)))) [39, 40, 41, 42, 43, 44, 45, 46, 47] rfl
      have hDc := hD.sub (ws' := (plW cy (pgm a g_5) (upr (upr (upr (upr (upr (upr (upr (upr (upr Q_6 0 (P 0)) 1 (P 1)) 2 (P 2)) 3 (P 3)) 4 (P 4)) 5 (P 5)) 6 (P 6)) 7 (P 7)) 8 (P 8)))) [39, 40, 41, 42, 43, 44, 45, 46, 47] (by decide) rfl
      have hFc := va_free (wc := (plW cy (pgm a g_5) (upr (upr (upr (upr (upr (upr (upr (upr (upr Q_6 0 (P 0)) 1 (P 1)) 2 (P 2)) 3 (P 3)) 4 (P 4)) 5 (P 5)) 6 (P 6)) 7 (P 7)) 8 (P 8)))) hD hS hA [39, 40, 41, 42, 43, 44, 45, 46, 47] rfl
      refine k_mui (k_runV (As := [.int (iI t), .int (iI f), .int (iI x), .int (iI y)]) (rest := []) ⟨hx, hb, hml, hown, hts⟩ (c_X4_putPoint l D cy H.size (pgm a g_5) (upr (upr (upr (upr (upr (upr (upr (upr (upr Q_6 0 (P 0)) 1 (P 1)) 2 (P 2)) 3 (P 3)) 4 (P 4)) 5 (P 5)) 6 (P 6)) 7 (P 7)) 8 (P 8)) t f x y hI (show 0 ≤ t by omega) (show t < (P 0) 0 by omega) (show -2147483648 ≤ f ∧ f ≤ 2147483647 by omega) (show (P 1) t < 12 by omega) (show ¬ hasF (mO (upr (upr (upr (upr (upr (upr (upr (upr (upr Q_6 0 (P 0)) 1 (P 1)) 2 (P 2)) 3 (P 3)) 4 (P 4)) 5 (P 5)) 6 (P 6)) 7 (P 7)) 8 (P 8))) t f from hnf)) gX6_addPoint_X4_putPoint rfl ⟨rfl, rfl⟩ 4 rfl (by decide +kernel) ⟨Nat.le_of_ble_eq_true rfl, Nat.le_of_ble_eq_true rfl⟩ (GG_ok D cy) hG hS hFc hPc hDc (va_recv hK hP (ci := 3) (q0 := 39) rfl rfl) hl.1 rfl (Nat.le_of_ble_eq_true rfl) ⟨Nat.le_of_ble_eq_true rfl, Nat.le_of_ble_eq_true rfl⟩ dX6_addPoint_28) hFc hS (fun r_7 R_8 H1 locs1 hR_8 hP1 hD1 hS1 hk1 => ?_)
      have hR_8 : r_7 = posF (mO (upr (upr (upr (upr (upr (upr (upr (upr (upr Q_6 0 (P 0)) 1 (P 1)) 2 (P 2)) 3 (P 3)) 4 (P 4)) 5 (P 5)) 6 (P 6)) 7 (P 7)) 8 (P 8))) t f ∧ R_8 = (upr (upr (upr (upr (upr (upr (upr (upr (upr (upr (upr (upr (upr Q_6 0 (P 0)) 1 (P 1)) 2 (P 2)) 3 (P 3)) 4 (P 4)) 5 (P 5)) 6 (P 6)) 7 (P 7)) 8 (P 8)) 1 (ups ((P 1)) t ((P 1) t + 1))) 2 (ups (shb ((P 2)) (12 * t + posF (mO (upr (upr (upr (upr (upr (upr (upr (upr (upr Q_6 0 (P 0)) 1 (P 1)) 2 (P 2)) 3 (P 3)) 4 (P 4)) 5 (P 5)) 6 (P 6)) 7 (P 7)) 8 (P 8))) t f + 1) (12 * t + (P 1) t + 1) 1) (12 * t + posF (mO (upr (upr (upr (upr (upr (upr (upr (upr (upr Q_6 0 (P 0)) 1 (P 1)) 2 (P 2)) 3 (P 3)) 4 (P 4)) 5 (P 5)) 6 (P 6)) 7 (P 7)) 8 (P 8))) t f) f)) 3 (ups (shb ((P 3)) (12 * t + posF (mO (upr (upr (upr (upr (upr (upr (upr (upr (upr Q_6 0 (P 0)) 1 (P 1)) 2 (P 2)) 3 (P 3)) 4 (P 4)) 5 (P 5)) 6 (P 6)) 7 (P 7)) 8 (P 8))) t f + 1) (12 * t + (P 1) t + 1) 1) (12 * t + posF (mO (upr (upr (upr (upr (upr (upr (upr (upr (upr Q_6 0 (P 0)) 1 (P 1)) 2 (P 2)) 3 (P 3)) 4 (P 4)) 5 (P 5)) 6 (P 6)) 7 (P 7)) 8 (P 8))) t f) x)) 4 (ups (shb ((P 4)) (12 * t + posF (mO (upr (upr (upr (upr (upr (upr (upr (upr (upr Q_6 0 (P 0)) 1 (P 1)) 2 (P 2)) 3 (P 3)) 4 (P 4)) 5 (P 5)) 6 (P 6)) 7 (P 7)) 8 (P 8))) t f + 1) (12 * t + (P 1) t + 1) 1) (12 * t + posF (mO (upr (upr (upr (upr (upr (upr (upr (upr (upr Q_6 0 (P 0)) 1 (P 1)) 2 (P 2)) 3 (P 3)) 4 (P 4)) 5 (P 5)) 6 (P 6)) 7 (P 7)) 8 (P 8))) t f) y)) := hR_8
      obtain ⟨hr_7, rfl⟩ := hR_8
      have hr_7 : r_7 = posF (mO (upr (upr (upr (upr (upr (upr (upr (upr (upr Q_6 0 (P 0)) 1 (P 1)) 2 (P 2)) 3 (P 3)) 4 (P 4)) 5 (P 5)) 6 (P 6)) 7 (P 7)) 8 (P 8))) t f := hr_7
      subst hr_7
      have hDn : va_D (va_A (obhsW cy a P) sz) (obhsW cy (pgm a g_5) (upr (upr (upr (upr (upr (upr (upr (upr (upr Q_6 0 (P 0)) 1 (ups ((P 1)) t ((P 1) t + 1))) 2 (ups (shb ((P 2)) (12 * t + posF (mO (upr (upr (upr (upr (upr (upr (upr (upr (upr Q_6 0 (P 0)) 1 (P 1)) 2 (P 2)) 3 (P 3)) 4 (P 4)) 5 (P 5)) 6 (P 6)) 7 (P 7)) 8 (P 8))) t f + 1) (12 * t + (P 1) t + 1) 1) (12 * t + posF (mO (upr (upr (upr (upr (upr (upr (upr (upr (upr Q_6 0 (P 0)) 1 (P 1)) 2 (P 2)) 3 (P 3)) 4 (P 4)) 5 (P 5)) 6 (P 6)) 7 (P 7)) 8 (P 8))) t f) f)) 3 (ups (shb ((P 3)) (12 * t + posF (mO (upr (upr (upr (upr (upr (upr (upr (upr (upr Q_6 0 (P 0)) 1 (P 1)) 2 (P 2)) 3 (P 3)) 4 (P 4)) 5 (P 5)) 6 (P 6)) 7 (P 7)) 8 (P 8))) t f + 1) (12 * t + (P 1) t + 1) 1) (12 * t + posF (mO (upr (upr (upr (upr (upr (upr (upr (upr (upr Q_6 0 (P 0)) 1 (P 1)) 2 (P 2)) 3 (P 3)) 4 (P 4)) 5 (P 5)) 6 (P 6)) 7 (P 7)) 8 (P 8))) t f) x)) 4 (ups (shb ((P 4)) (12 * t + posF (mO (upr (upr (upr (upr (upr (upr (upr (upr (upr Q_6 0 (P 0)) 1 (P 1)) 2 (P 2)) 3 (P 3)) 4 (P 4)) 5 (P 5)) 6 (P 6)) 7 (P 7)) 8 (P 8))) t f + 1) (12 * t + (P 1) t + 1) 1) (12 * t + posF (mO (upr (upr (upr (upr (upr (upr (upr (upr (upr Q_6 0 (P 0)) 1 (P 1)) 2 (P 2)) 3 (P 3)) 4 (P 4)) 5 (P 5)) 6 (P 6)) 7 (P 7)) 8 (P 8))) t f) y)) 5 (P 5)) 6 (P 6)) 7 (P 7)) 8 (P 8))) := k_addr hD rfl
      have hPn := k_join (ws' := (obhsW cy (pgm a g_5) (upr (upr (upr (upr (upr (upr (upr (upr (upr Q_6 0 (P 0)) 1 (ups ((P 1)) t ((P 1) t + 1))) 2 (ups (shb ((P 2)) (12 * t + posF (mO (upr (upr (upr (upr (upr (upr (upr (upr (upr Q_6 0 (P 0)) 1 (P 1)) 2 (P 2)) 3 (P 3)) 4 (P 4)) 5 (P 5)) 6 (P 6)) 7 (P 7)) 8 (P 8))) t f + 1) (12 * t + (P 1) t + 1) 1) (12 * t + posF (mO (upr (upr (upr (upr (upr (upr (upr (upr (upr Q_6 0 (P 0)) 1 (P 1)) 2 (P 2)) 3 (P 3)) 4 (P 4)) 5 (P 5)) 6 (P 6)) 7 (P 7)) 8 (P 8))) t f) f)) 3 (ups (shb ((P 3)) (12 * t + posF (mO (upr (upr (upr (upr (upr (upr (upr (upr (upr Q_6 0 (P 0)) 1 (P 1)) 2 (P 2)) 3 (P 3)) 4 (P 4)) 5 (P 5)) 6 (P 6)) 7 (P 7)) 8 (P 8))) t f + 1) (12 * t + (P 1) t + 1) 1) (12 * t + posF (mO (upr (upr (upr (upr (upr (upr (upr (upr (upr Q_6 0 (P 0)) 1 (P 1)) 2 (P 2)) 3 (P 3)) 4 (P 4)) 5 (P 5)) 6 (P 6)) 7 (P 7)) 8 (P 8))) t f) x)) 4 (ups (shb ((P 4)) (12 * t + posF (mO (upr (upr (upr (upr (upr (upr (upr (upr (upr Q_6 0 (P 0)) 1 (P 1)) 2 (P 2)) 3 (P 3)) 4 (P 4)) 5 (P 5)) 6 (P 6)) 7 (P 7)) 8 (P 8))) t f + 1) (12 * t + (P 1) t + 1) 1) (12 * t + posF (mO (upr (upr (upr (upr (upr (upr (upr (upr (upr Q_6 0 (P 0)) 1 (P 1)) 2 (P 2)) 3 (P 3)) 4 (P 4)) 5 (P 5)) 6 (P 6)) 7 (P 7)) 8 (P 8))) t f) y)) 5 (P 5)) 6 (P 6)) 7 (P 7)) 8 (P 8)))) hP hD [39, 40, 41, 42, 43, 44, 45, 46, 47] [none, none, none, none, none, none, none, none, none, none, none, none, none, none, none, none, none, none, none, none, none, none, none, none, none, none, none, none, none, none, none, none, none, none, none, none, none, none, none, some 0, some 1, some 2, some 3, some 4, some 5, some 6, some 7, some 8] rfl hk1 hP1 rfl rfl
      clear hP hD hS hP1 hD1 hk1
      have hP := hPn
      have hD := hDn
      have hS := hS1
      clear hPn hDn hS1
      generalize H1 = H at hP hS ⊢
      generalize locs1 = locs at hS ⊢
      exact W.iret (v := iI (posF (mO (upr (upr (upr (upr (upr (upr (upr (upr (upr Q_6 0 (P 0)) 1 (P 1)) 2 (P 2)) 3 (P 3)) 4 (P 4)) 5 (P 5)) 6 (P 6)) 7 (P 7)) 8 (P 8))) t f)) hx hb hr (fun t9 ht _ => ⟨⟨iI (posF (mO (upr (upr (upr (upr (upr (upr (upr (upr (upr Q_6 0 (P 0)) 1 (P 1)) 2 (P 2)) 3 (P 3)) 4 (P 4)) 5 (P 5)) 6 (P 6)) 7 (P 7)) 8 (P 8))) t f), (g_5, (upr (upr (upr (upr (upr (upr (upr (upr (upr Q_6 0 (P 0)) 1 (ups ((P 1)) t ((P 1) t + 1))) 2 (ups (shb ((P 2)) (12 * t + posF (mO (upr (upr (upr (upr (upr (upr (upr (upr (upr Q_6 0 (P 0)) 1 (P 1)) 2 (P 2)) 3 (P 3)) 4 (P 4)) 5 (P 5)) 6 (P 6)) 7 (P 7)) 8 (P 8))) t f + 1) (12 * t + (P 1) t + 1) 1) (12 * t + posF (mO (upr (upr (upr (upr (upr (upr (upr (upr (upr Q_6 0 (P 0)) 1 (P 1)) 2 (P 2)) 3 (P 3)) 4 (P 4)) 5 (P 5)) 6 (P 6)) 7 (P 7)) 8 (P 8))) t f) f)) 3 (ups (shb ((P 3)) (12 * t + posF (mO (upr (upr (upr (upr (upr (upr (upr (upr (upr Q_6 0 (P 0)) 1 (P 1)) 2 (P 2)) 3 (P 3)) 4 (P 4)) 5 (P 5)) 6 (P 6)) 7 (P 7)) 8 (P 8))) t f + 1) (12 * t + (P 1) t + 1) 1) (12 * t + posF (mO (upr (upr (upr (upr (upr (upr (upr (upr (upr Q_6 0 (P 0)) 1 (P 1)) 2 (P 2)) 3 (P 3)) 4 (P 4)) 5 (P 5)) 6 (P 6)) 7 (P 7)) 8 (P 8))) t f) x)) 4 (ups (shb ((P 4)) (12 * t + posF (mO (upr (upr (upr (upr (upr (upr (upr (upr (upr Q_6 0 (P 0)) 1 (P 1)) 2 (P 2)) 3 (P 3)) 4 (P 4)) 5 (P 5)) 6 (P 6)) 7 (P 7)) 8 (P 8))) t f + 1) (12 * t + (P 1) t + 1) 1) (12 * t + posF (mO (upr (upr (upr (upr (upr (upr (upr (upr (upr Q_6 0 (P 0)) 1 (P 1)) 2 (P 2)) 3 (P 3)) 4 (P 4)) 5 (P 5)) 6 (P 6)) 7 (P 7)) 8 (P 8))) t f) y)) 5 (P 5)) 6 (P 6)) 7 (P 7)) 8 (P 8))), rfl, ⟨(posF (mO (upr (upr (upr (upr (upr (upr (upr (upr (upr Q_6 0 (P 0)) 1 (P 1)) 2 (P 2)) 3 (P 3)) 4 (P 4)) 5 (P 5)) 6 (P 6)) 7 (P 7)) 8 (P 8))) t f), rfl, (⟨rfl, opd_of hsv hq h100 hkp (fun c9 h9 => by (repeat rw [upr_o _ _ (by omega)])) (rfl)⟩ : (posF (mO (upr (upr (upr (upr (upr (upr (upr (upr (upr Q_6 0 (P 0)) 1 (P 1)) 2 (P 2)) 3 (P 3)) 4 (P 4)) 5 (P 5)) 6 (P 6)) 7 (P 7)) 8 (P 8))) t f : Int) = posF (mO P) t f ∧ opd P (upr (upr (upr (upr (upr (upr (upr (upr (upr Q_6 0 (P 0)) 1 (ups ((P 1)) t ((P 1) t + 1))) 2 (ups (shb ((P 2)) (12 * t + posF (mO (upr (upr (upr (upr (upr (upr (upr (upr (upr Q_6 0 (P 0)) 1 (P 1)) 2 (P 2)) 3 (P 3)) 4 (P 4)) 5 (P 5)) 6 (P 6)) 7 (P 7)) 8 (P 8))) t f + 1) (12 * t + (P 1) t + 1) 1) (12 * t + posF (mO (upr (upr (upr (upr (upr (upr (upr (upr (upr Q_6 0 (P 0)) 1 (P 1)) 2 (P 2)) 3 (P 3)) 4 (P 4)) 5 (P 5)) 6 (P 6)) 7 (P 7)) 8 (P 8))) t f) f)) 3 (ups (shb ((P 3)) (12 * t + posF (mO (upr (upr (upr (upr (upr (upr (upr (upr (upr Q_6 0 (P 0)) 1 (P 1)) 2 (P 2)) 3 (P 3)) 4 (P 4)) 5 (P 5)) 6 (P 6)) 7 (P 7)) 8 (P 8))) t f + 1) (12 * t + (P 1) t + 1) 1) (12 * t + posF (mO (upr (upr (upr (upr (upr (upr (upr (upr (upr Q_6 0 (P 0)) 1 (P 1)) 2 (P 2)) 3 (P 3)) 4 (P 4)) 5 (P 5)) 6 (P 6)) 7 (P 7)) 8 (P 8))) t f) x)) 4 (ups (shb ((P 4)) (12 * t + posF (mO (upr (upr (upr (upr (upr (upr (upr (upr (upr Q_6 0 (P 0)) 1 (P 1)) 2 (P 2)) 3 (P 3)) 4 (P 4)) 5 (P 5)) 6 (P 6)) 7 (P 7)) 8 (P 8))) t f + 1) (12 * t + (P 1) t + 1) 1) (12 * t + posF (mO (upr (upr (upr (upr (upr (upr (upr (upr (upr Q_6 0 (P 0)) 1 (P 1)) 2 (P 2)) 3 (P 3)) 4 (P 4)) 5 (P 5)) 6 (P 6)) 7 (P 7)) 8 (P 8))) t f) y)) 5 (P 5)) 6 (P 6)) 7 (P 7)) 8 (P 8)) (mO (cAP P t f x y)))⟩, by rw [ht]; exact hP, hD⟩, hS.F ht⟩) hS.2.2 dX6_addPoint_31 hlocks
  exact hbody s.heap [] hP hS ls hl
set_option maxHeartbeats 4000000 in
set_option maxRecDepth 100000 in
theorem c_X6_addPoint_t1 (l : Launch) (hl9 : l.stackTraces = false) (D : va_G) (cy : Nat → ClassId) (a : Nat → Nat) (P : Nat → Int → Int) (t f x y : Int) (hI : Inv (mO P)) (hrt : -2147483648 ≤ t ∧ t ≤ 2147483647) (hrf : -2147483648 ≤ f ∧ f ≤ 2147483647) (hrx : -2147483648 ≤ x ∧ x ≤ 2147483647) (hry : -2147483648 ≤ y ∧ y ≤ 2147483647) (hno : ¬ (0 ≤ t ∧ t < P 0 0)) : vx_Met l yX6_addPoint wsX6_addPoint { frames := 7, cells := 1, slots := 6, locals := 110 } (kPre (GX D cy) D (obplW cy a P) ([.ref (a 100), .int (iI t), .int (iI f), .int (iI x), .int (iI y)] : List Value)) kNo (XK (exN 0)) 1 6 (fun _ => False) := by
  refine kTH_start (cc := cX6_addPoint) (maxL := 5) (ret := (some .int)) (by decide) rfl (Nat.le_of_ble_eq_true rfl) ?_
  intro p e s m below meth c hx hb hr hlocks hml hts hown ht hG hP ls hl
  have hGe := hG.2
  have hGs := hG.1
  have hJd := hGs.2.1
  have hG := hGs.1
  have hK := hG.1
  have hl : lv_has ls 5 [(0, .ref (a 100)), (1, .int (iI t)), (2, .int (iI f)), (3, .int (iI x)), (4, .int (iI y))] := hl
  have hinX6 : ∀ w ∈ u_ws RX6 TX6 8, w ∈ wsX6_addPoint := by decide +kernel
  have hmw0 := hts (.fieldLink RX6 10 "ArcPlate" "plate" "LArcPlate$Plate;") (by decide +kernel)
  have hS0 := po_S hI
  refine lv_aload_n hx hb dX6_addPoint_0 rfl (lv_at hl 0 rfl) ?_
  refine va_get (D := D) (ci := 5) (v := .ref (a 0)) (C := RX6) (T := TX6) (N := 8) hx hb hts hinX6 hown hK hP 0 rfl rfl 0 (by decide) hmw0 (fun _ h9 => h9) rfl dX6_addPoint_1 ?_
  refine lv_iload_n hx hb dX6_addPoint_4 rfl (lv_at hl 1 rfl) ?_
  refine lv_iload_n hx hb dX6_addPoint_5 rfl (lv_at hl 2 rfl) ?_
  refine lv_iload_n hx hb dX6_addPoint_6 rfl (lv_at hl 3 rfl) ?_
  refine lv_iload hx hb dX6_addPoint_7 (lv_at hl 4 rfl) ?_
  refine k_roV (As := [.int (iI t), .int (iI f), .int (iI x), .int (iI y)]) (rest := []) ⟨hx, hb, hml, hown, hts⟩ (c_X4_faultOfNewPoint l D cy a P t f x y hI (show -2147483648 ≤ t ∧ t ≤ 2147483647 by omega) (show -2147483648 ≤ f ∧ f ≤ 2147483647 by omega) (show -2147483648 ≤ x ∧ x ≤ 2147483647 by omega) (show -2147483648 ≤ y ∧ y ≤ 2147483647 by omega)) gX6_addPoint_X4_faultOfNewPoint rfl ⟨rfl, rfl⟩ 4 rfl (by decide +kernel) ⟨Nat.le_of_ble_eq_true rfl, Nat.le_of_ble_eq_true rfl⟩ (GG_ok D cy) hG (hP.sub (ws' := (plW cy a P)) [1, 2, 3, 4, 5, 6, 7, 8, 9] rfl) (va_recv hK hP (ci := 3) (q0 := 1) rfl rfl) hl.1 rfl (Nat.le_of_ble_eq_true rfl) ⟨Nat.le_of_ble_eq_true rfl, Nat.le_of_ble_eq_true rfl⟩ dX6_addPoint_9 (fun r_1 hr_1 => ?_)
  have hr_1 : ((¬ (0 ≤ t ∧ t < P 0 0)) ∧ r_1 = 1) ∨ (((0 ≤ t ∧ t < P 0 0) ∧ ¬ pointOK f x y) ∧ r_1 = 2) ∨ ((((0 ≤ t ∧ t < P 0 0) ∧ pointOK f x y) ∧ (P 1 t = 12 ∨ hasF (mO P) t f)) ∧ r_1 = 3) ∨ ((((0 ≤ t ∧ t < P 0 0) ∧ pointOK f x y) ∧ (P 1 t < 12 ∧ ¬ hasF (mO P) t f)) ∧ r_1 = 0) := hr_1
  rcases hr_1 with ⟨c_2, hr_1⟩ | ⟨c_2, hr_1⟩ | ⟨c_2, hr_1⟩ | ⟨c_2, hr_1⟩ <;> subst hr_1
  · skip
    exact k_thS (As := [.int (iI 1)]) (rest := []) ⟨hx, hb, hml, hown, hts⟩ (c_X6_refuse1 l hl9 D) gX6_addPoint_X6_refuse rfl ⟨rfl, rfl⟩ 1 rfl (by decide +kernel) ⟨Nat.le_of_ble_eq_true rfl, Nat.le_of_ble_eq_true rfl⟩ exA_ok hGe (fun k q h => by simp at h) hl.1 rfl (Nat.le_of_ble_eq_true rfl) ⟨Nat.le_of_ble_eq_true rfl, Nat.le_of_ble_eq_true rfl⟩ dX6_addPoint_12 ht hlocks
  · skip
    exfalso; first | omega | omega
  · skip
    exfalso; first | omega | omega
  · skip
    exfalso; first | omega | omega
set_option maxHeartbeats 4000000 in
set_option maxRecDepth 100000 in
theorem c_X6_addPoint_t2 (l : Launch) (hl9 : l.stackTraces = false) (D : va_G) (cy : Nat → ClassId) (a : Nat → Nat) (P : Nat → Int → Int) (t f x y : Int) (hI : Inv (mO P)) (h0 : 0 ≤ t) (h1 : t < P 0 0) (hrt : -2147483648 ≤ t ∧ t ≤ 2147483647) (hrf : -2147483648 ≤ f ∧ f ≤ 2147483647) (hrx : -2147483648 ≤ x ∧ x ≤ 2147483647) (hry : -2147483648 ≤ y ∧ y ≤ 2147483647) (hno : ¬ pointOK f x y) : vx_Met l yX6_addPoint wsX6_addPoint { frames := 7, cells := 1, slots := 6, locals := 110 } (kPre (GX D cy) D (obplW cy a P) ([.ref (a 100), .int (iI t), .int (iI f), .int (iI x), .int (iI y)] : List Value)) kNo (XK (exN 1)) 1 6 (fun _ => False) := by
  refine kTH_start (cc := cX6_addPoint) (maxL := 5) (ret := (some .int)) (by decide) rfl (Nat.le_of_ble_eq_true rfl) ?_
  intro p e s m below meth c hx hb hr hlocks hml hts hown ht hG hP ls hl
  have hGe := hG.2
  have hGs := hG.1
  have hJd := hGs.2.1
  have hG := hGs.1
  have hK := hG.1
  have hl : lv_has ls 5 [(0, .ref (a 100)), (1, .int (iI t)), (2, .int (iI f)), (3, .int (iI x)), (4, .int (iI y))] := hl
  have hinX6 : ∀ w ∈ u_ws RX6 TX6 8, w ∈ wsX6_addPoint := by decide +kernel
  have hmw0 := hts (.fieldLink RX6 10 "ArcPlate" "plate" "LArcPlate$Plate;") (by decide +kernel)
  have hS0 := po_S hI
  refine lv_aload_n hx hb dX6_addPoint_0 rfl (lv_at hl 0 rfl) ?_
  refine va_get (D := D) (ci := 5) (v := .ref (a 0)) (C := RX6) (T := TX6) (N := 8) hx hb hts hinX6 hown hK hP 0 rfl rfl 0 (by decide) hmw0 (fun _ h9 => h9) rfl dX6_addPoint_1 ?_
  refine lv_iload_n hx hb dX6_addPoint_4 rfl (lv_at hl 1 rfl) ?_
  refine lv_iload_n hx hb dX6_addPoint_5 rfl (lv_at hl 2 rfl) ?_
  refine lv_iload_n hx hb dX6_addPoint_6 rfl (lv_at hl 3 rfl) ?_
  refine lv_iload hx hb dX6_addPoint_7 (lv_at hl 4 rfl) ?_
  refine k_roV (As := [.int (iI t), .int (iI f), .int (iI x), .int (iI y)]) (rest := []) ⟨hx, hb, hml, hown, hts⟩ (c_X4_faultOfNewPoint l D cy a P t f x y hI (show -2147483648 ≤ t ∧ t ≤ 2147483647 by omega) (show -2147483648 ≤ f ∧ f ≤ 2147483647 by omega) (show -2147483648 ≤ x ∧ x ≤ 2147483647 by omega) (show -2147483648 ≤ y ∧ y ≤ 2147483647 by omega)) gX6_addPoint_X4_faultOfNewPoint rfl ⟨rfl, rfl⟩ 4 rfl (by decide +kernel) ⟨Nat.le_of_ble_eq_true rfl, Nat.le_of_ble_eq_true rfl⟩ (GG_ok D cy) hG (hP.sub (ws' := (plW cy a P)) [1, 2, 3, 4, 5, 6, 7, 8, 9] rfl) (va_recv hK hP (ci := 3) (q0 := 1) rfl rfl) hl.1 rfl (Nat.le_of_ble_eq_true rfl) ⟨Nat.le_of_ble_eq_true rfl, Nat.le_of_ble_eq_true rfl⟩ dX6_addPoint_9 (fun r_1 hr_1 => ?_)
  have hr_1 : ((¬ (0 ≤ t ∧ t < P 0 0)) ∧ r_1 = 1) ∨ (((0 ≤ t ∧ t < P 0 0) ∧ ¬ pointOK f x y) ∧ r_1 = 2) ∨ ((((0 ≤ t ∧ t < P 0 0) ∧ pointOK f x y) ∧ (P 1 t = 12 ∨ hasF (mO P) t f)) ∧ r_1 = 3) ∨ ((((0 ≤ t ∧ t < P 0 0) ∧ pointOK f x y) ∧ (P 1 t < 12 ∧ ¬ hasF (mO P) t f)) ∧ r_1 = 0) := hr_1
  rcases hr_1 with ⟨c_2, hr_1⟩ | ⟨c_2, hr_1⟩ | ⟨c_2, hr_1⟩ | ⟨c_2, hr_1⟩ <;> subst hr_1
  · skip
    exfalso; first | omega | exact absurd (show ((0 ≤ t ∧ t < P 0 0) ∧ pointOK f x y) ∧ (P 1 t = 12 ∨ hasF (mO P) t f) by assumption).1.2 hno | exact absurd (show ((0 ≤ t ∧ t < P 0 0) ∧ pointOK f x y) ∧ (P 1 t < 12 ∧ ¬ hasF (mO P) t f) by assumption).1.2 hno
  · skip
    exact k_thS (As := [.int (iI 2)]) (rest := []) ⟨hx, hb, hml, hown, hts⟩ (c_X6_refuse2 l hl9 D) gX6_addPoint_X6_refuse rfl ⟨rfl, rfl⟩ 1 rfl (by decide +kernel) ⟨Nat.le_of_ble_eq_true rfl, Nat.le_of_ble_eq_true rfl⟩ exA_ok hGe (fun k q h => by simp at h) hl.1 rfl (Nat.le_of_ble_eq_true rfl) ⟨Nat.le_of_ble_eq_true rfl, Nat.le_of_ble_eq_true rfl⟩ dX6_addPoint_12 ht hlocks
  · skip
    exfalso; first | omega | exact absurd (show ((0 ≤ t ∧ t < P 0 0) ∧ pointOK f x y) ∧ (P 1 t = 12 ∨ hasF (mO P) t f) by assumption).1.2 hno | exact absurd (show ((0 ≤ t ∧ t < P 0 0) ∧ pointOK f x y) ∧ (P 1 t < 12 ∧ ¬ hasF (mO P) t f) by assumption).1.2 hno
  · skip
    exfalso; first | omega | exact absurd (show ((0 ≤ t ∧ t < P 0 0) ∧ pointOK f x y) ∧ (P 1 t = 12 ∨ hasF (mO P) t f) by assumption).1.2 hno | exact absurd (show ((0 ≤ t ∧ t < P 0 0) ∧ pointOK f x y) ∧ (P 1 t < 12 ∧ ¬ hasF (mO P) t f) by assumption).1.2 hno
set_option maxHeartbeats 4000000 in
set_option maxRecDepth 100000 in
theorem c_X6_addPoint_t3 (l : Launch) (hl9 : l.stackTraces = false) (D : va_G) (cy : Nat → ClassId) (a : Nat → Nat) (P : Nat → Int → Int) (t f x y : Int) (hI : Inv (mO P)) (h0 : 0 ≤ t) (h1 : t < P 0 0) (hrt : -2147483648 ≤ t ∧ t ≤ 2147483647) (hrf : -2147483648 ≤ f ∧ f ≤ 2147483647) (hrx : -2147483648 ≤ x ∧ x ≤ 2147483647) (hry : -2147483648 ≤ y ∧ y ≤ 2147483647) (hpk : pointOK f x y) (hno : P 1 t = 12 ∨ hasF (mO P) t f) : vx_Met l yX6_addPoint wsX6_addPoint { frames := 7, cells := 1, slots := 6, locals := 110 } (kPre (GX D cy) D (obplW cy a P) ([.ref (a 100), .int (iI t), .int (iI f), .int (iI x), .int (iI y)] : List Value)) kNo (XK (exN 2)) 1 6 (fun _ => False) := by
  refine kTH_start (cc := cX6_addPoint) (maxL := 5) (ret := (some .int)) (by decide) rfl (Nat.le_of_ble_eq_true rfl) ?_
  intro p e s m below meth c hx hb hr hlocks hml hts hown ht hG hP ls hl
  have hGe := hG.2
  have hGs := hG.1
  have hJd := hGs.2.1
  have hG := hGs.1
  have hK := hG.1
  have hl : lv_has ls 5 [(0, .ref (a 100)), (1, .int (iI t)), (2, .int (iI f)), (3, .int (iI x)), (4, .int (iI y))] := hl
  have hinX6 : ∀ w ∈ u_ws RX6 TX6 8, w ∈ wsX6_addPoint := by decide +kernel
  have hmw0 := hts (.fieldLink RX6 10 "ArcPlate" "plate" "LArcPlate$Plate;") (by decide +kernel)
  have hS0 := po_S hI
  refine lv_aload_n hx hb dX6_addPoint_0 rfl (lv_at hl 0 rfl) ?_
  refine va_get (D := D) (ci := 5) (v := .ref (a 0)) (C := RX6) (T := TX6) (N := 8) hx hb hts hinX6 hown hK hP 0 rfl rfl 0 (by decide) hmw0 (fun _ h9 => h9) rfl dX6_addPoint_1 ?_
  refine lv_iload_n hx hb dX6_addPoint_4 rfl (lv_at hl 1 rfl) ?_
  refine lv_iload_n hx hb dX6_addPoint_5 rfl (lv_at hl 2 rfl) ?_
  refine lv_iload_n hx hb dX6_addPoint_6 rfl (lv_at hl 3 rfl) ?_
  refine lv_iload hx hb dX6_addPoint_7 (lv_at hl 4 rfl) ?_
  refine k_roV (As := [.int (iI t), .int (iI f), .int (iI x), .int (iI y)]) (rest := []) ⟨hx, hb, hml, hown, hts⟩ (c_X4_faultOfNewPoint l D cy a P t f x y hI (show -2147483648 ≤ t ∧ t ≤ 2147483647 by omega) (show -2147483648 ≤ f ∧ f ≤ 2147483647 by omega) (show -2147483648 ≤ x ∧ x ≤ 2147483647 by omega) (show -2147483648 ≤ y ∧ y ≤ 2147483647 by omega)) gX6_addPoint_X4_faultOfNewPoint rfl ⟨rfl, rfl⟩ 4 rfl (by decide +kernel) ⟨Nat.le_of_ble_eq_true rfl, Nat.le_of_ble_eq_true rfl⟩ (GG_ok D cy) hG (hP.sub (ws' := (plW cy a P)) [1, 2, 3, 4, 5, 6, 7, 8, 9] rfl) (va_recv hK hP (ci := 3) (q0 := 1) rfl rfl) hl.1 rfl (Nat.le_of_ble_eq_true rfl) ⟨Nat.le_of_ble_eq_true rfl, Nat.le_of_ble_eq_true rfl⟩ dX6_addPoint_9 (fun r_1 hr_1 => ?_)
  have hr_1 : ((¬ (0 ≤ t ∧ t < P 0 0)) ∧ r_1 = 1) ∨ (((0 ≤ t ∧ t < P 0 0) ∧ ¬ pointOK f x y) ∧ r_1 = 2) ∨ ((((0 ≤ t ∧ t < P 0 0) ∧ pointOK f x y) ∧ (P 1 t = 12 ∨ hasF (mO P) t f)) ∧ r_1 = 3) ∨ ((((0 ≤ t ∧ t < P 0 0) ∧ pointOK f x y) ∧ (P 1 t < 12 ∧ ¬ hasF (mO P) t f)) ∧ r_1 = 0) := hr_1
  rcases hr_1 with ⟨c_2, hr_1⟩ | ⟨c_2, hr_1⟩ | ⟨c_2, hr_1⟩ | ⟨c_2, hr_1⟩ <;> subst hr_1
  · skip
    exfalso; first | omega | exact absurd hpk (show (0 ≤ t ∧ t < P 0 0) ∧ ¬ pointOK f x y by assumption).2 | exact absurd (hno.resolve_left (by have h9 := (show ((0 ≤ t ∧ t < P 0 0) ∧ pointOK f x y) ∧ (P 1 t < 12 ∧ ¬ hasF (mO P) t f) by assumption).2.1; omega)) (show ((0 ≤ t ∧ t < P 0 0) ∧ pointOK f x y) ∧ (P 1 t < 12 ∧ ¬ hasF (mO P) t f) by assumption).2.2
  · skip
    exfalso; first | omega | exact absurd hpk (show (0 ≤ t ∧ t < P 0 0) ∧ ¬ pointOK f x y by assumption).2 | exact absurd (hno.resolve_left (by have h9 := (show ((0 ≤ t ∧ t < P 0 0) ∧ pointOK f x y) ∧ (P 1 t < 12 ∧ ¬ hasF (mO P) t f) by assumption).2.1; omega)) (show ((0 ≤ t ∧ t < P 0 0) ∧ pointOK f x y) ∧ (P 1 t < 12 ∧ ¬ hasF (mO P) t f) by assumption).2.2
  · skip
    exact k_thS (As := [.int (iI 3)]) (rest := []) ⟨hx, hb, hml, hown, hts⟩ (c_X6_refuse3 l hl9 D) gX6_addPoint_X6_refuse rfl ⟨rfl, rfl⟩ 1 rfl (by decide +kernel) ⟨Nat.le_of_ble_eq_true rfl, Nat.le_of_ble_eq_true rfl⟩ exA_ok hGe (fun k q h => by simp at h) hl.1 rfl (Nat.le_of_ble_eq_true rfl) ⟨Nat.le_of_ble_eq_true rfl, Nat.le_of_ble_eq_true rfl⟩ dX6_addPoint_12 ht hlocks
  · skip
    exfalso; first | omega | exact absurd hpk (show (0 ≤ t ∧ t < P 0 0) ∧ ¬ pointOK f x y by assumption).2 | exact absurd (hno.resolve_left (by have h9 := (show ((0 ≤ t ∧ t < P 0 0) ∧ pointOK f x y) ∧ (P 1 t < 12 ∧ ¬ hasF (mO P) t f) by assumption).2.1; omega)) (show ((0 ≤ t ∧ t < P 0 0) ∧ pointOK f x y) ∧ (P 1 t < 12 ∧ ¬ hasF (mO P) t f) by assumption).2.2
set_option maxHeartbeats 4000000 in
set_option maxRecDepth 100000 in
theorem c_X6_removePoint (l : Launch) (D : va_G) (cy : Nat → ClassId) (sz : Nat) (a : Nat → Nat) (P : Nat → Int → Int) (t q : Int) (hI : Inv (mO P)) (hsv : 0 ≤ P 50 1 ∧ P 50 1 ≤ 4) (h0 : 0 ≤ t) (h1 : t < P 0 0) (h2 : 0 ≤ q) (h3 : q < P 1 t) : Met l yX6_removePoint wsX6_removePoint { frames := 5, cells := 0, slots := 0, locals := 105 } (mPre (GG D cy) D (obhsW cy a P) sz ([.ref (a 100), .int (iI t), .int (iI q)] : List Value)) (kQi D (obhsW cy a P) sz (fun u9 : (Nat → Nat) × (Nat → Int → Int) => obhsW cy (pgm a u9.1) u9.2) (fun r9 u9 => r9 = P 1 t - 1 ∧ opd P u9.2 (mO (cRP P t q)))) 0 0 (va_A (obhsW cy a P) sz) := by
  refine kM_start (cc := cX6_removePoint) (maxL := 3) (ret := (some .int)) (by decide) rfl (Nat.le_of_ble_eq_true rfl) ?_
  intro p e s m below meth c hx hb hr hlocks hml hts hown hsz hA hG hP hD hS hin ls hl
  have hK := hG.1
  have hl : lv_has ls 3 [(0, .ref (a 100)), (1, .int (iI t)), (2, .int (iI q))] := hl
  have hinX6 : ∀ w ∈ u_ws RX6 TX6 8, w ∈ wsX6_removePoint := by decide +kernel
  have hmw0 := hts (.fieldLink RX6 10 "ArcPlate" "plate" "LArcPlate$Plate;") (by decide +kernel)
  have hS0 := po_S hI
  have hp := po_pts hI h0 h1
  have hbody : ∀ (H : Heap) (locs : List Loc) (hP : va_P D vwCl (obhsW cy a P) H) (hS : va_S (va_A (obhsW cy a P) sz) s.heap H locs) (ls : Array Slot) (hl : lv_has ls 3 [(0, .ref (a 100)), (1, .int (iI t)), (2, .int (iI q))]), W p l e { frames := 5, cells := 0, slots := 0, locals := 105 } s m ([.ref (a 100), .int (iI t), .int (iI q)] : List Value).toArray below meth c H locs 0 0 (MQ below (kQi D (obhsW cy a P) sz (fun u9 : (Nat → Nat) × (Nat → Int → Int) => obhsW cy (pgm a u9.1) u9.2) (fun r9 u9 => r9 = P 1 t - 1 ∧ opd P u9.2 (mO (cRP P t q)))) ([.ref (a 100), .int (iI t), .int (iI q)] : List Value).toArray s 0 0 (va_A (obhsW cy a P) sz)) (F0 m 0 ls []) := by
    intro H locs hP hS ls hl
    refine lv_aload_n hx hb dX6_removePoint_0 rfl (lv_at hl 0 rfl) ?_
    refine va_get (D := D) (ci := 5) (v := .ref (a 0)) (C := RX6) (T := TX6) (N := 8) hx hb hts hinX6 hown hK hP 0 rfl rfl 0 (by decide) hmw0 (fun _ h9 => h9) rfl dX6_removePoint_1 ?_
    refine lv_iload_n hx hb dX6_removePoint_4 rfl (lv_at hl 1 rfl) ?_
    refine lv_iload_n hx hb dX6_removePoint_5 rfl (lv_at hl 2 rfl) ?_
    refine k_roV (As := [.int (iI t), .int (iI q)]) (rest := []) ⟨hx, hb, hml, hown, hts⟩ (c_X4_hasPoint l D cy a P t q hI (show -2147483648 ≤ t ∧ t ≤ 2147483647 by omega) (show -2147483648 ≤ q ∧ q ≤ 2147483647 by omega)) gX6_removePoint_X4_hasPoint rfl ⟨rfl, rfl⟩ 2 rfl (by decide +kernel) ⟨Nat.le_of_ble_eq_true rfl, Nat.le_of_ble_eq_true rfl⟩ (GG_ok D cy) ((GG_ok D cy).2.2.2 _ _ _ _ (fun _ h => h.elim) ((GG_ok D cy).1 _ _ _ _ hS.2.1 hG)) (hP.sub (ws' := (plW cy a P)) [39, 40, 41, 42, 43, 44, 45, 46, 47] rfl) (va_recv hK hP (ci := 3) (q0 := 39) rfl rfl) hl.1 rfl (Nat.le_of_ble_eq_true rfl) ⟨Nat.le_of_ble_eq_true rfl, Nat.le_of_ble_eq_true rfl⟩ dX6_removePoint_6 (fun r_1 hr_1 => ?_)
    have hr_1 : (((0 ≤ t ∧ t < P 0 0) ∧ 0 ≤ q ∧ q < P 1 t) ∧ r_1 = 1) ∨ (¬ ((0 ≤ t ∧ t < P 0 0) ∧ 0 ≤ q ∧ q < P 1 t) ∧ r_1 = 0) := hr_1
    rcases hr_1 with ⟨c_2, hr_1⟩ | ⟨c_2, hr_1⟩ <;> subst hr_1
    · skip
      refine k_if_eq (tgt := 16) hx hb dX6_removePoint_9 (by decide) (by omega) (fun c_3 => ?_) (fun c_3 => ?_)
      · exfalso; omega
      · skip
        refine k_iconst hx hb dX6_removePoint_12 ?_
        refine lv_goto (tgt := 17) hx hb dX6_removePoint_13 (by decide) ?_
        refine k_rovS (As := [.int (iI 0)]) (rest := []) ⟨hx, hb, hml, hown, hts⟩ (c_X6_refuse l D) gX6_removePoint_X6_refuse rfl ⟨rfl, rfl⟩ 1 rfl (by decide +kernel) ⟨Nat.le_of_ble_eq_true rfl, Nat.le_of_ble_eq_true rfl⟩ kGT_ok trivial (fun k q h => by simp at h) hl.1 rfl (Nat.le_of_ble_eq_true rfl) ⟨Nat.le_of_ble_eq_true rfl, Nat.le_of_ble_eq_true rfl⟩ dX6_removePoint_17 ?_
        refine lv_aload_n hx hb dX6_removePoint_20 rfl (lv_at hl 0 rfl) ?_
        refine k_muv (k_runV (As := []) (rest := []) ⟨hx, hb, hml, hown, hts⟩ (c_X6_keepState l D cy H.size a P hI (show 0 ≤ P 50 1 ∧ P 50 1 ≤ 4 by omega)) gX6_removePoint_X6_keepState rfl ⟨rfl, rfl⟩ 0 rfl (by decide +kernel) ⟨Nat.le_of_ble_eq_true rfl, Nat.le_of_ble_eq_true rfl⟩ (GG_ok D cy) hG hS (k_free hD hS hA) hP hD (va_recv hK hP (ci := 5) (q0 := 0) rfl rfl) hl.1 rfl (Nat.le_of_ble_eq_true rfl) ⟨Nat.le_of_ble_eq_true rfl, Nat.le_of_ble_eq_true rfl⟩ dX6_removePoint_21) (k_free hD hS hA) hS (fun R_5 H1 locs1 hR_5 hP1 hD1 hS1 hk1 => ?_)
        obtain ⟨g_6, Q_7⟩ := R_5
        have hR_5 : (∀ c9 : Nat, c9 < 50 → Q_7 c9 = P c9) ∧ Q_7 100 = ups (P 100) 6 0 ∧ kept2 P Q_7 := hR_5
        have hDn : va_D (va_A (obhsW cy a P) sz) (obhsW cy (pgm a g_6) (upr (upr (upr (upr (upr (upr (upr (upr (upr Q_7 0 (P 0)) 1 (P 1)) 2 (P 2)) 3 (P 3)) 4 (P 4)) 5 (P 5)) 6 (P 6)) 7 (P 7)) 8 (P 8))) := k_addr (A := va_A (obhsW cy a P) sz) (⟨hD1.1, fun k9 q9 h9 => (k_free hD hS hA) q9.1 (hD1.2 k9 q9 h9)⟩) rfl
        have hPn : va_P D vwCl (obhsW cy (pgm a g_6) (upr (upr (upr (upr (upr (upr (upr (upr (upr Q_7 0 (P 0)) 1 (P 1)) 2 (P 2)) 3 (P 3)) 4 (P 4)) 5 (P 5)) 6 (P 6)) 7 (P 7)) 8 (P 8))) H1 := by rw [← keep9 hR_5.1]; exact hP1
        clear hP hD hS hP1 hD1 hk1
        have hP := hPn
        have hD := hDn
        have hS := hS1
        clear hPn hDn hS1
        generalize H1 = H at hP hS ⊢
        generalize locs1 = locs at hS ⊢
        obtain ⟨hq, h100, hkp⟩ := hR_5
        refine lv_aload_n hx hb dX6_removePoint_24 rfl (lv_at hl 0 rfl) ?_
        refine va_get (D := D) (ci := 5) (v := .ref ((pgm a g_6) 0)) (C := RX6) (T := TX6) (N := 8) hx hb hts hinX6 hown hK hP 0 rfl rfl 0 (by decide) hmw0 (fun _ h9 => h9) rfl dX6_removePoint_25 ?_
        refine lv_iload_n hx hb dX6_removePoint_28 rfl (lv_at hl 1 rfl) ?_
        refine lv_iload_n hx hb dX6_removePoint_29 rfl (lv_at hl 2 rfl) ?_
        have hPc := hP.sub (ws' := (plW cy (pgm a g_6) (upr (upr (upr (upr (upr (upr (upr (upr (upr Q_7 0 (P 0)) 1 (P 1)) 2 (P 2)) 3 (P 3)) 4 (P 4)) 5 (P 5)) 6 (P 6)) 7 (P 7)) 8 (P 8)))) [39, 40, 41, 42, 43, 44, 45, 46, 47] rfl
        have hDc := hD.sub (ws' := (plW cy (pgm a g_6) (upr (upr (upr (upr (upr (upr (upr (upr (upr Q_7 0 (P 0)) 1 (P 1)) 2 (P 2)) 3 (P 3)) 4 (P 4)) 5 (P 5)) 6 (P 6)) 7 (P 7)) 8 (P 8)))) [39, 40, 41, 42, 43, 44, 45, 46, 47] (by decide) rfl
        have hFc := va_free (wc := (plW cy (pgm a g_6) (upr (upr (upr (upr (upr (upr (upr (upr (upr Q_7 0 (P 0)) 1 (P 1)) 2 (P 2)) 3 (P 3)) 4 (P 4)) 5 (P 5)) 6 (P 6)) 7 (P 7)) 8 (P 8)))) hD hS hA [39, 40, 41, 42, 43, 44, 45, 46, 47] rfl
        refine k_mui (k_runV (As := [.int (iI t), .int (iI q)]) (rest := []) ⟨hx, hb, hml, hown, hts⟩ (c_X4_dropPoint l D cy H.size (pgm a g_6) (upr (upr (upr (upr (upr (upr (upr (upr (upr Q_7 0 (P 0)) 1 (P 1)) 2 (P 2)) 3 (P 3)) 4 (P 4)) 5 (P 5)) 6 (P 6)) 7 (P 7)) 8 (P 8)) t q hI (show 0 ≤ t by omega) (show t < (P 0) 0 by omega) (show 0 ≤ q by omega) (show q < (P 1) t by omega)) gX6_removePoint_X4_dropPoint rfl ⟨rfl, rfl⟩ 2 rfl (by decide +kernel) ⟨Nat.le_of_ble_eq_true rfl, Nat.le_of_ble_eq_true rfl⟩ (GG_ok D cy) hG hS hFc hPc hDc (va_recv hK hP (ci := 3) (q0 := 39) rfl rfl) hl.1 rfl (Nat.le_of_ble_eq_true rfl) ⟨Nat.le_of_ble_eq_true rfl, Nat.le_of_ble_eq_true rfl⟩ dX6_removePoint_30) hFc hS (fun r_8 R_9 H1 locs1 hR_9 hP1 hD1 hS1 hk1 => ?_)
        have hR_9 : r_8 = (P 1) t - 1 ∧ R_9 = (upr (upr (upr (upr (upr (upr (upr (upr (upr (upr (upr (upr (upr Q_7 0 (P 0)) 1 (P 1)) 2 (P 2)) 3 (P 3)) 4 (P 4)) 5 (P 5)) 6 (P 6)) 7 (P 7)) 8 (P 8)) 1 (ups ((P 1)) t ((P 1) t - 1))) 2 (shf ((P 2)) (12 * t + q) (12 * t + (P 1) t - 1) 1)) 3 (shf ((P 3)) (12 * t + q) (12 * t + (P 1) t - 1) 1)) 4 (shf ((P 4)) (12 * t + q) (12 * t + (P 1) t - 1) 1)) := hR_9
        obtain ⟨hr_8, rfl⟩ := hR_9
        have hr_8 : r_8 = (P 1) t - 1 := hr_8
        subst hr_8
        have hDn : va_D (va_A (obhsW cy a P) sz) (obhsW cy (pgm a g_6) (upr (upr (upr (upr (upr (upr (upr (upr (upr Q_7 0 (P 0)) 1 (ups ((P 1)) t ((P 1) t - 1))) 2 (shf ((P 2)) (12 * t + q) (12 * t + (P 1) t - 1) 1)) 3 (shf ((P 3)) (12 * t + q) (12 * t + (P 1) t - 1) 1)) 4 (shf ((P 4)) (12 * t + q) (12 * t + (P 1) t - 1) 1)) 5 (P 5)) 6 (P 6)) 7 (P 7)) 8 (P 8))) := k_addr hD rfl
        have hPn := k_join (ws' := (obhsW cy (pgm a g_6) (upr (upr (upr (upr (upr (upr (upr (upr (upr Q_7 0 (P 0)) 1 (ups ((P 1)) t ((P 1) t - 1))) 2 (shf ((P 2)) (12 * t + q) (12 * t + (P 1) t - 1) 1)) 3 (shf ((P 3)) (12 * t + q) (12 * t + (P 1) t - 1) 1)) 4 (shf ((P 4)) (12 * t + q) (12 * t + (P 1) t - 1) 1)) 5 (P 5)) 6 (P 6)) 7 (P 7)) 8 (P 8)))) hP hD [39, 40, 41, 42, 43, 44, 45, 46, 47] [none, none, none, none, none, none, none, none, none, none, none, none, none, none, none, none, none, none, none, none, none, none, none, none, none, none, none, none, none, none, none, none, none, none, none, none, none, none, none, some 0, some 1, some 2, some 3, some 4, some 5, some 6, some 7, some 8] rfl hk1 hP1 rfl rfl
        clear hP hD hS hP1 hD1 hk1
        have hP := hPn
        have hD := hDn
        have hS := hS1
        clear hPn hDn hS1
        generalize H1 = H at hP hS ⊢
        generalize locs1 = locs at hS ⊢
        exact W.iret (v := iI ((P 1) t - 1)) hx hb hr (fun t9 ht _ => ⟨⟨iI ((P 1) t - 1), (g_6, (upr (upr (upr (upr (upr (upr (upr (upr (upr Q_7 0 (P 0)) 1 (ups ((P 1)) t ((P 1) t - 1))) 2 (shf ((P 2)) (12 * t + q) (12 * t + (P 1) t - 1) 1)) 3 (shf ((P 3)) (12 * t + q) (12 * t + (P 1) t - 1) 1)) 4 (shf ((P 4)) (12 * t + q) (12 * t + (P 1) t - 1) 1)) 5 (P 5)) 6 (P 6)) 7 (P 7)) 8 (P 8))), rfl, ⟨((P 1) t - 1), rfl, (⟨rfl, opd_of hsv hq h100 hkp (fun c9 h9 => by (repeat rw [upr_o _ _ (by omega)])) (rfl)⟩ : ((P 1) t - 1 : Int) = P 1 t - 1 ∧ opd P (upr (upr (upr (upr (upr (upr (upr (upr (upr Q_7 0 (P 0)) 1 (ups ((P 1)) t ((P 1) t - 1))) 2 (shf ((P 2)) (12 * t + q) (12 * t + (P 1) t - 1) 1)) 3 (shf ((P 3)) (12 * t + q) (12 * t + (P 1) t - 1) 1)) 4 (shf ((P 4)) (12 * t + q) (12 * t + (P 1) t - 1) 1)) 5 (P 5)) 6 (P 6)) 7 (P 7)) 8 (P 8)) (mO (cRP P t q)))⟩, by rw [ht]; exact hP, hD⟩, hS.F ht⟩) hS.2.2 dX6_removePoint_33 hlocks
    · skip
      refine k_if_eq (tgt := 16) hx hb dX6_removePoint_9 (by decide) (by omega) (fun c_10 => ?_) (fun c_10 => ?_)
      · skip
        refine k_iconst hx hb dX6_removePoint_16 ?_
        exfalso; first | omega | omega
      · exfalso; omega
  exact hbody s.heap [] hP hS ls hl
set_option maxHeartbeats 4000000 in
set_option maxRecDepth 100000 in
theorem c_X6_removePoint_t1 (l : Launch) (hl9 : l.stackTraces = false) (D : va_G) (cy : Nat → ClassId) (a : Nat → Nat) (P : Nat → Int → Int) (t q : Int) (hI : Inv (mO P)) (hrt : -2147483648 ≤ t ∧ t ≤ 2147483647) (hrq : -2147483648 ≤ q ∧ q ≤ 2147483647) (hno : ¬ ((0 ≤ t ∧ t < P 0 0) ∧ 0 ≤ q ∧ q < P 1 t)) : vx_Met l yX6_removePoint wsX6_removePoint { frames := 7, cells := 1, slots := 6, locals := 110 } (kPre (GX D cy) D (obplW cy a P) ([.ref (a 100), .int (iI t), .int (iI q)] : List Value)) kNo (XK (exN 0)) 1 6 (fun _ => False) := by
  refine kTH_start (cc := cX6_removePoint) (maxL := 3) (ret := (some .int)) (by decide) rfl (Nat.le_of_ble_eq_true rfl) ?_
  intro p e s m below meth c hx hb hr hlocks hml hts hown ht hG hP ls hl
  have hGe := hG.2
  have hGs := hG.1
  have hJd := hGs.2.1
  have hG := hGs.1
  have hK := hG.1
  have hl : lv_has ls 3 [(0, .ref (a 100)), (1, .int (iI t)), (2, .int (iI q))] := hl
  have hinX6 : ∀ w ∈ u_ws RX6 TX6 8, w ∈ wsX6_removePoint := by decide +kernel
  have hmw0 := hts (.fieldLink RX6 10 "ArcPlate" "plate" "LArcPlate$Plate;") (by decide +kernel)
  have hS0 := po_S hI
  refine lv_aload_n hx hb dX6_removePoint_0 rfl (lv_at hl 0 rfl) ?_
  refine va_get (D := D) (ci := 5) (v := .ref (a 0)) (C := RX6) (T := TX6) (N := 8) hx hb hts hinX6 hown hK hP 0 rfl rfl 0 (by decide) hmw0 (fun _ h9 => h9) rfl dX6_removePoint_1 ?_
  refine lv_iload_n hx hb dX6_removePoint_4 rfl (lv_at hl 1 rfl) ?_
  refine lv_iload_n hx hb dX6_removePoint_5 rfl (lv_at hl 2 rfl) ?_
  refine k_roV (As := [.int (iI t), .int (iI q)]) (rest := []) ⟨hx, hb, hml, hown, hts⟩ (c_X4_hasPoint l D cy a P t q hI (show -2147483648 ≤ t ∧ t ≤ 2147483647 by omega) (show -2147483648 ≤ q ∧ q ≤ 2147483647 by omega)) gX6_removePoint_X4_hasPoint rfl ⟨rfl, rfl⟩ 2 rfl (by decide +kernel) ⟨Nat.le_of_ble_eq_true rfl, Nat.le_of_ble_eq_true rfl⟩ (GG_ok D cy) hG (hP.sub (ws' := (plW cy a P)) [1, 2, 3, 4, 5, 6, 7, 8, 9] rfl) (va_recv hK hP (ci := 3) (q0 := 1) rfl rfl) hl.1 rfl (Nat.le_of_ble_eq_true rfl) ⟨Nat.le_of_ble_eq_true rfl, Nat.le_of_ble_eq_true rfl⟩ dX6_removePoint_6 (fun r_1 hr_1 => ?_)
  have hr_1 : (((0 ≤ t ∧ t < P 0 0) ∧ 0 ≤ q ∧ q < P 1 t) ∧ r_1 = 1) ∨ (¬ ((0 ≤ t ∧ t < P 0 0) ∧ 0 ≤ q ∧ q < P 1 t) ∧ r_1 = 0) := hr_1
  rcases hr_1 with ⟨c_2, hr_1⟩ | ⟨c_2, hr_1⟩ <;> subst hr_1
  · skip
    refine k_if_eq (tgt := 16) hx hb dX6_removePoint_9 (by decide) (by omega) (fun c_3 => ?_) (fun c_3 => ?_)
    · exfalso; omega
    · skip
      refine k_iconst hx hb dX6_removePoint_12 ?_
      refine lv_goto (tgt := 17) hx hb dX6_removePoint_13 (by decide) ?_
      exfalso; first | omega | omega
  · skip
    refine k_if_eq (tgt := 16) hx hb dX6_removePoint_9 (by decide) (by omega) (fun c_4 => ?_) (fun c_4 => ?_)
    · skip
      refine k_iconst hx hb dX6_removePoint_16 ?_
      exact k_thS (As := [.int (iI 1)]) (rest := []) ⟨hx, hb, hml, hown, hts⟩ (c_X6_refuse1 l hl9 D) gX6_removePoint_X6_refuse rfl ⟨rfl, rfl⟩ 1 rfl (by decide +kernel) ⟨Nat.le_of_ble_eq_true rfl, Nat.le_of_ble_eq_true rfl⟩ exA_ok hGe (fun k q h => by simp at h) hl.1 rfl (Nat.le_of_ble_eq_true rfl) ⟨Nat.le_of_ble_eq_true rfl, Nat.le_of_ble_eq_true rfl⟩ dX6_removePoint_17 ht hlocks
    · exfalso; omega
set_option maxHeartbeats 4000000 in
set_option maxRecDepth 100000 in
theorem c_X6_set (l : Launch) (D : va_G) (cy : Nat → ClassId) (sz : Nat) (a : Nat → Nat) (P : Nat → Int → Int) (w v : Int) (hI : Inv (mO P)) (hsv : 0 ≤ P 50 1 ∧ P 50 1 ≤ 4) (hrw : -2147483648 ≤ w ∧ w ≤ 2147483647) (hrv : -2147483648 ≤ v ∧ v ≤ 2147483647) (hok : setOK w v) : Met l yX6_set wsX6_set { frames := 5, cells := 0, slots := 0, locals := 105 } (mPre (GG D cy) D (obhsW cy a P) sz ([.ref (a 100), .int (iI w), .int (iI v)] : List Value)) (kQi D (obhsW cy a P) sz (fun u9 : (Nat → Nat) × (Nat → Int → Int) => obhsW cy (pgm a u9.1) u9.2) (fun r9 u9 => r9 = P 8 w ∧ opd P u9.2 (mO (upr P 8 (ups (P 8) w v))))) 0 0 (va_A (obhsW cy a P) sz) := by
  refine kM_start (cc := cX6_set) (maxL := 3) (ret := (some .int)) (by decide) rfl (Nat.le_of_ble_eq_true rfl) ?_
  intro p e s m below meth c hx hb hr hlocks hml hts hown hsz hA hG hP hD hS hin ls hl
  have hK := hG.1
  have hl : lv_has ls 3 [(0, .ref (a 100)), (1, .int (iI w)), (2, .int (iI v))] := hl
  have hinX6 : ∀ w ∈ u_ws RX6 TX6 8, w ∈ wsX6_set := by decide +kernel
  have hmw0 := hts (.fieldLink RX6 10 "ArcPlate" "plate" "LArcPlate$Plate;") (by decide +kernel)
  have hok2 := hok.1
  have hbody : ∀ (H : Heap) (locs : List Loc) (hP : va_P D vwCl (obhsW cy a P) H) (hS : va_S (va_A (obhsW cy a P) sz) s.heap H locs) (ls : Array Slot) (hl : lv_has ls 3 [(0, .ref (a 100)), (1, .int (iI w)), (2, .int (iI v))]), W p l e { frames := 5, cells := 0, slots := 0, locals := 105 } s m ([.ref (a 100), .int (iI w), .int (iI v)] : List Value).toArray below meth c H locs 0 0 (MQ below (kQi D (obhsW cy a P) sz (fun u9 : (Nat → Nat) × (Nat → Int → Int) => obhsW cy (pgm a u9.1) u9.2) (fun r9 u9 => r9 = P 8 w ∧ opd P u9.2 (mO (upr P 8 (ups (P 8) w v))))) ([.ref (a 100), .int (iI w), .int (iI v)] : List Value).toArray s 0 0 (va_A (obhsW cy a P) sz)) (F0 m 0 ls []) := by
    intro H locs hP hS ls hl
    refine lv_iload_n hx hb dX6_set_0 rfl (lv_at hl 1 rfl) ?_
    refine lv_iload_n hx hb dX6_set_1 rfl (lv_at hl 2 rfl) ?_
    refine k_roS (As := [.int (iI w), .int (iI v)]) (rest := []) ⟨hx, hb, hml, hown, hts⟩ (c_X4_faultOfSetting l D cy w v (show -2147483648 ≤ w ∧ w ≤ 2147483647 by omega) (show -2147483648 ≤ v ∧ v ≤ 2147483647 by omega)) gX6_set_X4_faultOfSetting rfl ⟨rfl, rfl⟩ 2 rfl (by decide +kernel) ⟨Nat.le_of_ble_eq_true rfl, Nat.le_of_ble_eq_true rfl⟩ (GG_ok D cy) ((GG_ok D cy).2.2.2 _ _ _ _ (fun _ h => h.elim) ((GG_ok D cy).1 _ _ _ _ hS.2.1 hG)) (fun k q h => by simp at h) hl.1 rfl (Nat.le_of_ble_eq_true rfl) ⟨Nat.le_of_ble_eq_true rfl, Nat.le_of_ble_eq_true rfl⟩ dX6_set_2 (fun r_1 hr_1 => ?_)
    have hr_1 : ((setOK w v) ∧ r_1 = 0) ∨ ((¬ setOK w v) ∧ r_1 = 2) := hr_1
    rcases hr_1 with ⟨c_2, hr_1⟩ | ⟨c_2, hr_1⟩ <;> subst hr_1
    · skip
      refine k_rovS (As := [.int (iI 0)]) (rest := []) ⟨hx, hb, hml, hown, hts⟩ (c_X6_refuse l D) gX6_set_X6_refuse rfl ⟨rfl, rfl⟩ 1 rfl (by decide +kernel) ⟨Nat.le_of_ble_eq_true rfl, Nat.le_of_ble_eq_true rfl⟩ kGT_ok trivial (fun k q h => by simp at h) hl.1 rfl (Nat.le_of_ble_eq_true rfl) ⟨Nat.le_of_ble_eq_true rfl, Nat.le_of_ble_eq_true rfl⟩ dX6_set_5 ?_
      refine lv_aload_n hx hb dX6_set_8 rfl (lv_at hl 0 rfl) ?_
      refine k_muv (k_runV (As := []) (rest := []) ⟨hx, hb, hml, hown, hts⟩ (c_X6_keepState l D cy H.size a P hI (show 0 ≤ P 50 1 ∧ P 50 1 ≤ 4 by omega)) gX6_set_X6_keepState rfl ⟨rfl, rfl⟩ 0 rfl (by decide +kernel) ⟨Nat.le_of_ble_eq_true rfl, Nat.le_of_ble_eq_true rfl⟩ (GG_ok D cy) hG hS (k_free hD hS hA) hP hD (va_recv hK hP (ci := 5) (q0 := 0) rfl rfl) hl.1 rfl (Nat.le_of_ble_eq_true rfl) ⟨Nat.le_of_ble_eq_true rfl, Nat.le_of_ble_eq_true rfl⟩ dX6_set_9) (k_free hD hS hA) hS (fun R_4 H1 locs1 hR_4 hP1 hD1 hS1 hk1 => ?_)
      obtain ⟨g_5, Q_6⟩ := R_4
      have hR_4 : (∀ c9 : Nat, c9 < 50 → Q_6 c9 = P c9) ∧ Q_6 100 = ups (P 100) 6 0 ∧ kept2 P Q_6 := hR_4
      have hDn : va_D (va_A (obhsW cy a P) sz) (obhsW cy (pgm a g_5) (upr (upr (upr (upr (upr (upr (upr (upr (upr Q_6 0 (P 0)) 1 (P 1)) 2 (P 2)) 3 (P 3)) 4 (P 4)) 5 (P 5)) 6 (P 6)) 7 (P 7)) 8 (P 8))) := k_addr (A := va_A (obhsW cy a P) sz) (⟨hD1.1, fun k9 q9 h9 => (k_free hD hS hA) q9.1 (hD1.2 k9 q9 h9)⟩) rfl
      have hPn : va_P D vwCl (obhsW cy (pgm a g_5) (upr (upr (upr (upr (upr (upr (upr (upr (upr Q_6 0 (P 0)) 1 (P 1)) 2 (P 2)) 3 (P 3)) 4 (P 4)) 5 (P 5)) 6 (P 6)) 7 (P 7)) 8 (P 8))) H1 := by rw [← keep9 hR_4.1]; exact hP1
      clear hP hD hS hP1 hD1 hk1
      have hP := hPn
      have hD := hDn
      have hS := hS1
      clear hPn hDn hS1
      generalize H1 = H at hP hS ⊢
      generalize locs1 = locs at hS ⊢
      obtain ⟨hq, h100, hkp⟩ := hR_4
      refine lv_aload_n hx hb dX6_set_12 rfl (lv_at hl 0 rfl) ?_
      refine va_get (D := D) (ci := 5) (v := .ref ((pgm a g_5) 0)) (C := RX6) (T := TX6) (N := 8) hx hb hts hinX6 hown hK hP 0 rfl rfl 0 (by decide) hmw0 (fun _ h9 => h9) rfl dX6_set_13 ?_
      refine lv_iload_n hx hb dX6_set_16 rfl (lv_at hl 1 rfl) ?_
      refine lv_iload_n hx hb dX6_set_17 rfl (lv_at hl 2 rfl) ?_
      have hPc := hP.sub (ws' := (plW cy (pgm a g_5) (upr (upr (upr (upr (upr (upr (upr (upr (upr Q_6 0 (P 0)) 1 (P 1)) 2 (P 2)) 3 (P 3)) 4 (P 4)) 5 (P 5)) 6 (P 6)) 7 (P 7)) 8 (P 8)))) [39, 40, 41, 42, 43, 44, 45, 46, 47] rfl
      have hDc := hD.sub (ws' := (plW cy (pgm a g_5) (upr (upr (upr (upr (upr (upr (upr (upr (upr Q_6 0 (P 0)) 1 (P 1)) 2 (P 2)) 3 (P 3)) 4 (P 4)) 5 (P 5)) 6 (P 6)) 7 (P 7)) 8 (P 8)))) [39, 40, 41, 42, 43, 44, 45, 46, 47] (by decide) rfl
      have hFc := va_free (wc := (plW cy (pgm a g_5) (upr (upr (upr (upr (upr (upr (upr (upr (upr Q_6 0 (P 0)) 1 (P 1)) 2 (P 2)) 3 (P 3)) 4 (P 4)) 5 (P 5)) 6 (P 6)) 7 (P 7)) 8 (P 8)))) hD hS hA [39, 40, 41, 42, 43, 44, 45, 46, 47] rfl
      refine k_mui (k_runV (As := [.int (iI w), .int (iI v)]) (rest := []) ⟨hx, hb, hml, hown, hts⟩ (c_X4_putSetting l D cy H.size (pgm a g_5) (upr (upr (upr (upr (upr (upr (upr (upr (upr Q_6 0 (P 0)) 1 (P 1)) 2 (P 2)) 3 (P 3)) 4 (P 4)) 5 (P 5)) 6 (P 6)) 7 (P 7)) 8 (P 8)) w v (show 0 ≤ w ∧ w ≤ 9 by omega)) gX6_set_X4_putSetting rfl ⟨rfl, rfl⟩ 2 rfl (by decide +kernel) ⟨Nat.le_of_ble_eq_true rfl, Nat.le_of_ble_eq_true rfl⟩ (GG_ok D cy) hG hS hFc hPc hDc (va_recv hK hP (ci := 3) (q0 := 39) rfl rfl) hl.1 rfl (Nat.le_of_ble_eq_true rfl) ⟨Nat.le_of_ble_eq_true rfl, Nat.le_of_ble_eq_true rfl⟩ dX6_set_18) hFc hS (fun r_7 R_8 H1 locs1 hR_8 hP1 hD1 hS1 hk1 => ?_)
      have hR_8 : r_7 = (P 8) w ∧ R_8 = (upr (upr (upr (upr (upr (upr (upr (upr (upr (upr Q_6 0 (P 0)) 1 (P 1)) 2 (P 2)) 3 (P 3)) 4 (P 4)) 5 (P 5)) 6 (P 6)) 7 (P 7)) 8 (P 8)) 8 (ups ((P 8)) w v)) := hR_8
      obtain ⟨hr_7, rfl⟩ := hR_8
      have hr_7 : r_7 = (P 8) w := hr_7
      subst hr_7
      have hDn : va_D (va_A (obhsW cy a P) sz) (obhsW cy (pgm a g_5) (upr (upr (upr (upr (upr (upr (upr (upr (upr Q_6 0 (P 0)) 1 (P 1)) 2 (P 2)) 3 (P 3)) 4 (P 4)) 5 (P 5)) 6 (P 6)) 7 (P 7)) 8 (ups ((P 8)) w v))) := k_addr hD rfl
      have hPn := k_join (ws' := (obhsW cy (pgm a g_5) (upr (upr (upr (upr (upr (upr (upr (upr (upr Q_6 0 (P 0)) 1 (P 1)) 2 (P 2)) 3 (P 3)) 4 (P 4)) 5 (P 5)) 6 (P 6)) 7 (P 7)) 8 (ups ((P 8)) w v)))) hP hD [39, 40, 41, 42, 43, 44, 45, 46, 47] [none, none, none, none, none, none, none, none, none, none, none, none, none, none, none, none, none, none, none, none, none, none, none, none, none, none, none, none, none, none, none, none, none, none, none, none, none, none, none, some 0, some 1, some 2, some 3, some 4, some 5, some 6, some 7, some 8] rfl hk1 hP1 rfl rfl
      clear hP hD hS hP1 hD1 hk1
      have hP := hPn
      have hD := hDn
      have hS := hS1
      clear hPn hDn hS1
      generalize H1 = H at hP hS ⊢
      generalize locs1 = locs at hS ⊢
      exact W.iret (v := iI ((P 8) w)) hx hb hr (fun t9 ht _ => ⟨⟨iI ((P 8) w), (g_5, (upr (upr (upr (upr (upr (upr (upr (upr (upr Q_6 0 (P 0)) 1 (P 1)) 2 (P 2)) 3 (P 3)) 4 (P 4)) 5 (P 5)) 6 (P 6)) 7 (P 7)) 8 (ups ((P 8)) w v))), rfl, ⟨((P 8) w), rfl, (⟨rfl, opd_of hsv hq h100 hkp (fun c9 h9 => by (repeat rw [upr_o _ _ (by omega)])) (rfl)⟩ : ((P 8) w : Int) = P 8 w ∧ opd P (upr (upr (upr (upr (upr (upr (upr (upr (upr Q_6 0 (P 0)) 1 (P 1)) 2 (P 2)) 3 (P 3)) 4 (P 4)) 5 (P 5)) 6 (P 6)) 7 (P 7)) 8 (ups ((P 8)) w v)) (mO (upr P 8 (ups (P 8) w v))))⟩, by rw [ht]; exact hP, hD⟩, hS.F ht⟩) hS.2.2 dX6_set_21 hlocks
    · skip
      exfalso; first | omega | exact absurd hok (by assumption)
  exact hbody s.heap [] hP hS ls hl
set_option maxHeartbeats 4000000 in
set_option maxRecDepth 100000 in
theorem c_X6_set_t2 (l : Launch) (hl9 : l.stackTraces = false) (D : va_G) (cy : Nat → ClassId) (a : Nat → Nat) (P : Nat → Int → Int) (w v : Int) (hrw : -2147483648 ≤ w ∧ w ≤ 2147483647) (hrv : -2147483648 ≤ v ∧ v ≤ 2147483647) (hno : ¬ setOK w v) : vx_Met l yX6_set wsX6_set { frames := 7, cells := 1, slots := 6, locals := 110 } (kPre (GX D cy) D (obplW cy a P) ([.ref (a 100), .int (iI w), .int (iI v)] : List Value)) kNo (XK (exN 1)) 1 6 (fun _ => False) := by
  refine kTH_start (cc := cX6_set) (maxL := 3) (ret := (some .int)) (by decide) rfl (Nat.le_of_ble_eq_true rfl) ?_
  intro p e s m below meth c hx hb hr hlocks hml hts hown ht hG hP ls hl
  have hGe := hG.2
  have hGs := hG.1
  have hJd := hGs.2.1
  have hG := hGs.1
  have hK := hG.1
  have hl : lv_has ls 3 [(0, .ref (a 100)), (1, .int (iI w)), (2, .int (iI v))] := hl
  refine lv_iload_n hx hb dX6_set_0 rfl (lv_at hl 1 rfl) ?_
  refine lv_iload_n hx hb dX6_set_1 rfl (lv_at hl 2 rfl) ?_
  refine k_roS (As := [.int (iI w), .int (iI v)]) (rest := []) ⟨hx, hb, hml, hown, hts⟩ (c_X4_faultOfSetting l D cy w v (show -2147483648 ≤ w ∧ w ≤ 2147483647 by omega) (show -2147483648 ≤ v ∧ v ≤ 2147483647 by omega)) gX6_set_X4_faultOfSetting rfl ⟨rfl, rfl⟩ 2 rfl (by decide +kernel) ⟨Nat.le_of_ble_eq_true rfl, Nat.le_of_ble_eq_true rfl⟩ (GG_ok D cy) hG (fun k q h => by simp at h) hl.1 rfl (Nat.le_of_ble_eq_true rfl) ⟨Nat.le_of_ble_eq_true rfl, Nat.le_of_ble_eq_true rfl⟩ dX6_set_2 (fun r_1 hr_1 => ?_)
  have hr_1 : ((setOK w v) ∧ r_1 = 0) ∨ ((¬ setOK w v) ∧ r_1 = 2) := hr_1
  rcases hr_1 with ⟨c_2, hr_1⟩ | ⟨c_2, hr_1⟩ <;> subst hr_1
  · skip
    exfalso; first | omega | exact absurd (by assumption) hno
  · skip
    exact k_thS (As := [.int (iI 2)]) (rest := []) ⟨hx, hb, hml, hown, hts⟩ (c_X6_refuse2 l hl9 D) gX6_set_X6_refuse rfl ⟨rfl, rfl⟩ 1 rfl (by decide +kernel) ⟨Nat.le_of_ble_eq_true rfl, Nat.le_of_ble_eq_true rfl⟩ exA_ok hGe (fun k q h => by simp at h) hl.1 rfl (Nat.le_of_ble_eq_true rfl) ⟨Nat.le_of_ble_eq_true rfl, Nat.le_of_ble_eq_true rfl⟩ dX6_set_5 ht hlocks
set_option maxHeartbeats 4000000 in
set_option maxRecDepth 100000 in
theorem c_X6_setPole (l : Launch) (D : va_G) (cy : Nat → ClassId) (sz : Nat) (a : Nat → Nat) (P : Nat → Int → Int) (x y : Int) (hI : Inv (mO P)) (hsv : 0 ≤ P 50 1 ∧ P 50 1 ≤ 4) (hrx : -2147483648 ≤ x ∧ x ≤ 2147483647) (hry : -2147483648 ≤ y ∧ y ≤ 2147483647) (hpo : poleOK x y) : Met l yX6_setPole wsX6_setPole { frames := 5, cells := 0, slots := 0, locals := 124 } (mPre (GG D cy) D (obhsW cy a P) sz ([.ref (a 100), .int (iI x), .int (iI y)] : List Value)) (kQi D (obhsW cy a P) sz (fun u9 : (Nat → Nat) × (Nat → Int → Int) => obhsW cy (pgm a u9.1) u9.2) (fun r9 u9 => r9 = pcost (tPo (mO P) x y) ∧ opd P u9.2 (tPo (mO P) x y))) 0 0 (va_A (obhsW cy a P) sz) := by
  refine kM_start (cc := cX6_setPole) (maxL := 3) (ret := (some .int)) (by decide) rfl (Nat.le_of_ble_eq_true rfl) ?_
  intro p e s m below meth c hx hb hr hlocks hml hts hown hsz hA hG hP hD hS hin ls hl
  have hK := hG.1
  have hl : lv_has ls 3 [(0, .ref (a 100)), (1, .int (iI x)), (2, .int (iI y))] := hl
  have hinX6 : ∀ w ∈ u_ws RX6 TX6 8, w ∈ wsX6_setPole := by decide +kernel
  have hmw0 := hts (.fieldLink RX6 10 "ArcPlate" "plate" "LArcPlate$Plate;") (by decide +kernel)
  have hbody : ∀ (H : Heap) (locs : List Loc) (hP : va_P D vwCl (obhsW cy a P) H) (hS : va_S (va_A (obhsW cy a P) sz) s.heap H locs) (ls : Array Slot) (hl : lv_has ls 3 [(0, .ref (a 100)), (1, .int (iI x)), (2, .int (iI y))]), W p l e { frames := 5, cells := 0, slots := 0, locals := 124 } s m ([.ref (a 100), .int (iI x), .int (iI y)] : List Value).toArray below meth c H locs 0 0 (MQ below (kQi D (obhsW cy a P) sz (fun u9 : (Nat → Nat) × (Nat → Int → Int) => obhsW cy (pgm a u9.1) u9.2) (fun r9 u9 => r9 = pcost (tPo (mO P) x y) ∧ opd P u9.2 (tPo (mO P) x y))) ([.ref (a 100), .int (iI x), .int (iI y)] : List Value).toArray s 0 0 (va_A (obhsW cy a P) sz)) (F0 m 0 ls []) := by
    intro H locs hP hS ls hl
    refine lv_iload_n hx hb dX6_setPole_0 rfl (lv_at hl 1 rfl) ?_
    refine lv_iload_n hx hb dX6_setPole_1 rfl (lv_at hl 2 rfl) ?_
    refine k_roS (As := [.int (iI x), .int (iI y)]) (rest := []) ⟨hx, hb, hml, hown, hts⟩ (c_X4_faultOfPole l D cy x y (show -2147483648 ≤ x ∧ x ≤ 2147483647 by omega) (show -2147483648 ≤ y ∧ y ≤ 2147483647 by omega)) gX6_setPole_X4_faultOfPole rfl ⟨rfl, rfl⟩ 2 rfl (by decide +kernel) ⟨Nat.le_of_ble_eq_true rfl, Nat.le_of_ble_eq_true rfl⟩ (GG_ok D cy) ((GG_ok D cy).2.2.2 _ _ _ _ (fun _ h => h.elim) ((GG_ok D cy).1 _ _ _ _ hS.2.1 hG)) (fun k q h => by simp at h) hl.1 rfl (Nat.le_of_ble_eq_true rfl) ⟨Nat.le_of_ble_eq_true rfl, Nat.le_of_ble_eq_true rfl⟩ dX6_setPole_2 (fun r_1 hr_1 => ?_)
    have hr_1 : ((poleOK x y) ∧ r_1 = 0) ∨ ((¬ poleOK x y) ∧ r_1 = 2) := hr_1
    rcases hr_1 with ⟨c_2, hr_1⟩ | ⟨c_2, hr_1⟩ <;> subst hr_1
    · skip
      refine k_rovS (As := [.int (iI 0)]) (rest := []) ⟨hx, hb, hml, hown, hts⟩ (c_X6_refuse l D) gX6_setPole_X6_refuse rfl ⟨rfl, rfl⟩ 1 rfl (by decide +kernel) ⟨Nat.le_of_ble_eq_true rfl, Nat.le_of_ble_eq_true rfl⟩ kGT_ok trivial (fun k q h => by simp at h) hl.1 rfl (Nat.le_of_ble_eq_true rfl) ⟨Nat.le_of_ble_eq_true rfl, Nat.le_of_ble_eq_true rfl⟩ dX6_setPole_5 ?_
      refine lv_aload_n hx hb dX6_setPole_8 rfl (lv_at hl 0 rfl) ?_
      refine k_muv (k_runV (As := []) (rest := []) ⟨hx, hb, hml, hown, hts⟩ (c_X6_keepState l D cy H.size a P hI (show 0 ≤ P 50 1 ∧ P 50 1 ≤ 4 by omega)) gX6_setPole_X6_keepState rfl ⟨rfl, rfl⟩ 0 rfl (by decide +kernel) ⟨Nat.le_of_ble_eq_true rfl, Nat.le_of_ble_eq_true rfl⟩ (GG_ok D cy) hG hS (k_free hD hS hA) hP hD (va_recv hK hP (ci := 5) (q0 := 0) rfl rfl) hl.1 rfl (Nat.le_of_ble_eq_true rfl) ⟨Nat.le_of_ble_eq_true rfl, Nat.le_of_ble_eq_true rfl⟩ dX6_setPole_9) (k_free hD hS hA) hS (fun R_4 H1 locs1 hR_4 hP1 hD1 hS1 hk1 => ?_)
      obtain ⟨g_5, Q_6⟩ := R_4
      have hR_4 : (∀ c9 : Nat, c9 < 50 → Q_6 c9 = P c9) ∧ Q_6 100 = ups (P 100) 6 0 ∧ kept2 P Q_6 := hR_4
      have hDn : va_D (va_A (obhsW cy a P) sz) (obhsW cy (pgm a g_5) (upr (upr (upr (upr (upr (upr (upr (upr (upr Q_6 0 (P 0)) 1 (P 1)) 2 (P 2)) 3 (P 3)) 4 (P 4)) 5 (P 5)) 6 (P 6)) 7 (P 7)) 8 (P 8))) := k_addr (A := va_A (obhsW cy a P) sz) (⟨hD1.1, fun k9 q9 h9 => (k_free hD hS hA) q9.1 (hD1.2 k9 q9 h9)⟩) rfl
      have hPn : va_P D vwCl (obhsW cy (pgm a g_5) (upr (upr (upr (upr (upr (upr (upr (upr (upr Q_6 0 (P 0)) 1 (P 1)) 2 (P 2)) 3 (P 3)) 4 (P 4)) 5 (P 5)) 6 (P 6)) 7 (P 7)) 8 (P 8))) H1 := by rw [← keep9 hR_4.1]; exact hP1
      clear hP hD hS hP1 hD1 hk1
      have hP := hPn
      have hD := hDn
      have hS := hS1
      clear hPn hDn hS1
      generalize H1 = H at hP hS ⊢
      generalize locs1 = locs at hS ⊢
      obtain ⟨hq, h100, hkp⟩ := hR_4
      refine lv_aload_n hx hb dX6_setPole_12 rfl (lv_at hl 0 rfl) ?_
      refine va_get (D := D) (ci := 5) (v := .ref ((pgm a g_5) 0)) (C := RX6) (T := TX6) (N := 8) hx hb hts hinX6 hown hK hP 0 rfl rfl 0 (by decide) hmw0 (fun _ h9 => h9) rfl dX6_setPole_13 ?_
      refine lv_iload_n hx hb dX6_setPole_16 rfl (lv_at hl 1 rfl) ?_
      refine lv_iload_n hx hb dX6_setPole_17 rfl (lv_at hl 2 rfl) ?_
      have hPc := hP.sub (ws' := (plW cy (pgm a g_5) (upr (upr (upr (upr (upr (upr (upr (upr (upr Q_6 0 (P 0)) 1 (P 1)) 2 (P 2)) 3 (P 3)) 4 (P 4)) 5 (P 5)) 6 (P 6)) 7 (P 7)) 8 (P 8)))) [39, 40, 41, 42, 43, 44, 45, 46, 47] rfl
      have hDc := hD.sub (ws' := (plW cy (pgm a g_5) (upr (upr (upr (upr (upr (upr (upr (upr (upr Q_6 0 (P 0)) 1 (P 1)) 2 (P 2)) 3 (P 3)) 4 (P 4)) 5 (P 5)) 6 (P 6)) 7 (P 7)) 8 (P 8)))) [39, 40, 41, 42, 43, 44, 45, 46, 47] (by decide) rfl
      have hFc := va_free (wc := (plW cy (pgm a g_5) (upr (upr (upr (upr (upr (upr (upr (upr (upr Q_6 0 (P 0)) 1 (P 1)) 2 (P 2)) 3 (P 3)) 4 (P 4)) 5 (P 5)) 6 (P 6)) 7 (P 7)) 8 (P 8)))) hD hS hA [39, 40, 41, 42, 43, 44, 45, 46, 47] rfl
      refine k_muv (k_runV (As := [.int (iI x), .int (iI y)]) (rest := []) ⟨hx, hb, hml, hown, hts⟩ (c_X4_putPole l D cy H.size (pgm a g_5) (upr (upr (upr (upr (upr (upr (upr (upr (upr Q_6 0 (P 0)) 1 (P 1)) 2 (P 2)) 3 (P 3)) 4 (P 4)) 5 (P 5)) 6 (P 6)) 7 (P 7)) 8 (P 8)) x y ) gX6_setPole_X4_putPole rfl ⟨rfl, rfl⟩ 2 rfl (by decide +kernel) ⟨Nat.le_of_ble_eq_true rfl, Nat.le_of_ble_eq_true rfl⟩ (GG_ok D cy) hG hS hFc hPc hDc (va_recv hK hP (ci := 3) (q0 := 39) rfl rfl) hl.1 rfl (Nat.le_of_ble_eq_true rfl) ⟨Nat.le_of_ble_eq_true rfl, Nat.le_of_ble_eq_true rfl⟩ dX6_setPole_18) hFc hS (fun R_8 H1 locs1 hR_8 hP1 hD1 hS1 hk1 => ?_)
      have hR_8 : R_8 = (upr (upr (upr (upr (upr (upr (upr (upr (upr (upr Q_6 0 (P 0)) 1 (P 1)) 2 (P 2)) 3 (P 3)) 4 (P 4)) 5 (P 5)) 6 (P 6)) 7 (P 7)) 8 (P 8)) 0 (ups (ups ((P 0)) 2 x) 3 y)) := hR_8
      subst hR_8
      have hDn : va_D (va_A (obhsW cy a P) sz) (obhsW cy (pgm a g_5) (upr (upr (upr (upr (upr (upr (upr (upr (upr Q_6 0 (ups (ups ((P 0)) 2 x) 3 y)) 1 (P 1)) 2 (P 2)) 3 (P 3)) 4 (P 4)) 5 (P 5)) 6 (P 6)) 7 (P 7)) 8 (P 8))) := k_addr hD rfl
      have hPn := k_join (ws' := (obhsW cy (pgm a g_5) (upr (upr (upr (upr (upr (upr (upr (upr (upr Q_6 0 (ups (ups ((P 0)) 2 x) 3 y)) 1 (P 1)) 2 (P 2)) 3 (P 3)) 4 (P 4)) 5 (P 5)) 6 (P 6)) 7 (P 7)) 8 (P 8)))) hP hD [39, 40, 41, 42, 43, 44, 45, 46, 47] [none, none, none, none, none, none, none, none, none, none, none, none, none, none, none, none, none, none, none, none, none, none, none, none, none, none, none, none, none, none, none, none, none, none, none, none, none, none, none, some 0, some 1, some 2, some 3, some 4, some 5, some 6, some 7, some 8] rfl hk1 hP1 rfl rfl
      clear hP hD hS hP1 hD1 hk1
      have hP := hPn
      have hD := hDn
      have hS := hS1
      clear hPn hDn hS1
      generalize H1 = H at hP hS ⊢
      generalize locs1 = locs at hS ⊢
      refine lv_aload_n hx hb dX6_setPole_21 rfl (lv_at hl 0 rfl) ?_
      refine va_get (D := D) (ci := 5) (v := .ref ((pgm a g_5) 0)) (C := RX6) (T := TX6) (N := 8) hx hb hts hinX6 hown hK hP 0 rfl rfl 0 (by decide) hmw0 (fun _ h9 => h9) rfl dX6_setPole_22 ?_
      refine lv_iload_n hx hb dX6_setPole_25 rfl (lv_at hl 1 rfl) ?_
      refine lv_iload_n hx hb dX6_setPole_26 rfl (lv_at hl 2 rfl) ?_
      refine k_roV (As := [.int (iI x), .int (iI y)]) (rest := []) ⟨hx, hb, hml, hown, hts⟩ (c_X4_costWithPole l D cy (pgm a g_5) (upr (upr (upr (upr (upr (upr (upr (upr (upr Q_6 0 (ups (ups ((P 0)) 2 x) 3 y)) 1 (P 1)) 2 (P 2)) 3 (P 3)) 4 (P 4)) 5 (P 5)) 6 (P 6)) 7 (P 7)) 8 (P 8)) x y (show Inv (mO (upr (upr (upr (upr (upr (upr (upr (upr (upr Q_6 0 (ups (ups ((P 0)) 2 x) 3 y)) 1 (P 1)) 2 (P 2)) 3 (P 3)) 4 (P 4)) 5 (P 5)) 6 (P 6)) 7 (P 7)) 8 (P 8))) from (show Inv (mO (upr P 0 (ups (ups (P 0) 2 x) 3 y))) by rw [mO_pole]; exact inv_tPo hI hpo)) (show poleOK x y from hpo)) gX6_setPole_X4_costWithPole rfl ⟨rfl, rfl⟩ 2 rfl (by decide +kernel) ⟨Nat.le_of_ble_eq_true rfl, Nat.le_of_ble_eq_true rfl⟩ (GG_ok D cy) ((GG_ok D cy).2.2.2 _ _ _ _ (fun _ h => h.elim) ((GG_ok D cy).1 _ _ _ _ hS.2.1 hG)) (hP.sub (ws' := (plW cy (pgm a g_5) (upr (upr (upr (upr (upr (upr (upr (upr (upr Q_6 0 (ups (ups ((P 0)) 2 x) 3 y)) 1 (P 1)) 2 (P 2)) 3 (P 3)) 4 (P 4)) 5 (P 5)) 6 (P 6)) 7 (P 7)) 8 (P 8)))) [39, 40, 41, 42, 43, 44, 45, 46, 47] rfl) (va_recv hK hP (ci := 3) (q0 := 39) rfl rfl) hl.1 rfl (Nat.le_of_ble_eq_true rfl) ⟨Nat.le_of_ble_eq_true rfl, Nat.le_of_ble_eq_true rfl⟩ dX6_setPole_27 (fun r_9 hr_9 => ?_)
      have hr_9 : r_9 = pcost (tPo (mO (upr (upr (upr (upr (upr (upr (upr (upr (upr Q_6 0 (ups (ups ((P 0)) 2 x) 3 y)) 1 (P 1)) 2 (P 2)) 3 (P 3)) 4 (P 4)) 5 (P 5)) 6 (P 6)) 7 (P 7)) 8 (P 8))) x y) := hr_9
      subst hr_9
      refine k_eqI (v := pcost (tPo (mO (upr (upr (upr (upr (upr (upr (upr (upr (upr Q_6 0 (ups (ups ((P 0)) 2 x) 3 y)) 1 (P 1)) 2 (P 2)) 3 (P 3)) 4 (P 4)) 5 (P 5)) 6 (P 6)) 7 (P 7)) 8 (P 8))) x y)) (w := pcost (tPo (mO P) x y)) (congrArg pcost ((congrArg (fun M9 => tPo M9 x y) (mO_pole P x y)).trans (by rw [tPo_tPo]))) ?_
      exact W.iret (v := iI (pcost (tPo (mO P) x y))) hx hb hr (fun t9 ht _ => ⟨⟨iI (pcost (tPo (mO P) x y)), (g_5, (upr (upr (upr (upr (upr (upr (upr (upr (upr Q_6 0 (ups (ups ((P 0)) 2 x) 3 y)) 1 (P 1)) 2 (P 2)) 3 (P 3)) 4 (P 4)) 5 (P 5)) 6 (P 6)) 7 (P 7)) 8 (P 8))), rfl, ⟨(pcost (tPo (mO P) x y)), rfl, (⟨rfl, opd_of hsv hq h100 hkp (fun c9 h9 => by (repeat rw [upr_o _ _ (by omega)])) (mO_pole P x y)⟩ : (pcost (tPo (mO P) x y) : Int) = pcost (tPo (mO P) x y) ∧ opd P (upr (upr (upr (upr (upr (upr (upr (upr (upr Q_6 0 (ups (ups ((P 0)) 2 x) 3 y)) 1 (P 1)) 2 (P 2)) 3 (P 3)) 4 (P 4)) 5 (P 5)) 6 (P 6)) 7 (P 7)) 8 (P 8)) (tPo (mO P) x y))⟩, by rw [ht]; exact hP, hD⟩, hS.F ht⟩) hS.2.2 dX6_setPole_30 hlocks
    · skip
      exfalso; first | omega | exact absurd hpo (by assumption)
  exact hbody s.heap [] hP hS ls hl
set_option maxHeartbeats 4000000 in
set_option maxRecDepth 100000 in
theorem c_X6_setPole_t2 (l : Launch) (hl9 : l.stackTraces = false) (D : va_G) (cy : Nat → ClassId) (a : Nat → Nat) (P : Nat → Int → Int) (x y : Int) (hrx : -2147483648 ≤ x ∧ x ≤ 2147483647) (hry : -2147483648 ≤ y ∧ y ≤ 2147483647) (hno : ¬ poleOK x y) : vx_Met l yX6_setPole wsX6_setPole { frames := 7, cells := 1, slots := 6, locals := 110 } (kPre (GX D cy) D (obplW cy a P) ([.ref (a 100), .int (iI x), .int (iI y)] : List Value)) kNo (XK (exN 1)) 1 6 (fun _ => False) := by
  refine kTH_start (cc := cX6_setPole) (maxL := 3) (ret := (some .int)) (by decide) rfl (Nat.le_of_ble_eq_true rfl) ?_
  intro p e s m below meth c hx hb hr hlocks hml hts hown ht hG hP ls hl
  have hGe := hG.2
  have hGs := hG.1
  have hJd := hGs.2.1
  have hG := hGs.1
  have hK := hG.1
  have hl : lv_has ls 3 [(0, .ref (a 100)), (1, .int (iI x)), (2, .int (iI y))] := hl
  refine lv_iload_n hx hb dX6_setPole_0 rfl (lv_at hl 1 rfl) ?_
  refine lv_iload_n hx hb dX6_setPole_1 rfl (lv_at hl 2 rfl) ?_
  refine k_roS (As := [.int (iI x), .int (iI y)]) (rest := []) ⟨hx, hb, hml, hown, hts⟩ (c_X4_faultOfPole l D cy x y (show -2147483648 ≤ x ∧ x ≤ 2147483647 by omega) (show -2147483648 ≤ y ∧ y ≤ 2147483647 by omega)) gX6_setPole_X4_faultOfPole rfl ⟨rfl, rfl⟩ 2 rfl (by decide +kernel) ⟨Nat.le_of_ble_eq_true rfl, Nat.le_of_ble_eq_true rfl⟩ (GG_ok D cy) hG (fun k q h => by simp at h) hl.1 rfl (Nat.le_of_ble_eq_true rfl) ⟨Nat.le_of_ble_eq_true rfl, Nat.le_of_ble_eq_true rfl⟩ dX6_setPole_2 (fun r_1 hr_1 => ?_)
  have hr_1 : ((poleOK x y) ∧ r_1 = 0) ∨ ((¬ poleOK x y) ∧ r_1 = 2) := hr_1
  rcases hr_1 with ⟨c_2, hr_1⟩ | ⟨c_2, hr_1⟩ <;> subst hr_1
  · skip
    exfalso; first | omega | exact absurd (by assumption) hno
  · skip
    exact k_thS (As := [.int (iI 2)]) (rest := []) ⟨hx, hb, hml, hown, hts⟩ (c_X6_refuse2 l hl9 D) gX6_setPole_X6_refuse rfl ⟨rfl, rfl⟩ 1 rfl (by decide +kernel) ⟨Nat.le_of_ble_eq_true rfl, Nat.le_of_ble_eq_true rfl⟩ exA_ok hGe (fun k q h => by simp at h) hl.1 rfl (Nat.le_of_ble_eq_true rfl) ⟨Nat.le_of_ble_eq_true rfl, Nat.le_of_ble_eq_true rfl⟩ dX6_setPole_5 ht hlocks
set_option maxHeartbeats 4000000 in
set_option maxRecDepth 100000 in
theorem c_X6_search (l : Launch) (D : va_G) (cy : Nat → ClassId) (sz : Nat) (a : Nat → Nat) (P : Nat → Int → Int) (s9 : Int) (hI : Inv (mO P)) (hsv : 0 ≤ P 50 1 ∧ P 50 1 ≤ 4) (hs9 : 1 ≤ s9 ∧ s9 ≤ 512) : Met l yX6_search wsX6_search { frames := 5, cells := 0, slots := 0, locals := 136 } (mPre (GG D cy) D (obhsW cy a P) sz ([.ref (a 100), .int (iI s9)] : List Value)) (kQi D (obhsW cy a P) sz (fun u9 : (Nat → Nat) × (Nat → Int → Int) => obhsW cy (pgm a u9.1) u9.2) (fun r9 u9 => r9 = (srch (mO P) s9).2 ∧ opd P u9.2 ((srch (mO P) s9).1))) 0 0 (va_A (obhsW cy a P) sz) := by
  refine kM_start (cc := cX6_search) (maxL := 2) (ret := (some .int)) (by decide) rfl (Nat.le_of_ble_eq_true rfl) ?_
  intro p e s m below meth c hx hb hr hlocks hml hts hown hsz hA hG hP hD hS hin ls hl
  have hK := hG.1
  have hl : lv_has ls 2 [(0, .ref (a 100)), (1, .int (iI s9))] := hl
  have hinX6 : ∀ w ∈ u_ws RX6 TX6 8, w ∈ wsX6_search := by decide +kernel
  have hmw0 := hts (.fieldLink RX6 10 "ArcPlate" "plate" "LArcPlate$Plate;") (by decide +kernel)
  have hbody : ∀ (H : Heap) (locs : List Loc) (hP : va_P D vwCl (obhsW cy a P) H) (hS : va_S (va_A (obhsW cy a P) sz) s.heap H locs) (ls : Array Slot) (hl : lv_has ls 2 [(0, .ref (a 100)), (1, .int (iI s9))]), W p l e { frames := 5, cells := 0, slots := 0, locals := 136 } s m ([.ref (a 100), .int (iI s9)] : List Value).toArray below meth c H locs 0 0 (MQ below (kQi D (obhsW cy a P) sz (fun u9 : (Nat → Nat) × (Nat → Int → Int) => obhsW cy (pgm a u9.1) u9.2) (fun r9 u9 => r9 = (srch (mO P) s9).2 ∧ opd P u9.2 ((srch (mO P) s9).1))) ([.ref (a 100), .int (iI s9)] : List Value).toArray s 0 0 (va_A (obhsW cy a P) sz)) (F0 m 0 ls []) := by
    intro H locs hP hS ls hl
    refine lv_iload_n hx hb dX6_search_0 rfl (lv_at hl 1 rfl) ?_
    refine k_roS (As := [.int (iI s9)]) (rest := []) ⟨hx, hb, hml, hown, hts⟩ (c_X4_faultOfStep l D cy s9 (show -2147483648 ≤ s9 ∧ s9 ≤ 2147483647 by omega)) gX6_search_X4_faultOfStep rfl ⟨rfl, rfl⟩ 1 rfl (by decide +kernel) ⟨Nat.le_of_ble_eq_true rfl, Nat.le_of_ble_eq_true rfl⟩ (GG_ok D cy) ((GG_ok D cy).2.2.2 _ _ _ _ (fun _ h => h.elim) ((GG_ok D cy).1 _ _ _ _ hS.2.1 hG)) (fun k q h => by simp at h) hl.1 rfl (Nat.le_of_ble_eq_true rfl) ⟨Nat.le_of_ble_eq_true rfl, Nat.le_of_ble_eq_true rfl⟩ dX6_search_1 (fun r_1 hr_1 => ?_)
    have hr_1 : ((1 ≤ s9 ∧ s9 ≤ 512) ∧ r_1 = 0) ∨ ((¬ (1 ≤ s9 ∧ s9 ≤ 512)) ∧ r_1 = 2) := hr_1
    rcases hr_1 with ⟨c_2, hr_1⟩ | ⟨c_2, hr_1⟩ <;> subst hr_1
    · skip
      refine k_rovS (As := [.int (iI 0)]) (rest := []) ⟨hx, hb, hml, hown, hts⟩ (c_X6_refuse l D) gX6_search_X6_refuse rfl ⟨rfl, rfl⟩ 1 rfl (by decide +kernel) ⟨Nat.le_of_ble_eq_true rfl, Nat.le_of_ble_eq_true rfl⟩ kGT_ok trivial (fun k q h => by simp at h) hl.1 rfl (Nat.le_of_ble_eq_true rfl) ⟨Nat.le_of_ble_eq_true rfl, Nat.le_of_ble_eq_true rfl⟩ dX6_search_4 ?_
      refine lv_aload_n hx hb dX6_search_7 rfl (lv_at hl 0 rfl) ?_
      refine k_muv (k_runV (As := []) (rest := []) ⟨hx, hb, hml, hown, hts⟩ (c_X6_keepState l D cy H.size a P hI (show 0 ≤ P 50 1 ∧ P 50 1 ≤ 4 by omega)) gX6_search_X6_keepState rfl ⟨rfl, rfl⟩ 0 rfl (by decide +kernel) ⟨Nat.le_of_ble_eq_true rfl, Nat.le_of_ble_eq_true rfl⟩ (GG_ok D cy) hG hS (k_free hD hS hA) hP hD (va_recv hK hP (ci := 5) (q0 := 0) rfl rfl) hl.1 rfl (Nat.le_of_ble_eq_true rfl) ⟨Nat.le_of_ble_eq_true rfl, Nat.le_of_ble_eq_true rfl⟩ dX6_search_8) (k_free hD hS hA) hS (fun R_4 H1 locs1 hR_4 hP1 hD1 hS1 hk1 => ?_)
      obtain ⟨g_5, Q_6⟩ := R_4
      have hR_4 : (∀ c9 : Nat, c9 < 50 → Q_6 c9 = P c9) ∧ Q_6 100 = ups (P 100) 6 0 ∧ kept2 P Q_6 := hR_4
      have hDn : va_D (va_A (obhsW cy a P) sz) (obhsW cy (pgm a g_5) (upr (upr (upr (upr (upr (upr (upr (upr (upr Q_6 0 (P 0)) 1 (P 1)) 2 (P 2)) 3 (P 3)) 4 (P 4)) 5 (P 5)) 6 (P 6)) 7 (P 7)) 8 (P 8))) := k_addr (A := va_A (obhsW cy a P) sz) (⟨hD1.1, fun k9 q9 h9 => (k_free hD hS hA) q9.1 (hD1.2 k9 q9 h9)⟩) rfl
      have hPn : va_P D vwCl (obhsW cy (pgm a g_5) (upr (upr (upr (upr (upr (upr (upr (upr (upr Q_6 0 (P 0)) 1 (P 1)) 2 (P 2)) 3 (P 3)) 4 (P 4)) 5 (P 5)) 6 (P 6)) 7 (P 7)) 8 (P 8))) H1 := by rw [← keep9 hR_4.1]; exact hP1
      clear hP hD hS hP1 hD1 hk1
      have hP := hPn
      have hD := hDn
      have hS := hS1
      clear hPn hDn hS1
      generalize H1 = H at hP hS ⊢
      generalize locs1 = locs at hS ⊢
      obtain ⟨hq, h100, hkp⟩ := hR_4
      refine lv_aload_n hx hb dX6_search_11 rfl (lv_at hl 0 rfl) ?_
      refine va_get (D := D) (ci := 5) (v := .ref ((pgm a g_5) 0)) (C := RX6) (T := TX6) (N := 8) hx hb hts hinX6 hown hK hP 0 rfl rfl 0 (by decide) hmw0 (fun _ h9 => h9) rfl dX6_search_12 ?_
      refine lv_iload_n hx hb dX6_search_15 rfl (lv_at hl 1 rfl) ?_
      have hPc := hP.sub (ws' := (plW cy (pgm a g_5) (upr (upr (upr (upr (upr (upr (upr (upr (upr Q_6 0 (P 0)) 1 (P 1)) 2 (P 2)) 3 (P 3)) 4 (P 4)) 5 (P 5)) 6 (P 6)) 7 (P 7)) 8 (P 8)))) [39, 40, 41, 42, 43, 44, 45, 46, 47] rfl
      have hDc := hD.sub (ws' := (plW cy (pgm a g_5) (upr (upr (upr (upr (upr (upr (upr (upr (upr Q_6 0 (P 0)) 1 (P 1)) 2 (P 2)) 3 (P 3)) 4 (P 4)) 5 (P 5)) 6 (P 6)) 7 (P 7)) 8 (P 8)))) [39, 40, 41, 42, 43, 44, 45, 46, 47] (by decide) rfl
      have hFc := va_free (wc := (plW cy (pgm a g_5) (upr (upr (upr (upr (upr (upr (upr (upr (upr Q_6 0 (P 0)) 1 (P 1)) 2 (P 2)) 3 (P 3)) 4 (P 4)) 5 (P 5)) 6 (P 6)) 7 (P 7)) 8 (P 8)))) hD hS hA [39, 40, 41, 42, 43, 44, 45, 46, 47] rfl
      refine k_mui (k_runV (As := [.int (iI s9)]) (rest := []) ⟨hx, hb, hml, hown, hts⟩ (c_X4_seekPole l D cy H.size (pgm a g_5) (upr (upr (upr (upr (upr (upr (upr (upr (upr Q_6 0 (P 0)) 1 (P 1)) 2 (P 2)) 3 (P 3)) 4 (P 4)) 5 (P 5)) 6 (P 6)) 7 (P 7)) 8 (P 8)) s9 hI (show 1 ≤ s9 ∧ s9 ≤ 512 by omega)) gX6_search_X4_seekPole rfl ⟨rfl, rfl⟩ 1 rfl (by decide +kernel) ⟨Nat.le_of_ble_eq_true rfl, Nat.le_of_ble_eq_true rfl⟩ (GG_ok D cy) hG hS hFc hPc hDc (va_recv hK hP (ci := 3) (q0 := 39) rfl rfl) hl.1 rfl (Nat.le_of_ble_eq_true rfl) ⟨Nat.le_of_ble_eq_true rfl, Nat.le_of_ble_eq_true rfl⟩ dX6_search_16) hFc hS (fun r_7 R_8 H1 locs1 hR_8 hP1 hD1 hS1 hk1 => ?_)
      have hR_8 : ∃ (zx : Int) (zy : Int), ((srch (mO (upr (upr (upr (upr (upr (upr (upr (upr (upr Q_6 0 (P 0)) 1 (P 1)) 2 (P 2)) 3 (P 3)) 4 (P 4)) 5 (P 5)) 6 (P 6)) 7 (P 7)) 8 (P 8))) s9).1 = tPo (mO (upr (upr (upr (upr (upr (upr (upr (upr (upr Q_6 0 (P 0)) 1 (P 1)) 2 (P 2)) 3 (P 3)) 4 (P 4)) 5 (P 5)) 6 (P 6)) 7 (P 7)) 8 (P 8))) zx zy ∧ poleOK zx zy) ∧ (r_7 = (srch (mO (upr (upr (upr (upr (upr (upr (upr (upr (upr Q_6 0 (P 0)) 1 (P 1)) 2 (P 2)) 3 (P 3)) 4 (P 4)) 5 (P 5)) 6 (P 6)) 7 (P 7)) 8 (P 8))) s9).2) ∧ (R_8 = (upr (upr (upr (upr (upr (upr (upr (upr (upr (upr Q_6 0 (P 0)) 1 (P 1)) 2 (P 2)) 3 (P 3)) 4 (P 4)) 5 (P 5)) 6 (P 6)) 7 (P 7)) 8 (P 8)) 0 (ups (ups ((P 0)) 2 zx) 3 zy))) := hR_8
      obtain ⟨zx_9, zy_10, hf_11, hr_7, hR_8⟩ := hR_8
      have hf_11 : (srch (mO (upr (upr (upr (upr (upr (upr (upr (upr (upr Q_6 0 (P 0)) 1 (P 1)) 2 (P 2)) 3 (P 3)) 4 (P 4)) 5 (P 5)) 6 (P 6)) 7 (P 7)) 8 (P 8))) s9).1 = tPo (mO (upr (upr (upr (upr (upr (upr (upr (upr (upr Q_6 0 (P 0)) 1 (P 1)) 2 (P 2)) 3 (P 3)) 4 (P 4)) 5 (P 5)) 6 (P 6)) 7 (P 7)) 8 (P 8))) zx_9 zy_10 ∧ poleOK zx_9 zy_10 := hf_11
      subst hR_8
      have hr_7 : r_7 = (srch (mO (upr (upr (upr (upr (upr (upr (upr (upr (upr Q_6 0 (P 0)) 1 (P 1)) 2 (P 2)) 3 (P 3)) 4 (P 4)) 5 (P 5)) 6 (P 6)) 7 (P 7)) 8 (P 8))) s9).2 := hr_7
      subst hr_7
      have hDn : va_D (va_A (obhsW cy a P) sz) (obhsW cy (pgm a g_5) (upr (upr (upr (upr (upr (upr (upr (upr (upr Q_6 0 (ups (ups ((P 0)) 2 zx_9) 3 zy_10)) 1 (P 1)) 2 (P 2)) 3 (P 3)) 4 (P 4)) 5 (P 5)) 6 (P 6)) 7 (P 7)) 8 (P 8))) := k_addr hD rfl
      have hPn := k_join (ws' := (obhsW cy (pgm a g_5) (upr (upr (upr (upr (upr (upr (upr (upr (upr Q_6 0 (ups (ups ((P 0)) 2 zx_9) 3 zy_10)) 1 (P 1)) 2 (P 2)) 3 (P 3)) 4 (P 4)) 5 (P 5)) 6 (P 6)) 7 (P 7)) 8 (P 8)))) hP hD [39, 40, 41, 42, 43, 44, 45, 46, 47] [none, none, none, none, none, none, none, none, none, none, none, none, none, none, none, none, none, none, none, none, none, none, none, none, none, none, none, none, none, none, none, none, none, none, none, none, none, none, none, some 0, some 1, some 2, some 3, some 4, some 5, some 6, some 7, some 8] rfl hk1 hP1 rfl rfl
      clear hP hD hS hP1 hD1 hk1
      have hP := hPn
      have hD := hDn
      have hS := hS1
      clear hPn hDn hS1
      generalize H1 = H at hP hS ⊢
      generalize locs1 = locs at hS ⊢
      have hsk := hf_11
      exact W.iret (v := iI ((srch (mO (upr (upr (upr (upr (upr (upr (upr (upr (upr Q_6 0 (P 0)) 1 (P 1)) 2 (P 2)) 3 (P 3)) 4 (P 4)) 5 (P 5)) 6 (P 6)) 7 (P 7)) 8 (P 8))) s9).2)) hx hb hr (fun t9 ht _ => ⟨⟨iI ((srch (mO (upr (upr (upr (upr (upr (upr (upr (upr (upr Q_6 0 (P 0)) 1 (P 1)) 2 (P 2)) 3 (P 3)) 4 (P 4)) 5 (P 5)) 6 (P 6)) 7 (P 7)) 8 (P 8))) s9).2), (g_5, (upr (upr (upr (upr (upr (upr (upr (upr (upr Q_6 0 (ups (ups ((P 0)) 2 zx_9) 3 zy_10)) 1 (P 1)) 2 (P 2)) 3 (P 3)) 4 (P 4)) 5 (P 5)) 6 (P 6)) 7 (P 7)) 8 (P 8))), rfl, ⟨((srch (mO (upr (upr (upr (upr (upr (upr (upr (upr (upr Q_6 0 (P 0)) 1 (P 1)) 2 (P 2)) 3 (P 3)) 4 (P 4)) 5 (P 5)) 6 (P 6)) 7 (P 7)) 8 (P 8))) s9).2), rfl, (⟨rfl, opd_of hsv hq h100 hkp (fun c9 h9 => by (repeat rw [upr_o _ _ (by omega)])) ((show mO ((upr (upr (upr (upr (upr (upr (upr (upr (upr Q_6 0 (ups (ups ((P 0)) 2 zx_9) 3 zy_10)) 1 (P 1)) 2 (P 2)) 3 (P 3)) 4 (P 4)) 5 (P 5)) 6 (P 6)) 7 (P 7)) 8 (P 8))) = mO (upr P 0 (ups (ups (P 0) 2 _) 3 _)) from rfl).trans ((mO_pole P _ _).trans hsk.1.symm))⟩ : ((srch (mO (upr (upr (upr (upr (upr (upr (upr (upr (upr Q_6 0 (P 0)) 1 (P 1)) 2 (P 2)) 3 (P 3)) 4 (P 4)) 5 (P 5)) 6 (P 6)) 7 (P 7)) 8 (P 8))) s9).2 : Int) = (srch (mO P) s9).2 ∧ opd P (upr (upr (upr (upr (upr (upr (upr (upr (upr Q_6 0 (ups (ups ((P 0)) 2 zx_9) 3 zy_10)) 1 (P 1)) 2 (P 2)) 3 (P 3)) 4 (P 4)) 5 (P 5)) 6 (P 6)) 7 (P 7)) 8 (P 8)) ((srch (mO P) s9).1))⟩, by rw [ht]; exact hP, hD⟩, hS.F ht⟩) hS.2.2 dX6_search_19 hlocks
    · skip
      exfalso; first | omega | omega
  exact hbody s.heap [] hP hS ls hl
set_option maxHeartbeats 4000000 in
set_option maxRecDepth 100000 in
theorem c_X6_search_t2 (l : Launch) (hl9 : l.stackTraces = false) (D : va_G) (cy : Nat → ClassId) (a : Nat → Nat) (P : Nat → Int → Int) (s9 : Int) (hrs9 : -2147483648 ≤ s9 ∧ s9 ≤ 2147483647) (hno : ¬ (1 ≤ s9 ∧ s9 ≤ 512)) : vx_Met l yX6_search wsX6_search { frames := 7, cells := 1, slots := 6, locals := 110 } (kPre (GX D cy) D (obplW cy a P) ([.ref (a 100), .int (iI s9)] : List Value)) kNo (XK (exN 1)) 1 6 (fun _ => False) := by
  refine kTH_start (cc := cX6_search) (maxL := 2) (ret := (some .int)) (by decide) rfl (Nat.le_of_ble_eq_true rfl) ?_
  intro p e s m below meth c hx hb hr hlocks hml hts hown ht hG hP ls hl
  have hGe := hG.2
  have hGs := hG.1
  have hJd := hGs.2.1
  have hG := hGs.1
  have hK := hG.1
  have hl : lv_has ls 2 [(0, .ref (a 100)), (1, .int (iI s9))] := hl
  refine lv_iload_n hx hb dX6_search_0 rfl (lv_at hl 1 rfl) ?_
  refine k_roS (As := [.int (iI s9)]) (rest := []) ⟨hx, hb, hml, hown, hts⟩ (c_X4_faultOfStep l D cy s9 (show -2147483648 ≤ s9 ∧ s9 ≤ 2147483647 by omega)) gX6_search_X4_faultOfStep rfl ⟨rfl, rfl⟩ 1 rfl (by decide +kernel) ⟨Nat.le_of_ble_eq_true rfl, Nat.le_of_ble_eq_true rfl⟩ (GG_ok D cy) hG (fun k q h => by simp at h) hl.1 rfl (Nat.le_of_ble_eq_true rfl) ⟨Nat.le_of_ble_eq_true rfl, Nat.le_of_ble_eq_true rfl⟩ dX6_search_1 (fun r_1 hr_1 => ?_)
  have hr_1 : ((1 ≤ s9 ∧ s9 ≤ 512) ∧ r_1 = 0) ∨ ((¬ (1 ≤ s9 ∧ s9 ≤ 512)) ∧ r_1 = 2) := hr_1
  rcases hr_1 with ⟨c_2, hr_1⟩ | ⟨c_2, hr_1⟩ <;> subst hr_1
  · skip
    exfalso; first | omega | omega
  · skip
    exact k_thS (As := [.int (iI 2)]) (rest := []) ⟨hx, hb, hml, hown, hts⟩ (c_X6_refuse2 l hl9 D) gX6_search_X6_refuse rfl ⟨rfl, rfl⟩ 1 rfl (by decide +kernel) ⟨Nat.le_of_ble_eq_true rfl, Nat.le_of_ble_eq_true rfl⟩ exA_ok hGe (fun k q h => by simp at h) hl.1 rfl (Nat.le_of_ble_eq_true rfl) ⟨Nat.le_of_ble_eq_true rfl, Nat.le_of_ble_eq_true rfl⟩ dX6_search_4 ht hlocks
set_option maxHeartbeats 4000000 in
set_option maxRecDepth 100000 in
theorem c_X6_addStar (l : Launch) (D : va_G) (cy : Nat → ClassId) (sz : Nat) (a : Nat → Nat) (P : Nat → Int → Int) (x y z : Int) (hI : Inv (mO P)) (hsv : 0 ≤ P 50 1 ∧ P 50 1 ≤ 4) (hrx : -2147483648 ≤ x ∧ x ≤ 2147483647) (hry : -2147483648 ≤ y ∧ y ≤ 2147483647) (hrz : -2147483648 ≤ z ∧ z ≤ 2147483647) (hsk : starOK x y z) (hok : P 0 1 < 12) : Met l yX6_addStar wsX6_addStar { frames := 5, cells := 0, slots := 0, locals := 105 } (mPre (GG D cy) D (obhsW cy a P) sz ([.ref (a 100), .int (iI x), .int (iI y), .int (iI z)] : List Value)) (kQi D (obhsW cy a P) sz (fun u9 : (Nat → Nat) × (Nat → Int → Int) => obhsW cy (pgm a u9.1) u9.2) (fun r9 u9 => r9 = P 0 1 ∧ opd P u9.2 (mO (cAS P x y z)))) 0 0 (va_A (obhsW cy a P) sz) := by
  refine kM_start (cc := cX6_addStar) (maxL := 4) (ret := (some .int)) (by decide) rfl (Nat.le_of_ble_eq_true rfl) ?_
  intro p e s m below meth c hx hb hr hlocks hml hts hown hsz hA hG hP hD hS hin ls hl
  have hK := hG.1
  have hl : lv_has ls 4 [(0, .ref (a 100)), (1, .int (iI x)), (2, .int (iI y)), (3, .int (iI z))] := hl
  have hinX6 : ∀ w ∈ u_ws RX6 TX6 8, w ∈ wsX6_addStar := by decide +kernel
  have hmw0 := hts (.fieldLink RX6 10 "ArcPlate" "plate" "LArcPlate$Plate;") (by decide +kernel)
  have hS0 := po_S hI
  have hbody : ∀ (H : Heap) (locs : List Loc) (hP : va_P D vwCl (obhsW cy a P) H) (hS : va_S (va_A (obhsW cy a P) sz) s.heap H locs) (ls : Array Slot) (hl : lv_has ls 4 [(0, .ref (a 100)), (1, .int (iI x)), (2, .int (iI y)), (3, .int (iI z))]), W p l e { frames := 5, cells := 0, slots := 0, locals := 105 } s m ([.ref (a 100), .int (iI x), .int (iI y), .int (iI z)] : List Value).toArray below meth c H locs 0 0 (MQ below (kQi D (obhsW cy a P) sz (fun u9 : (Nat → Nat) × (Nat → Int → Int) => obhsW cy (pgm a u9.1) u9.2) (fun r9 u9 => r9 = P 0 1 ∧ opd P u9.2 (mO (cAS P x y z)))) ([.ref (a 100), .int (iI x), .int (iI y), .int (iI z)] : List Value).toArray s 0 0 (va_A (obhsW cy a P) sz)) (F0 m 0 ls []) := by
    intro H locs hP hS ls hl
    refine lv_aload_n hx hb dX6_addStar_0 rfl (lv_at hl 0 rfl) ?_
    refine va_get (D := D) (ci := 5) (v := .ref (a 0)) (C := RX6) (T := TX6) (N := 8) hx hb hts hinX6 hown hK hP 0 rfl rfl 0 (by decide) hmw0 (fun _ h9 => h9) rfl dX6_addStar_1 ?_
    refine lv_iload_n hx hb dX6_addStar_4 rfl (lv_at hl 1 rfl) ?_
    refine lv_iload_n hx hb dX6_addStar_5 rfl (lv_at hl 2 rfl) ?_
    refine lv_iload_n hx hb dX6_addStar_6 rfl (lv_at hl 3 rfl) ?_
    refine k_roV (As := [.int (iI x), .int (iI y), .int (iI z)]) (rest := []) ⟨hx, hb, hml, hown, hts⟩ (c_X4_faultOfNewStar l D cy a P x y z hI (show -2147483648 ≤ x ∧ x ≤ 2147483647 by omega) (show -2147483648 ≤ y ∧ y ≤ 2147483647 by omega) (show -2147483648 ≤ z ∧ z ≤ 2147483647 by omega)) gX6_addStar_X4_faultOfNewStar rfl ⟨rfl, rfl⟩ 3 rfl (by decide +kernel) ⟨Nat.le_of_ble_eq_true rfl, Nat.le_of_ble_eq_true rfl⟩ (GG_ok D cy) ((GG_ok D cy).2.2.2 _ _ _ _ (fun _ h => h.elim) ((GG_ok D cy).1 _ _ _ _ hS.2.1 hG)) (hP.sub (ws' := (plW cy a P)) [39, 40, 41, 42, 43, 44, 45, 46, 47] rfl) (va_recv hK hP (ci := 3) (q0 := 39) rfl rfl) hl.1 rfl (Nat.le_of_ble_eq_true rfl) ⟨Nat.le_of_ble_eq_true rfl, Nat.le_of_ble_eq_true rfl⟩ dX6_addStar_7 (fun r_1 hr_1 => ?_)
    have hr_1 : ((starOK x y z ∧ P 0 1 < 12) ∧ r_1 = 0) ∨ ((¬ starOK x y z) ∧ r_1 = 2) ∨ ((starOK x y z ∧ P 0 1 = 12) ∧ r_1 = 3) := hr_1
    rcases hr_1 with ⟨c_2, hr_1⟩ | ⟨c_2, hr_1⟩ | ⟨c_2, hr_1⟩ <;> subst hr_1
    · skip
      refine k_rovS (As := [.int (iI 0)]) (rest := []) ⟨hx, hb, hml, hown, hts⟩ (c_X6_refuse l D) gX6_addStar_X6_refuse rfl ⟨rfl, rfl⟩ 1 rfl (by decide +kernel) ⟨Nat.le_of_ble_eq_true rfl, Nat.le_of_ble_eq_true rfl⟩ kGT_ok trivial (fun k q h => by simp at h) hl.1 rfl (Nat.le_of_ble_eq_true rfl) ⟨Nat.le_of_ble_eq_true rfl, Nat.le_of_ble_eq_true rfl⟩ dX6_addStar_10 ?_
      refine lv_aload_n hx hb dX6_addStar_13 rfl (lv_at hl 0 rfl) ?_
      refine k_muv (k_runV (As := []) (rest := []) ⟨hx, hb, hml, hown, hts⟩ (c_X6_keepState l D cy H.size a P hI (show 0 ≤ P 50 1 ∧ P 50 1 ≤ 4 by omega)) gX6_addStar_X6_keepState rfl ⟨rfl, rfl⟩ 0 rfl (by decide +kernel) ⟨Nat.le_of_ble_eq_true rfl, Nat.le_of_ble_eq_true rfl⟩ (GG_ok D cy) hG hS (k_free hD hS hA) hP hD (va_recv hK hP (ci := 5) (q0 := 0) rfl rfl) hl.1 rfl (Nat.le_of_ble_eq_true rfl) ⟨Nat.le_of_ble_eq_true rfl, Nat.le_of_ble_eq_true rfl⟩ dX6_addStar_14) (k_free hD hS hA) hS (fun R_4 H1 locs1 hR_4 hP1 hD1 hS1 hk1 => ?_)
      obtain ⟨g_5, Q_6⟩ := R_4
      have hR_4 : (∀ c9 : Nat, c9 < 50 → Q_6 c9 = P c9) ∧ Q_6 100 = ups (P 100) 6 0 ∧ kept2 P Q_6 := hR_4
      have hDn : va_D (va_A (obhsW cy a P) sz) (obhsW cy (pgm a g_5) (upr (upr (upr (upr (upr (upr (upr (upr (upr Q_6 0 (P 0)) 1 (P 1)) 2 (P 2)) 3 (P 3)) 4 (P 4)) 5 (P 5)) 6 (P 6)) 7 (P 7)) 8 (P 8))) := k_addr (A := va_A (obhsW cy a P) sz) (⟨hD1.1, fun k9 q9 h9 => (k_free hD hS hA) q9.1 (hD1.2 k9 q9 h9)⟩) rfl
      have hPn : va_P D vwCl (obhsW cy (pgm a g_5) (upr (upr (upr (upr (upr (upr (upr (upr (upr Q_6 0 (P 0)) 1 (P 1)) 2 (P 2)) 3 (P 3)) 4 (P 4)) 5 (P 5)) 6 (P 6)) 7 (P 7)) 8 (P 8))) H1 := by rw [← keep9 hR_4.1]; exact hP1
      clear hP hD hS hP1 hD1 hk1
      have hP := hPn
      have hD := hDn
      have hS := hS1
      clear hPn hDn hS1
      generalize H1 = H at hP hS ⊢
      generalize locs1 = locs at hS ⊢
      obtain ⟨hq, h100, hkp⟩ := hR_4
      refine lv_aload_n hx hb dX6_addStar_17 rfl (lv_at hl 0 rfl) ?_
      refine va_get (D := D) (ci := 5) (v := .ref ((pgm a g_5) 0)) (C := RX6) (T := TX6) (N := 8) hx hb hts hinX6 hown hK hP 0 rfl rfl 0 (by decide) hmw0 (fun _ h9 => h9) rfl dX6_addStar_18 ?_
      refine lv_iload_n hx hb dX6_addStar_21 rfl (lv_at hl 1 rfl) ?_
      refine lv_iload_n hx hb dX6_addStar_22 rfl (lv_at hl 2 rfl) ?_
      refine lv_iload_n hx hb dX6_addStar_23 rfl (lv_at hl 3 rfl) ?_
      have hPc := hP.sub (ws' := (plW cy (pgm a g_5) (upr (upr (upr (upr (upr (upr (upr (upr (upr Q_6 0 (P 0)) 1 (P 1)) 2 (P 2)) 3 (P 3)) 4 (P 4)) 5 (P 5)) 6 (P 6)) 7 (P 7)) 8 (P 8)))) [39, 40, 41, 42, 43, 44, 45, 46, 47] rfl
      have hDc := hD.sub (ws' := (plW cy (pgm a g_5) (upr (upr (upr (upr (upr (upr (upr (upr (upr Q_6 0 (P 0)) 1 (P 1)) 2 (P 2)) 3 (P 3)) 4 (P 4)) 5 (P 5)) 6 (P 6)) 7 (P 7)) 8 (P 8)))) [39, 40, 41, 42, 43, 44, 45, 46, 47] (by decide) rfl
      have hFc := va_free (wc := (plW cy (pgm a g_5) (upr (upr (upr (upr (upr (upr (upr (upr (upr Q_6 0 (P 0)) 1 (P 1)) 2 (P 2)) 3 (P 3)) 4 (P 4)) 5 (P 5)) 6 (P 6)) 7 (P 7)) 8 (P 8)))) hD hS hA [39, 40, 41, 42, 43, 44, 45, 46, 47] rfl
      refine k_mui (k_runV (As := [.int (iI x), .int (iI y), .int (iI z)]) (rest := []) ⟨hx, hb, hml, hown, hts⟩ (c_X4_putStar l D cy H.size (pgm a g_5) (upr (upr (upr (upr (upr (upr (upr (upr (upr Q_6 0 (P 0)) 1 (P 1)) 2 (P 2)) 3 (P 3)) 4 (P 4)) 5 (P 5)) 6 (P 6)) 7 (P 7)) 8 (P 8)) x y z (show 0 ≤ (P 0) 1 ∧ (P 0) 1 < 12 by omega)) gX6_addStar_X4_putStar rfl ⟨rfl, rfl⟩ 3 rfl (by decide +kernel) ⟨Nat.le_of_ble_eq_true rfl, Nat.le_of_ble_eq_true rfl⟩ (GG_ok D cy) hG hS hFc hPc hDc (va_recv hK hP (ci := 3) (q0 := 39) rfl rfl) hl.1 rfl (Nat.le_of_ble_eq_true rfl) ⟨Nat.le_of_ble_eq_true rfl, Nat.le_of_ble_eq_true rfl⟩ dX6_addStar_24) hFc hS (fun r_7 R_8 H1 locs1 hR_8 hP1 hD1 hS1 hk1 => ?_)
      have hR_8 : r_7 = (P 0) 1 ∧ R_8 = (upr (upr (upr (upr (upr (upr (upr (upr (upr (upr (upr (upr (upr Q_6 0 (P 0)) 1 (P 1)) 2 (P 2)) 3 (P 3)) 4 (P 4)) 5 (P 5)) 6 (P 6)) 7 (P 7)) 8 (P 8)) 0 (ups ((P 0)) 1 ((P 0) 1 + 1))) 5 (ups ((P 5)) ((P 0) 1) x)) 6 (ups ((P 6)) ((P 0) 1) y)) 7 (ups ((P 7)) ((P 0) 1) z)) := hR_8
      obtain ⟨hr_7, rfl⟩ := hR_8
      have hr_7 : r_7 = (P 0) 1 := hr_7
      subst hr_7
      have hDn : va_D (va_A (obhsW cy a P) sz) (obhsW cy (pgm a g_5) (upr (upr (upr (upr (upr (upr (upr (upr (upr Q_6 0 (ups ((P 0)) 1 ((P 0) 1 + 1))) 1 (P 1)) 2 (P 2)) 3 (P 3)) 4 (P 4)) 5 (ups ((P 5)) ((P 0) 1) x)) 6 (ups ((P 6)) ((P 0) 1) y)) 7 (ups ((P 7)) ((P 0) 1) z)) 8 (P 8))) := k_addr hD rfl
      have hPn := k_join (ws' := (obhsW cy (pgm a g_5) (upr (upr (upr (upr (upr (upr (upr (upr (upr Q_6 0 (ups ((P 0)) 1 ((P 0) 1 + 1))) 1 (P 1)) 2 (P 2)) 3 (P 3)) 4 (P 4)) 5 (ups ((P 5)) ((P 0) 1) x)) 6 (ups ((P 6)) ((P 0) 1) y)) 7 (ups ((P 7)) ((P 0) 1) z)) 8 (P 8)))) hP hD [39, 40, 41, 42, 43, 44, 45, 46, 47] [none, none, none, none, none, none, none, none, none, none, none, none, none, none, none, none, none, none, none, none, none, none, none, none, none, none, none, none, none, none, none, none, none, none, none, none, none, none, none, some 0, some 1, some 2, some 3, some 4, some 5, some 6, some 7, some 8] rfl hk1 hP1 rfl rfl
      clear hP hD hS hP1 hD1 hk1
      have hP := hPn
      have hD := hDn
      have hS := hS1
      clear hPn hDn hS1
      generalize H1 = H at hP hS ⊢
      generalize locs1 = locs at hS ⊢
      exact W.iret (v := iI ((P 0) 1)) hx hb hr (fun t9 ht _ => ⟨⟨iI ((P 0) 1), (g_5, (upr (upr (upr (upr (upr (upr (upr (upr (upr Q_6 0 (ups ((P 0)) 1 ((P 0) 1 + 1))) 1 (P 1)) 2 (P 2)) 3 (P 3)) 4 (P 4)) 5 (ups ((P 5)) ((P 0) 1) x)) 6 (ups ((P 6)) ((P 0) 1) y)) 7 (ups ((P 7)) ((P 0) 1) z)) 8 (P 8))), rfl, ⟨((P 0) 1), rfl, (⟨rfl, opd_of hsv hq h100 hkp (fun c9 h9 => by (repeat rw [upr_o _ _ (by omega)])) (rfl)⟩ : ((P 0) 1 : Int) = P 0 1 ∧ opd P (upr (upr (upr (upr (upr (upr (upr (upr (upr Q_6 0 (ups ((P 0)) 1 ((P 0) 1 + 1))) 1 (P 1)) 2 (P 2)) 3 (P 3)) 4 (P 4)) 5 (ups ((P 5)) ((P 0) 1) x)) 6 (ups ((P 6)) ((P 0) 1) y)) 7 (ups ((P 7)) ((P 0) 1) z)) 8 (P 8)) (mO (cAS P x y z)))⟩, by rw [ht]; exact hP, hD⟩, hS.F ht⟩) hS.2.2 dX6_addStar_27 hlocks
    · skip
      exfalso; first | omega | exact absurd hsk (by assumption)
    · skip
      exfalso; first | omega | exact absurd hsk (by assumption)
  exact hbody s.heap [] hP hS ls hl
set_option maxHeartbeats 4000000 in
set_option maxRecDepth 100000 in
theorem c_X6_addStar_t2 (l : Launch) (hl9 : l.stackTraces = false) (D : va_G) (cy : Nat → ClassId) (a : Nat → Nat) (P : Nat → Int → Int) (x y z : Int) (hI : Inv (mO P)) (hrx : -2147483648 ≤ x ∧ x ≤ 2147483647) (hry : -2147483648 ≤ y ∧ y ≤ 2147483647) (hrz : -2147483648 ≤ z ∧ z ≤ 2147483647) (hno : ¬ starOK x y z) : vx_Met l yX6_addStar wsX6_addStar { frames := 7, cells := 1, slots := 6, locals := 110 } (kPre (GX D cy) D (obplW cy a P) ([.ref (a 100), .int (iI x), .int (iI y), .int (iI z)] : List Value)) kNo (XK (exN 1)) 1 6 (fun _ => False) := by
  refine kTH_start (cc := cX6_addStar) (maxL := 4) (ret := (some .int)) (by decide) rfl (Nat.le_of_ble_eq_true rfl) ?_
  intro p e s m below meth c hx hb hr hlocks hml hts hown ht hG hP ls hl
  have hGe := hG.2
  have hGs := hG.1
  have hJd := hGs.2.1
  have hG := hGs.1
  have hK := hG.1
  have hl : lv_has ls 4 [(0, .ref (a 100)), (1, .int (iI x)), (2, .int (iI y)), (3, .int (iI z))] := hl
  have hinX6 : ∀ w ∈ u_ws RX6 TX6 8, w ∈ wsX6_addStar := by decide +kernel
  have hmw0 := hts (.fieldLink RX6 10 "ArcPlate" "plate" "LArcPlate$Plate;") (by decide +kernel)
  have hS0 := po_S hI
  refine lv_aload_n hx hb dX6_addStar_0 rfl (lv_at hl 0 rfl) ?_
  refine va_get (D := D) (ci := 5) (v := .ref (a 0)) (C := RX6) (T := TX6) (N := 8) hx hb hts hinX6 hown hK hP 0 rfl rfl 0 (by decide) hmw0 (fun _ h9 => h9) rfl dX6_addStar_1 ?_
  refine lv_iload_n hx hb dX6_addStar_4 rfl (lv_at hl 1 rfl) ?_
  refine lv_iload_n hx hb dX6_addStar_5 rfl (lv_at hl 2 rfl) ?_
  refine lv_iload_n hx hb dX6_addStar_6 rfl (lv_at hl 3 rfl) ?_
  refine k_roV (As := [.int (iI x), .int (iI y), .int (iI z)]) (rest := []) ⟨hx, hb, hml, hown, hts⟩ (c_X4_faultOfNewStar l D cy a P x y z hI (show -2147483648 ≤ x ∧ x ≤ 2147483647 by omega) (show -2147483648 ≤ y ∧ y ≤ 2147483647 by omega) (show -2147483648 ≤ z ∧ z ≤ 2147483647 by omega)) gX6_addStar_X4_faultOfNewStar rfl ⟨rfl, rfl⟩ 3 rfl (by decide +kernel) ⟨Nat.le_of_ble_eq_true rfl, Nat.le_of_ble_eq_true rfl⟩ (GG_ok D cy) hG (hP.sub (ws' := (plW cy a P)) [1, 2, 3, 4, 5, 6, 7, 8, 9] rfl) (va_recv hK hP (ci := 3) (q0 := 1) rfl rfl) hl.1 rfl (Nat.le_of_ble_eq_true rfl) ⟨Nat.le_of_ble_eq_true rfl, Nat.le_of_ble_eq_true rfl⟩ dX6_addStar_7 (fun r_1 hr_1 => ?_)
  have hr_1 : ((starOK x y z ∧ P 0 1 < 12) ∧ r_1 = 0) ∨ ((¬ starOK x y z) ∧ r_1 = 2) ∨ ((starOK x y z ∧ P 0 1 = 12) ∧ r_1 = 3) := hr_1
  rcases hr_1 with ⟨c_2, hr_1⟩ | ⟨c_2, hr_1⟩ | ⟨c_2, hr_1⟩ <;> subst hr_1
  · skip
    exfalso; first | omega | exact absurd (show starOK x y z ∧ P 0 1 < 12 by assumption).1 hno | exact absurd (show starOK x y z ∧ P 0 1 = 12 by assumption).1 hno
  · skip
    exact k_thS (As := [.int (iI 2)]) (rest := []) ⟨hx, hb, hml, hown, hts⟩ (c_X6_refuse2 l hl9 D) gX6_addStar_X6_refuse rfl ⟨rfl, rfl⟩ 1 rfl (by decide +kernel) ⟨Nat.le_of_ble_eq_true rfl, Nat.le_of_ble_eq_true rfl⟩ exA_ok hGe (fun k q h => by simp at h) hl.1 rfl (Nat.le_of_ble_eq_true rfl) ⟨Nat.le_of_ble_eq_true rfl, Nat.le_of_ble_eq_true rfl⟩ dX6_addStar_10 ht hlocks
  · skip
    exfalso; first | omega | exact absurd (show starOK x y z ∧ P 0 1 < 12 by assumption).1 hno | exact absurd (show starOK x y z ∧ P 0 1 = 12 by assumption).1 hno
set_option maxHeartbeats 4000000 in
set_option maxRecDepth 100000 in
theorem c_X6_addStar_t3 (l : Launch) (hl9 : l.stackTraces = false) (D : va_G) (cy : Nat → ClassId) (a : Nat → Nat) (P : Nat → Int → Int) (x y z : Int) (hI : Inv (mO P)) (hrx : -2147483648 ≤ x ∧ x ≤ 2147483647) (hry : -2147483648 ≤ y ∧ y ≤ 2147483647) (hrz : -2147483648 ≤ z ∧ z ≤ 2147483647) (hsk : starOK x y z) (hno : P 0 1 = 12) : vx_Met l yX6_addStar wsX6_addStar { frames := 7, cells := 1, slots := 6, locals := 110 } (kPre (GX D cy) D (obplW cy a P) ([.ref (a 100), .int (iI x), .int (iI y), .int (iI z)] : List Value)) kNo (XK (exN 2)) 1 6 (fun _ => False) := by
  refine kTH_start (cc := cX6_addStar) (maxL := 4) (ret := (some .int)) (by decide) rfl (Nat.le_of_ble_eq_true rfl) ?_
  intro p e s m below meth c hx hb hr hlocks hml hts hown ht hG hP ls hl
  have hGe := hG.2
  have hGs := hG.1
  have hJd := hGs.2.1
  have hG := hGs.1
  have hK := hG.1
  have hl : lv_has ls 4 [(0, .ref (a 100)), (1, .int (iI x)), (2, .int (iI y)), (3, .int (iI z))] := hl
  have hinX6 : ∀ w ∈ u_ws RX6 TX6 8, w ∈ wsX6_addStar := by decide +kernel
  have hmw0 := hts (.fieldLink RX6 10 "ArcPlate" "plate" "LArcPlate$Plate;") (by decide +kernel)
  have hS0 := po_S hI
  refine lv_aload_n hx hb dX6_addStar_0 rfl (lv_at hl 0 rfl) ?_
  refine va_get (D := D) (ci := 5) (v := .ref (a 0)) (C := RX6) (T := TX6) (N := 8) hx hb hts hinX6 hown hK hP 0 rfl rfl 0 (by decide) hmw0 (fun _ h9 => h9) rfl dX6_addStar_1 ?_
  refine lv_iload_n hx hb dX6_addStar_4 rfl (lv_at hl 1 rfl) ?_
  refine lv_iload_n hx hb dX6_addStar_5 rfl (lv_at hl 2 rfl) ?_
  refine lv_iload_n hx hb dX6_addStar_6 rfl (lv_at hl 3 rfl) ?_
  refine k_roV (As := [.int (iI x), .int (iI y), .int (iI z)]) (rest := []) ⟨hx, hb, hml, hown, hts⟩ (c_X4_faultOfNewStar l D cy a P x y z hI (show -2147483648 ≤ x ∧ x ≤ 2147483647 by omega) (show -2147483648 ≤ y ∧ y ≤ 2147483647 by omega) (show -2147483648 ≤ z ∧ z ≤ 2147483647 by omega)) gX6_addStar_X4_faultOfNewStar rfl ⟨rfl, rfl⟩ 3 rfl (by decide +kernel) ⟨Nat.le_of_ble_eq_true rfl, Nat.le_of_ble_eq_true rfl⟩ (GG_ok D cy) hG (hP.sub (ws' := (plW cy a P)) [1, 2, 3, 4, 5, 6, 7, 8, 9] rfl) (va_recv hK hP (ci := 3) (q0 := 1) rfl rfl) hl.1 rfl (Nat.le_of_ble_eq_true rfl) ⟨Nat.le_of_ble_eq_true rfl, Nat.le_of_ble_eq_true rfl⟩ dX6_addStar_7 (fun r_1 hr_1 => ?_)
  have hr_1 : ((starOK x y z ∧ P 0 1 < 12) ∧ r_1 = 0) ∨ ((¬ starOK x y z) ∧ r_1 = 2) ∨ ((starOK x y z ∧ P 0 1 = 12) ∧ r_1 = 3) := hr_1
  rcases hr_1 with ⟨c_2, hr_1⟩ | ⟨c_2, hr_1⟩ | ⟨c_2, hr_1⟩ <;> subst hr_1
  · skip
    exfalso; first | omega | exact absurd hsk (by assumption)
  · skip
    exfalso; first | omega | exact absurd hsk (by assumption)
  · skip
    exact k_thS (As := [.int (iI 3)]) (rest := []) ⟨hx, hb, hml, hown, hts⟩ (c_X6_refuse3 l hl9 D) gX6_addStar_X6_refuse rfl ⟨rfl, rfl⟩ 1 rfl (by decide +kernel) ⟨Nat.le_of_ble_eq_true rfl, Nat.le_of_ble_eq_true rfl⟩ exA_ok hGe (fun k q h => by simp at h) hl.1 rfl (Nat.le_of_ble_eq_true rfl) ⟨Nat.le_of_ble_eq_true rfl, Nat.le_of_ble_eq_true rfl⟩ dX6_addStar_10 ht hlocks
set_option maxHeartbeats 4000000 in
set_option maxRecDepth 100000 in
theorem c_X6_removeStar (l : Launch) (D : va_G) (cy : Nat → ClassId) (sz : Nat) (a : Nat → Nat) (P : Nat → Int → Int) (u : Int) (hI : Inv (mO P)) (hsv : 0 ≤ P 50 1 ∧ P 50 1 ≤ 4) (h0u : 0 ≤ u) (h1u : u < P 0 1) : Met l yX6_removeStar wsX6_removeStar { frames := 5, cells := 0, slots := 0, locals := 105 } (mPre (GG D cy) D (obhsW cy a P) sz ([.ref (a 100), .int (iI u)] : List Value)) (kQi D (obhsW cy a P) sz (fun u9 : (Nat → Nat) × (Nat → Int → Int) => obhsW cy (pgm a u9.1) u9.2) (fun r9 u9 => r9 = P 0 1 - 1 ∧ opd P u9.2 (mO (cRS P u)))) 0 0 (va_A (obhsW cy a P) sz) := by
  refine kM_start (cc := cX6_removeStar) (maxL := 2) (ret := (some .int)) (by decide) rfl (Nat.le_of_ble_eq_true rfl) ?_
  intro p e s m below meth c hx hb hr hlocks hml hts hown hsz hA hG hP hD hS hin ls hl
  have hK := hG.1
  have hl : lv_has ls 2 [(0, .ref (a 100)), (1, .int (iI u))] := hl
  have hinX6 : ∀ w ∈ u_ws RX6 TX6 8, w ∈ wsX6_removeStar := by decide +kernel
  have hmw0 := hts (.fieldLink RX6 10 "ArcPlate" "plate" "LArcPlate$Plate;") (by decide +kernel)
  have hS0 := po_S hI
  have hbody : ∀ (H : Heap) (locs : List Loc) (hP : va_P D vwCl (obhsW cy a P) H) (hS : va_S (va_A (obhsW cy a P) sz) s.heap H locs) (ls : Array Slot) (hl : lv_has ls 2 [(0, .ref (a 100)), (1, .int (iI u))]), W p l e { frames := 5, cells := 0, slots := 0, locals := 105 } s m ([.ref (a 100), .int (iI u)] : List Value).toArray below meth c H locs 0 0 (MQ below (kQi D (obhsW cy a P) sz (fun u9 : (Nat → Nat) × (Nat → Int → Int) => obhsW cy (pgm a u9.1) u9.2) (fun r9 u9 => r9 = P 0 1 - 1 ∧ opd P u9.2 (mO (cRS P u)))) ([.ref (a 100), .int (iI u)] : List Value).toArray s 0 0 (va_A (obhsW cy a P) sz)) (F0 m 0 ls []) := by
    intro H locs hP hS ls hl
    refine lv_aload_n hx hb dX6_removeStar_0 rfl (lv_at hl 0 rfl) ?_
    refine va_get (D := D) (ci := 5) (v := .ref (a 0)) (C := RX6) (T := TX6) (N := 8) hx hb hts hinX6 hown hK hP 0 rfl rfl 0 (by decide) hmw0 (fun _ h9 => h9) rfl dX6_removeStar_1 ?_
    refine lv_iload_n hx hb dX6_removeStar_4 rfl (lv_at hl 1 rfl) ?_
    refine k_roV (As := [.int (iI u)]) (rest := []) ⟨hx, hb, hml, hown, hts⟩ (c_X4_hasStar l D cy a P u hI (show -2147483648 ≤ u ∧ u ≤ 2147483647 by omega)) gX6_removeStar_X4_hasStar rfl ⟨rfl, rfl⟩ 1 rfl (by decide +kernel) ⟨Nat.le_of_ble_eq_true rfl, Nat.le_of_ble_eq_true rfl⟩ (GG_ok D cy) ((GG_ok D cy).2.2.2 _ _ _ _ (fun _ h => h.elim) ((GG_ok D cy).1 _ _ _ _ hS.2.1 hG)) (hP.sub (ws' := (plW cy a P)) [39, 40, 41, 42, 43, 44, 45, 46, 47] rfl) (va_recv hK hP (ci := 3) (q0 := 39) rfl rfl) hl.1 rfl (Nat.le_of_ble_eq_true rfl) ⟨Nat.le_of_ble_eq_true rfl, Nat.le_of_ble_eq_true rfl⟩ dX6_removeStar_5 (fun r_1 hr_1 => ?_)
    have hr_1 : ((0 ≤ u ∧ u < P 0 1) ∧ r_1 = 1) ∨ (¬ (0 ≤ u ∧ u < P 0 1) ∧ r_1 = 0) := hr_1
    rcases hr_1 with ⟨c_2, hr_1⟩ | ⟨c_2, hr_1⟩ <;> subst hr_1
    · skip
      refine k_if_eq (tgt := 15) hx hb dX6_removeStar_8 (by decide) (by omega) (fun c_3 => ?_) (fun c_3 => ?_)
      · exfalso; omega
      · skip
        refine k_iconst hx hb dX6_removeStar_11 ?_
        refine lv_goto (tgt := 16) hx hb dX6_removeStar_12 (by decide) ?_
        refine k_rovS (As := [.int (iI 0)]) (rest := []) ⟨hx, hb, hml, hown, hts⟩ (c_X6_refuse l D) gX6_removeStar_X6_refuse rfl ⟨rfl, rfl⟩ 1 rfl (by decide +kernel) ⟨Nat.le_of_ble_eq_true rfl, Nat.le_of_ble_eq_true rfl⟩ kGT_ok trivial (fun k q h => by simp at h) hl.1 rfl (Nat.le_of_ble_eq_true rfl) ⟨Nat.le_of_ble_eq_true rfl, Nat.le_of_ble_eq_true rfl⟩ dX6_removeStar_16 ?_
        refine lv_aload_n hx hb dX6_removeStar_19 rfl (lv_at hl 0 rfl) ?_
        refine k_muv (k_runV (As := []) (rest := []) ⟨hx, hb, hml, hown, hts⟩ (c_X6_keepState l D cy H.size a P hI (show 0 ≤ P 50 1 ∧ P 50 1 ≤ 4 by omega)) gX6_removeStar_X6_keepState rfl ⟨rfl, rfl⟩ 0 rfl (by decide +kernel) ⟨Nat.le_of_ble_eq_true rfl, Nat.le_of_ble_eq_true rfl⟩ (GG_ok D cy) hG hS (k_free hD hS hA) hP hD (va_recv hK hP (ci := 5) (q0 := 0) rfl rfl) hl.1 rfl (Nat.le_of_ble_eq_true rfl) ⟨Nat.le_of_ble_eq_true rfl, Nat.le_of_ble_eq_true rfl⟩ dX6_removeStar_20) (k_free hD hS hA) hS (fun R_5 H1 locs1 hR_5 hP1 hD1 hS1 hk1 => ?_)
        obtain ⟨g_6, Q_7⟩ := R_5
        have hR_5 : (∀ c9 : Nat, c9 < 50 → Q_7 c9 = P c9) ∧ Q_7 100 = ups (P 100) 6 0 ∧ kept2 P Q_7 := hR_5
        have hDn : va_D (va_A (obhsW cy a P) sz) (obhsW cy (pgm a g_6) (upr (upr (upr (upr (upr (upr (upr (upr (upr Q_7 0 (P 0)) 1 (P 1)) 2 (P 2)) 3 (P 3)) 4 (P 4)) 5 (P 5)) 6 (P 6)) 7 (P 7)) 8 (P 8))) := k_addr (A := va_A (obhsW cy a P) sz) (⟨hD1.1, fun k9 q9 h9 => (k_free hD hS hA) q9.1 (hD1.2 k9 q9 h9)⟩) rfl
        have hPn : va_P D vwCl (obhsW cy (pgm a g_6) (upr (upr (upr (upr (upr (upr (upr (upr (upr Q_7 0 (P 0)) 1 (P 1)) 2 (P 2)) 3 (P 3)) 4 (P 4)) 5 (P 5)) 6 (P 6)) 7 (P 7)) 8 (P 8))) H1 := by rw [← keep9 hR_5.1]; exact hP1
        clear hP hD hS hP1 hD1 hk1
        have hP := hPn
        have hD := hDn
        have hS := hS1
        clear hPn hDn hS1
        generalize H1 = H at hP hS ⊢
        generalize locs1 = locs at hS ⊢
        obtain ⟨hq, h100, hkp⟩ := hR_5
        refine lv_aload_n hx hb dX6_removeStar_23 rfl (lv_at hl 0 rfl) ?_
        refine va_get (D := D) (ci := 5) (v := .ref ((pgm a g_6) 0)) (C := RX6) (T := TX6) (N := 8) hx hb hts hinX6 hown hK hP 0 rfl rfl 0 (by decide) hmw0 (fun _ h9 => h9) rfl dX6_removeStar_24 ?_
        refine lv_iload_n hx hb dX6_removeStar_27 rfl (lv_at hl 1 rfl) ?_
        have hPc := hP.sub (ws' := (plW cy (pgm a g_6) (upr (upr (upr (upr (upr (upr (upr (upr (upr Q_7 0 (P 0)) 1 (P 1)) 2 (P 2)) 3 (P 3)) 4 (P 4)) 5 (P 5)) 6 (P 6)) 7 (P 7)) 8 (P 8)))) [39, 40, 41, 42, 43, 44, 45, 46, 47] rfl
        have hDc := hD.sub (ws' := (plW cy (pgm a g_6) (upr (upr (upr (upr (upr (upr (upr (upr (upr Q_7 0 (P 0)) 1 (P 1)) 2 (P 2)) 3 (P 3)) 4 (P 4)) 5 (P 5)) 6 (P 6)) 7 (P 7)) 8 (P 8)))) [39, 40, 41, 42, 43, 44, 45, 46, 47] (by decide) rfl
        have hFc := va_free (wc := (plW cy (pgm a g_6) (upr (upr (upr (upr (upr (upr (upr (upr (upr Q_7 0 (P 0)) 1 (P 1)) 2 (P 2)) 3 (P 3)) 4 (P 4)) 5 (P 5)) 6 (P 6)) 7 (P 7)) 8 (P 8)))) hD hS hA [39, 40, 41, 42, 43, 44, 45, 46, 47] rfl
        refine k_mui (k_runV (As := [.int (iI u)]) (rest := []) ⟨hx, hb, hml, hown, hts⟩ (c_X4_dropStar l D cy H.size (pgm a g_6) (upr (upr (upr (upr (upr (upr (upr (upr (upr Q_7 0 (P 0)) 1 (P 1)) 2 (P 2)) 3 (P 3)) 4 (P 4)) 5 (P 5)) 6 (P 6)) 7 (P 7)) 8 (P 8)) u hI (show 0 ≤ u by omega) (show u < (P 0) 1 by omega)) gX6_removeStar_X4_dropStar rfl ⟨rfl, rfl⟩ 1 rfl (by decide +kernel) ⟨Nat.le_of_ble_eq_true rfl, Nat.le_of_ble_eq_true rfl⟩ (GG_ok D cy) hG hS hFc hPc hDc (va_recv hK hP (ci := 3) (q0 := 39) rfl rfl) hl.1 rfl (Nat.le_of_ble_eq_true rfl) ⟨Nat.le_of_ble_eq_true rfl, Nat.le_of_ble_eq_true rfl⟩ dX6_removeStar_28) hFc hS (fun r_8 R_9 H1 locs1 hR_9 hP1 hD1 hS1 hk1 => ?_)
        have hR_9 : r_8 = (P 0) 1 - 1 ∧ R_9 = (upr (upr (upr (upr (upr (upr (upr (upr (upr (upr (upr (upr (upr Q_7 0 (P 0)) 1 (P 1)) 2 (P 2)) 3 (P 3)) 4 (P 4)) 5 (P 5)) 6 (P 6)) 7 (P 7)) 8 (P 8)) 0 (ups ((P 0)) 1 ((P 0) 1 - 1))) 5 (shf ((P 5)) u ((P 0) 1 - 1) 1)) 6 (shf ((P 6)) u ((P 0) 1 - 1) 1)) 7 (shf ((P 7)) u ((P 0) 1 - 1) 1)) := hR_9
        obtain ⟨hr_8, rfl⟩ := hR_9
        have hr_8 : r_8 = (P 0) 1 - 1 := hr_8
        subst hr_8
        have hDn : va_D (va_A (obhsW cy a P) sz) (obhsW cy (pgm a g_6) (upr (upr (upr (upr (upr (upr (upr (upr (upr Q_7 0 (ups ((P 0)) 1 ((P 0) 1 - 1))) 1 (P 1)) 2 (P 2)) 3 (P 3)) 4 (P 4)) 5 (shf ((P 5)) u ((P 0) 1 - 1) 1)) 6 (shf ((P 6)) u ((P 0) 1 - 1) 1)) 7 (shf ((P 7)) u ((P 0) 1 - 1) 1)) 8 (P 8))) := k_addr hD rfl
        have hPn := k_join (ws' := (obhsW cy (pgm a g_6) (upr (upr (upr (upr (upr (upr (upr (upr (upr Q_7 0 (ups ((P 0)) 1 ((P 0) 1 - 1))) 1 (P 1)) 2 (P 2)) 3 (P 3)) 4 (P 4)) 5 (shf ((P 5)) u ((P 0) 1 - 1) 1)) 6 (shf ((P 6)) u ((P 0) 1 - 1) 1)) 7 (shf ((P 7)) u ((P 0) 1 - 1) 1)) 8 (P 8)))) hP hD [39, 40, 41, 42, 43, 44, 45, 46, 47] [none, none, none, none, none, none, none, none, none, none, none, none, none, none, none, none, none, none, none, none, none, none, none, none, none, none, none, none, none, none, none, none, none, none, none, none, none, none, none, some 0, some 1, some 2, some 3, some 4, some 5, some 6, some 7, some 8] rfl hk1 hP1 rfl rfl
        clear hP hD hS hP1 hD1 hk1
        have hP := hPn
        have hD := hDn
        have hS := hS1
        clear hPn hDn hS1
        generalize H1 = H at hP hS ⊢
        generalize locs1 = locs at hS ⊢
        exact W.iret (v := iI ((P 0) 1 - 1)) hx hb hr (fun t9 ht _ => ⟨⟨iI ((P 0) 1 - 1), (g_6, (upr (upr (upr (upr (upr (upr (upr (upr (upr Q_7 0 (ups ((P 0)) 1 ((P 0) 1 - 1))) 1 (P 1)) 2 (P 2)) 3 (P 3)) 4 (P 4)) 5 (shf ((P 5)) u ((P 0) 1 - 1) 1)) 6 (shf ((P 6)) u ((P 0) 1 - 1) 1)) 7 (shf ((P 7)) u ((P 0) 1 - 1) 1)) 8 (P 8))), rfl, ⟨((P 0) 1 - 1), rfl, (⟨rfl, opd_of hsv hq h100 hkp (fun c9 h9 => by (repeat rw [upr_o _ _ (by omega)])) (rfl)⟩ : ((P 0) 1 - 1 : Int) = P 0 1 - 1 ∧ opd P (upr (upr (upr (upr (upr (upr (upr (upr (upr Q_7 0 (ups ((P 0)) 1 ((P 0) 1 - 1))) 1 (P 1)) 2 (P 2)) 3 (P 3)) 4 (P 4)) 5 (shf ((P 5)) u ((P 0) 1 - 1) 1)) 6 (shf ((P 6)) u ((P 0) 1 - 1) 1)) 7 (shf ((P 7)) u ((P 0) 1 - 1) 1)) 8 (P 8)) (mO (cRS P u)))⟩, by rw [ht]; exact hP, hD⟩, hS.F ht⟩) hS.2.2 dX6_removeStar_31 hlocks
    · skip
      refine k_if_eq (tgt := 15) hx hb dX6_removeStar_8 (by decide) (by omega) (fun c_10 => ?_) (fun c_10 => ?_)
      · skip
        refine k_iconst hx hb dX6_removeStar_15 ?_
        exfalso; first | omega | omega
      · exfalso; omega
  exact hbody s.heap [] hP hS ls hl
set_option maxHeartbeats 4000000 in
set_option maxRecDepth 100000 in
theorem c_X6_removeStar_t1 (l : Launch) (hl9 : l.stackTraces = false) (D : va_G) (cy : Nat → ClassId) (a : Nat → Nat) (P : Nat → Int → Int) (u : Int) (hI : Inv (mO P)) (hru : -2147483648 ≤ u ∧ u ≤ 2147483647) (hno : ¬ (0 ≤ u ∧ u < P 0 1)) : vx_Met l yX6_removeStar wsX6_removeStar { frames := 7, cells := 1, slots := 6, locals := 110 } (kPre (GX D cy) D (obplW cy a P) ([.ref (a 100), .int (iI u)] : List Value)) kNo (XK (exN 0)) 1 6 (fun _ => False) := by
  refine kTH_start (cc := cX6_removeStar) (maxL := 2) (ret := (some .int)) (by decide) rfl (Nat.le_of_ble_eq_true rfl) ?_
  intro p e s m below meth c hx hb hr hlocks hml hts hown ht hG hP ls hl
  have hGe := hG.2
  have hGs := hG.1
  have hJd := hGs.2.1
  have hG := hGs.1
  have hK := hG.1
  have hl : lv_has ls 2 [(0, .ref (a 100)), (1, .int (iI u))] := hl
  have hinX6 : ∀ w ∈ u_ws RX6 TX6 8, w ∈ wsX6_removeStar := by decide +kernel
  have hmw0 := hts (.fieldLink RX6 10 "ArcPlate" "plate" "LArcPlate$Plate;") (by decide +kernel)
  have hS0 := po_S hI
  refine lv_aload_n hx hb dX6_removeStar_0 rfl (lv_at hl 0 rfl) ?_
  refine va_get (D := D) (ci := 5) (v := .ref (a 0)) (C := RX6) (T := TX6) (N := 8) hx hb hts hinX6 hown hK hP 0 rfl rfl 0 (by decide) hmw0 (fun _ h9 => h9) rfl dX6_removeStar_1 ?_
  refine lv_iload_n hx hb dX6_removeStar_4 rfl (lv_at hl 1 rfl) ?_
  refine k_roV (As := [.int (iI u)]) (rest := []) ⟨hx, hb, hml, hown, hts⟩ (c_X4_hasStar l D cy a P u hI (show -2147483648 ≤ u ∧ u ≤ 2147483647 by omega)) gX6_removeStar_X4_hasStar rfl ⟨rfl, rfl⟩ 1 rfl (by decide +kernel) ⟨Nat.le_of_ble_eq_true rfl, Nat.le_of_ble_eq_true rfl⟩ (GG_ok D cy) hG (hP.sub (ws' := (plW cy a P)) [1, 2, 3, 4, 5, 6, 7, 8, 9] rfl) (va_recv hK hP (ci := 3) (q0 := 1) rfl rfl) hl.1 rfl (Nat.le_of_ble_eq_true rfl) ⟨Nat.le_of_ble_eq_true rfl, Nat.le_of_ble_eq_true rfl⟩ dX6_removeStar_5 (fun r_1 hr_1 => ?_)
  have hr_1 : ((0 ≤ u ∧ u < P 0 1) ∧ r_1 = 1) ∨ (¬ (0 ≤ u ∧ u < P 0 1) ∧ r_1 = 0) := hr_1
  rcases hr_1 with ⟨c_2, hr_1⟩ | ⟨c_2, hr_1⟩ <;> subst hr_1
  · skip
    refine k_if_eq (tgt := 15) hx hb dX6_removeStar_8 (by decide) (by omega) (fun c_3 => ?_) (fun c_3 => ?_)
    · exfalso; omega
    · skip
      refine k_iconst hx hb dX6_removeStar_11 ?_
      refine lv_goto (tgt := 16) hx hb dX6_removeStar_12 (by decide) ?_
      exfalso; first | omega | omega
  · skip
    refine k_if_eq (tgt := 15) hx hb dX6_removeStar_8 (by decide) (by omega) (fun c_4 => ?_) (fun c_4 => ?_)
    · skip
      refine k_iconst hx hb dX6_removeStar_15 ?_
      exact k_thS (As := [.int (iI 1)]) (rest := []) ⟨hx, hb, hml, hown, hts⟩ (c_X6_refuse1 l hl9 D) gX6_removeStar_X6_refuse rfl ⟨rfl, rfl⟩ 1 rfl (by decide +kernel) ⟨Nat.le_of_ble_eq_true rfl, Nat.le_of_ble_eq_true rfl⟩ exA_ok hGe (fun k q h => by simp at h) hl.1 rfl (Nat.le_of_ble_eq_true rfl) ⟨Nat.le_of_ble_eq_true rfl, Nat.le_of_ble_eq_true rfl⟩ dX6_removeStar_16 ht hlocks
    · exfalso; omega
