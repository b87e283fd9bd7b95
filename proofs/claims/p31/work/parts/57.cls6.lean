set_option maxHeartbeats 4000000 in
set_option maxRecDepth 100000 in
theorem c_X2_save_0 (l : Launch) (D : va_G) (cy : Nat → ClassId) (sz : Nat) (a : Nat → Nat) (P : Nat → Int → Int)  (hI : Inv (mO P)) (hk9 : P 50 1 = 0) : Met l yX2_save wsX2_save { frames := 3, cells := 0, slots := 0, locals := 64 } (mPre (GG D cy) D (hsplW cy a P) sz ([.ref (a 50), .ref (a 0)] : List Value)) (kQv D (hsplW cy a P) sz (fun u9 : (Nat → Nat) × (Nat → Int → Int) => hsplW cy (pgm a u9.1) u9.2) (fun u9 => kept P u9.2)) 0 0 (va_A (hsplW cy a P) sz) := by
  refine kM_start (cc := cX2_save) (maxL := 2) (ret := none) (by decide) rfl (Nat.le_of_ble_eq_true rfl) ?_
  intro p e s m below meth c hx hb hr hlocks hml hts hown hsz hA hG hP hD hS hin ls hl
  have hK := hG.1
  have hl : lv_has ls 2 [(0, .ref (a 50)), (1, .ref (a 0))] := hl
  have hinX2 : ∀ w ∈ u_ws RX2 TX2 2, w ∈ wsX2_save := by decide +kernel
  have hmw0 := hts (.fieldLink RX2 9 "ArcPlate$History" "saved" "I") (by decide +kernel)
  have hmw1 := hts (.fieldLink RX2 17 "ArcPlate$History" "states" "[LArcPlate$Plate;") (by decide +kernel)
  have hbody : ∀ (H : Heap) (locs : List Loc) (hP : va_P D vwCl (hsplW cy a P) H) (hS : va_S (va_A (hsplW cy a P) sz) s.heap H locs) (ls : Array Slot) (hl : lv_has ls 2 [(0, .ref (a 50)), (1, .ref (a 0))]), W p l e { frames := 3, cells := 0, slots := 0, locals := 64 } s m ([.ref (a 50), .ref (a 0)] : List Value).toArray below meth c H locs 0 0 (MQ below (kQv D (hsplW cy a P) sz (fun u9 : (Nat → Nat) × (Nat → Int → Int) => hsplW cy (pgm a u9.1) u9.2) (fun u9 => kept P u9.2)) ([.ref (a 50), .ref (a 0)] : List Value).toArray s 0 0 (va_A (hsplW cy a P) sz)) (F0 m 0 ls []) := by
    intro H locs hP hS ls hl
    refine lv_aload_n hx hb dX2_save_0 rfl (lv_at hl 0 rfl) ?_
    refine va_get (D := D) (ci := 1) (v := .int (iI (P 50 1))) (C := RX2) (T := TX2) (N := 2) hx hb hts hinX2 hown hK hP 0 rfl rfl 1 (by decide) hmw0 (fun _ h9 => h9) rfl dX2_save_1 ?_
    refine k_eqI (v := P 50 1) (w := 0) (hk9) ?_
    refine k_iconst hx hb dX2_save_4 ?_
    refine k_icmp_lt (tgt := 12) hx hb dX2_save_5 (by decide) (by omega) (by omega) (fun c_1 => ?_) (fun c_1 => ?_)
    · skip
      refine lv_aload_n hx hb dX2_save_12 rfl (lv_at hl 0 rfl) ?_
      refine va_get (D := D) (ci := 1) (v := .ref (a 51)) (C := RX2) (T := TX2) (N := 2) hx hb hts hinX2 hown hK hP 0 rfl rfl 0 (by decide) hmw1 (fun _ h9 => h9) rfl dX2_save_13 ?_
      refine lv_aload_n hx hb dX2_save_16 rfl (lv_at hl 0 rfl) ?_
      refine va_get (D := D) (ci := 1) (v := .int (iI (P 50 1))) (C := RX2) (T := TX2) (N := 2) hx hb hts hinX2 hown hK hP 0 rfl rfl 1 (by decide) hmw0 (fun _ h9 => h9) rfl dX2_save_17 ?_
      refine k_eqI (v := P 50 1) (w := 0) (hk9) ?_
      refine k_aald hx hb hK hP 1 3 (v := a 60) rfl rfl (i := 0) (by decide) rfl dX2_save_20 ?_
      refine lv_aload_n hx hb dX2_save_21 rfl (lv_at hl 1 rfl) ?_
      have hPc := hP.sub (ws' := (pl2W cy (fun i => a (cond (Nat.ble 10 i) (i - 10) (i + 60))) (fun i => P (cond (Nat.ble 10 i) (i - 10) (i + 60))))) [2, 3, 4, 5, 6, 7, 8, 9, 10, 38, 39, 40, 41, 42, 43, 44, 45, 46] rfl
      have hDc := hD.sub (ws' := (pl2W cy (fun i => a (cond (Nat.ble 10 i) (i - 10) (i + 60))) (fun i => P (cond (Nat.ble 10 i) (i - 10) (i + 60))))) [2, 3, 4, 5, 6, 7, 8, 9, 10, 38, 39, 40, 41, 42, 43, 44, 45, 46] (by decide) rfl
      have hFc := va_free (wc := (pl2W cy (fun i => a (cond (Nat.ble 10 i) (i - 10) (i + 60))) (fun i => P (cond (Nat.ble 10 i) (i - 10) (i + 60))))) hD hS hA [2, 3, 4, 5, 6, 7, 8, 9, 10, 38, 39, 40, 41, 42, 43, 44, 45, 46] rfl
      refine k_muv (k_runV (As := [.ref (a 0)]) (rest := []) ⟨hx, hb, hml, hown, hts⟩ (c_X4_copyFrom l D cy H.size (fun i => a (cond (Nat.ble 10 i) (i - 10) (i + 60))) (fun i => P (cond (Nat.ble 10 i) (i - 10) (i + 60))) ) gX2_save_X4_copyFrom rfl ⟨rfl, rfl⟩ 1 rfl (by decide +kernel) ⟨Nat.le_of_ble_eq_true rfl, Nat.le_of_ble_eq_true rfl⟩ (GG_ok D cy) hG hS hFc hPc hDc (va_recv hK hP (ci := 3) (q0 := 2) rfl rfl) hl.1 rfl (Nat.le_of_ble_eq_true rfl) ⟨Nat.le_of_ble_eq_true rfl, Nat.le_of_ble_eq_true rfl⟩ dX2_save_22) hFc hS (fun R_3 H1 locs1 hR_3 hP1 hD1 hS1 hk1 => ?_)
      have hR_3 : R_3 = (upr (upr (upr (upr (upr (upr (upr (upr (upr (fun i => P (cond (Nat.ble 10 i) (i - 10) (i + 60))) 0 (ups (ups (ups (ups ((P 60)) 0 ((P 0) 0)) 1 ((P 0) 1)) 2 ((P 0) 2)) 3 ((P 0) 3))) 1 (cpyI ((P 61)) ((P 1)) 0 12)) 2 (cpyI ((P 62)) ((P 2)) 0 144)) 3 (cpyI ((P 63)) ((P 3)) 0 144)) 4 (cpyI ((P 64)) ((P 4)) 0 144)) 5 (cpyI ((P 65)) ((P 5)) 0 12)) 6 (cpyI ((P 66)) ((P 6)) 0 12)) 7 (cpyI ((P 67)) ((P 7)) 0 12)) 8 (cpyI ((P 68)) ((P 8)) 0 10)) := hR_3
      subst hR_3
      have hDn : va_D (va_A (hsplW cy a P) sz) (hsplW cy a (upr (upr (upr (upr (upr (upr (upr (upr (upr P 60 (ups (ups (ups (ups ((P 60)) 0 ((P 0) 0)) 1 ((P 0) 1)) 2 ((P 0) 2)) 3 ((P 0) 3))) 61 (cpyI ((P 61)) ((P 1)) 0 12)) 62 (cpyI ((P 62)) ((P 2)) 0 144)) 63 (cpyI ((P 63)) ((P 3)) 0 144)) 64 (cpyI ((P 64)) ((P 4)) 0 144)) 65 (cpyI ((P 65)) ((P 5)) 0 12)) 66 (cpyI ((P 66)) ((P 6)) 0 12)) 67 (cpyI ((P 67)) ((P 7)) 0 12)) 68 (cpyI ((P 68)) ((P 8)) 0 10))) := k_addr hD rfl
      have hPn := k_join (ws' := (hsplW cy a (upr (upr (upr (upr (upr (upr (upr (upr (upr P 60 (ups (ups (ups (ups ((P 60)) 0 ((P 0) 0)) 1 ((P 0) 1)) 2 ((P 0) 2)) 3 ((P 0) 3))) 61 (cpyI ((P 61)) ((P 1)) 0 12)) 62 (cpyI ((P 62)) ((P 2)) 0 144)) 63 (cpyI ((P 63)) ((P 3)) 0 144)) 64 (cpyI ((P 64)) ((P 4)) 0 144)) 65 (cpyI ((P 65)) ((P 5)) 0 12)) 66 (cpyI ((P 66)) ((P 6)) 0 12)) 67 (cpyI ((P 67)) ((P 7)) 0 12)) 68 (cpyI ((P 68)) ((P 8)) 0 10)))) hP hD [2, 3, 4, 5, 6, 7, 8, 9, 10, 38, 39, 40, 41, 42, 43, 44, 45, 46] [none, none, some 0, some 1, some 2, some 3, some 4, some 5, some 6, some 7, some 8, none, none, none, none, none, none, none, none, none, none, none, none, none, none, none, none, none, none, none, none, none, none, none, none, none, none, none, some 9, some 10, some 11, some 12, some 13, some 14, some 15, some 16, some 17] rfl hk1 hP1 rfl rfl
      clear hP hD hS hP1 hD1 hk1
      have hP := hPn
      have hD := hDn
      have hS := hS1
      clear hPn hDn hS1
      generalize H1 = H at hP hS ⊢
      generalize locs1 = locs at hS ⊢
      refine lv_aload_n hx hb dX2_save_25 rfl (lv_at hl 0 rfl) ?_
      refine lv_dup hx hb dX2_save_26 rfl ?_
      refine va_get (D := D) (ci := 1) (v := .int (iI (P 50 1))) (C := RX2) (T := TX2) (N := 2) hx hb hts hinX2 hown hK hP 0 rfl rfl 1 (by decide) hmw0 (fun _ h9 => h9) rfl dX2_save_27 ?_
      refine k_eqI (v := P 50 1) (w := 0) (hk9) ?_
      refine k_iconst hx hb dX2_save_30 ?_
      refine k_iadd hx hb dX2_save_31 ?_
      refine k_eqI (v := 0 + 1) (w := 1) (by decide) ?_
      refine va_put (D := D) (ci := 1) (v := .int (iI 1)) (ty := .int) (C := RX2) (T := TX2) (N := 2) hx hb hts hinX2 tyX2 tyX2_ok nmX2 hown hK hP hD hS 0 rfl rfl 1 (by decide) hmw0 (fun _ h9 => h9) rfl (by decide +kernel) rfl rfl (Nat.le_of_ble_eq_true rfl) dX2_save_32 (fun H locs hP hD hS => ?_)
      have hP : va_P D vwCl (hsplW cy a (upr (upr (upr (upr (upr (upr (upr (upr (upr (upr P 50 (ups (P 50) 1 1)) 60 (ups (ups (ups (ups ((P 60)) 0 ((P 0) 0)) 1 ((P 0) 1)) 2 ((P 0) 2)) 3 ((P 0) 3))) 61 (cpyI ((P 61)) ((P 1)) 0 12)) 62 (cpyI ((P 62)) ((P 2)) 0 144)) 63 (cpyI ((P 63)) ((P 3)) 0 144)) 64 (cpyI ((P 64)) ((P 4)) 0 144)) 65 (cpyI ((P 65)) ((P 5)) 0 12)) 66 (cpyI ((P 66)) ((P 6)) 0 12)) 67 (cpyI ((P 67)) ((P 7)) 0 12)) 68 (cpyI ((P 68)) ((P 8)) 0 10))) H := hP
      have hD : va_D (va_A (hsplW cy a P) sz) (hsplW cy a (upr (upr (upr (upr (upr (upr (upr (upr (upr (upr P 50 (ups (P 50) 1 1)) 60 (ups (ups (ups (ups ((P 60)) 0 ((P 0) 0)) 1 ((P 0) 1)) 2 ((P 0) 2)) 3 ((P 0) 3))) 61 (cpyI ((P 61)) ((P 1)) 0 12)) 62 (cpyI ((P 62)) ((P 2)) 0 144)) 63 (cpyI ((P 63)) ((P 3)) 0 144)) 64 (cpyI ((P 64)) ((P 4)) 0 144)) 65 (cpyI ((P 65)) ((P 5)) 0 12)) 66 (cpyI ((P 66)) ((P 6)) 0 12)) 67 (cpyI ((P 67)) ((P 7)) 0 12)) 68 (cpyI ((P 68)) ((P 8)) 0 10))) := hD
      exact W.vret hx hb hr (fun t9 ht _ => ⟨⟨(a, (upr (upr (upr (upr (upr (upr (upr (upr (upr (upr P 50 (ups (P 50) 1 1)) 60 (ups (ups (ups (ups ((P 60)) 0 ((P 0) 0)) 1 ((P 0) 1)) 2 ((P 0) 2)) 3 ((P 0) 3))) 61 (cpyI ((P 61)) ((P 1)) 0 12)) 62 (cpyI ((P 62)) ((P 2)) 0 144)) 63 (cpyI ((P 63)) ((P 3)) 0 144)) 64 (cpyI ((P 64)) ((P 4)) 0 144)) 65 (cpyI ((P 65)) ((P 5)) 0 12)) 66 (cpyI ((P 66)) ((P 6)) 0 12)) 67 (cpyI ((P 67)) ((P 7)) 0 12)) 68 (cpyI ((P 68)) ((P 8)) 0 10))), rfl, (kept_lo (n := 0) hk9 (by decide) ⟨fun c9 h9 => (by (repeat rw [upr_o _ _ (by omega)])), fun c9 h9 => (by (repeat rw [upr_o _ _ (by omega)]))⟩ rfl (fun k9 h9 => by omega) (cpd_ag hI rfl rfl rfl rfl rfl rfl rfl rfl rfl) : kept P (upr (upr (upr (upr (upr (upr (upr (upr (upr (upr P 50 (ups (P 50) 1 1)) 60 (ups (ups (ups (ups ((P 60)) 0 ((P 0) 0)) 1 ((P 0) 1)) 2 ((P 0) 2)) 3 ((P 0) 3))) 61 (cpyI ((P 61)) ((P 1)) 0 12)) 62 (cpyI ((P 62)) ((P 2)) 0 144)) 63 (cpyI ((P 63)) ((P 3)) 0 144)) 64 (cpyI ((P 64)) ((P 4)) 0 144)) 65 (cpyI ((P 65)) ((P 5)) 0 12)) 66 (cpyI ((P 66)) ((P 6)) 0 12)) 67 (cpyI ((P 67)) ((P 7)) 0 12)) 68 (cpyI ((P 68)) ((P 8)) 0 10))), by rw [ht]; exact hP, hD⟩, hS.F ht⟩) hS.2.2 dX2_save_35 hlocks
    · exfalso; omega
  exact hbody s.heap [] hP hS ls hl
set_option maxHeartbeats 4000000 in
set_option maxRecDepth 100000 in
theorem c_X2_save_1 (l : Launch) (D : va_G) (cy : Nat → ClassId) (sz : Nat) (a : Nat → Nat) (P : Nat → Int → Int)  (hI : Inv (mO P)) (hk9 : P 50 1 = 1) : Met l yX2_save wsX2_save { frames := 3, cells := 0, slots := 0, locals := 64 } (mPre (GG D cy) D (hsplW cy a P) sz ([.ref (a 50), .ref (a 0)] : List Value)) (kQv D (hsplW cy a P) sz (fun u9 : (Nat → Nat) × (Nat → Int → Int) => hsplW cy (pgm a u9.1) u9.2) (fun u9 => kept P u9.2)) 0 0 (va_A (hsplW cy a P) sz) := by
  refine kM_start (cc := cX2_save) (maxL := 2) (ret := none) (by decide) rfl (Nat.le_of_ble_eq_true rfl) ?_
  intro p e s m below meth c hx hb hr hlocks hml hts hown hsz hA hG hP hD hS hin ls hl
  have hK := hG.1
  have hl : lv_has ls 2 [(0, .ref (a 50)), (1, .ref (a 0))] := hl
  have hinX2 : ∀ w ∈ u_ws RX2 TX2 2, w ∈ wsX2_save := by decide +kernel
  have hmw0 := hts (.fieldLink RX2 9 "ArcPlate$History" "saved" "I") (by decide +kernel)
  have hmw1 := hts (.fieldLink RX2 17 "ArcPlate$History" "states" "[LArcPlate$Plate;") (by decide +kernel)
  have hbody : ∀ (H : Heap) (locs : List Loc) (hP : va_P D vwCl (hsplW cy a P) H) (hS : va_S (va_A (hsplW cy a P) sz) s.heap H locs) (ls : Array Slot) (hl : lv_has ls 2 [(0, .ref (a 50)), (1, .ref (a 0))]), W p l e { frames := 3, cells := 0, slots := 0, locals := 64 } s m ([.ref (a 50), .ref (a 0)] : List Value).toArray below meth c H locs 0 0 (MQ below (kQv D (hsplW cy a P) sz (fun u9 : (Nat → Nat) × (Nat → Int → Int) => hsplW cy (pgm a u9.1) u9.2) (fun u9 => kept P u9.2)) ([.ref (a 50), .ref (a 0)] : List Value).toArray s 0 0 (va_A (hsplW cy a P) sz)) (F0 m 0 ls []) := by
    intro H locs hP hS ls hl
    refine lv_aload_n hx hb dX2_save_0 rfl (lv_at hl 0 rfl) ?_
    refine va_get (D := D) (ci := 1) (v := .int (iI (P 50 1))) (C := RX2) (T := TX2) (N := 2) hx hb hts hinX2 hown hK hP 0 rfl rfl 1 (by decide) hmw0 (fun _ h9 => h9) rfl dX2_save_1 ?_
    refine k_eqI (v := P 50 1) (w := 1) (hk9) ?_
    refine k_iconst hx hb dX2_save_4 ?_
    refine k_icmp_lt (tgt := 12) hx hb dX2_save_5 (by decide) (by omega) (by omega) (fun c_1 => ?_) (fun c_1 => ?_)
    · skip
      refine lv_aload_n hx hb dX2_save_12 rfl (lv_at hl 0 rfl) ?_
      refine va_get (D := D) (ci := 1) (v := .ref (a 51)) (C := RX2) (T := TX2) (N := 2) hx hb hts hinX2 hown hK hP 0 rfl rfl 0 (by decide) hmw1 (fun _ h9 => h9) rfl dX2_save_13 ?_
      refine lv_aload_n hx hb dX2_save_16 rfl (lv_at hl 0 rfl) ?_
      refine va_get (D := D) (ci := 1) (v := .int (iI (P 50 1))) (C := RX2) (T := TX2) (N := 2) hx hb hts hinX2 hown hK hP 0 rfl rfl 1 (by decide) hmw0 (fun _ h9 => h9) rfl dX2_save_17 ?_
      refine k_eqI (v := P 50 1) (w := 1) (hk9) ?_
      refine k_aald hx hb hK hP 1 3 (v := a 70) rfl rfl (i := 1) (by decide) rfl dX2_save_20 ?_
      refine lv_aload_n hx hb dX2_save_21 rfl (lv_at hl 1 rfl) ?_
      have hPc := hP.sub (ws' := (pl2W cy (fun i => a (cond (Nat.ble 10 i) (i - 10) (i + 70))) (fun i => P (cond (Nat.ble 10 i) (i - 10) (i + 70))))) [11, 12, 13, 14, 15, 16, 17, 18, 19, 38, 39, 40, 41, 42, 43, 44, 45, 46] rfl
      have hDc := hD.sub (ws' := (pl2W cy (fun i => a (cond (Nat.ble 10 i) (i - 10) (i + 70))) (fun i => P (cond (Nat.ble 10 i) (i - 10) (i + 70))))) [11, 12, 13, 14, 15, 16, 17, 18, 19, 38, 39, 40, 41, 42, 43, 44, 45, 46] (by decide) rfl
      have hFc := va_free (wc := (pl2W cy (fun i => a (cond (Nat.ble 10 i) (i - 10) (i + 70))) (fun i => P (cond (Nat.ble 10 i) (i - 10) (i + 70))))) hD hS hA [11, 12, 13, 14, 15, 16, 17, 18, 19, 38, 39, 40, 41, 42, 43, 44, 45, 46] rfl
      refine k_muv (k_runV (As := [.ref (a 0)]) (rest := []) ⟨hx, hb, hml, hown, hts⟩ (c_X4_copyFrom l D cy H.size (fun i => a (cond (Nat.ble 10 i) (i - 10) (i + 70))) (fun i => P (cond (Nat.ble 10 i) (i - 10) (i + 70))) ) gX2_save_X4_copyFrom rfl ⟨rfl, rfl⟩ 1 rfl (by decide +kernel) ⟨Nat.le_of_ble_eq_true rfl, Nat.le_of_ble_eq_true rfl⟩ (GG_ok D cy) hG hS hFc hPc hDc (va_recv hK hP (ci := 3) (q0 := 11) rfl rfl) hl.1 rfl (Nat.le_of_ble_eq_true rfl) ⟨Nat.le_of_ble_eq_true rfl, Nat.le_of_ble_eq_true rfl⟩ dX2_save_22) hFc hS (fun R_3 H1 locs1 hR_3 hP1 hD1 hS1 hk1 => ?_)
      have hR_3 : R_3 = (upr (upr (upr (upr (upr (upr (upr (upr (upr (fun i => P (cond (Nat.ble 10 i) (i - 10) (i + 70))) 0 (ups (ups (ups (ups ((P 70)) 0 ((P 0) 0)) 1 ((P 0) 1)) 2 ((P 0) 2)) 3 ((P 0) 3))) 1 (cpyI ((P 71)) ((P 1)) 0 12)) 2 (cpyI ((P 72)) ((P 2)) 0 144)) 3 (cpyI ((P 73)) ((P 3)) 0 144)) 4 (cpyI ((P 74)) ((P 4)) 0 144)) 5 (cpyI ((P 75)) ((P 5)) 0 12)) 6 (cpyI ((P 76)) ((P 6)) 0 12)) 7 (cpyI ((P 77)) ((P 7)) 0 12)) 8 (cpyI ((P 78)) ((P 8)) 0 10)) := hR_3
      subst hR_3
      have hDn : va_D (va_A (hsplW cy a P) sz) (hsplW cy a (upr (upr (upr (upr (upr (upr (upr (upr (upr P 70 (ups (ups (ups (ups ((P 70)) 0 ((P 0) 0)) 1 ((P 0) 1)) 2 ((P 0) 2)) 3 ((P 0) 3))) 71 (cpyI ((P 71)) ((P 1)) 0 12)) 72 (cpyI ((P 72)) ((P 2)) 0 144)) 73 (cpyI ((P 73)) ((P 3)) 0 144)) 74 (cpyI ((P 74)) ((P 4)) 0 144)) 75 (cpyI ((P 75)) ((P 5)) 0 12)) 76 (cpyI ((P 76)) ((P 6)) 0 12)) 77 (cpyI ((P 77)) ((P 7)) 0 12)) 78 (cpyI ((P 78)) ((P 8)) 0 10))) := k_addr hD rfl
      have hPn := k_join (ws' := (hsplW cy a (upr (upr (upr (upr (upr (upr (upr (upr (upr P 70 (ups (ups (ups (ups ((P 70)) 0 ((P 0) 0)) 1 ((P 0) 1)) 2 ((P 0) 2)) 3 ((P 0) 3))) 71 (cpyI ((P 71)) ((P 1)) 0 12)) 72 (cpyI ((P 72)) ((P 2)) 0 144)) 73 (cpyI ((P 73)) ((P 3)) 0 144)) 74 (cpyI ((P 74)) ((P 4)) 0 144)) 75 (cpyI ((P 75)) ((P 5)) 0 12)) 76 (cpyI ((P 76)) ((P 6)) 0 12)) 77 (cpyI ((P 77)) ((P 7)) 0 12)) 78 (cpyI ((P 78)) ((P 8)) 0 10)))) hP hD [11, 12, 13, 14, 15, 16, 17, 18, 19, 38, 39, 40, 41, 42, 43, 44, 45, 46] [none, none, none, none, none, none, none, none, none, none, none, some 0, some 1, some 2, some 3, some 4, some 5, some 6, some 7, some 8, none, none, none, none, none, none, none, none, none, none, none, none, none, none, none, none, none, none, some 9, some 10, some 11, some 12, some 13, some 14, some 15, some 16, some 17] rfl hk1 hP1 rfl rfl
      clear hP hD hS hP1 hD1 hk1
      have hP := hPn
      have hD := hDn
      have hS := hS1
      clear hPn hDn hS1
      generalize H1 = H at hP hS ⊢
      generalize locs1 = locs at hS ⊢
      refine lv_aload_n hx hb dX2_save_25 rfl (lv_at hl 0 rfl) ?_
      refine lv_dup hx hb dX2_save_26 rfl ?_
      refine va_get (D := D) (ci := 1) (v := .int (iI (P 50 1))) (C := RX2) (T := TX2) (N := 2) hx hb hts hinX2 hown hK hP 0 rfl rfl 1 (by decide) hmw0 (fun _ h9 => h9) rfl dX2_save_27 ?_
      refine k_eqI (v := P 50 1) (w := 1) (hk9) ?_
      refine k_iconst hx hb dX2_save_30 ?_
      refine k_iadd hx hb dX2_save_31 ?_
      refine k_eqI (v := 1 + 1) (w := 2) (by decide) ?_
      refine va_put (D := D) (ci := 1) (v := .int (iI 2)) (ty := .int) (C := RX2) (T := TX2) (N := 2) hx hb hts hinX2 tyX2 tyX2_ok nmX2 hown hK hP hD hS 0 rfl rfl 1 (by decide) hmw0 (fun _ h9 => h9) rfl (by decide +kernel) rfl rfl (Nat.le_of_ble_eq_true rfl) dX2_save_32 (fun H locs hP hD hS => ?_)
      have hP : va_P D vwCl (hsplW cy a (upr (upr (upr (upr (upr (upr (upr (upr (upr (upr P 50 (ups (P 50) 1 2)) 70 (ups (ups (ups (ups ((P 70)) 0 ((P 0) 0)) 1 ((P 0) 1)) 2 ((P 0) 2)) 3 ((P 0) 3))) 71 (cpyI ((P 71)) ((P 1)) 0 12)) 72 (cpyI ((P 72)) ((P 2)) 0 144)) 73 (cpyI ((P 73)) ((P 3)) 0 144)) 74 (cpyI ((P 74)) ((P 4)) 0 144)) 75 (cpyI ((P 75)) ((P 5)) 0 12)) 76 (cpyI ((P 76)) ((P 6)) 0 12)) 77 (cpyI ((P 77)) ((P 7)) 0 12)) 78 (cpyI ((P 78)) ((P 8)) 0 10))) H := hP
      have hD : va_D (va_A (hsplW cy a P) sz) (hsplW cy a (upr (upr (upr (upr (upr (upr (upr (upr (upr (upr P 50 (ups (P 50) 1 2)) 70 (ups (ups (ups (ups ((P 70)) 0 ((P 0) 0)) 1 ((P 0) 1)) 2 ((P 0) 2)) 3 ((P 0) 3))) 71 (cpyI ((P 71)) ((P 1)) 0 12)) 72 (cpyI ((P 72)) ((P 2)) 0 144)) 73 (cpyI ((P 73)) ((P 3)) 0 144)) 74 (cpyI ((P 74)) ((P 4)) 0 144)) 75 (cpyI ((P 75)) ((P 5)) 0 12)) 76 (cpyI ((P 76)) ((P 6)) 0 12)) 77 (cpyI ((P 77)) ((P 7)) 0 12)) 78 (cpyI ((P 78)) ((P 8)) 0 10))) := hD
      exact W.vret hx hb hr (fun t9 ht _ => ⟨⟨(a, (upr (upr (upr (upr (upr (upr (upr (upr (upr (upr P 50 (ups (P 50) 1 2)) 70 (ups (ups (ups (ups ((P 70)) 0 ((P 0) 0)) 1 ((P 0) 1)) 2 ((P 0) 2)) 3 ((P 0) 3))) 71 (cpyI ((P 71)) ((P 1)) 0 12)) 72 (cpyI ((P 72)) ((P 2)) 0 144)) 73 (cpyI ((P 73)) ((P 3)) 0 144)) 74 (cpyI ((P 74)) ((P 4)) 0 144)) 75 (cpyI ((P 75)) ((P 5)) 0 12)) 76 (cpyI ((P 76)) ((P 6)) 0 12)) 77 (cpyI ((P 77)) ((P 7)) 0 12)) 78 (cpyI ((P 78)) ((P 8)) 0 10))), rfl, (kept_lo (n := 1) hk9 (by decide) ⟨fun c9 h9 => (by (repeat rw [upr_o _ _ (by omega)])), fun c9 h9 => (by (repeat rw [upr_o _ _ (by omega)]))⟩ rfl (fun k9 h9 => by rcases (show k9 = 0 by omega) with e9 <;> subst e9 <;> rfl) (cpd_ag hI rfl rfl rfl rfl rfl rfl rfl rfl rfl) : kept P (upr (upr (upr (upr (upr (upr (upr (upr (upr (upr P 50 (ups (P 50) 1 2)) 70 (ups (ups (ups (ups ((P 70)) 0 ((P 0) 0)) 1 ((P 0) 1)) 2 ((P 0) 2)) 3 ((P 0) 3))) 71 (cpyI ((P 71)) ((P 1)) 0 12)) 72 (cpyI ((P 72)) ((P 2)) 0 144)) 73 (cpyI ((P 73)) ((P 3)) 0 144)) 74 (cpyI ((P 74)) ((P 4)) 0 144)) 75 (cpyI ((P 75)) ((P 5)) 0 12)) 76 (cpyI ((P 76)) ((P 6)) 0 12)) 77 (cpyI ((P 77)) ((P 7)) 0 12)) 78 (cpyI ((P 78)) ((P 8)) 0 10))), by rw [ht]; exact hP, hD⟩, hS.F ht⟩) hS.2.2 dX2_save_35 hlocks
    · exfalso; omega
  exact hbody s.heap [] hP hS ls hl
set_option maxHeartbeats 4000000 in
set_option maxRecDepth 100000 in
theorem c_X2_save_2 (l : Launch) (D : va_G) (cy : Nat → ClassId) (sz : Nat) (a : Nat → Nat) (P : Nat → Int → Int)  (hI : Inv (mO P)) (hk9 : P 50 1 = 2) : Met l yX2_save wsX2_save { frames := 3, cells := 0, slots := 0, locals := 64 } (mPre (GG D cy) D (hsplW cy a P) sz ([.ref (a 50), .ref (a 0)] : List Value)) (kQv D (hsplW cy a P) sz (fun u9 : (Nat → Nat) × (Nat → Int → Int) => hsplW cy (pgm a u9.1) u9.2) (fun u9 => kept P u9.2)) 0 0 (va_A (hsplW cy a P) sz) := by
  refine kM_start (cc := cX2_save) (maxL := 2) (ret := none) (by decide) rfl (Nat.le_of_ble_eq_true rfl) ?_
  intro p e s m below meth c hx hb hr hlocks hml hts hown hsz hA hG hP hD hS hin ls hl
  have hK := hG.1
  have hl : lv_has ls 2 [(0, .ref (a 50)), (1, .ref (a 0))] := hl
  have hinX2 : ∀ w ∈ u_ws RX2 TX2 2, w ∈ wsX2_save := by decide +kernel
  have hmw0 := hts (.fieldLink RX2 9 "ArcPlate$History" "saved" "I") (by decide +kernel)
  have hmw1 := hts (.fieldLink RX2 17 "ArcPlate$History" "states" "[LArcPlate$Plate;") (by decide +kernel)
  have hbody : ∀ (H : Heap) (locs : List Loc) (hP : va_P D vwCl (hsplW cy a P) H) (hS : va_S (va_A (hsplW cy a P) sz) s.heap H locs) (ls : Array Slot) (hl : lv_has ls 2 [(0, .ref (a 50)), (1, .ref (a 0))]), W p l e { frames := 3, cells := 0, slots := 0, locals := 64 } s m ([.ref (a 50), .ref (a 0)] : List Value).toArray below meth c H locs 0 0 (MQ below (kQv D (hsplW cy a P) sz (fun u9 : (Nat → Nat) × (Nat → Int → Int) => hsplW cy (pgm a u9.1) u9.2) (fun u9 => kept P u9.2)) ([.ref (a 50), .ref (a 0)] : List Value).toArray s 0 0 (va_A (hsplW cy a P) sz)) (F0 m 0 ls []) := by
    intro H locs hP hS ls hl
    refine lv_aload_n hx hb dX2_save_0 rfl (lv_at hl 0 rfl) ?_
    refine va_get (D := D) (ci := 1) (v := .int (iI (P 50 1))) (C := RX2) (T := TX2) (N := 2) hx hb hts hinX2 hown hK hP 0 rfl rfl 1 (by decide) hmw0 (fun _ h9 => h9) rfl dX2_save_1 ?_
    refine k_eqI (v := P 50 1) (w := 2) (hk9) ?_
    refine k_iconst hx hb dX2_save_4 ?_
    refine k_icmp_lt (tgt := 12) hx hb dX2_save_5 (by decide) (by omega) (by omega) (fun c_1 => ?_) (fun c_1 => ?_)
    · skip
      refine lv_aload_n hx hb dX2_save_12 rfl (lv_at hl 0 rfl) ?_
      refine va_get (D := D) (ci := 1) (v := .ref (a 51)) (C := RX2) (T := TX2) (N := 2) hx hb hts hinX2 hown hK hP 0 rfl rfl 0 (by decide) hmw1 (fun _ h9 => h9) rfl dX2_save_13 ?_
      refine lv_aload_n hx hb dX2_save_16 rfl (lv_at hl 0 rfl) ?_
      refine va_get (D := D) (ci := 1) (v := .int (iI (P 50 1))) (C := RX2) (T := TX2) (N := 2) hx hb hts hinX2 hown hK hP 0 rfl rfl 1 (by decide) hmw0 (fun _ h9 => h9) rfl dX2_save_17 ?_
      refine k_eqI (v := P 50 1) (w := 2) (hk9) ?_
      refine k_aald hx hb hK hP 1 3 (v := a 80) rfl rfl (i := 2) (by decide) rfl dX2_save_20 ?_
      refine lv_aload_n hx hb dX2_save_21 rfl (lv_at hl 1 rfl) ?_
      have hPc := hP.sub (ws' := (pl2W cy (fun i => a (cond (Nat.ble 10 i) (i - 10) (i + 80))) (fun i => P (cond (Nat.ble 10 i) (i - 10) (i + 80))))) [20, 21, 22, 23, 24, 25, 26, 27, 28, 38, 39, 40, 41, 42, 43, 44, 45, 46] rfl
      have hDc := hD.sub (ws' := (pl2W cy (fun i => a (cond (Nat.ble 10 i) (i - 10) (i + 80))) (fun i => P (cond (Nat.ble 10 i) (i - 10) (i + 80))))) [20, 21, 22, 23, 24, 25, 26, 27, 28, 38, 39, 40, 41, 42, 43, 44, 45, 46] (by decide) rfl
      have hFc := va_free (wc := (pl2W cy (fun i => a (cond (Nat.ble 10 i) (i - 10) (i + 80))) (fun i => P (cond (Nat.ble 10 i) (i - 10) (i + 80))))) hD hS hA [20, 21, 22, 23, 24, 25, 26, 27, 28, 38, 39, 40, 41, 42, 43, 44, 45, 46] rfl
      refine k_muv (k_runV (As := [.ref (a 0)]) (rest := []) ⟨hx, hb, hml, hown, hts⟩ (c_X4_copyFrom l D cy H.size (fun i => a (cond (Nat.ble 10 i) (i - 10) (i + 80))) (fun i => P (cond (Nat.ble 10 i) (i - 10) (i + 80))) ) gX2_save_X4_copyFrom rfl ⟨rfl, rfl⟩ 1 rfl (by decide +kernel) ⟨Nat.le_of_ble_eq_true rfl, Nat.le_of_ble_eq_true rfl⟩ (GG_ok D cy) hG hS hFc hPc hDc (va_recv hK hP (ci := 3) (q0 := 20) rfl rfl) hl.1 rfl (Nat.le_of_ble_eq_true rfl) ⟨Nat.le_of_ble_eq_true rfl, Nat.le_of_ble_eq_true rfl⟩ dX2_save_22) hFc hS (fun R_3 H1 locs1 hR_3 hP1 hD1 hS1 hk1 => ?_)
      have hR_3 : R_3 = (upr (upr (upr (upr (upr (upr (upr (upr (upr (fun i => P (cond (Nat.ble 10 i) (i - 10) (i + 80))) 0 (ups (ups (ups (ups ((P 80)) 0 ((P 0) 0)) 1 ((P 0) 1)) 2 ((P 0) 2)) 3 ((P 0) 3))) 1 (cpyI ((P 81)) ((P 1)) 0 12)) 2 (cpyI ((P 82)) ((P 2)) 0 144)) 3 (cpyI ((P 83)) ((P 3)) 0 144)) 4 (cpyI ((P 84)) ((P 4)) 0 144)) 5 (cpyI ((P 85)) ((P 5)) 0 12)) 6 (cpyI ((P 86)) ((P 6)) 0 12)) 7 (cpyI ((P 87)) ((P 7)) 0 12)) 8 (cpyI ((P 88)) ((P 8)) 0 10)) := hR_3
      subst hR_3
      have hDn : va_D (va_A (hsplW cy a P) sz) (hsplW cy a (upr (upr (upr (upr (upr (upr (upr (upr (upr P 80 (ups (ups (ups (ups ((P 80)) 0 ((P 0) 0)) 1 ((P 0) 1)) 2 ((P 0) 2)) 3 ((P 0) 3))) 81 (cpyI ((P 81)) ((P 1)) 0 12)) 82 (cpyI ((P 82)) ((P 2)) 0 144)) 83 (cpyI ((P 83)) ((P 3)) 0 144)) 84 (cpyI ((P 84)) ((P 4)) 0 144)) 85 (cpyI ((P 85)) ((P 5)) 0 12)) 86 (cpyI ((P 86)) ((P 6)) 0 12)) 87 (cpyI ((P 87)) ((P 7)) 0 12)) 88 (cpyI ((P 88)) ((P 8)) 0 10))) := k_addr hD rfl
      have hPn := k_join (ws' := (hsplW cy a (upr (upr (upr (upr (upr (upr (upr (upr (upr P 80 (ups (ups (ups (ups ((P 80)) 0 ((P 0) 0)) 1 ((P 0) 1)) 2 ((P 0) 2)) 3 ((P 0) 3))) 81 (cpyI ((P 81)) ((P 1)) 0 12)) 82 (cpyI ((P 82)) ((P 2)) 0 144)) 83 (cpyI ((P 83)) ((P 3)) 0 144)) 84 (cpyI ((P 84)) ((P 4)) 0 144)) 85 (cpyI ((P 85)) ((P 5)) 0 12)) 86 (cpyI ((P 86)) ((P 6)) 0 12)) 87 (cpyI ((P 87)) ((P 7)) 0 12)) 88 (cpyI ((P 88)) ((P 8)) 0 10)))) hP hD [20, 21, 22, 23, 24, 25, 26, 27, 28, 38, 39, 40, 41, 42, 43, 44, 45, 46] [none, none, none, none, none, none, none, none, none, none, none, none, none, none, none, none, none, none, none, none, some 0, some 1, some 2, some 3, some 4, some 5, some 6, some 7, some 8, none, none, none, none, none, none, none, none, none, some 9, some 10, some 11, some 12, some 13, some 14, some 15, some 16, some 17] rfl hk1 hP1 rfl rfl
      clear hP hD hS hP1 hD1 hk1
      have hP := hPn
      have hD := hDn
      have hS := hS1
      clear hPn hDn hS1
      generalize H1 = H at hP hS ⊢
      generalize locs1 = locs at hS ⊢
      refine lv_aload_n hx hb dX2_save_25 rfl (lv_at hl 0 rfl) ?_
      refine lv_dup hx hb dX2_save_26 rfl ?_
      refine va_get (D := D) (ci := 1) (v := .int (iI (P 50 1))) (C := RX2) (T := TX2) (N := 2) hx hb hts hinX2 hown hK hP 0 rfl rfl 1 (by decide) hmw0 (fun _ h9 => h9) rfl dX2_save_27 ?_
      refine k_eqI (v := P 50 1) (w := 2) (hk9) ?_
      refine k_iconst hx hb dX2_save_30 ?_
      refine k_iadd hx hb dX2_save_31 ?_
      refine k_eqI (v := 2 + 1) (w := 3) (by decide) ?_
      refine va_put (D := D) (ci := 1) (v := .int (iI 3)) (ty := .int) (C := RX2) (T := TX2) (N := 2) hx hb hts hinX2 tyX2 tyX2_ok nmX2 hown hK hP hD hS 0 rfl rfl 1 (by decide) hmw0 (fun _ h9 => h9) rfl (by decide +kernel) rfl rfl (Nat.le_of_ble_eq_true rfl) dX2_save_32 (fun H locs hP hD hS => ?_)
      have hP : va_P D vwCl (hsplW cy a (upr (upr (upr (upr (upr (upr (upr (upr (upr (upr P 50 (ups (P 50) 1 3)) 80 (ups (ups (ups (ups ((P 80)) 0 ((P 0) 0)) 1 ((P 0) 1)) 2 ((P 0) 2)) 3 ((P 0) 3))) 81 (cpyI ((P 81)) ((P 1)) 0 12)) 82 (cpyI ((P 82)) ((P 2)) 0 144)) 83 (cpyI ((P 83)) ((P 3)) 0 144)) 84 (cpyI ((P 84)) ((P 4)) 0 144)) 85 (cpyI ((P 85)) ((P 5)) 0 12)) 86 (cpyI ((P 86)) ((P 6)) 0 12)) 87 (cpyI ((P 87)) ((P 7)) 0 12)) 88 (cpyI ((P 88)) ((P 8)) 0 10))) H := hP
      have hD : va_D (va_A (hsplW cy a P) sz) (hsplW cy a (upr (upr (upr (upr (upr (upr (upr (upr (upr (upr P 50 (ups (P 50) 1 3)) 80 (ups (ups (ups (ups ((P 80)) 0 ((P 0) 0)) 1 ((P 0) 1)) 2 ((P 0) 2)) 3 ((P 0) 3))) 81 (cpyI ((P 81)) ((P 1)) 0 12)) 82 (cpyI ((P 82)) ((P 2)) 0 144)) 83 (cpyI ((P 83)) ((P 3)) 0 144)) 84 (cpyI ((P 84)) ((P 4)) 0 144)) 85 (cpyI ((P 85)) ((P 5)) 0 12)) 86 (cpyI ((P 86)) ((P 6)) 0 12)) 87 (cpyI ((P 87)) ((P 7)) 0 12)) 88 (cpyI ((P 88)) ((P 8)) 0 10))) := hD
      exact W.vret hx hb hr (fun t9 ht _ => ⟨⟨(a, (upr (upr (upr (upr (upr (upr (upr (upr (upr (upr P 50 (ups (P 50) 1 3)) 80 (ups (ups (ups (ups ((P 80)) 0 ((P 0) 0)) 1 ((P 0) 1)) 2 ((P 0) 2)) 3 ((P 0) 3))) 81 (cpyI ((P 81)) ((P 1)) 0 12)) 82 (cpyI ((P 82)) ((P 2)) 0 144)) 83 (cpyI ((P 83)) ((P 3)) 0 144)) 84 (cpyI ((P 84)) ((P 4)) 0 144)) 85 (cpyI ((P 85)) ((P 5)) 0 12)) 86 (cpyI ((P 86)) ((P 6)) 0 12)) 87 (cpyI ((P 87)) ((P 7)) 0 12)) 88 (cpyI ((P 88)) ((P 8)) 0 10))), rfl, (kept_lo (n := 2) hk9 (by decide) ⟨fun c9 h9 => (by (repeat rw [upr_o _ _ (by omega)])), fun c9 h9 => (by (repeat rw [upr_o _ _ (by omega)]))⟩ rfl (fun k9 h9 => by rcases (show k9 = 0 ∨ k9 = 1 by omega) with e9 | e9 <;> subst e9 <;> rfl) (cpd_ag hI rfl rfl rfl rfl rfl rfl rfl rfl rfl) : kept P (upr (upr (upr (upr (upr (upr (upr (upr (upr (upr P 50 (ups (P 50) 1 3)) 80 (ups (ups (ups (ups ((P 80)) 0 ((P 0) 0)) 1 ((P 0) 1)) 2 ((P 0) 2)) 3 ((P 0) 3))) 81 (cpyI ((P 81)) ((P 1)) 0 12)) 82 (cpyI ((P 82)) ((P 2)) 0 144)) 83 (cpyI ((P 83)) ((P 3)) 0 144)) 84 (cpyI ((P 84)) ((P 4)) 0 144)) 85 (cpyI ((P 85)) ((P 5)) 0 12)) 86 (cpyI ((P 86)) ((P 6)) 0 12)) 87 (cpyI ((P 87)) ((P 7)) 0 12)) 88 (cpyI ((P 88)) ((P 8)) 0 10))), by rw [ht]; exact hP, hD⟩, hS.F ht⟩) hS.2.2 dX2_save_35 hlocks
    · exfalso; omega
  exact hbody s.heap [] hP hS ls hl
set_option maxHeartbeats 4000000 in
set_option maxRecDepth 100000 in
theorem c_X2_save_3 (l : Launch) (D : va_G) (cy : Nat → ClassId) (sz : Nat) (a : Nat → Nat) (P : Nat → Int → Int)  (hI : Inv (mO P)) (hk9 : P 50 1 = 3) : Met l yX2_save wsX2_save { frames := 3, cells := 0, slots := 0, locals := 64 } (mPre (GG D cy) D (hsplW cy a P) sz ([.ref (a 50), .ref (a 0)] : List Value)) (kQv D (hsplW cy a P) sz (fun u9 : (Nat → Nat) × (Nat → Int → Int) => hsplW cy (pgm a u9.1) u9.2) (fun u9 => kept P u9.2)) 0 0 (va_A (hsplW cy a P) sz) := by
  refine kM_start (cc := cX2_save) (maxL := 2) (ret := none) (by decide) rfl (Nat.le_of_ble_eq_true rfl) ?_
  intro p e s m below meth c hx hb hr hlocks hml hts hown hsz hA hG hP hD hS hin ls hl
  have hK := hG.1
  have hl : lv_has ls 2 [(0, .ref (a 50)), (1, .ref (a 0))] := hl
  have hinX2 : ∀ w ∈ u_ws RX2 TX2 2, w ∈ wsX2_save := by decide +kernel
  have hmw0 := hts (.fieldLink RX2 9 "ArcPlate$History" "saved" "I") (by decide +kernel)
  have hmw1 := hts (.fieldLink RX2 17 "ArcPlate$History" "states" "[LArcPlate$Plate;") (by decide +kernel)
  have hbody : ∀ (H : Heap) (locs : List Loc) (hP : va_P D vwCl (hsplW cy a P) H) (hS : va_S (va_A (hsplW cy a P) sz) s.heap H locs) (ls : Array Slot) (hl : lv_has ls 2 [(0, .ref (a 50)), (1, .ref (a 0))]), W p l e { frames := 3, cells := 0, slots := 0, locals := 64 } s m ([.ref (a 50), .ref (a 0)] : List Value).toArray below meth c H locs 0 0 (MQ below (kQv D (hsplW cy a P) sz (fun u9 : (Nat → Nat) × (Nat → Int → Int) => hsplW cy (pgm a u9.1) u9.2) (fun u9 => kept P u9.2)) ([.ref (a 50), .ref (a 0)] : List Value).toArray s 0 0 (va_A (hsplW cy a P) sz)) (F0 m 0 ls []) := by
    intro H locs hP hS ls hl
    refine lv_aload_n hx hb dX2_save_0 rfl (lv_at hl 0 rfl) ?_
    refine va_get (D := D) (ci := 1) (v := .int (iI (P 50 1))) (C := RX2) (T := TX2) (N := 2) hx hb hts hinX2 hown hK hP 0 rfl rfl 1 (by decide) hmw0 (fun _ h9 => h9) rfl dX2_save_1 ?_
    refine k_eqI (v := P 50 1) (w := 3) (hk9) ?_
    refine k_iconst hx hb dX2_save_4 ?_
    refine k_icmp_lt (tgt := 12) hx hb dX2_save_5 (by decide) (by omega) (by omega) (fun c_1 => ?_) (fun c_1 => ?_)
    · skip
      refine lv_aload_n hx hb dX2_save_12 rfl (lv_at hl 0 rfl) ?_
      refine va_get (D := D) (ci := 1) (v := .ref (a 51)) (C := RX2) (T := TX2) (N := 2) hx hb hts hinX2 hown hK hP 0 rfl rfl 0 (by decide) hmw1 (fun _ h9 => h9) rfl dX2_save_13 ?_
      refine lv_aload_n hx hb dX2_save_16 rfl (lv_at hl 0 rfl) ?_
      refine va_get (D := D) (ci := 1) (v := .int (iI (P 50 1))) (C := RX2) (T := TX2) (N := 2) hx hb hts hinX2 hown hK hP 0 rfl rfl 1 (by decide) hmw0 (fun _ h9 => h9) rfl dX2_save_17 ?_
      refine k_eqI (v := P 50 1) (w := 3) (hk9) ?_
      refine k_aald hx hb hK hP 1 3 (v := a 90) rfl rfl (i := 3) (by decide) rfl dX2_save_20 ?_
      refine lv_aload_n hx hb dX2_save_21 rfl (lv_at hl 1 rfl) ?_
      have hPc := hP.sub (ws' := (pl2W cy (fun i => a (cond (Nat.ble 10 i) (i - 10) (i + 90))) (fun i => P (cond (Nat.ble 10 i) (i - 10) (i + 90))))) [29, 30, 31, 32, 33, 34, 35, 36, 37, 38, 39, 40, 41, 42, 43, 44, 45, 46] rfl
      have hDc := hD.sub (ws' := (pl2W cy (fun i => a (cond (Nat.ble 10 i) (i - 10) (i + 90))) (fun i => P (cond (Nat.ble 10 i) (i - 10) (i + 90))))) [29, 30, 31, 32, 33, 34, 35, 36, 37, 38, 39, 40, 41, 42, 43, 44, 45, 46] (by decide) rfl
      have hFc := va_free (wc := (pl2W cy (fun i => a (cond (Nat.ble 10 i) (i - 10) (i + 90))) (fun i => P (cond (Nat.ble 10 i) (i - 10) (i + 90))))) hD hS hA [29, 30, 31, 32, 33, 34, 35, 36, 37, 38, 39, 40, 41, 42, 43, 44, 45, 46] rfl
      refine k_muv (k_runV (As := [.ref (a 0)]) (rest := []) ⟨hx, hb, hml, hown, hts⟩ (c_X4_copyFrom l D cy H.size (fun i => a (cond (Nat.ble 10 i) (i - 10) (i + 90))) (fun i => P (cond (Nat.ble 10 i) (i - 10) (i + 90))) ) gX2_save_X4_copyFrom rfl ⟨rfl, rfl⟩ 1 rfl (by decide +kernel) ⟨Nat.le_of_ble_eq_true rfl, Nat.le_of_ble_eq_true rfl⟩ (GG_ok D cy) hG hS hFc hPc hDc (va_recv hK hP (ci := 3) (q0 := 29) rfl rfl) hl.1 rfl (Nat.le_of_ble_eq_true rfl) ⟨Nat.le_of_ble_eq_true rfl, Nat.le_of_ble_eq_true rfl⟩ dX2_save_22) hFc hS (fun R_3 H1 locs1 hR_3 hP1 hD1 hS1 hk1 => ?_)
      have hR_3 : R_3 = (upr (upr (upr (upr (upr (upr (upr (upr (upr (fun i => P (cond (Nat.ble 10 i) (i - 10) (i + 90))) 0 (ups (ups (ups (ups ((P 90)) 0 ((P 0) 0)) 1 ((P 0) 1)) 2 ((P 0) 2)) 3 ((P 0) 3))) 1 (cpyI ((P 91)) ((P 1)) 0 12)) 2 (cpyI ((P 92)) ((P 2)) 0 144)) 3 (cpyI ((P 93)) ((P 3)) 0 144)) 4 (cpyI ((P 94)) ((P 4)) 0 144)) 5 (cpyI ((P 95)) ((P 5)) 0 12)) 6 (cpyI ((P 96)) ((P 6)) 0 12)) 7 (cpyI ((P 97)) ((P 7)) 0 12)) 8 (cpyI ((P 98)) ((P 8)) 0 10)) := hR_3
      subst hR_3
      have hDn : va_D (va_A (hsplW cy a P) sz) (hsplW cy a (upr (upr (upr (upr (upr (upr (upr (upr (upr P 90 (ups (ups (ups (ups ((P 90)) 0 ((P 0) 0)) 1 ((P 0) 1)) 2 ((P 0) 2)) 3 ((P 0) 3))) 91 (cpyI ((P 91)) ((P 1)) 0 12)) 92 (cpyI ((P 92)) ((P 2)) 0 144)) 93 (cpyI ((P 93)) ((P 3)) 0 144)) 94 (cpyI ((P 94)) ((P 4)) 0 144)) 95 (cpyI ((P 95)) ((P 5)) 0 12)) 96 (cpyI ((P 96)) ((P 6)) 0 12)) 97 (cpyI ((P 97)) ((P 7)) 0 12)) 98 (cpyI ((P 98)) ((P 8)) 0 10))) := k_addr hD rfl
      have hPn := k_join (ws' := (hsplW cy a (upr (upr (upr (upr (upr (upr (upr (upr (upr P 90 (ups (ups (ups (ups ((P 90)) 0 ((P 0) 0)) 1 ((P 0) 1)) 2 ((P 0) 2)) 3 ((P 0) 3))) 91 (cpyI ((P 91)) ((P 1)) 0 12)) 92 (cpyI ((P 92)) ((P 2)) 0 144)) 93 (cpyI ((P 93)) ((P 3)) 0 144)) 94 (cpyI ((P 94)) ((P 4)) 0 144)) 95 (cpyI ((P 95)) ((P 5)) 0 12)) 96 (cpyI ((P 96)) ((P 6)) 0 12)) 97 (cpyI ((P 97)) ((P 7)) 0 12)) 98 (cpyI ((P 98)) ((P 8)) 0 10)))) hP hD [29, 30, 31, 32, 33, 34, 35, 36, 37, 38, 39, 40, 41, 42, 43, 44, 45, 46] [none, none, none, none, none, none, none, none, none, none, none, none, none, none, none, none, none, none, none, none, none, none, none, none, none, none, none, none, none, some 0, some 1, some 2, some 3, some 4, some 5, some 6, some 7, some 8, some 9, some 10, some 11, some 12, some 13, some 14, some 15, some 16, some 17] rfl hk1 hP1 rfl rfl
      clear hP hD hS hP1 hD1 hk1
      have hP := hPn
      have hD := hDn
      have hS := hS1
      clear hPn hDn hS1
      generalize H1 = H at hP hS ⊢
      generalize locs1 = locs at hS ⊢
      refine lv_aload_n hx hb dX2_save_25 rfl (lv_at hl 0 rfl) ?_
      refine lv_dup hx hb dX2_save_26 rfl ?_
      refine va_get (D := D) (ci := 1) (v := .int (iI (P 50 1))) (C := RX2) (T := TX2) (N := 2) hx hb hts hinX2 hown hK hP 0 rfl rfl 1 (by decide) hmw0 (fun _ h9 => h9) rfl dX2_save_27 ?_
      refine k_eqI (v := P 50 1) (w := 3) (hk9) ?_
      refine k_iconst hx hb dX2_save_30 ?_
      refine k_iadd hx hb dX2_save_31 ?_
      refine k_eqI (v := 3 + 1) (w := 4) (by decide) ?_
      refine va_put (D := D) (ci := 1) (v := .int (iI 4)) (ty := .int) (C := RX2) (T := TX2) (N := 2) hx hb hts hinX2 tyX2 tyX2_ok nmX2 hown hK hP hD hS 0 rfl rfl 1 (by decide) hmw0 (fun _ h9 => h9) rfl (by decide +kernel) rfl rfl (Nat.le_of_ble_eq_true rfl) dX2_save_32 (fun H locs hP hD hS => ?_)
      have hP : va_P D vwCl (hsplW cy a (upr (upr (upr (upr (upr (upr (upr (upr (upr (upr P 50 (ups (P 50) 1 4)) 90 (ups (ups (ups (ups ((P 90)) 0 ((P 0) 0)) 1 ((P 0) 1)) 2 ((P 0) 2)) 3 ((P 0) 3))) 91 (cpyI ((P 91)) ((P 1)) 0 12)) 92 (cpyI ((P 92)) ((P 2)) 0 144)) 93 (cpyI ((P 93)) ((P 3)) 0 144)) 94 (cpyI ((P 94)) ((P 4)) 0 144)) 95 (cpyI ((P 95)) ((P 5)) 0 12)) 96 (cpyI ((P 96)) ((P 6)) 0 12)) 97 (cpyI ((P 97)) ((P 7)) 0 12)) 98 (cpyI ((P 98)) ((P 8)) 0 10))) H := hP
      have hD : va_D (va_A (hsplW cy a P) sz) (hsplW cy a (upr (upr (upr (upr (upr (upr (upr (upr (upr (upr P 50 (ups (P 50) 1 4)) 90 (ups (ups (ups (ups ((P 90)) 0 ((P 0) 0)) 1 ((P 0) 1)) 2 ((P 0) 2)) 3 ((P 0) 3))) 91 (cpyI ((P 91)) ((P 1)) 0 12)) 92 (cpyI ((P 92)) ((P 2)) 0 144)) 93 (cpyI ((P 93)) ((P 3)) 0 144)) 94 (cpyI ((P 94)) ((P 4)) 0 144)) 95 (cpyI ((P 95)) ((P 5)) 0 12)) 96 (cpyI ((P 96)) ((P 6)) 0 12)) 97 (cpyI ((P 97)) ((P 7)) 0 12)) 98 (cpyI ((P 98)) ((P 8)) 0 10))) := hD
      exact W.vret hx hb hr (fun t9 ht _ => ⟨⟨(a, (upr (upr (upr (upr (upr (upr (upr (upr (upr (upr P 50 (ups (P 50) 1 4)) 90 (ups (ups (ups (ups ((P 90)) 0 ((P 0) 0)) 1 ((P 0) 1)) 2 ((P 0) 2)) 3 ((P 0) 3))) 91 (cpyI ((P 91)) ((P 1)) 0 12)) 92 (cpyI ((P 92)) ((P 2)) 0 144)) 93 (cpyI ((P 93)) ((P 3)) 0 144)) 94 (cpyI ((P 94)) ((P 4)) 0 144)) 95 (cpyI ((P 95)) ((P 5)) 0 12)) 96 (cpyI ((P 96)) ((P 6)) 0 12)) 97 (cpyI ((P 97)) ((P 7)) 0 12)) 98 (cpyI ((P 98)) ((P 8)) 0 10))), rfl, (kept_lo (n := 3) hk9 (by decide) ⟨fun c9 h9 => (by (repeat rw [upr_o _ _ (by omega)])), fun c9 h9 => (by (repeat rw [upr_o _ _ (by omega)]))⟩ rfl (fun k9 h9 => by rcases (show k9 = 0 ∨ k9 = 1 ∨ k9 = 2 by omega) with e9 | e9 | e9 <;> subst e9 <;> rfl) (cpd_ag hI rfl rfl rfl rfl rfl rfl rfl rfl rfl) : kept P (upr (upr (upr (upr (upr (upr (upr (upr (upr (upr P 50 (ups (P 50) 1 4)) 90 (ups (ups (ups (ups ((P 90)) 0 ((P 0) 0)) 1 ((P 0) 1)) 2 ((P 0) 2)) 3 ((P 0) 3))) 91 (cpyI ((P 91)) ((P 1)) 0 12)) 92 (cpyI ((P 92)) ((P 2)) 0 144)) 93 (cpyI ((P 93)) ((P 3)) 0 144)) 94 (cpyI ((P 94)) ((P 4)) 0 144)) 95 (cpyI ((P 95)) ((P 5)) 0 12)) 96 (cpyI ((P 96)) ((P 6)) 0 12)) 97 (cpyI ((P 97)) ((P 7)) 0 12)) 98 (cpyI ((P 98)) ((P 8)) 0 10))), by rw [ht]; exact hP, hD⟩, hS.F ht⟩) hS.2.2 dX2_save_35 hlocks
    · exfalso; omega
  exact hbody s.heap [] hP hS ls hl
set_option maxHeartbeats 4000000 in
set_option maxRecDepth 100000 in
theorem c_X2_save_4 (l : Launch) (D : va_G) (cy : Nat → ClassId) (sz : Nat) (a : Nat → Nat) (P : Nat → Int → Int)  (hI : Inv (mO P)) (hk9 : P 50 1 = 4) : Met l yX2_save wsX2_save { frames := 3, cells := 0, slots := 0, locals := 64 } (mPre (GG D cy) D (hsplW cy a P) sz ([.ref (a 50), .ref (a 0)] : List Value)) (kQv D (hsplW cy a P) sz (fun u9 : (Nat → Nat) × (Nat → Int → Int) => hsplW cy (pgm a u9.1) u9.2) (fun u9 => kept P u9.2)) 0 0 (va_A (hsplW cy a P) sz) := by
  refine kM_start (cc := cX2_save) (maxL := 2) (ret := none) (by decide) rfl (Nat.le_of_ble_eq_true rfl) ?_
  intro p e s m below meth c hx hb hr hlocks hml hts hown hsz hA hG hP hD hS hin ls hl
  have hK := hG.1
  have hl : lv_has ls 2 [(0, .ref (a 50)), (1, .ref (a 0))] := hl
  have hinX2 : ∀ w ∈ u_ws RX2 TX2 2, w ∈ wsX2_save := by decide +kernel
  have hmw0 := hts (.fieldLink RX2 9 "ArcPlate$History" "saved" "I") (by decide +kernel)
  have hmw1 := hts (.fieldLink RX2 17 "ArcPlate$History" "states" "[LArcPlate$Plate;") (by decide +kernel)
  have hbody : ∀ (H : Heap) (locs : List Loc) (hP : va_P D vwCl (hsplW cy a P) H) (hS : va_S (va_A (hsplW cy a P) sz) s.heap H locs) (ls : Array Slot) (hl : lv_has ls 2 [(0, .ref (a 50)), (1, .ref (a 0))]), W p l e { frames := 3, cells := 0, slots := 0, locals := 64 } s m ([.ref (a 50), .ref (a 0)] : List Value).toArray below meth c H locs 0 0 (MQ below (kQv D (hsplW cy a P) sz (fun u9 : (Nat → Nat) × (Nat → Int → Int) => hsplW cy (pgm a u9.1) u9.2) (fun u9 => kept P u9.2)) ([.ref (a 50), .ref (a 0)] : List Value).toArray s 0 0 (va_A (hsplW cy a P) sz)) (F0 m 0 ls []) := by
    intro H locs hP hS ls hl
    refine lv_aload_n hx hb dX2_save_0 rfl (lv_at hl 0 rfl) ?_
    refine va_get (D := D) (ci := 1) (v := .int (iI (P 50 1))) (C := RX2) (T := TX2) (N := 2) hx hb hts hinX2 hown hK hP 0 rfl rfl 1 (by decide) hmw0 (fun _ h9 => h9) rfl dX2_save_1 ?_
    refine k_eqI (v := P 50 1) (w := 4) (hk9) ?_
    refine k_iconst hx hb dX2_save_4 ?_
    refine k_icmp_lt (tgt := 12) hx hb dX2_save_5 (by decide) (by omega) (by omega) (fun c_1 => ?_) (fun c_1 => ?_)
    · exfalso; omega
    · skip
      refine lv_aload_n hx hb dX2_save_8 rfl (lv_at hl 0 rfl) ?_
      have hPc := hP.sub (ws' := (hsW cy a P)) [0, 1, 2, 3, 4, 5, 6, 7, 8, 9, 10, 11, 12, 13, 14, 15, 16, 17, 18, 19, 20, 21, 22, 23, 24, 25, 26, 27, 28, 29, 30, 31, 32, 33, 34, 35, 36, 37] rfl
      have hDc := hD.sub (ws' := (hsW cy a P)) [0, 1, 2, 3, 4, 5, 6, 7, 8, 9, 10, 11, 12, 13, 14, 15, 16, 17, 18, 19, 20, 21, 22, 23, 24, 25, 26, 27, 28, 29, 30, 31, 32, 33, 34, 35, 36, 37] (by decide) rfl
      have hFc := va_free (wc := (hsW cy a P)) hD hS hA [0, 1, 2, 3, 4, 5, 6, 7, 8, 9, 10, 11, 12, 13, 14, 15, 16, 17, 18, 19, 20, 21, 22, 23, 24, 25, 26, 27, 28, 29, 30, 31, 32, 33, 34, 35, 36, 37] rfl
      refine k_muv (k_runV (As := []) (rest := []) ⟨hx, hb, hml, hown, hts⟩ (c_X2_dropOldest l D cy H.size a P ) gX2_save_X2_dropOldest rfl ⟨rfl, rfl⟩ 0 rfl (by decide +kernel) ⟨Nat.le_of_ble_eq_true rfl, Nat.le_of_ble_eq_true rfl⟩ (GG_ok D cy) hG hS hFc hPc hDc (va_recv hK hP (ci := 1) (q0 := 0) rfl rfl) hl.1 rfl (Nat.le_of_ble_eq_true rfl) ⟨Nat.le_of_ble_eq_true rfl, Nat.le_of_ble_eq_true rfl⟩ dX2_save_9) hFc hS (fun R_3 H1 locs1 hR_3 hP1 hD1 hS1 hk1 => ?_)
      obtain ⟨g_4, Q_5⟩ := R_3
      have hR_3 : g_4 = (fun i => a (rotI i)) ∧ Q_5 = upr (pgm P (fun i => P (rotI i))) 50 (ups (P 50) 1 3) := hR_3
      have hDn : va_D (va_A (hsplW cy a P) sz) (hsplW cy (pgm a g_4) (upr (upr (upr (upr (upr (upr (upr (upr (upr Q_5 0 (P 0)) 1 (P 1)) 2 (P 2)) 3 (P 3)) 4 (P 4)) 5 (P 5)) 6 (P 6)) 7 (P 7)) 8 (P 8))) := k_joinD (ws' := (hsplW cy (pgm a g_4) (upr (upr (upr (upr (upr (upr (upr (upr (upr Q_5 0 (P 0)) 1 (P 1)) 2 (P 2)) 3 (P 3)) 4 (P 4)) 5 (P 5)) 6 (P 6)) 7 (P 7)) 8 (P 8)))) hP hD [0, 1, 2, 3, 4, 5, 6, 7, 8, 9, 10, 11, 12, 13, 14, 15, 16, 17, 18, 19, 20, 21, 22, 23, 24, 25, 26, 27, 28, 29, 30, 31, 32, 33, 34, 35, 36, 37] [some 0, some 1, some 2, some 3, some 4, some 5, some 6, some 7, some 8, some 9, some 10, some 11, some 12, some 13, some 14, some 15, some 16, some 17, some 18, some 19, some 20, some 21, some 22, some 23, some 24, some 25, some 26, some 27, some 28, some 29, some 30, some 31, some 32, some 33, some 34, some 35, some 36, some 37, none, none, none, none, none, none, none, none, none] rfl hFc hD1 rfl rfl (by decide)
      have hPn := k_join (ws' := (hsplW cy (pgm a g_4) (upr (upr (upr (upr (upr (upr (upr (upr (upr Q_5 0 (P 0)) 1 (P 1)) 2 (P 2)) 3 (P 3)) 4 (P 4)) 5 (P 5)) 6 (P 6)) 7 (P 7)) 8 (P 8)))) hP hD [0, 1, 2, 3, 4, 5, 6, 7, 8, 9, 10, 11, 12, 13, 14, 15, 16, 17, 18, 19, 20, 21, 22, 23, 24, 25, 26, 27, 28, 29, 30, 31, 32, 33, 34, 35, 36, 37] [some 0, some 1, some 2, some 3, some 4, some 5, some 6, some 7, some 8, some 9, some 10, some 11, some 12, some 13, some 14, some 15, some 16, some 17, some 18, some 19, some 20, some 21, some 22, some 23, some 24, some 25, some 26, some 27, some 28, some 29, some 30, some 31, some 32, some 33, some 34, some 35, some 36, some 37, none, none, none, none, none, none, none, none, none] rfl hk1 hP1 rfl rfl
      clear hP hD hS hP1 hD1 hk1
      have hP := hPn
      have hD := hDn
      have hS := hS1
      clear hPn hDn hS1
      generalize H1 = H at hP hS ⊢
      generalize locs1 = locs at hS ⊢
      have hdf := drop_f hR_3
      refine lv_aload_n hx hb dX2_save_12 rfl (lv_at hl 0 rfl) ?_
      refine va_get (D := D) (ci := 1) (v := .ref ((pgm a g_4) 51)) (C := RX2) (T := TX2) (N := 2) hx hb hts hinX2 hown hK hP 0 rfl rfl 0 (by decide) hmw1 (fun _ h9 => h9) rfl dX2_save_13 ?_
      refine lv_aload_n hx hb dX2_save_16 rfl (lv_at hl 0 rfl) ?_
      refine va_get (D := D) (ci := 1) (v := .int (iI (Q_5 50 1))) (C := RX2) (T := TX2) (N := 2) hx hb hts hinX2 hown hK hP 0 rfl rfl 1 (by decide) hmw0 (fun _ h9 => h9) rfl dX2_save_17 ?_
      refine k_eqI (v := Q_5 50 1) (w := 3) (hdf.1) ?_
      refine k_aald hx hb hK hP 1 3 (v := (pgm a g_4) 90) rfl rfl (i := 3) (by decide) rfl dX2_save_20 ?_
      refine lv_aload_n hx hb dX2_save_21 rfl (lv_at hl 1 rfl) ?_
      have hPc := hP.sub (ws' := (pl2W cy (fun i => (pgm a g_4) (cond (Nat.ble 10 i) (i - 10) (i + 90))) (fun i => (upr (upr (upr (upr (upr (upr (upr (upr (upr Q_5 0 (P 0)) 1 (P 1)) 2 (P 2)) 3 (P 3)) 4 (P 4)) 5 (P 5)) 6 (P 6)) 7 (P 7)) 8 (P 8)) (cond (Nat.ble 10 i) (i - 10) (i + 90))))) [29, 30, 31, 32, 33, 34, 35, 36, 37, 38, 39, 40, 41, 42, 43, 44, 45, 46] rfl
      have hDc := hD.sub (ws' := (pl2W cy (fun i => (pgm a g_4) (cond (Nat.ble 10 i) (i - 10) (i + 90))) (fun i => (upr (upr (upr (upr (upr (upr (upr (upr (upr Q_5 0 (P 0)) 1 (P 1)) 2 (P 2)) 3 (P 3)) 4 (P 4)) 5 (P 5)) 6 (P 6)) 7 (P 7)) 8 (P 8)) (cond (Nat.ble 10 i) (i - 10) (i + 90))))) [29, 30, 31, 32, 33, 34, 35, 36, 37, 38, 39, 40, 41, 42, 43, 44, 45, 46] (by decide) rfl
      have hFc := va_free (wc := (pl2W cy (fun i => (pgm a g_4) (cond (Nat.ble 10 i) (i - 10) (i + 90))) (fun i => (upr (upr (upr (upr (upr (upr (upr (upr (upr Q_5 0 (P 0)) 1 (P 1)) 2 (P 2)) 3 (P 3)) 4 (P 4)) 5 (P 5)) 6 (P 6)) 7 (P 7)) 8 (P 8)) (cond (Nat.ble 10 i) (i - 10) (i + 90))))) hD hS hA [29, 30, 31, 32, 33, 34, 35, 36, 37, 38, 39, 40, 41, 42, 43, 44, 45, 46] rfl
      refine k_muv (k_runV (As := [.ref (a 0)]) (rest := []) ⟨hx, hb, hml, hown, hts⟩ (c_X4_copyFrom l D cy H.size (fun i => (pgm a g_4) (cond (Nat.ble 10 i) (i - 10) (i + 90))) (fun i => (upr (upr (upr (upr (upr (upr (upr (upr (upr Q_5 0 (P 0)) 1 (P 1)) 2 (P 2)) 3 (P 3)) 4 (P 4)) 5 (P 5)) 6 (P 6)) 7 (P 7)) 8 (P 8)) (cond (Nat.ble 10 i) (i - 10) (i + 90))) ) gX2_save_X4_copyFrom rfl ⟨rfl, rfl⟩ 1 rfl (by decide +kernel) ⟨Nat.le_of_ble_eq_true rfl, Nat.le_of_ble_eq_true rfl⟩ (GG_ok D cy) hG hS hFc hPc hDc (va_recv hK hP (ci := 3) (q0 := 29) rfl rfl) hl.1 rfl (Nat.le_of_ble_eq_true rfl) ⟨Nat.le_of_ble_eq_true rfl, Nat.le_of_ble_eq_true rfl⟩ dX2_save_22) hFc hS (fun R_7 H1 locs1 hR_7 hP1 hD1 hS1 hk1 => ?_)
      have hR_7 : R_7 = (upr (upr (upr (upr (upr (upr (upr (upr (upr (fun i => (upr (upr (upr (upr (upr (upr (upr (upr (upr Q_5 0 (P 0)) 1 (P 1)) 2 (P 2)) 3 (P 3)) 4 (P 4)) 5 (P 5)) 6 (P 6)) 7 (P 7)) 8 (P 8)) (cond (Nat.ble 10 i) (i - 10) (i + 90))) 0 (ups (ups (ups (ups ((Q_5 90)) 0 ((P 0) 0)) 1 ((P 0) 1)) 2 ((P 0) 2)) 3 ((P 0) 3))) 1 (cpyI ((Q_5 91)) ((P 1)) 0 12)) 2 (cpyI ((Q_5 92)) ((P 2)) 0 144)) 3 (cpyI ((Q_5 93)) ((P 3)) 0 144)) 4 (cpyI ((Q_5 94)) ((P 4)) 0 144)) 5 (cpyI ((Q_5 95)) ((P 5)) 0 12)) 6 (cpyI ((Q_5 96)) ((P 6)) 0 12)) 7 (cpyI ((Q_5 97)) ((P 7)) 0 12)) 8 (cpyI ((Q_5 98)) ((P 8)) 0 10)) := hR_7
      subst hR_7
      have hDn : va_D (va_A (hsplW cy a P) sz) (hsplW cy (pgm a g_4) (upr (upr (upr (upr (upr (upr (upr (upr (upr (upr (upr (upr (upr (upr (upr (upr (upr (upr Q_5 0 (P 0)) 1 (P 1)) 2 (P 2)) 3 (P 3)) 4 (P 4)) 5 (P 5)) 6 (P 6)) 7 (P 7)) 8 (P 8)) 90 (ups (ups (ups (ups ((Q_5 90)) 0 ((P 0) 0)) 1 ((P 0) 1)) 2 ((P 0) 2)) 3 ((P 0) 3))) 91 (cpyI ((Q_5 91)) ((P 1)) 0 12)) 92 (cpyI ((Q_5 92)) ((P 2)) 0 144)) 93 (cpyI ((Q_5 93)) ((P 3)) 0 144)) 94 (cpyI ((Q_5 94)) ((P 4)) 0 144)) 95 (cpyI ((Q_5 95)) ((P 5)) 0 12)) 96 (cpyI ((Q_5 96)) ((P 6)) 0 12)) 97 (cpyI ((Q_5 97)) ((P 7)) 0 12)) 98 (cpyI ((Q_5 98)) ((P 8)) 0 10))) := k_addr hD rfl
      have hPn := k_join (ws' := (hsplW cy (pgm a g_4) (upr (upr (upr (upr (upr (upr (upr (upr (upr (upr (upr (upr (upr (upr (upr (upr (upr (upr Q_5 0 (P 0)) 1 (P 1)) 2 (P 2)) 3 (P 3)) 4 (P 4)) 5 (P 5)) 6 (P 6)) 7 (P 7)) 8 (P 8)) 90 (ups (ups (ups (ups ((Q_5 90)) 0 ((P 0) 0)) 1 ((P 0) 1)) 2 ((P 0) 2)) 3 ((P 0) 3))) 91 (cpyI ((Q_5 91)) ((P 1)) 0 12)) 92 (cpyI ((Q_5 92)) ((P 2)) 0 144)) 93 (cpyI ((Q_5 93)) ((P 3)) 0 144)) 94 (cpyI ((Q_5 94)) ((P 4)) 0 144)) 95 (cpyI ((Q_5 95)) ((P 5)) 0 12)) 96 (cpyI ((Q_5 96)) ((P 6)) 0 12)) 97 (cpyI ((Q_5 97)) ((P 7)) 0 12)) 98 (cpyI ((Q_5 98)) ((P 8)) 0 10)))) hP hD [29, 30, 31, 32, 33, 34, 35, 36, 37, 38, 39, 40, 41, 42, 43, 44, 45, 46] [none, none, none, none, none, none, none, none, none, none, none, none, none, none, none, none, none, none, none, none, none, none, none, none, none, none, none, none, none, some 0, some 1, some 2, some 3, some 4, some 5, some 6, some 7, some 8, some 9, some 10, some 11, some 12, some 13, some 14, some 15, some 16, some 17] rfl hk1 hP1 rfl rfl
      clear hP hD hS hP1 hD1 hk1
      have hP := hPn
      have hD := hDn
      have hS := hS1
      clear hPn hDn hS1
      generalize H1 = H at hP hS ⊢
      generalize locs1 = locs at hS ⊢
      refine lv_aload_n hx hb dX2_save_25 rfl (lv_at hl 0 rfl) ?_
      refine lv_dup hx hb dX2_save_26 rfl ?_
      refine va_get (D := D) (ci := 1) (v := .int (iI (Q_5 50 1))) (C := RX2) (T := TX2) (N := 2) hx hb hts hinX2 hown hK hP 0 rfl rfl 1 (by decide) hmw0 (fun _ h9 => h9) rfl dX2_save_27 ?_
      refine k_eqI (v := Q_5 50 1) (w := 3) (hdf.1) ?_
      refine k_iconst hx hb dX2_save_30 ?_
      refine k_iadd hx hb dX2_save_31 ?_
      refine k_eqI (v := 3 + 1) (w := 4) (by decide) ?_
      refine va_put (D := D) (ci := 1) (v := .int (iI 4)) (ty := .int) (C := RX2) (T := TX2) (N := 2) hx hb hts hinX2 tyX2 tyX2_ok nmX2 hown hK hP hD hS 0 rfl rfl 1 (by decide) hmw0 (fun _ h9 => h9) rfl (by decide +kernel) rfl rfl (Nat.le_of_ble_eq_true rfl) dX2_save_32 (fun H locs hP hD hS => ?_)
      have hP : va_P D vwCl (hsplW cy (pgm a g_4) (upr (upr (upr (upr (upr (upr (upr (upr (upr (upr (upr (upr (upr (upr (upr (upr (upr (upr (upr Q_5 0 (P 0)) 1 (P 1)) 2 (P 2)) 3 (P 3)) 4 (P 4)) 5 (P 5)) 6 (P 6)) 7 (P 7)) 8 (P 8)) 50 (ups (Q_5 50) 1 4)) 90 (ups (ups (ups (ups ((Q_5 90)) 0 ((P 0) 0)) 1 ((P 0) 1)) 2 ((P 0) 2)) 3 ((P 0) 3))) 91 (cpyI ((Q_5 91)) ((P 1)) 0 12)) 92 (cpyI ((Q_5 92)) ((P 2)) 0 144)) 93 (cpyI ((Q_5 93)) ((P 3)) 0 144)) 94 (cpyI ((Q_5 94)) ((P 4)) 0 144)) 95 (cpyI ((Q_5 95)) ((P 5)) 0 12)) 96 (cpyI ((Q_5 96)) ((P 6)) 0 12)) 97 (cpyI ((Q_5 97)) ((P 7)) 0 12)) 98 (cpyI ((Q_5 98)) ((P 8)) 0 10))) H := hP
      have hD : va_D (va_A (hsplW cy a P) sz) (hsplW cy (pgm a g_4) (upr (upr (upr (upr (upr (upr (upr (upr (upr (upr (upr (upr (upr (upr (upr (upr (upr (upr (upr Q_5 0 (P 0)) 1 (P 1)) 2 (P 2)) 3 (P 3)) 4 (P 4)) 5 (P 5)) 6 (P 6)) 7 (P 7)) 8 (P 8)) 50 (ups (Q_5 50) 1 4)) 90 (ups (ups (ups (ups ((Q_5 90)) 0 ((P 0) 0)) 1 ((P 0) 1)) 2 ((P 0) 2)) 3 ((P 0) 3))) 91 (cpyI ((Q_5 91)) ((P 1)) 0 12)) 92 (cpyI ((Q_5 92)) ((P 2)) 0 144)) 93 (cpyI ((Q_5 93)) ((P 3)) 0 144)) 94 (cpyI ((Q_5 94)) ((P 4)) 0 144)) 95 (cpyI ((Q_5 95)) ((P 5)) 0 12)) 96 (cpyI ((Q_5 96)) ((P 6)) 0 12)) 97 (cpyI ((Q_5 97)) ((P 7)) 0 12)) 98 (cpyI ((Q_5 98)) ((P 8)) 0 10))) := hD
      exact W.vret hx hb hr (fun t9 ht _ => ⟨⟨(g_4, (upr (upr (upr (upr (upr (upr (upr (upr (upr (upr (upr (upr (upr (upr (upr (upr (upr (upr (upr Q_5 0 (P 0)) 1 (P 1)) 2 (P 2)) 3 (P 3)) 4 (P 4)) 5 (P 5)) 6 (P 6)) 7 (P 7)) 8 (P 8)) 50 (ups (Q_5 50) 1 4)) 90 (ups (ups (ups (ups ((Q_5 90)) 0 ((P 0) 0)) 1 ((P 0) 1)) 2 ((P 0) 2)) 3 ((P 0) 3))) 91 (cpyI ((Q_5 91)) ((P 1)) 0 12)) 92 (cpyI ((Q_5 92)) ((P 2)) 0 144)) 93 (cpyI ((Q_5 93)) ((P 3)) 0 144)) 94 (cpyI ((Q_5 94)) ((P 4)) 0 144)) 95 (cpyI ((Q_5 95)) ((P 5)) 0 12)) 96 (cpyI ((Q_5 96)) ((P 6)) 0 12)) 97 (cpyI ((Q_5 97)) ((P 7)) 0 12)) 98 (cpyI ((Q_5 98)) ((P 8)) 0 10))), rfl, (kept_hi hk9 ⟨lo9 (fun c9 h9 => by rcases (show c9 = 0 ∨ c9 = 1 ∨ c9 = 2 ∨ c9 = 3 ∨ c9 = 4 ∨ c9 = 5 ∨ c9 = 6 ∨ c9 = 7 ∨ c9 = 8 by omega) with e9 | e9 | e9 | e9 | e9 | e9 | e9 | e9 | e9 <;> subst e9 <;> rfl) (fun c9 h9 h8 => by (repeat rw [upr_o _ _ (by omega)]); exact hdf.2.1 c9 h8), fun c9 h9 => by (repeat rw [upr_o _ _ (by omega)]); exact hdf.2.2.1 c9 h9⟩ rfl (fun k9 h9 => (mO_cg (fun i9 h8 => by show ((upr (upr (upr (upr (upr (upr (upr (upr (upr (upr (upr (upr (upr (upr (upr (upr (upr (upr (upr Q_5 0 (P 0)) 1 (P 1)) 2 (P 2)) 3 (P 3)) 4 (P 4)) 5 (P 5)) 6 (P 6)) 7 (P 7)) 8 (P 8)) 50 (ups (Q_5 50) 1 4)) 90 (ups (ups (ups (ups ((Q_5 90)) 0 ((P 0) 0)) 1 ((P 0) 1)) 2 ((P 0) 2)) 3 ((P 0) 3))) 91 (cpyI ((Q_5 91)) ((P 1)) 0 12)) 92 (cpyI ((Q_5 92)) ((P 2)) 0 144)) 93 (cpyI ((Q_5 93)) ((P 3)) 0 144)) 94 (cpyI ((Q_5 94)) ((P 4)) 0 144)) 95 (cpyI ((Q_5 95)) ((P 5)) 0 12)) 96 (cpyI ((Q_5 96)) ((P 6)) 0 12)) 97 (cpyI ((Q_5 97)) ((P 7)) 0 12)) 98 (cpyI ((Q_5 98)) ((P 8)) 0 10))) (i9 + (60 + 10 * k9)) = _; (repeat rw [upr_o _ _ (by omega)]); rfl)).trans (hdf.2.2.2 k9 h9)) (cpd_ag hI rfl rfl rfl rfl rfl rfl rfl rfl rfl) : kept P (upr (upr (upr (upr (upr (upr (upr (upr (upr (upr (upr (upr (upr (upr (upr (upr (upr (upr (upr Q_5 0 (P 0)) 1 (P 1)) 2 (P 2)) 3 (P 3)) 4 (P 4)) 5 (P 5)) 6 (P 6)) 7 (P 7)) 8 (P 8)) 50 (ups (Q_5 50) 1 4)) 90 (ups (ups (ups (ups ((Q_5 90)) 0 ((P 0) 0)) 1 ((P 0) 1)) 2 ((P 0) 2)) 3 ((P 0) 3))) 91 (cpyI ((Q_5 91)) ((P 1)) 0 12)) 92 (cpyI ((Q_5 92)) ((P 2)) 0 144)) 93 (cpyI ((Q_5 93)) ((P 3)) 0 144)) 94 (cpyI ((Q_5 94)) ((P 4)) 0 144)) 95 (cpyI ((Q_5 95)) ((P 5)) 0 12)) 96 (cpyI ((Q_5 96)) ((P 6)) 0 12)) 97 (cpyI ((Q_5 97)) ((P 7)) 0 12)) 98 (cpyI ((Q_5 98)) ((P 8)) 0 10))), by rw [ht]; exact hP, hD⟩, hS.F ht⟩) hS.2.2 dX2_save_35 hlocks
  exact hbody s.heap [] hP hS ls hl
set_option maxHeartbeats 4000000 in
set_option maxRecDepth 100000 in
theorem c_X2_restore_0 (l : Launch) (D : va_G) (cy : Nat → ClassId) (sz : Nat) (a : Nat → Nat) (P : Nat → Int → Int)  (hk9 : P 50 1 = 1) (hIp : Inv (mO (pgR P 0))) : Met l yX2_restore wsX2_restore { frames := 3, cells := 0, slots := 0, locals := 64 } (mPre (GG D cy) D (hsplW cy a P) sz ([.ref (a 50), .ref (a 0)] : List Value)) (kQi D (hsplW cy a P) sz (fun u9 : Nat → Int → Int => hsplW cy a u9) (fun r9 u9 => r9 = 0 ∧ back P u9 0)) 0 0 (va_A (hsplW cy a P) sz) := by
  refine kM_start (cc := cX2_restore) (maxL := 2) (ret := (some .int)) (by decide) rfl (Nat.le_of_ble_eq_true rfl) ?_
  intro p e s m below meth c hx hb hr hlocks hml hts hown hsz hA hG hP hD hS hin ls hl
  have hK := hG.1
  have hl : lv_has ls 2 [(0, .ref (a 50)), (1, .ref (a 0))] := hl
  have hinX2 : ∀ w ∈ u_ws RX2 TX2 2, w ∈ wsX2_restore := by decide +kernel
  have hmw0 := hts (.fieldLink RX2 9 "ArcPlate$History" "saved" "I") (by decide +kernel)
  have hmw1 := hts (.fieldLink RX2 17 "ArcPlate$History" "states" "[LArcPlate$Plate;") (by decide +kernel)
  have hbody : ∀ (H : Heap) (locs : List Loc) (hP : va_P D vwCl (hsplW cy a P) H) (hS : va_S (va_A (hsplW cy a P) sz) s.heap H locs) (ls : Array Slot) (hl : lv_has ls 2 [(0, .ref (a 50)), (1, .ref (a 0))]), W p l e { frames := 3, cells := 0, slots := 0, locals := 64 } s m ([.ref (a 50), .ref (a 0)] : List Value).toArray below meth c H locs 0 0 (MQ below (kQi D (hsplW cy a P) sz (fun u9 : Nat → Int → Int => hsplW cy a u9) (fun r9 u9 => r9 = 0 ∧ back P u9 0)) ([.ref (a 50), .ref (a 0)] : List Value).toArray s 0 0 (va_A (hsplW cy a P) sz)) (F0 m 0 ls []) := by
    intro H locs hP hS ls hl
    refine lv_aload_n hx hb dX2_restore_0 rfl (lv_at hl 0 rfl) ?_
    refine lv_dup hx hb dX2_restore_1 rfl ?_
    refine va_get (D := D) (ci := 1) (v := .int (iI (P 50 1))) (C := RX2) (T := TX2) (N := 2) hx hb hts hinX2 hown hK hP 0 rfl rfl 1 (by decide) hmw0 (fun _ h9 => h9) rfl dX2_restore_2 ?_
    refine k_eqI (v := P 50 1) (w := 1) (hk9) ?_
    refine k_iconst hx hb dX2_restore_5 ?_
    refine k_isub hx hb dX2_restore_6 ?_
    refine k_eqI (v := 1 - 1) (w := 0) (by decide) ?_
    refine va_put (D := D) (ci := 1) (v := .int (iI 0)) (ty := .int) (C := RX2) (T := TX2) (N := 2) hx hb hts hinX2 tyX2 tyX2_ok nmX2 hown hK hP hD hS 0 rfl rfl 1 (by decide) hmw0 (fun _ h9 => h9) rfl (by decide +kernel) rfl rfl (Nat.le_of_ble_eq_true rfl) dX2_restore_7 (fun H locs hP hD hS => ?_)
    have hP : va_P D vwCl (hsplW cy a (upr P 50 (ups (P 50) 1 0))) H := hP
    have hD : va_D (va_A (hsplW cy a P) sz) (hsplW cy a (upr P 50 (ups (P 50) 1 0))) := hD
    refine lv_aload_n hx hb dX2_restore_10 rfl (lv_at hl 1 rfl) ?_
    refine lv_aload_n hx hb dX2_restore_11 rfl (lv_at hl 0 rfl) ?_
    refine va_get (D := D) (ci := 1) (v := .ref (a 51)) (C := RX2) (T := TX2) (N := 2) hx hb hts hinX2 hown hK hP 0 rfl rfl 0 (by decide) hmw1 (fun _ h9 => h9) rfl dX2_restore_12 ?_
    refine lv_aload_n hx hb dX2_restore_15 rfl (lv_at hl 0 rfl) ?_
    refine va_get (D := D) (ci := 1) (v := .int (iI 0)) (C := RX2) (T := TX2) (N := 2) hx hb hts hinX2 hown hK hP 0 rfl rfl 1 (by decide) hmw0 (fun _ h9 => h9) rfl dX2_restore_16 ?_
    refine k_aald hx hb hK hP 1 3 (v := a 60) rfl rfl (i := 0) (by decide) rfl dX2_restore_19 ?_
    have hPc := hP.sub (ws' := (pl2W cy (fun i => a (cond (Nat.ble 10 i) (i + 50) i)) (fun i => (upr P 50 (ups (P 50) 1 0)) (cond (Nat.ble 10 i) (i + 50) i)))) [38, 39, 40, 41, 42, 43, 44, 45, 46, 2, 3, 4, 5, 6, 7, 8, 9, 10] rfl
    have hDc := hD.sub (ws' := (pl2W cy (fun i => a (cond (Nat.ble 10 i) (i + 50) i)) (fun i => (upr P 50 (ups (P 50) 1 0)) (cond (Nat.ble 10 i) (i + 50) i)))) [38, 39, 40, 41, 42, 43, 44, 45, 46, 2, 3, 4, 5, 6, 7, 8, 9, 10] (by decide) rfl
    have hFc := va_free (wc := (pl2W cy (fun i => a (cond (Nat.ble 10 i) (i + 50) i)) (fun i => (upr P 50 (ups (P 50) 1 0)) (cond (Nat.ble 10 i) (i + 50) i)))) hD hS hA [38, 39, 40, 41, 42, 43, 44, 45, 46, 2, 3, 4, 5, 6, 7, 8, 9, 10] rfl
    refine k_muv (k_runV (As := [.ref (a 60)]) (rest := []) ⟨hx, hb, hml, hown, hts⟩ (c_X4_copyFrom l D cy H.size (fun i => a (cond (Nat.ble 10 i) (i + 50) i)) (fun i => (upr P 50 (ups (P 50) 1 0)) (cond (Nat.ble 10 i) (i + 50) i)) ) gX2_restore_X4_copyFrom rfl ⟨rfl, rfl⟩ 1 rfl (by decide +kernel) ⟨Nat.le_of_ble_eq_true rfl, Nat.le_of_ble_eq_true rfl⟩ (GG_ok D cy) hG hS hFc hPc hDc (va_recv hK hP (ci := 3) (q0 := 38) rfl rfl) hl.1 rfl (Nat.le_of_ble_eq_true rfl) ⟨Nat.le_of_ble_eq_true rfl, Nat.le_of_ble_eq_true rfl⟩ dX2_restore_20) hFc hS (fun R_2 H1 locs1 hR_2 hP1 hD1 hS1 hk1 => ?_)
    have hR_2 : R_2 = (upr (upr (upr (upr (upr (upr (upr (upr (upr (fun i => (upr P 50 (ups (P 50) 1 0)) (cond (Nat.ble 10 i) (i + 50) i)) 0 (ups (ups (ups (ups ((P 0)) 0 ((P 60) 0)) 1 ((P 60) 1)) 2 ((P 60) 2)) 3 ((P 60) 3))) 1 (cpyI ((P 1)) ((P 61)) 0 12)) 2 (cpyI ((P 2)) ((P 62)) 0 144)) 3 (cpyI ((P 3)) ((P 63)) 0 144)) 4 (cpyI ((P 4)) ((P 64)) 0 144)) 5 (cpyI ((P 5)) ((P 65)) 0 12)) 6 (cpyI ((P 6)) ((P 66)) 0 12)) 7 (cpyI ((P 7)) ((P 67)) 0 12)) 8 (cpyI ((P 8)) ((P 68)) 0 10)) := hR_2
    subst hR_2
    have hDn : va_D (va_A (hsplW cy a P) sz) (hsplW cy a (upr (upr (upr (upr (upr (upr (upr (upr (upr (upr P 0 (ups (ups (ups (ups ((P 0)) 0 ((P 60) 0)) 1 ((P 60) 1)) 2 ((P 60) 2)) 3 ((P 60) 3))) 1 (cpyI ((P 1)) ((P 61)) 0 12)) 2 (cpyI ((P 2)) ((P 62)) 0 144)) 3 (cpyI ((P 3)) ((P 63)) 0 144)) 4 (cpyI ((P 4)) ((P 64)) 0 144)) 5 (cpyI ((P 5)) ((P 65)) 0 12)) 6 (cpyI ((P 6)) ((P 66)) 0 12)) 7 (cpyI ((P 7)) ((P 67)) 0 12)) 8 (cpyI ((P 8)) ((P 68)) 0 10)) 50 (ups (P 50) 1 0))) := k_addr hD rfl
    have hPn := k_join (ws' := (hsplW cy a (upr (upr (upr (upr (upr (upr (upr (upr (upr (upr P 0 (ups (ups (ups (ups ((P 0)) 0 ((P 60) 0)) 1 ((P 60) 1)) 2 ((P 60) 2)) 3 ((P 60) 3))) 1 (cpyI ((P 1)) ((P 61)) 0 12)) 2 (cpyI ((P 2)) ((P 62)) 0 144)) 3 (cpyI ((P 3)) ((P 63)) 0 144)) 4 (cpyI ((P 4)) ((P 64)) 0 144)) 5 (cpyI ((P 5)) ((P 65)) 0 12)) 6 (cpyI ((P 6)) ((P 66)) 0 12)) 7 (cpyI ((P 7)) ((P 67)) 0 12)) 8 (cpyI ((P 8)) ((P 68)) 0 10)) 50 (ups (P 50) 1 0)))) hP hD [38, 39, 40, 41, 42, 43, 44, 45, 46, 2, 3, 4, 5, 6, 7, 8, 9, 10] [none, none, some 9, some 10, some 11, some 12, some 13, some 14, some 15, some 16, some 17, none, none, none, none, none, none, none, none, none, none, none, none, none, none, none, none, none, none, none, none, none, none, none, none, none, none, none, some 0, some 1, some 2, some 3, some 4, some 5, some 6, some 7, some 8] rfl hk1 hP1 rfl rfl
    clear hP hD hS hP1 hD1 hk1
    have hP := hPn
    have hD := hDn
    have hS := hS1
    clear hPn hDn hS1
    generalize H1 = H at hP hS ⊢
    generalize locs1 = locs at hS ⊢
    refine lv_aload_n hx hb dX2_restore_23 rfl (lv_at hl 0 rfl) ?_
    refine va_get (D := D) (ci := 1) (v := .int (iI 0)) (C := RX2) (T := TX2) (N := 2) hx hb hts hinX2 hown hK hP 0 rfl rfl 1 (by decide) hmw0 (fun _ h9 => h9) rfl dX2_restore_24 ?_
    exact W.iret (v := iI 0) hx hb hr (fun t9 ht _ => ⟨⟨iI 0, (upr (upr (upr (upr (upr (upr (upr (upr (upr (upr P 0 (ups (ups (ups (ups ((P 0)) 0 ((P 60) 0)) 1 ((P 60) 1)) 2 ((P 60) 2)) 3 ((P 60) 3))) 1 (cpyI ((P 1)) ((P 61)) 0 12)) 2 (cpyI ((P 2)) ((P 62)) 0 144)) 3 (cpyI ((P 3)) ((P 63)) 0 144)) 4 (cpyI ((P 4)) ((P 64)) 0 144)) 5 (cpyI ((P 5)) ((P 65)) 0 12)) 6 (cpyI ((P 6)) ((P 66)) 0 12)) 7 (cpyI ((P 7)) ((P 67)) 0 12)) 8 (cpyI ((P 8)) ((P 68)) 0 10)) 50 (ups (P 50) 1 0)), rfl, ⟨0, rfl, (⟨rfl, ⟨⟨fun c9 h9 h8 => (by (repeat rw [upr_o _ _ (by omega)])), fun c9 h9 => (by (repeat rw [upr_o _ _ (by omega)]))⟩, rfl, fun k9 h9 => by rcases (show k9 = 0 ∨ k9 = 1 ∨ k9 = 2 ∨ k9 = 3 by omega) with e9 | e9 | e9 | e9 <;> subst e9 <;> rfl, cpd_ag hIp rfl rfl rfl rfl rfl rfl rfl rfl rfl⟩⟩ : (0 : Int) = 0 ∧ back P (upr (upr (upr (upr (upr (upr (upr (upr (upr (upr P 0 (ups (ups (ups (ups ((P 0)) 0 ((P 60) 0)) 1 ((P 60) 1)) 2 ((P 60) 2)) 3 ((P 60) 3))) 1 (cpyI ((P 1)) ((P 61)) 0 12)) 2 (cpyI ((P 2)) ((P 62)) 0 144)) 3 (cpyI ((P 3)) ((P 63)) 0 144)) 4 (cpyI ((P 4)) ((P 64)) 0 144)) 5 (cpyI ((P 5)) ((P 65)) 0 12)) 6 (cpyI ((P 6)) ((P 66)) 0 12)) 7 (cpyI ((P 7)) ((P 67)) 0 12)) 8 (cpyI ((P 8)) ((P 68)) 0 10)) 50 (ups (P 50) 1 0)) 0)⟩, by rw [ht]; exact hP, hD⟩, hS.F ht⟩) hS.2.2 dX2_restore_27 hlocks
  exact hbody s.heap [] hP hS ls hl
set_option maxHeartbeats 4000000 in
set_option maxRecDepth 100000 in
theorem c_X2_restore_1 (l : Launch) (D : va_G) (cy : Nat → ClassId) (sz : Nat) (a : Nat → Nat) (P : Nat → Int → Int)  (hk9 : P 50 1 = 2) (hIp : Inv (mO (pgR P 1))) : Met l yX2_restore wsX2_restore { frames := 3, cells := 0, slots := 0, locals := 64 } (mPre (GG D cy) D (hsplW cy a P) sz ([.ref (a 50), .ref (a 0)] : List Value)) (kQi D (hsplW cy a P) sz (fun u9 : Nat → Int → Int => hsplW cy a u9) (fun r9 u9 => r9 = 1 ∧ back P u9 1)) 0 0 (va_A (hsplW cy a P) sz) := by
  refine kM_start (cc := cX2_restore) (maxL := 2) (ret := (some .int)) (by decide) rfl (Nat.le_of_ble_eq_true rfl) ?_
  intro p e s m below meth c hx hb hr hlocks hml hts hown hsz hA hG hP hD hS hin ls hl
  have hK := hG.1
  have hl : lv_has ls 2 [(0, .ref (a 50)), (1, .ref (a 0))] := hl
  have hinX2 : ∀ w ∈ u_ws RX2 TX2 2, w ∈ wsX2_restore := by decide +kernel
  have hmw0 := hts (.fieldLink RX2 9 "ArcPlate$History" "saved" "I") (by decide +kernel)
  have hmw1 := hts (.fieldLink RX2 17 "ArcPlate$History" "states" "[LArcPlate$Plate;") (by decide +kernel)
  have hbody : ∀ (H : Heap) (locs : List Loc) (hP : va_P D vwCl (hsplW cy a P) H) (hS : va_S (va_A (hsplW cy a P) sz) s.heap H locs) (ls : Array Slot) (hl : lv_has ls 2 [(0, .ref (a 50)), (1, .ref (a 0))]), W p l e { frames := 3, cells := 0, slots := 0, locals := 64 } s m ([.ref (a 50), .ref (a 0)] : List Value).toArray below meth c H locs 0 0 (MQ below (kQi D (hsplW cy a P) sz (fun u9 : Nat → Int → Int => hsplW cy a u9) (fun r9 u9 => r9 = 1 ∧ back P u9 1)) ([.ref (a 50), .ref (a 0)] : List Value).toArray s 0 0 (va_A (hsplW cy a P) sz)) (F0 m 0 ls []) := by
    intro H locs hP hS ls hl
    refine lv_aload_n hx hb dX2_restore_0 rfl (lv_at hl 0 rfl) ?_
    refine lv_dup hx hb dX2_restore_1 rfl ?_
    refine va_get (D := D) (ci := 1) (v := .int (iI (P 50 1))) (C := RX2) (T := TX2) (N := 2) hx hb hts hinX2 hown hK hP 0 rfl rfl 1 (by decide) hmw0 (fun _ h9 => h9) rfl dX2_restore_2 ?_
    refine k_eqI (v := P 50 1) (w := 2) (hk9) ?_
    refine k_iconst hx hb dX2_restore_5 ?_
    refine k_isub hx hb dX2_restore_6 ?_
    refine k_eqI (v := 2 - 1) (w := 1) (by decide) ?_
    refine va_put (D := D) (ci := 1) (v := .int (iI 1)) (ty := .int) (C := RX2) (T := TX2) (N := 2) hx hb hts hinX2 tyX2 tyX2_ok nmX2 hown hK hP hD hS 0 rfl rfl 1 (by decide) hmw0 (fun _ h9 => h9) rfl (by decide +kernel) rfl rfl (Nat.le_of_ble_eq_true rfl) dX2_restore_7 (fun H locs hP hD hS => ?_)
    have hP : va_P D vwCl (hsplW cy a (upr P 50 (ups (P 50) 1 1))) H := hP
    have hD : va_D (va_A (hsplW cy a P) sz) (hsplW cy a (upr P 50 (ups (P 50) 1 1))) := hD
    refine lv_aload_n hx hb dX2_restore_10 rfl (lv_at hl 1 rfl) ?_
    refine lv_aload_n hx hb dX2_restore_11 rfl (lv_at hl 0 rfl) ?_
    refine va_get (D := D) (ci := 1) (v := .ref (a 51)) (C := RX2) (T := TX2) (N := 2) hx hb hts hinX2 hown hK hP 0 rfl rfl 0 (by decide) hmw1 (fun _ h9 => h9) rfl dX2_restore_12 ?_
    refine lv_aload_n hx hb dX2_restore_15 rfl (lv_at hl 0 rfl) ?_
    refine va_get (D := D) (ci := 1) (v := .int (iI 1)) (C := RX2) (T := TX2) (N := 2) hx hb hts hinX2 hown hK hP 0 rfl rfl 1 (by decide) hmw0 (fun _ h9 => h9) rfl dX2_restore_16 ?_
    refine k_aald hx hb hK hP 1 3 (v := a 70) rfl rfl (i := 1) (by decide) rfl dX2_restore_19 ?_
    have hPc := hP.sub (ws' := (pl2W cy (fun i => a (cond (Nat.ble 10 i) (i + 60) i)) (fun i => (upr P 50 (ups (P 50) 1 1)) (cond (Nat.ble 10 i) (i + 60) i)))) [38, 39, 40, 41, 42, 43, 44, 45, 46, 11, 12, 13, 14, 15, 16, 17, 18, 19] rfl
    have hDc := hD.sub (ws' := (pl2W cy (fun i => a (cond (Nat.ble 10 i) (i + 60) i)) (fun i => (upr P 50 (ups (P 50) 1 1)) (cond (Nat.ble 10 i) (i + 60) i)))) [38, 39, 40, 41, 42, 43, 44, 45, 46, 11, 12, 13, 14, 15, 16, 17, 18, 19] (by decide) rfl
    have hFc := va_free (wc := (pl2W cy (fun i => a (cond (Nat.ble 10 i) (i + 60) i)) (fun i => (upr P 50 (ups (P 50) 1 1)) (cond (Nat.ble 10 i) (i + 60) i)))) hD hS hA [38, 39, 40, 41, 42, 43, 44, 45, 46, 11, 12, 13, 14, 15, 16, 17, 18, 19] rfl
    refine k_muv (k_runV (As := [.ref (a 70)]) (rest := []) ⟨hx, hb, hml, hown, hts⟩ (c_X4_copyFrom l D cy H.size (fun i => a (cond (Nat.ble 10 i) (i + 60) i)) (fun i => (upr P 50 (ups (P 50) 1 1)) (cond (Nat.ble 10 i) (i + 60) i)) ) gX2_restore_X4_copyFrom rfl ⟨rfl, rfl⟩ 1 rfl (by decide +kernel) ⟨Nat.le_of_ble_eq_true rfl, Nat.le_of_ble_eq_true rfl⟩ (GG_ok D cy) hG hS hFc hPc hDc (va_recv hK hP (ci := 3) (q0 := 38) rfl rfl) hl.1 rfl (Nat.le_of_ble_eq_true rfl) ⟨Nat.le_of_ble_eq_true rfl, Nat.le_of_ble_eq_true rfl⟩ dX2_restore_20) hFc hS (fun R_2 H1 locs1 hR_2 hP1 hD1 hS1 hk1 => ?_)
    have hR_2 : R_2 = (upr (upr (upr (upr (upr (upr (upr (upr (upr (fun i => (upr P 50 (ups (P 50) 1 1)) (cond (Nat.ble 10 i) (i + 60) i)) 0 (ups (ups (ups (ups ((P 0)) 0 ((P 70) 0)) 1 ((P 70) 1)) 2 ((P 70) 2)) 3 ((P 70) 3))) 1 (cpyI ((P 1)) ((P 71)) 0 12)) 2 (cpyI ((P 2)) ((P 72)) 0 144)) 3 (cpyI ((P 3)) ((P 73)) 0 144)) 4 (cpyI ((P 4)) ((P 74)) 0 144)) 5 (cpyI ((P 5)) ((P 75)) 0 12)) 6 (cpyI ((P 6)) ((P 76)) 0 12)) 7 (cpyI ((P 7)) ((P 77)) 0 12)) 8 (cpyI ((P 8)) ((P 78)) 0 10)) := hR_2
    subst hR_2
    have hDn : va_D (va_A (hsplW cy a P) sz) (hsplW cy a (upr (upr (upr (upr (upr (upr (upr (upr (upr (upr P 0 (ups (ups (ups (ups ((P 0)) 0 ((P 70) 0)) 1 ((P 70) 1)) 2 ((P 70) 2)) 3 ((P 70) 3))) 1 (cpyI ((P 1)) ((P 71)) 0 12)) 2 (cpyI ((P 2)) ((P 72)) 0 144)) 3 (cpyI ((P 3)) ((P 73)) 0 144)) 4 (cpyI ((P 4)) ((P 74)) 0 144)) 5 (cpyI ((P 5)) ((P 75)) 0 12)) 6 (cpyI ((P 6)) ((P 76)) 0 12)) 7 (cpyI ((P 7)) ((P 77)) 0 12)) 8 (cpyI ((P 8)) ((P 78)) 0 10)) 50 (ups (P 50) 1 1))) := k_addr hD rfl
    have hPn := k_join (ws' := (hsplW cy a (upr (upr (upr (upr (upr (upr (upr (upr (upr (upr P 0 (ups (ups (ups (ups ((P 0)) 0 ((P 70) 0)) 1 ((P 70) 1)) 2 ((P 70) 2)) 3 ((P 70) 3))) 1 (cpyI ((P 1)) ((P 71)) 0 12)) 2 (cpyI ((P 2)) ((P 72)) 0 144)) 3 (cpyI ((P 3)) ((P 73)) 0 144)) 4 (cpyI ((P 4)) ((P 74)) 0 144)) 5 (cpyI ((P 5)) ((P 75)) 0 12)) 6 (cpyI ((P 6)) ((P 76)) 0 12)) 7 (cpyI ((P 7)) ((P 77)) 0 12)) 8 (cpyI ((P 8)) ((P 78)) 0 10)) 50 (ups (P 50) 1 1)))) hP hD [38, 39, 40, 41, 42, 43, 44, 45, 46, 11, 12, 13, 14, 15, 16, 17, 18, 19] [none, none, none, none, none, none, none, none, none, none, none, some 9, some 10, some 11, some 12, some 13, some 14, some 15, some 16, some 17, none, none, none, none, none, none, none, none, none, none, none, none, none, none, none, none, none, none, some 0, some 1, some 2, some 3, some 4, some 5, some 6, some 7, some 8] rfl hk1 hP1 rfl rfl
    clear hP hD hS hP1 hD1 hk1
    have hP := hPn
    have hD := hDn
    have hS := hS1
    clear hPn hDn hS1
    generalize H1 = H at hP hS ⊢
    generalize locs1 = locs at hS ⊢
    refine lv_aload_n hx hb dX2_restore_23 rfl (lv_at hl 0 rfl) ?_
    refine va_get (D := D) (ci := 1) (v := .int (iI 1)) (C := RX2) (T := TX2) (N := 2) hx hb hts hinX2 hown hK hP 0 rfl rfl 1 (by decide) hmw0 (fun _ h9 => h9) rfl dX2_restore_24 ?_
    exact W.iret (v := iI 1) hx hb hr (fun t9 ht _ => ⟨⟨iI 1, (upr (upr (upr (upr (upr (upr (upr (upr (upr (upr P 0 (ups (ups (ups (ups ((P 0)) 0 ((P 70) 0)) 1 ((P 70) 1)) 2 ((P 70) 2)) 3 ((P 70) 3))) 1 (cpyI ((P 1)) ((P 71)) 0 12)) 2 (cpyI ((P 2)) ((P 72)) 0 144)) 3 (cpyI ((P 3)) ((P 73)) 0 144)) 4 (cpyI ((P 4)) ((P 74)) 0 144)) 5 (cpyI ((P 5)) ((P 75)) 0 12)) 6 (cpyI ((P 6)) ((P 76)) 0 12)) 7 (cpyI ((P 7)) ((P 77)) 0 12)) 8 (cpyI ((P 8)) ((P 78)) 0 10)) 50 (ups (P 50) 1 1)), rfl, ⟨1, rfl, (⟨rfl, ⟨⟨fun c9 h9 h8 => (by (repeat rw [upr_o _ _ (by omega)])), fun c9 h9 => (by (repeat rw [upr_o _ _ (by omega)]))⟩, rfl, fun k9 h9 => by rcases (show k9 = 0 ∨ k9 = 1 ∨ k9 = 2 ∨ k9 = 3 by omega) with e9 | e9 | e9 | e9 <;> subst e9 <;> rfl, cpd_ag hIp rfl rfl rfl rfl rfl rfl rfl rfl rfl⟩⟩ : (1 : Int) = 1 ∧ back P (upr (upr (upr (upr (upr (upr (upr (upr (upr (upr P 0 (ups (ups (ups (ups ((P 0)) 0 ((P 70) 0)) 1 ((P 70) 1)) 2 ((P 70) 2)) 3 ((P 70) 3))) 1 (cpyI ((P 1)) ((P 71)) 0 12)) 2 (cpyI ((P 2)) ((P 72)) 0 144)) 3 (cpyI ((P 3)) ((P 73)) 0 144)) 4 (cpyI ((P 4)) ((P 74)) 0 144)) 5 (cpyI ((P 5)) ((P 75)) 0 12)) 6 (cpyI ((P 6)) ((P 76)) 0 12)) 7 (cpyI ((P 7)) ((P 77)) 0 12)) 8 (cpyI ((P 8)) ((P 78)) 0 10)) 50 (ups (P 50) 1 1)) 1)⟩, by rw [ht]; exact hP, hD⟩, hS.F ht⟩) hS.2.2 dX2_restore_27 hlocks
  exact hbody s.heap [] hP hS ls hl
set_option maxHeartbeats 4000000 in
set_option maxRecDepth 100000 in
theorem c_X2_restore_2 (l : Launch) (D : va_G) (cy : Nat → ClassId) (sz : Nat) (a : Nat → Nat) (P : Nat → Int → Int)  (hk9 : P 50 1 = 3) (hIp : Inv (mO (pgR P 2))) : Met l yX2_restore wsX2_restore { frames := 3, cells := 0, slots := 0, locals := 64 } (mPre (GG D cy) D (hsplW cy a P) sz ([.ref (a 50), .ref (a 0)] : List Value)) (kQi D (hsplW cy a P) sz (fun u9 : Nat → Int → Int => hsplW cy a u9) (fun r9 u9 => r9 = 2 ∧ back P u9 2)) 0 0 (va_A (hsplW cy a P) sz) := by
  refine kM_start (cc := cX2_restore) (maxL := 2) (ret := (some .int)) (by decide) rfl (Nat.le_of_ble_eq_true rfl) ?_
  intro p e s m below meth c hx hb hr hlocks hml hts hown hsz hA hG hP hD hS hin ls hl
  have hK := hG.1
  have hl : lv_has ls 2 [(0, .ref (a 50)), (1, .ref (a 0))] := hl
  have hinX2 : ∀ w ∈ u_ws RX2 TX2 2, w ∈ wsX2_restore := by decide +kernel
  have hmw0 := hts (.fieldLink RX2 9 "ArcPlate$History" "saved" "I") (by decide +kernel)
  have hmw1 := hts (.fieldLink RX2 17 "ArcPlate$History" "states" "[LArcPlate$Plate;") (by decide +kernel)
  have hbody : ∀ (H : Heap) (locs : List Loc) (hP : va_P D vwCl (hsplW cy a P) H) (hS : va_S (va_A (hsplW cy a P) sz) s.heap H locs) (ls : Array Slot) (hl : lv_has ls 2 [(0, .ref (a 50)), (1, .ref (a 0))]), W p l e { frames := 3, cells := 0, slots := 0, locals := 64 } s m ([.ref (a 50), .ref (a 0)] : List Value).toArray below meth c H locs 0 0 (MQ below (kQi D (hsplW cy a P) sz (fun u9 : Nat → Int → Int => hsplW cy a u9) (fun r9 u9 => r9 = 2 ∧ back P u9 2)) ([.ref (a 50), .ref (a 0)] : List Value).toArray s 0 0 (va_A (hsplW cy a P) sz)) (F0 m 0 ls []) := by
    intro H locs hP hS ls hl
    refine lv_aload_n hx hb dX2_restore_0 rfl (lv_at hl 0 rfl) ?_
    refine lv_dup hx hb dX2_restore_1 rfl ?_
    refine va_get (D := D) (ci := 1) (v := .int (iI (P 50 1))) (C := RX2) (T := TX2) (N := 2) hx hb hts hinX2 hown hK hP 0 rfl rfl 1 (by decide) hmw0 (fun _ h9 => h9) rfl dX2_restore_2 ?_
    refine k_eqI (v := P 50 1) (w := 3) (hk9) ?_
    refine k_iconst hx hb dX2_restore_5 ?_
    refine k_isub hx hb dX2_restore_6 ?_
    refine k_eqI (v := 3 - 1) (w := 2) (by decide) ?_
    refine va_put (D := D) (ci := 1) (v := .int (iI 2)) (ty := .int) (C := RX2) (T := TX2) (N := 2) hx hb hts hinX2 tyX2 tyX2_ok nmX2 hown hK hP hD hS 0 rfl rfl 1 (by decide) hmw0 (fun _ h9 => h9) rfl (by decide +kernel) rfl rfl (Nat.le_of_ble_eq_true rfl) dX2_restore_7 (fun H locs hP hD hS => ?_)
    have hP : va_P D vwCl (hsplW cy a (upr P 50 (ups (P 50) 1 2))) H := hP
    have hD : va_D (va_A (hsplW cy a P) sz) (hsplW cy a (upr P 50 (ups (P 50) 1 2))) := hD
    refine lv_aload_n hx hb dX2_restore_10 rfl (lv_at hl 1 rfl) ?_
    refine lv_aload_n hx hb dX2_restore_11 rfl (lv_at hl 0 rfl) ?_
    refine va_get (D := D) (ci := 1) (v := .ref (a 51)) (C := RX2) (T := TX2) (N := 2) hx hb hts hinX2 hown hK hP 0 rfl rfl 0 (by decide) hmw1 (fun _ h9 => h9) rfl dX2_restore_12 ?_
    refine lv_aload_n hx hb dX2_restore_15 rfl (lv_at hl 0 rfl) ?_
    refine va_get (D := D) (ci := 1) (v := .int (iI 2)) (C := RX2) (T := TX2) (N := 2) hx hb hts hinX2 hown hK hP 0 rfl rfl 1 (by decide) hmw0 (fun _ h9 => h9) rfl dX2_restore_16 ?_
    refine k_aald hx hb hK hP 1 3 (v := a 80) rfl rfl (i := 2) (by decide) rfl dX2_restore_19 ?_
    have hPc := hP.sub (ws' := (pl2W cy (fun i => a (cond (Nat.ble 10 i) (i + 70) i)) (fun i => (upr P 50 (ups (P 50) 1 2)) (cond (Nat.ble 10 i) (i + 70) i)))) [38, 39, 40, 41, 42, 43, 44, 45, 46, 20, 21, 22, 23, 24, 25, 26, 27, 28] rfl
    have hDc := hD.sub (ws' := (pl2W cy (fun i => a (cond (Nat.ble 10 i) (i + 70) i)) (fun i => (upr P 50 (ups (P 50) 1 2)) (cond (Nat.ble 10 i) (i + 70) i)))) [38, 39, 40, 41, 42, 43, 44, 45, 46, 20, 21, 22, 23, 24, 25, 26, 27, 28] (by decide) rfl
    have hFc := va_free (wc := (pl2W cy (fun i => a (cond (Nat.ble 10 i) (i + 70) i)) (fun i => (upr P 50 (ups (P 50) 1 2)) (cond (Nat.ble 10 i) (i + 70) i)))) hD hS hA [38, 39, 40, 41, 42, 43, 44, 45, 46, 20, 21, 22, 23, 24, 25, 26, 27, 28] rfl
    refine k_muv (k_runV (As := [.ref (a 80)]) (rest := []) ⟨hx, hb, hml, hown, hts⟩ (c_X4_copyFrom l D cy H.size (fun i => a (cond (Nat.ble 10 i) (i + 70) i)) (fun i => (upr P 50 (ups (P 50) 1 2)) (cond (Nat.ble 10 i) (i + 70) i)) ) gX2_restore_X4_copyFrom rfl ⟨rfl, rfl⟩ 1 rfl (by decide +kernel) ⟨Nat.le_of_ble_eq_true rfl, Nat.le_of_ble_eq_true rfl⟩ (GG_ok D cy) hG hS hFc hPc hDc (va_recv hK hP (ci := 3) (q0 := 38) rfl rfl) hl.1 rfl (Nat.le_of_ble_eq_true rfl) ⟨Nat.le_of_ble_eq_true rfl, Nat.le_of_ble_eq_true rfl⟩ dX2_restore_20) hFc hS (fun R_2 H1 locs1 hR_2 hP1 hD1 hS1 hk1 => ?_)
    have hR_2 : R_2 = (upr (upr (upr (upr (upr (upr (upr (upr (upr (fun i => (upr P 50 (ups (P 50) 1 2)) (cond (Nat.ble 10 i) (i + 70) i)) 0 (ups (ups (ups (ups ((P 0)) 0 ((P 80) 0)) 1 ((P 80) 1)) 2 ((P 80) 2)) 3 ((P 80) 3))) 1 (cpyI ((P 1)) ((P 81)) 0 12)) 2 (cpyI ((P 2)) ((P 82)) 0 144)) 3 (cpyI ((P 3)) ((P 83)) 0 144)) 4 (cpyI ((P 4)) ((P 84)) 0 144)) 5 (cpyI ((P 5)) ((P 85)) 0 12)) 6 (cpyI ((P 6)) ((P 86)) 0 12)) 7 (cpyI ((P 7)) ((P 87)) 0 12)) 8 (cpyI ((P 8)) ((P 88)) 0 10)) := hR_2
    subst hR_2
    have hDn : va_D (va_A (hsplW cy a P) sz) (hsplW cy a (upr (upr (upr (upr (upr (upr (upr (upr (upr (upr P 0 (ups (ups (ups (ups ((P 0)) 0 ((P 80) 0)) 1 ((P 80) 1)) 2 ((P 80) 2)) 3 ((P 80) 3))) 1 (cpyI ((P 1)) ((P 81)) 0 12)) 2 (cpyI ((P 2)) ((P 82)) 0 144)) 3 (cpyI ((P 3)) ((P 83)) 0 144)) 4 (cpyI ((P 4)) ((P 84)) 0 144)) 5 (cpyI ((P 5)) ((P 85)) 0 12)) 6 (cpyI ((P 6)) ((P 86)) 0 12)) 7 (cpyI ((P 7)) ((P 87)) 0 12)) 8 (cpyI ((P 8)) ((P 88)) 0 10)) 50 (ups (P 50) 1 2))) := k_addr hD rfl
    have hPn := k_join (ws' := (hsplW cy a (upr (upr (upr (upr (upr (upr (upr (upr (upr (upr P 0 (ups (ups (ups (ups ((P 0)) 0 ((P 80) 0)) 1 ((P 80) 1)) 2 ((P 80) 2)) 3 ((P 80) 3))) 1 (cpyI ((P 1)) ((P 81)) 0 12)) 2 (cpyI ((P 2)) ((P 82)) 0 144)) 3 (cpyI ((P 3)) ((P 83)) 0 144)) 4 (cpyI ((P 4)) ((P 84)) 0 144)) 5 (cpyI ((P 5)) ((P 85)) 0 12)) 6 (cpyI ((P 6)) ((P 86)) 0 12)) 7 (cpyI ((P 7)) ((P 87)) 0 12)) 8 (cpyI ((P 8)) ((P 88)) 0 10)) 50 (ups (P 50) 1 2)))) hP hD [38, 39, 40, 41, 42, 43, 44, 45, 46, 20, 21, 22, 23, 24, 25, 26, 27, 28] [none, none, none, none, none, none, none, none, none, none, none, none, none, none, none, none, none, none, none, none, some 9, some 10, some 11, some 12, some 13, some 14, some 15, some 16, some 17, none, none, none, none, none, none, none, none, none, some 0, some 1, some 2, some 3, some 4, some 5, some 6, some 7, some 8] rfl hk1 hP1 rfl rfl
    clear hP hD hS hP1 hD1 hk1
    have hP := hPn
    have hD := hDn
    have hS := hS1
    clear hPn hDn hS1
    generalize H1 = H at hP hS ⊢
    generalize locs1 = locs at hS ⊢
    refine lv_aload_n hx hb dX2_restore_23 rfl (lv_at hl 0 rfl) ?_
    refine va_get (D := D) (ci := 1) (v := .int (iI 2)) (C := RX2) (T := TX2) (N := 2) hx hb hts hinX2 hown hK hP 0 rfl rfl 1 (by decide) hmw0 (fun _ h9 => h9) rfl dX2_restore_24 ?_
    exact W.iret (v := iI 2) hx hb hr (fun t9 ht _ => ⟨⟨iI 2, (upr (upr (upr (upr (upr (upr (upr (upr (upr (upr P 0 (ups (ups (ups (ups ((P 0)) 0 ((P 80) 0)) 1 ((P 80) 1)) 2 ((P 80) 2)) 3 ((P 80) 3))) 1 (cpyI ((P 1)) ((P 81)) 0 12)) 2 (cpyI ((P 2)) ((P 82)) 0 144)) 3 (cpyI ((P 3)) ((P 83)) 0 144)) 4 (cpyI ((P 4)) ((P 84)) 0 144)) 5 (cpyI ((P 5)) ((P 85)) 0 12)) 6 (cpyI ((P 6)) ((P 86)) 0 12)) 7 (cpyI ((P 7)) ((P 87)) 0 12)) 8 (cpyI ((P 8)) ((P 88)) 0 10)) 50 (ups (P 50) 1 2)), rfl, ⟨2, rfl, (⟨rfl, ⟨⟨fun c9 h9 h8 => (by (repeat rw [upr_o _ _ (by omega)])), fun c9 h9 => (by (repeat rw [upr_o _ _ (by omega)]))⟩, rfl, fun k9 h9 => by rcases (show k9 = 0 ∨ k9 = 1 ∨ k9 = 2 ∨ k9 = 3 by omega) with e9 | e9 | e9 | e9 <;> subst e9 <;> rfl, cpd_ag hIp rfl rfl rfl rfl rfl rfl rfl rfl rfl⟩⟩ : (2 : Int) = 2 ∧ back P (upr (upr (upr (upr (upr (upr (upr (upr (upr (upr P 0 (ups (ups (ups (ups ((P 0)) 0 ((P 80) 0)) 1 ((P 80) 1)) 2 ((P 80) 2)) 3 ((P 80) 3))) 1 (cpyI ((P 1)) ((P 81)) 0 12)) 2 (cpyI ((P 2)) ((P 82)) 0 144)) 3 (cpyI ((P 3)) ((P 83)) 0 144)) 4 (cpyI ((P 4)) ((P 84)) 0 144)) 5 (cpyI ((P 5)) ((P 85)) 0 12)) 6 (cpyI ((P 6)) ((P 86)) 0 12)) 7 (cpyI ((P 7)) ((P 87)) 0 12)) 8 (cpyI ((P 8)) ((P 88)) 0 10)) 50 (ups (P 50) 1 2)) 2)⟩, by rw [ht]; exact hP, hD⟩, hS.F ht⟩) hS.2.2 dX2_restore_27 hlocks
  exact hbody s.heap [] hP hS ls hl
set_option maxHeartbeats 4000000 in
set_option maxRecDepth 100000 in
theorem c_X2_restore_3 (l : Launch) (D : va_G) (cy : Nat → ClassId) (sz : Nat) (a : Nat → Nat) (P : Nat → Int → Int)  (hk9 : P 50 1 = 4) (hIp : Inv (mO (pgR P 3))) : Met l yX2_restore wsX2_restore { frames := 3, cells := 0, slots := 0, locals := 64 } (mPre (GG D cy) D (hsplW cy a P) sz ([.ref (a 50), .ref (a 0)] : List Value)) (kQi D (hsplW cy a P) sz (fun u9 : Nat → Int → Int => hsplW cy a u9) (fun r9 u9 => r9 = 3 ∧ back P u9 3)) 0 0 (va_A (hsplW cy a P) sz) := by
  refine kM_start (cc := cX2_restore) (maxL := 2) (ret := (some .int)) (by decide) rfl (Nat.le_of_ble_eq_true rfl) ?_
  intro p e s m below meth c hx hb hr hlocks hml hts hown hsz hA hG hP hD hS hin ls hl
  have hK := hG.1
  have hl : lv_has ls 2 [(0, .ref (a 50)), (1, .ref (a 0))] := hl
  have hinX2 : ∀ w ∈ u_ws RX2 TX2 2, w ∈ wsX2_restore := by decide +kernel
  have hmw0 := hts (.fieldLink RX2 9 "ArcPlate$History" "saved" "I") (by decide +kernel)
  have hmw1 := hts (.fieldLink RX2 17 "ArcPlate$History" "states" "[LArcPlate$Plate;") (by decide +kernel)
  have hbody : ∀ (H : Heap) (locs : List Loc) (hP : va_P D vwCl (hsplW cy a P) H) (hS : va_S (va_A (hsplW cy a P) sz) s.heap H locs) (ls : Array Slot) (hl : lv_has ls 2 [(0, .ref (a 50)), (1, .ref (a 0))]), W p l e { frames := 3, cells := 0, slots := 0, locals := 64 } s m ([.ref (a 50), .ref (a 0)] : List Value).toArray below meth c H locs 0 0 (MQ below (kQi D (hsplW cy a P) sz (fun u9 : Nat → Int → Int => hsplW cy a u9) (fun r9 u9 => r9 = 3 ∧ back P u9 3)) ([.ref (a 50), .ref (a 0)] : List Value).toArray s 0 0 (va_A (hsplW cy a P) sz)) (F0 m 0 ls []) := by
    intro H locs hP hS ls hl
    refine lv_aload_n hx hb dX2_restore_0 rfl (lv_at hl 0 rfl) ?_
    refine lv_dup hx hb dX2_restore_1 rfl ?_
    refine va_get (D := D) (ci := 1) (v := .int (iI (P 50 1))) (C := RX2) (T := TX2) (N := 2) hx hb hts hinX2 hown hK hP 0 rfl rfl 1 (by decide) hmw0 (fun _ h9 => h9) rfl dX2_restore_2 ?_
    refine k_eqI (v := P 50 1) (w := 4) (hk9) ?_
    refine k_iconst hx hb dX2_restore_5 ?_
    refine k_isub hx hb dX2_restore_6 ?_
    refine k_eqI (v := 4 - 1) (w := 3) (by decide) ?_
    refine va_put (D := D) (ci := 1) (v := .int (iI 3)) (ty := .int) (C := RX2) (T := TX2) (N := 2) hx hb hts hinX2 tyX2 tyX2_ok nmX2 hown hK hP hD hS 0 rfl rfl 1 (by decide) hmw0 (fun _ h9 => h9) rfl (by decide +kernel) rfl rfl (Nat.le_of_ble_eq_true rfl) dX2_restore_7 (fun H locs hP hD hS => ?_)
    have hP : va_P D vwCl (hsplW cy a (upr P 50 (ups (P 50) 1 3))) H := hP
    have hD : va_D (va_A (hsplW cy a P) sz) (hsplW cy a (upr P 50 (ups (P 50) 1 3))) := hD
    refine lv_aload_n hx hb dX2_restore_10 rfl (lv_at hl 1 rfl) ?_
    refine lv_aload_n hx hb dX2_restore_11 rfl (lv_at hl 0 rfl) ?_
    refine va_get (D := D) (ci := 1) (v := .ref (a 51)) (C := RX2) (T := TX2) (N := 2) hx hb hts hinX2 hown hK hP 0 rfl rfl 0 (by decide) hmw1 (fun _ h9 => h9) rfl dX2_restore_12 ?_
    refine lv_aload_n hx hb dX2_restore_15 rfl (lv_at hl 0 rfl) ?_
    refine va_get (D := D) (ci := 1) (v := .int (iI 3)) (C := RX2) (T := TX2) (N := 2) hx hb hts hinX2 hown hK hP 0 rfl rfl 1 (by decide) hmw0 (fun _ h9 => h9) rfl dX2_restore_16 ?_
    refine k_aald hx hb hK hP 1 3 (v := a 90) rfl rfl (i := 3) (by decide) rfl dX2_restore_19 ?_
    have hPc := hP.sub (ws' := (pl2W cy (fun i => a (cond (Nat.ble 10 i) (i + 80) i)) (fun i => (upr P 50 (ups (P 50) 1 3)) (cond (Nat.ble 10 i) (i + 80) i)))) [38, 39, 40, 41, 42, 43, 44, 45, 46, 29, 30, 31, 32, 33, 34, 35, 36, 37] rfl
    have hDc := hD.sub (ws' := (pl2W cy (fun i => a (cond (Nat.ble 10 i) (i + 80) i)) (fun i => (upr P 50 (ups (P 50) 1 3)) (cond (Nat.ble 10 i) (i + 80) i)))) [38, 39, 40, 41, 42, 43, 44, 45, 46, 29, 30, 31, 32, 33, 34, 35, 36, 37] (by decide) rfl
    have hFc := va_free (wc := (pl2W cy (fun i => a (cond (Nat.ble 10 i) (i + 80) i)) (fun i => (upr P 50 (ups (P 50) 1 3)) (cond (Nat.ble 10 i) (i + 80) i)))) hD hS hA [38, 39, 40, 41, 42, 43, 44, 45, 46, 29, 30, 31, 32, 33, 34, 35, 36, 37] rfl
    refine k_muv (k_runV (As := [.ref (a 90)]) (rest := []) ⟨hx, hb, hml, hown, hts⟩ (c_X4_copyFrom l D cy H.size (fun i => a (cond (Nat.ble 10 i) (i + 80) i)) (fun i => (upr P 50 (ups (P 50) 1 3)) (cond (Nat.ble 10 i) (i + 80) i)) ) gX2_restore_X4_copyFrom rfl ⟨rfl, rfl⟩ 1 rfl (by decide +kernel) ⟨Nat.le_of_ble_eq_true rfl, Nat.le_of_ble_eq_true rfl⟩ (GG_ok D cy) hG hS hFc hPc hDc (va_recv hK hP (ci := 3) (q0 := 38) rfl rfl) hl.1 rfl (Nat.le_of_ble_eq_true rfl) ⟨Nat.le_of_ble_eq_true rfl, Nat.le_of_ble_eq_true rfl⟩ dX2_restore_20) hFc hS (fun R_2 H1 locs1 hR_2 hP1 hD1 hS1 hk1 => ?_)
    have hR_2 : R_2 = (upr (upr (upr (upr (upr (upr (upr (upr (upr (fun i => (upr P 50 (ups (P 50) 1 3)) (cond (Nat.ble 10 i) (i + 80) i)) 0 (ups (ups (ups (ups ((P 0)) 0 ((P 90) 0)) 1 ((P 90) 1)) 2 ((P 90) 2)) 3 ((P 90) 3))) 1 (cpyI ((P 1)) ((P 91)) 0 12)) 2 (cpyI ((P 2)) ((P 92)) 0 144)) 3 (cpyI ((P 3)) ((P 93)) 0 144)) 4 (cpyI ((P 4)) ((P 94)) 0 144)) 5 (cpyI ((P 5)) ((P 95)) 0 12)) 6 (cpyI ((P 6)) ((P 96)) 0 12)) 7 (cpyI ((P 7)) ((P 97)) 0 12)) 8 (cpyI ((P 8)) ((P 98)) 0 10)) := hR_2
    subst hR_2
    have hDn : va_D (va_A (hsplW cy a P) sz) (hsplW cy a (upr (upr (upr (upr (upr (upr (upr (upr (upr (upr P 0 (ups (ups (ups (ups ((P 0)) 0 ((P 90) 0)) 1 ((P 90) 1)) 2 ((P 90) 2)) 3 ((P 90) 3))) 1 (cpyI ((P 1)) ((P 91)) 0 12)) 2 (cpyI ((P 2)) ((P 92)) 0 144)) 3 (cpyI ((P 3)) ((P 93)) 0 144)) 4 (cpyI ((P 4)) ((P 94)) 0 144)) 5 (cpyI ((P 5)) ((P 95)) 0 12)) 6 (cpyI ((P 6)) ((P 96)) 0 12)) 7 (cpyI ((P 7)) ((P 97)) 0 12)) 8 (cpyI ((P 8)) ((P 98)) 0 10)) 50 (ups (P 50) 1 3))) := k_addr hD rfl
    have hPn := k_join (ws' := (hsplW cy a (upr (upr (upr (upr (upr (upr (upr (upr (upr (upr P 0 (ups (ups (ups (ups ((P 0)) 0 ((P 90) 0)) 1 ((P 90) 1)) 2 ((P 90) 2)) 3 ((P 90) 3))) 1 (cpyI ((P 1)) ((P 91)) 0 12)) 2 (cpyI ((P 2)) ((P 92)) 0 144)) 3 (cpyI ((P 3)) ((P 93)) 0 144)) 4 (cpyI ((P 4)) ((P 94)) 0 144)) 5 (cpyI ((P 5)) ((P 95)) 0 12)) 6 (cpyI ((P 6)) ((P 96)) 0 12)) 7 (cpyI ((P 7)) ((P 97)) 0 12)) 8 (cpyI ((P 8)) ((P 98)) 0 10)) 50 (ups (P 50) 1 3)))) hP hD [38, 39, 40, 41, 42, 43, 44, 45, 46, 29, 30, 31, 32, 33, 34, 35, 36, 37] [none, none, none, none, none, none, none, none, none, none, none, none, none, none, none, none, none, none, none, none, none, none, none, none, none, none, none, none, none, some 9, some 10, some 11, some 12, some 13, some 14, some 15, some 16, some 17, some 0, some 1, some 2, some 3, some 4, some 5, some 6, some 7, some 8] rfl hk1 hP1 rfl rfl
    clear hP hD hS hP1 hD1 hk1
    have hP := hPn
    have hD := hDn
    have hS := hS1
    clear hPn hDn hS1
    generalize H1 = H at hP hS ⊢
    generalize locs1 = locs at hS ⊢
    refine lv_aload_n hx hb dX2_restore_23 rfl (lv_at hl 0 rfl) ?_
    refine va_get (D := D) (ci := 1) (v := .int (iI 3)) (C := RX2) (T := TX2) (N := 2) hx hb hts hinX2 hown hK hP 0 rfl rfl 1 (by decide) hmw0 (fun _ h9 => h9) rfl dX2_restore_24 ?_
    exact W.iret (v := iI 3) hx hb hr (fun t9 ht _ => ⟨⟨iI 3, (upr (upr (upr (upr (upr (upr (upr (upr (upr (upr P 0 (ups (ups (ups (ups ((P 0)) 0 ((P 90) 0)) 1 ((P 90) 1)) 2 ((P 90) 2)) 3 ((P 90) 3))) 1 (cpyI ((P 1)) ((P 91)) 0 12)) 2 (cpyI ((P 2)) ((P 92)) 0 144)) 3 (cpyI ((P 3)) ((P 93)) 0 144)) 4 (cpyI ((P 4)) ((P 94)) 0 144)) 5 (cpyI ((P 5)) ((P 95)) 0 12)) 6 (cpyI ((P 6)) ((P 96)) 0 12)) 7 (cpyI ((P 7)) ((P 97)) 0 12)) 8 (cpyI ((P 8)) ((P 98)) 0 10)) 50 (ups (P 50) 1 3)), rfl, ⟨3, rfl, (⟨rfl, ⟨⟨fun c9 h9 h8 => (by (repeat rw [upr_o _ _ (by omega)])), fun c9 h9 => (by (repeat rw [upr_o _ _ (by omega)]))⟩, rfl, fun k9 h9 => by rcases (show k9 = 0 ∨ k9 = 1 ∨ k9 = 2 ∨ k9 = 3 by omega) with e9 | e9 | e9 | e9 <;> subst e9 <;> rfl, cpd_ag hIp rfl rfl rfl rfl rfl rfl rfl rfl rfl⟩⟩ : (3 : Int) = 3 ∧ back P (upr (upr (upr (upr (upr (upr (upr (upr (upr (upr P 0 (ups (ups (ups (ups ((P 0)) 0 ((P 90) 0)) 1 ((P 90) 1)) 2 ((P 90) 2)) 3 ((P 90) 3))) 1 (cpyI ((P 1)) ((P 91)) 0 12)) 2 (cpyI ((P 2)) ((P 92)) 0 144)) 3 (cpyI ((P 3)) ((P 93)) 0 144)) 4 (cpyI ((P 4)) ((P 94)) 0 144)) 5 (cpyI ((P 5)) ((P 95)) 0 12)) 6 (cpyI ((P 6)) ((P 96)) 0 12)) 7 (cpyI ((P 7)) ((P 97)) 0 12)) 8 (cpyI ((P 8)) ((P 98)) 0 10)) 50 (ups (P 50) 1 3)) 3)⟩, by rw [ht]; exact hP, hD⟩, hS.F ht⟩) hS.2.2 dX2_restore_27 hlocks
  exact hbody s.heap [] hP hS ls hl
