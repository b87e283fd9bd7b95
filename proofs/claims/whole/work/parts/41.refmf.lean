set_option maxHeartbeats 4000000 in
set_option maxRecDepth 100000 in
theorem c_X7_carryOut (l : Launch) (D : va_G) (cy : Nat → ClassId) (sz : Nat) (a : Nat → Nat) (R : Nat → Int → Int)  (hI : Inv (R 1)) (hcm : 0 ≤ R 0 16 ∧ R 0 16 ≤ 6) (hnm : nmOK (R 7)) (hft : ftV (R 1) (R 0 16) (R 7) = 0) : Met l yX7_carryOut wsX7_carryOut { frames := 9, cells := 0, slots := 0, locals := 210 } (mPre (GG D cy) D (rfW cy a R) sz ([.ref (a 0)] : List Value)) (kQi D (rfW cy a R) sz (fun u9 : Nat → Int → Int => rfW cy a u9) (fun r9 u9 => (∃ (zr : Int), (R 0 16 < 6) ∧ r9 = zr ∧ u9 = (upr R 1 (efM (R 1) (R 0 16) (R 7)))) ∨ (∃ (zr : Int) (x7 : Int) (x8 : Int) (x9 : Int), (R 0 16 = 6) ∧ r9 = zr ∧ u9 = (upr (upr R 0 (ups (ups (ups (R 0) 7 x7) 8 x8) 9 x9)) 1 (efM (R 1) (R 0 16) (R 7)))))) 0 0 (va_A (rfW cy a R) sz) := by
  refine kM_start (cc := cX7_carryOut) (maxL := 1) (ret := (some .int)) (by decide) rfl (Nat.le_of_ble_eq_true rfl) ?_
  intro p e s m below meth c hx hb hr hlocks hml hts hown hsz hA hG hP hD hS hin ls hl
  have hK := hG.1
  have hl : lv_has ls 1 [(0, .ref (a 0))] := hl
  have hinX7 : ∀ w ∈ u_ws RX7 TX7 19, w ∈ wsX7_carryOut := by decide +kernel
  have hmw0 := hts (.fieldLink RX7 280 "ArcPlateModel" "command" "I") (by decide +kernel)
  have hmw1 := hts (.fieldLink RX7 28 "ArcPlateModel" "numbers" "[I") (by decide +kernel)
  have hA0 := hnm 0 (by decide) (by decide)
  have hA1 := hnm 1 (by decide) (by decide)
  have hA2 := hnm 2 (by decide) (by decide)
  have hA3 := hnm 3 (by decide) (by decide)
  have h12 := inv_S12 hI
  have hbody : ∀ (H : Heap) (locs : List Loc) (hP : va_P D vwCl (rfW cy a R) H) (hS : va_S (va_A (rfW cy a R) sz) s.heap H locs) (ls : Array Slot) (hl : lv_has ls 1 [(0, .ref (a 0))]), W p l e { frames := 9, cells := 0, slots := 0, locals := 210 } s m ([.ref (a 0)] : List Value).toArray below meth c H locs 0 0 (MQ below (kQi D (rfW cy a R) sz (fun u9 : Nat → Int → Int => rfW cy a u9) (fun r9 u9 => (∃ (zr : Int), (R 0 16 < 6) ∧ r9 = zr ∧ u9 = (upr R 1 (efM (R 1) (R 0 16) (R 7)))) ∨ (∃ (zr : Int) (x7 : Int) (x8 : Int) (x9 : Int), (R 0 16 = 6) ∧ r9 = zr ∧ u9 = (upr (upr R 0 (ups (ups (ups (R 0) 7 x7) 8 x8) 9 x9)) 1 (efM (R 1) (R 0 16) (R 7)))))) ([.ref (a 0)] : List Value).toArray s 0 0 (va_A (rfW cy a R) sz)) (F0 m 0 ls []) := by
    intro H locs hP hS ls hl
    refine lv_aload_n hx hb dX7_carryOut_0 rfl (lv_at hl 0 rfl) ?_
    refine va_get (D := D) (ci := 6) (v := .int (iI (R 0 16))) (C := RX7) (T := TX7) (N := 19) hx hb hts hinX7 hown hK hP 0 rfl rfl 16 (by decide) hmw0 (fun _ h9 => h9) rfl dX7_carryOut_1 ?_
    rcases (show (R 0 16) = 0 ∨ (R 0 16) = 1 ∨ (R 0 16) = 2 ∨ (R 0 16) = 3 ∨ (R 0 16) = 4 ∨ (R 0 16) = 5 ∨ ((R 0 16) < 0 ∨ 5 < (R 0 16)) by omega) with c_1 | c_1 | c_1 | c_1 | c_1 | c_1 | c_1
    · skip
      refine k_tin (tgt := 44) hx hb 0 c_1 (by decide) dX7_carryOut_4 (by decide) (by decide) rfl (by decide) ?_
      have hq0 := (fv_0 (M := R 1) (A := R 7) (show R 0 16 = 0 by omega)).1
      rw [hft] at hq0
      have hq := ft0_y hI hq0.symm
      refine lv_aload_n hx hb dX7_carryOut_44 rfl (lv_at hl 0 rfl) ?_
      refine k_mui (k_runV (As := []) (rest := []) ⟨hx, hb, hml, hown, hts⟩ (c_X7_addsTrail l D cy H.size a R (show 0 ≤ R 1 12 ∧ R 1 12 < 12 by omega)) gX7_carryOut_X7_addsTrail rfl ⟨rfl, rfl⟩ 0 rfl (by decide +kernel) ⟨Nat.le_of_ble_eq_true rfl, Nat.le_of_ble_eq_true rfl⟩ (GG_ok D cy) hG hS (k_free hD hS hA) hP hD (va_recv hK hP (ci := 6) (q0 := 0) rfl rfl) hl.1 rfl (Nat.le_of_ble_eq_true rfl) ⟨Nat.le_of_ble_eq_true rfl, Nat.le_of_ble_eq_true rfl⟩ dX7_carryOut_45) (k_free hD hS hA) hS (fun r_2 R_3 H1 locs1 hR_3 hP1 hD1 hS1 hk1 => ?_)
      have hR_3 : r_2 = R 1 12 ∧ R_3 = (upr R 1 (tAT (R 1))) := hR_3
      obtain ⟨hr_2, rfl⟩ := hR_3
      have hr_2 : r_2 = R 1 12 := hr_2
      subst hr_2
      have hDn : va_D (va_A (rfW cy a R) sz) (rfW cy a (upr R 1 (tAT (R 1)))) := k_addr hD rfl
      have hPn : va_P D vwCl (rfW cy a (upr R 1 (tAT (R 1)))) H1 := hP1
      clear hP hD hS hP1 hD1 hk1
      have hP := hPn
      have hD := hDn
      have hS := hS1
      clear hPn hDn hS1
      generalize H1 = H at hP hS ⊢
      generalize locs1 = locs at hS ⊢
      exact W.iret (v := iI (R 1 12)) hx hb hr (fun t9 ht _ => ⟨⟨iI (R 1 12), (upr R 1 (tAT (R 1))), rfl, ⟨(R 1 12), rfl, (by first | exact Or.inl ⟨((R 1 12)), (by omega), (by first | rfl | omega), (by rw [show (tAT (R 1)) = (efM (R 1) (R 0 16) (R 7)) from (fv_0 (by omega)).2.symm])⟩ : (∃ (zr : Int), (R 0 16 < 6) ∧ (R 1 12 : Int) = zr ∧ (upr R 1 (tAT (R 1))) = (upr R 1 (efM (R 1) (R 0 16) (R 7)))) ∨ (∃ (zr : Int) (x7 : Int) (x8 : Int) (x9 : Int), (R 0 16 = 6) ∧ (R 1 12 : Int) = zr ∧ (upr R 1 (tAT (R 1))) = (upr (upr R 0 (ups (ups (ups (R 0) 7 x7) 8 x8) 9 x9)) 1 (efM (R 1) (R 0 16) (R 7)))))⟩, by rw [ht]; exact hP, hD⟩, hS.F ht⟩) hS.2.2 dX7_carryOut_48 hlocks
    · skip
      refine k_tin (tgt := 49) hx hb 1 c_1 (by decide) dX7_carryOut_4 (by decide) (by decide) rfl (by decide) ?_
      have hq0 := (fv_1 (M := R 1) (A := R 7) (show R 0 16 = 1 by omega)).1
      rw [hft] at hq0
      have hq := ftP_y2 hI hq0.symm
      refine lv_aload_n hx hb dX7_carryOut_49 rfl (lv_at hl 0 rfl) ?_
      refine lv_aload_n hx hb dX7_carryOut_50 rfl (lv_at hl 0 rfl) ?_
      refine va_get (D := D) (ci := 6) (v := .ref (a 7)) (C := RX7) (T := TX7) (N := 19) hx hb hts hinX7 hown hK hP 0 rfl rfl 17 (by decide) hmw1 (fun _ h9 => h9) rfl dX7_carryOut_51 ?_
      refine k_iconst hx hb dX7_carryOut_54 ?_
      refine k_iald hx hb hK hP 7 0 (f := R 7) rfl rfl (i := 0) (by omega) dX7_carryOut_55 ?_
      refine lv_aload_n hx hb dX7_carryOut_56 rfl (lv_at hl 0 rfl) ?_
      refine va_get (D := D) (ci := 6) (v := .ref (a 7)) (C := RX7) (T := TX7) (N := 19) hx hb hts hinX7 hown hK hP 0 rfl rfl 17 (by decide) hmw1 (fun _ h9 => h9) rfl dX7_carryOut_57 ?_
      refine k_iconst hx hb dX7_carryOut_60 ?_
      refine k_iald hx hb hK hP 7 0 (f := R 7) rfl rfl (i := 1) (by omega) dX7_carryOut_61 ?_
      refine lv_aload_n hx hb dX7_carryOut_62 rfl (lv_at hl 0 rfl) ?_
      refine va_get (D := D) (ci := 6) (v := .ref (a 7)) (C := RX7) (T := TX7) (N := 19) hx hb hts hinX7 hown hK hP 0 rfl rfl 17 (by decide) hmw1 (fun _ h9 => h9) rfl dX7_carryOut_63 ?_
      refine k_iconst hx hb dX7_carryOut_66 ?_
      refine k_iald hx hb hK hP 7 0 (f := R 7) rfl rfl (i := 2) (by omega) dX7_carryOut_67 ?_
      refine lv_aload_n hx hb dX7_carryOut_68 rfl (lv_at hl 0 rfl) ?_
      refine va_get (D := D) (ci := 6) (v := .ref (a 7)) (C := RX7) (T := TX7) (N := 19) hx hb hts hinX7 hown hK hP 0 rfl rfl 17 (by decide) hmw1 (fun _ h9 => h9) rfl dX7_carryOut_69 ?_
      refine k_iconst hx hb dX7_carryOut_72 ?_
      refine k_iald hx hb hK hP 7 0 (f := R 7) rfl rfl (i := 3) (by omega) dX7_carryOut_73 ?_
      refine k_mui (k_runV (As := [.int (iI (R 7 0)), .int (iI (R 7 1)), .int (iI (R 7 2)), .int (iI (R 7 3))]) (rest := []) ⟨hx, hb, hml, hown, hts⟩ (c_X7_addsPoint l D cy H.size a R (R 7 0) (R 7 1) (R 7 2) (R 7 3) hI (show 0 ≤ (R 7 0) by omega) (show (R 7 0) < R 1 12 by omega) (show -2147483648 ≤ (R 7 1) ∧ (R 7 1) ≤ 2147483647 by omega) (show pts (R 1) (R 7 0) < 12 by omega)) gX7_carryOut_X7_addsPoint rfl ⟨rfl, rfl⟩ 4 rfl (by decide +kernel) ⟨Nat.le_of_ble_eq_true rfl, Nat.le_of_ble_eq_true rfl⟩ (GG_ok D cy) hG hS (k_free hD hS hA) hP hD (va_recv hK hP (ci := 6) (q0 := 0) rfl rfl) hl.1 rfl (Nat.le_of_ble_eq_true rfl) ⟨Nat.le_of_ble_eq_true rfl, Nat.le_of_ble_eq_true rfl⟩ dX7_carryOut_74) (k_free hD hS hA) hS (fun r_4 R_5 H1 locs1 hR_5 hP1 hD1 hS1 hk1 => ?_)
      have hR_5 : r_4 = posF (R 1) (R 7 0) (R 7 1) ∧ R_5 = (upr R 1 (tAP (R 1) (R 7 0) (R 7 1) (R 7 2) (R 7 3))) := hR_5
      obtain ⟨hr_4, rfl⟩ := hR_5
      have hr_4 : r_4 = posF (R 1) (R 7 0) (R 7 1) := hr_4
      subst hr_4
      have hDn : va_D (va_A (rfW cy a R) sz) (rfW cy a (upr R 1 (tAP (R 1) (R 7 0) (R 7 1) (R 7 2) (R 7 3)))) := k_addr hD rfl
      have hPn : va_P D vwCl (rfW cy a (upr R 1 (tAP (R 1) (R 7 0) (R 7 1) (R 7 2) (R 7 3)))) H1 := hP1
      clear hP hD hS hP1 hD1 hk1
      have hP := hPn
      have hD := hDn
      have hS := hS1
      clear hPn hDn hS1
      generalize H1 = H at hP hS ⊢
      generalize locs1 = locs at hS ⊢
      exact W.iret (v := iI (posF (R 1) (R 7 0) (R 7 1))) hx hb hr (fun t9 ht _ => ⟨⟨iI (posF (R 1) (R 7 0) (R 7 1)), (upr R 1 (tAP (R 1) (R 7 0) (R 7 1) (R 7 2) (R 7 3))), rfl, ⟨(posF (R 1) (R 7 0) (R 7 1)), rfl, (by first | exact Or.inl ⟨((posF (R 1) (R 7 0) (R 7 1))), (by omega), (by first | rfl | omega), (by rw [show (tAP (R 1) (R 7 0) (R 7 1) (R 7 2) (R 7 3)) = (efM (R 1) (R 0 16) (R 7)) from (fv_1 (by omega)).2.symm])⟩ : (∃ (zr : Int), (R 0 16 < 6) ∧ (posF (R 1) (R 7 0) (R 7 1) : Int) = zr ∧ (upr R 1 (tAP (R 1) (R 7 0) (R 7 1) (R 7 2) (R 7 3))) = (upr R 1 (efM (R 1) (R 0 16) (R 7)))) ∨ (∃ (zr : Int) (x7 : Int) (x8 : Int) (x9 : Int), (R 0 16 = 6) ∧ (posF (R 1) (R 7 0) (R 7 1) : Int) = zr ∧ (upr R 1 (tAP (R 1) (R 7 0) (R 7 1) (R 7 2) (R 7 3))) = (upr (upr R 0 (ups (ups (ups (R 0) 7 x7) 8 x8) 9 x9)) 1 (efM (R 1) (R 0 16) (R 7)))))⟩, by rw [ht]; exact hP, hD⟩, hS.F ht⟩) hS.2.2 dX7_carryOut_77 hlocks
    · skip
      refine k_tin (tgt := 78) hx hb 2 c_1 (by decide) dX7_carryOut_4 (by decide) (by decide) rfl (by decide) ?_
      have hq0 := (fv_2 (M := R 1) (A := R 7) (show R 0 16 = 2 by omega)).1
      rw [hft] at hq0
      have hq := ftS_y hI hq0.symm
      refine lv_aload_n hx hb dX7_carryOut_78 rfl (lv_at hl 0 rfl) ?_
      refine lv_aload_n hx hb dX7_carryOut_79 rfl (lv_at hl 0 rfl) ?_
      refine va_get (D := D) (ci := 6) (v := .ref (a 7)) (C := RX7) (T := TX7) (N := 19) hx hb hts hinX7 hown hK hP 0 rfl rfl 17 (by decide) hmw1 (fun _ h9 => h9) rfl dX7_carryOut_80 ?_
      refine k_iconst hx hb dX7_carryOut_83 ?_
      refine k_iald hx hb hK hP 7 0 (f := R 7) rfl rfl (i := 0) (by omega) dX7_carryOut_84 ?_
      refine lv_aload_n hx hb dX7_carryOut_85 rfl (lv_at hl 0 rfl) ?_
      refine va_get (D := D) (ci := 6) (v := .ref (a 7)) (C := RX7) (T := TX7) (N := 19) hx hb hts hinX7 hown hK hP 0 rfl rfl 17 (by decide) hmw1 (fun _ h9 => h9) rfl dX7_carryOut_86 ?_
      refine k_iconst hx hb dX7_carryOut_89 ?_
      refine k_iald hx hb hK hP 7 0 (f := R 7) rfl rfl (i := 1) (by omega) dX7_carryOut_90 ?_
      refine lv_aload_n hx hb dX7_carryOut_91 rfl (lv_at hl 0 rfl) ?_
      refine va_get (D := D) (ci := 6) (v := .ref (a 7)) (C := RX7) (T := TX7) (N := 19) hx hb hts hinX7 hown hK hP 0 rfl rfl 17 (by decide) hmw1 (fun _ h9 => h9) rfl dX7_carryOut_92 ?_
      refine k_iconst hx hb dX7_carryOut_95 ?_
      refine k_iald hx hb hK hP 7 0 (f := R 7) rfl rfl (i := 2) (by omega) dX7_carryOut_96 ?_
      refine k_mui (k_runV (As := [.int (iI (R 7 0)), .int (iI (R 7 1)), .int (iI (R 7 2))]) (rest := []) ⟨hx, hb, hml, hown, hts⟩ (c_X7_addsStar l D cy H.size a R (R 7 0) (R 7 1) (R 7 2) (show 0 ≤ R 1 13 ∧ R 1 13 < 12 by omega)) gX7_carryOut_X7_addsStar rfl ⟨rfl, rfl⟩ 3 rfl (by decide +kernel) ⟨Nat.le_of_ble_eq_true rfl, Nat.le_of_ble_eq_true rfl⟩ (GG_ok D cy) hG hS (k_free hD hS hA) hP hD (va_recv hK hP (ci := 6) (q0 := 0) rfl rfl) hl.1 rfl (Nat.le_of_ble_eq_true rfl) ⟨Nat.le_of_ble_eq_true rfl, Nat.le_of_ble_eq_true rfl⟩ dX7_carryOut_97) (k_free hD hS hA) hS (fun r_6 R_7 H1 locs1 hR_7 hP1 hD1 hS1 hk1 => ?_)
      have hR_7 : r_6 = R 1 13 ∧ R_7 = (upr R 1 (tAS (R 1) (R 7 0) (R 7 1) (R 7 2))) := hR_7
      obtain ⟨hr_6, rfl⟩ := hR_7
      have hr_6 : r_6 = R 1 13 := hr_6
      subst hr_6
      have hDn : va_D (va_A (rfW cy a R) sz) (rfW cy a (upr R 1 (tAS (R 1) (R 7 0) (R 7 1) (R 7 2)))) := k_addr hD rfl
      have hPn : va_P D vwCl (rfW cy a (upr R 1 (tAS (R 1) (R 7 0) (R 7 1) (R 7 2)))) H1 := hP1
      clear hP hD hS hP1 hD1 hk1
      have hP := hPn
      have hD := hDn
      have hS := hS1
      clear hPn hDn hS1
      generalize H1 = H at hP hS ⊢
      generalize locs1 = locs at hS ⊢
      exact W.iret (v := iI (R 1 13)) hx hb hr (fun t9 ht _ => ⟨⟨iI (R 1 13), (upr R 1 (tAS (R 1) (R 7 0) (R 7 1) (R 7 2))), rfl, ⟨(R 1 13), rfl, (by first | exact Or.inl ⟨((R 1 13)), (by omega), (by first | rfl | omega), (by rw [show (tAS (R 1) (R 7 0) (R 7 1) (R 7 2)) = (efM (R 1) (R 0 16) (R 7)) from (fv_2 (by omega)).2.symm])⟩ : (∃ (zr : Int), (R 0 16 < 6) ∧ (R 1 13 : Int) = zr ∧ (upr R 1 (tAS (R 1) (R 7 0) (R 7 1) (R 7 2))) = (upr R 1 (efM (R 1) (R 0 16) (R 7)))) ∨ (∃ (zr : Int) (x7 : Int) (x8 : Int) (x9 : Int), (R 0 16 = 6) ∧ (R 1 13 : Int) = zr ∧ (upr R 1 (tAS (R 1) (R 7 0) (R 7 1) (R 7 2))) = (upr (upr R 0 (ups (ups (ups (R 0) 7 x7) 8 x8) 9 x9)) 1 (efM (R 1) (R 0 16) (R 7)))))⟩, by rw [ht]; exact hP, hD⟩, hS.F ht⟩) hS.2.2 dX7_carryOut_100 hlocks
    · skip
      refine k_tin (tgt := 101) hx hb 3 c_1 (by decide) dX7_carryOut_4 (by decide) (by decide) rfl (by decide) ?_
      have hq0 := (fv_3 (M := R 1) (A := R 7) (show R 0 16 = 3 by omega)).1
      rw [hft] at hq0
      have hq := ft_y hq0.symm
      refine lv_aload_n hx hb dX7_carryOut_101 rfl (lv_at hl 0 rfl) ?_
      refine lv_aload_n hx hb dX7_carryOut_102 rfl (lv_at hl 0 rfl) ?_
      refine va_get (D := D) (ci := 6) (v := .ref (a 7)) (C := RX7) (T := TX7) (N := 19) hx hb hts hinX7 hown hK hP 0 rfl rfl 17 (by decide) hmw1 (fun _ h9 => h9) rfl dX7_carryOut_103 ?_
      refine k_iconst hx hb dX7_carryOut_106 ?_
      refine k_iald hx hb hK hP 7 0 (f := R 7) rfl rfl (i := 0) (by omega) dX7_carryOut_107 ?_
      refine lv_aload_n hx hb dX7_carryOut_108 rfl (lv_at hl 0 rfl) ?_
      refine va_get (D := D) (ci := 6) (v := .ref (a 7)) (C := RX7) (T := TX7) (N := 19) hx hb hts hinX7 hown hK hP 0 rfl rfl 17 (by decide) hmw1 (fun _ h9 => h9) rfl dX7_carryOut_109 ?_
      refine k_iconst hx hb dX7_carryOut_112 ?_
      refine k_iald hx hb hK hP 7 0 (f := R 7) rfl rfl (i := 1) (by omega) dX7_carryOut_113 ?_
      refine k_mui (k_runV (As := [.int (iI (R 7 0)), .int (iI (R 7 1))]) (rest := []) ⟨hx, hb, hml, hown, hts⟩ (c_X7_setsPole l D cy H.size a R (R 7 0) (R 7 1) hI (show poleOK (R 7 0) (R 7 1) from hq)) gX7_carryOut_X7_setsPole rfl ⟨rfl, rfl⟩ 2 rfl (by decide +kernel) ⟨Nat.le_of_ble_eq_true rfl, Nat.le_of_ble_eq_true rfl⟩ (GG_ok D cy) hG hS (k_free hD hS hA) hP hD (va_recv hK hP (ci := 6) (q0 := 0) rfl rfl) hl.1 rfl (Nat.le_of_ble_eq_true rfl) ⟨Nat.le_of_ble_eq_true rfl, Nat.le_of_ble_eq_true rfl⟩ dX7_carryOut_114) (k_free hD hS hA) hS (fun r_8 R_9 H1 locs1 hR_9 hP1 hD1 hS1 hk1 => ?_)
      have hR_9 : r_8 = pcost (tPo (R 1) (R 7 0) (R 7 1)) ∧ R_9 = (upr R 1 (tPo (R 1) (R 7 0) (R 7 1))) := hR_9
      obtain ⟨hr_8, rfl⟩ := hR_9
      have hr_8 : r_8 = pcost (tPo (R 1) (R 7 0) (R 7 1)) := hr_8
      subst hr_8
      have hDn : va_D (va_A (rfW cy a R) sz) (rfW cy a (upr R 1 (tPo (R 1) (R 7 0) (R 7 1)))) := k_addr hD rfl
      have hPn : va_P D vwCl (rfW cy a (upr R 1 (tPo (R 1) (R 7 0) (R 7 1)))) H1 := hP1
      clear hP hD hS hP1 hD1 hk1
      have hP := hPn
      have hD := hDn
      have hS := hS1
      clear hPn hDn hS1
      generalize H1 = H at hP hS ⊢
      generalize locs1 = locs at hS ⊢
      exact W.iret (v := iI (pcost (tPo (R 1) (R 7 0) (R 7 1)))) hx hb hr (fun t9 ht _ => ⟨⟨iI (pcost (tPo (R 1) (R 7 0) (R 7 1))), (upr R 1 (tPo (R 1) (R 7 0) (R 7 1))), rfl, ⟨(pcost (tPo (R 1) (R 7 0) (R 7 1))), rfl, (by first | exact Or.inl ⟨((pcost (tPo (R 1) (R 7 0) (R 7 1)))), (by omega), (by first | rfl | omega), (by rw [show (tPo (R 1) (R 7 0) (R 7 1)) = (efM (R 1) (R 0 16) (R 7)) from (fv_3 (by omega)).2.symm])⟩ : (∃ (zr : Int), (R 0 16 < 6) ∧ (pcost (tPo (R 1) (R 7 0) (R 7 1)) : Int) = zr ∧ (upr R 1 (tPo (R 1) (R 7 0) (R 7 1))) = (upr R 1 (efM (R 1) (R 0 16) (R 7)))) ∨ (∃ (zr : Int) (x7 : Int) (x8 : Int) (x9 : Int), (R 0 16 = 6) ∧ (pcost (tPo (R 1) (R 7 0) (R 7 1)) : Int) = zr ∧ (upr R 1 (tPo (R 1) (R 7 0) (R 7 1))) = (upr (upr R 0 (ups (ups (ups (R 0) 7 x7) 8 x8) 9 x9)) 1 (efM (R 1) (R 0 16) (R 7)))))⟩, by rw [ht]; exact hP, hD⟩, hS.F ht⟩) hS.2.2 dX7_carryOut_117 hlocks
    · skip
      refine k_tin (tgt := 118) hx hb 4 c_1 (by decide) dX7_carryOut_4 (by decide) (by decide) rfl (by decide) ?_
      have hq0 := (fv_4 (M := R 1) (A := R 7) (show R 0 16 = 4 by omega)).1
      rw [hft] at hq0
      have hq := ft_y hq0.symm
      have hq2 := id hq
      unfold setOK at hq2
      refine lv_aload_n hx hb dX7_carryOut_118 rfl (lv_at hl 0 rfl) ?_
      refine lv_aload_n hx hb dX7_carryOut_119 rfl (lv_at hl 0 rfl) ?_
      refine va_get (D := D) (ci := 6) (v := .ref (a 7)) (C := RX7) (T := TX7) (N := 19) hx hb hts hinX7 hown hK hP 0 rfl rfl 17 (by decide) hmw1 (fun _ h9 => h9) rfl dX7_carryOut_120 ?_
      refine k_iconst hx hb dX7_carryOut_123 ?_
      refine k_iald hx hb hK hP 7 0 (f := R 7) rfl rfl (i := 0) (by omega) dX7_carryOut_124 ?_
      refine lv_aload_n hx hb dX7_carryOut_125 rfl (lv_at hl 0 rfl) ?_
      refine va_get (D := D) (ci := 6) (v := .ref (a 7)) (C := RX7) (T := TX7) (N := 19) hx hb hts hinX7 hown hK hP 0 rfl rfl 17 (by decide) hmw1 (fun _ h9 => h9) rfl dX7_carryOut_126 ?_
      refine k_iconst hx hb dX7_carryOut_129 ?_
      refine k_iald hx hb hK hP 7 0 (f := R 7) rfl rfl (i := 1) (by omega) dX7_carryOut_130 ?_
      refine k_mui (k_runV (As := [.int (iI (R 7 0)), .int (iI (R 7 1))]) (rest := []) ⟨hx, hb, hml, hown, hts⟩ (c_X7_sets l D cy H.size a R (R 7 0) (R 7 1) (show 0 ≤ (R 7 0) ∧ (R 7 0) ≤ 11 by omega)) gX7_carryOut_X7_sets rfl ⟨rfl, rfl⟩ 2 rfl (by decide +kernel) ⟨Nat.le_of_ble_eq_true rfl, Nat.le_of_ble_eq_true rfl⟩ (GG_ok D cy) hG hS (k_free hD hS hA) hP hD (va_recv hK hP (ci := 6) (q0 := 0) rfl rfl) hl.1 rfl (Nat.le_of_ble_eq_true rfl) ⟨Nat.le_of_ble_eq_true rfl, Nat.le_of_ble_eq_true rfl⟩ dX7_carryOut_131) (k_free hD hS hA) hS (fun r_10 R_11 H1 locs1 hR_11 hP1 hD1 hS1 hk1 => ?_)
      have hR_11 : r_10 = R 1 (R 7 0) ∧ R_11 = upr R 1 (ups (R 1) (R 7 0) (R 7 1)) := hR_11
      obtain ⟨hr_10, rfl⟩ := hR_11
      have hr_10 : r_10 = R 1 (R 7 0) := hr_10
      subst hr_10
      have hDn : va_D (va_A (rfW cy a R) sz) (rfW cy a (upr R 1 (ups (R 1) (R 7 0) (R 7 1)))) := k_addr hD rfl
      have hPn : va_P D vwCl (rfW cy a (upr R 1 (ups (R 1) (R 7 0) (R 7 1)))) H1 := hP1
      clear hP hD hS hP1 hD1 hk1
      have hP := hPn
      have hD := hDn
      have hS := hS1
      clear hPn hDn hS1
      generalize H1 = H at hP hS ⊢
      generalize locs1 = locs at hS ⊢
      exact W.iret (v := iI (R 1 (R 7 0))) hx hb hr (fun t9 ht _ => ⟨⟨iI (R 1 (R 7 0)), (upr R 1 (ups (R 1) (R 7 0) (R 7 1))), rfl, ⟨(R 1 (R 7 0)), rfl, (by first | exact Or.inl ⟨((R 1 (R 7 0))), (by omega), (by first | rfl | omega), (by rw [show (ups (R 1) (R 7 0) (R 7 1)) = (efM (R 1) (R 0 16) (R 7)) from (fv_4 (by omega)).2.symm])⟩ : (∃ (zr : Int), (R 0 16 < 6) ∧ (R 1 (R 7 0) : Int) = zr ∧ (upr R 1 (ups (R 1) (R 7 0) (R 7 1))) = (upr R 1 (efM (R 1) (R 0 16) (R 7)))) ∨ (∃ (zr : Int) (x7 : Int) (x8 : Int) (x9 : Int), (R 0 16 = 6) ∧ (R 1 (R 7 0) : Int) = zr ∧ (upr R 1 (ups (R 1) (R 7 0) (R 7 1))) = (upr (upr R 0 (ups (ups (ups (R 0) 7 x7) 8 x8) 9 x9)) 1 (efM (R 1) (R 0 16) (R 7)))))⟩, by rw [ht]; exact hP, hD⟩, hS.F ht⟩) hS.2.2 dX7_carryOut_134 hlocks
    · skip
      refine k_tin (tgt := 135) hx hb 5 c_1 (by decide) dX7_carryOut_4 (by decide) (by decide) rfl (by decide) ?_
      have hq0 := (fv_5 (M := R 1) (A := R 7) (show R 0 16 = 5 by omega)).1
      rw [hft] at hq0
      have hq := ft_y hq0.symm
      refine lv_aload_n hx hb dX7_carryOut_135 rfl (lv_at hl 0 rfl) ?_
      refine k_iconst hx hb dX7_carryOut_136 ?_
      refine lv_aload_n hx hb dX7_carryOut_137 rfl (lv_at hl 0 rfl) ?_
      refine va_get (D := D) (ci := 6) (v := .ref (a 7)) (C := RX7) (T := TX7) (N := 19) hx hb hts hinX7 hown hK hP 0 rfl rfl 17 (by decide) hmw1 (fun _ h9 => h9) rfl dX7_carryOut_138 ?_
      refine k_iconst hx hb dX7_carryOut_141 ?_
      refine k_iald hx hb hK hP 7 0 (f := R 7) rfl rfl (i := 0) (by omega) dX7_carryOut_142 ?_
      refine k_ineg hx hb dX7_carryOut_143 ?_
      refine k_mui (k_runV (As := [.int (iI 0), .int (iI (-(R 7 0)))]) (rest := []) ⟨hx, hb, hml, hown, hts⟩ (c_X7_sets l D cy H.size a R 0 (-(R 7 0)) (show 0 ≤ 0 ∧ 0 ≤ 11 by omega)) gX7_carryOut_X7_sets rfl ⟨rfl, rfl⟩ 2 rfl (by decide +kernel) ⟨Nat.le_of_ble_eq_true rfl, Nat.le_of_ble_eq_true rfl⟩ (GG_ok D cy) hG hS (k_free hD hS hA) hP hD (va_recv hK hP (ci := 6) (q0 := 0) rfl rfl) hl.1 rfl (Nat.le_of_ble_eq_true rfl) ⟨Nat.le_of_ble_eq_true rfl, Nat.le_of_ble_eq_true rfl⟩ dX7_carryOut_144) (k_free hD hS hA) hS (fun r_12 R_13 H1 locs1 hR_13 hP1 hD1 hS1 hk1 => ?_)
      have hR_13 : r_12 = R 1 0 ∧ R_13 = upr R 1 (ups (R 1) 0 (-(R 7 0))) := hR_13
      obtain ⟨hr_12, rfl⟩ := hR_13
      have hr_12 : r_12 = R 1 0 := hr_12
      subst hr_12
      have hDn : va_D (va_A (rfW cy a R) sz) (rfW cy a (upr R 1 (ups (R 1) 0 (-(R 7 0))))) := k_addr hD rfl
      have hPn : va_P D vwCl (rfW cy a (upr R 1 (ups (R 1) 0 (-(R 7 0))))) H1 := hP1
      clear hP hD hS hP1 hD1 hk1
      have hP := hPn
      have hD := hDn
      have hS := hS1
      clear hPn hDn hS1
      generalize H1 = H at hP hS ⊢
      generalize locs1 = locs at hS ⊢
      exact W.iret (v := iI (R 1 0)) hx hb hr (fun t9 ht _ => ⟨⟨iI (R 1 0), (upr R 1 (ups (R 1) 0 (-(R 7 0)))), rfl, ⟨(R 1 0), rfl, (by first | exact Or.inl ⟨((R 1 0)), (by omega), (by first | rfl | omega), (by rw [show (ups (R 1) 0 (-(R 7 0))) = (efM (R 1) (R 0 16) (R 7)) from (fv_5 (by omega)).2.symm])⟩ : (∃ (zr : Int), (R 0 16 < 6) ∧ (R 1 0 : Int) = zr ∧ (upr R 1 (ups (R 1) 0 (-(R 7 0)))) = (upr R 1 (efM (R 1) (R 0 16) (R 7)))) ∨ (∃ (zr : Int) (x7 : Int) (x8 : Int) (x9 : Int), (R 0 16 = 6) ∧ (R 1 0 : Int) = zr ∧ (upr R 1 (ups (R 1) 0 (-(R 7 0)))) = (upr (upr R 0 (ups (ups (ups (R 0) 7 x7) 8 x8) 9 x9)) 1 (efM (R 1) (R 0 16) (R 7)))))⟩, by rw [ht]; exact hP, hD⟩, hS.F ht⟩) hS.2.2 dX7_carryOut_147 hlocks
    · skip
      refine k_tout (tgt := 148) hx hb (by omega) dX7_carryOut_4 c_1 (by decide) ?_
      have hq0 := (fv_6 (M := R 1) (A := R 7) (show R 0 16 = 6 by omega)).1
      rw [hft] at hq0
      have hq := ft_y hq0.symm
      refine lv_aload_n hx hb dX7_carryOut_148 rfl (lv_at hl 0 rfl) ?_
      refine lv_aload_n hx hb dX7_carryOut_149 rfl (lv_at hl 0 rfl) ?_
      refine va_get (D := D) (ci := 6) (v := .ref (a 7)) (C := RX7) (T := TX7) (N := 19) hx hb hts hinX7 hown hK hP 0 rfl rfl 17 (by decide) hmw1 (fun _ h9 => h9) rfl dX7_carryOut_150 ?_
      refine k_iconst hx hb dX7_carryOut_153 ?_
      refine k_iald hx hb hK hP 7 0 (f := R 7) rfl rfl (i := 0) (by omega) dX7_carryOut_154 ?_
      refine k_mui (k_runV (As := [.int (iI (R 7 0))]) (rest := []) ⟨hx, hb, hml, hown, hts⟩ (c_X7_searches l D cy H.size a R (R 7 0) hI (show 1 ≤ (R 7 0) ∧ (R 7 0) ≤ 512 by omega)) gX7_carryOut_X7_searches rfl ⟨rfl, rfl⟩ 1 rfl (by decide +kernel) ⟨Nat.le_of_ble_eq_true rfl, Nat.le_of_ble_eq_true rfl⟩ (GG_ok D cy) hG hS (k_free hD hS hA) hP hD (va_recv hK hP (ci := 6) (q0 := 0) rfl rfl) hl.1 rfl (Nat.le_of_ble_eq_true rfl) ⟨Nat.le_of_ble_eq_true rfl, Nat.le_of_ble_eq_true rfl⟩ dX7_carryOut_155) (k_free hD hS hA) hS (fun r_14 R_15 H1 locs1 hR_15 hP1 hD1 hS1 hk1 => ?_)
      have hR_15 : ∃ (za : Int) (zb : Int) (zc : Int), (r_14 = (srch (R 1) (R 7 0)).2) ∧ (R_15 = (upr (upr R 0 (ups (ups (ups (R 0) 7 za) 8 zb) 9 zc)) 1 ((srch (R 1) (R 7 0)).1))) := hR_15
      obtain ⟨za_16, zb_17, zc_18, hr_14, hR_15⟩ := hR_15
      subst hR_15
      have hr_14 : r_14 = (srch (R 1) (R 7 0)).2 := hr_14
      subst hr_14
      have hDn : va_D (va_A (rfW cy a R) sz) (rfW cy a (upr (upr R 0 (ups (ups (ups (R 0) 7 za_16) 8 zb_17) 9 zc_18)) 1 ((srch (R 1) (R 7 0)).1))) := k_addr hD rfl
      have hPn : va_P D vwCl (rfW cy a (upr (upr R 0 (ups (ups (ups (R 0) 7 za_16) 8 zb_17) 9 zc_18)) 1 ((srch (R 1) (R 7 0)).1))) H1 := hP1
      clear hP hD hS hP1 hD1 hk1
      have hP := hPn
      have hD := hDn
      have hS := hS1
      clear hPn hDn hS1
      generalize H1 = H at hP hS ⊢
      generalize locs1 = locs at hS ⊢
      exact W.iret (v := iI ((srch (R 1) (R 7 0)).2)) hx hb hr (fun t9 ht _ => ⟨⟨iI ((srch (R 1) (R 7 0)).2), (upr (upr R 0 (ups (ups (ups (R 0) 7 za_16) 8 zb_17) 9 zc_18)) 1 ((srch (R 1) (R 7 0)).1)), rfl, ⟨((srch (R 1) (R 7 0)).2), rfl, (by first | exact Or.inr (⟨(((srch (R 1) (R 7 0)).2)), (za_16), (zb_17), (zc_18), (by omega), (by first | rfl | omega), (by rw [show ((srch (R 1) (R 7 0)).1) = (efM (R 1) (R 0 16) (R 7)) from (fv_6 (by omega)).2.symm])⟩) : (∃ (zr : Int), (R 0 16 < 6) ∧ ((srch (R 1) (R 7 0)).2 : Int) = zr ∧ (upr (upr R 0 (ups (ups (ups (R 0) 7 za_16) 8 zb_17) 9 zc_18)) 1 ((srch (R 1) (R 7 0)).1)) = (upr R 1 (efM (R 1) (R 0 16) (R 7)))) ∨ (∃ (zr : Int) (x7 : Int) (x8 : Int) (x9 : Int), (R 0 16 = 6) ∧ ((srch (R 1) (R 7 0)).2 : Int) = zr ∧ (upr (upr R 0 (ups (ups (ups (R 0) 7 za_16) 8 zb_17) 9 zc_18)) 1 ((srch (R 1) (R 7 0)).1)) = (upr (upr R 0 (ups (ups (ups (R 0) 7 x7) 8 x8) 9 x9)) 1 (efM (R 1) (R 0 16) (R 7)))))⟩, by rw [ht]; exact hP, hD⟩, hS.F ht⟩) hS.2.2 dX7_carryOut_158 hlocks
  exact hbody s.heap [] hP hS ls hl
