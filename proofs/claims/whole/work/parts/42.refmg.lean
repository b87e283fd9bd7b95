set_option maxHeartbeats 4000000 in
set_option maxRecDepth 100000 in
theorem c_X7_runCommands (l : Launch) (D : va_G) (cy : Nat → ClassId) (sz : Nat) (a : Nat → Nat) (R : Nat → Int → Int)  (hI : Inv (R 1)) (hsc : 0 ≤ R 0 2 ∧ R 0 2 ≤ 4) (hn0 : 0 ≤ R 0 4) (htn : R 0 4 ≤ 150) (hT : ∀ k : Int, 0 ≤ k → k < 150 → 0 ≤ R 3 k ∧ R 3 k ≤ 127) (hnm : nmOK (R 7)) : Met l yX7_runCommands wsX7_runCommands { frames := 10, cells := 0, slots := 0, locals := 230 } (mPre (GG D cy) D (rfW cy a R) sz ([.ref (a 0)] : List Value)) (kQi D (rfW cy a R) sz (fun u9 : Nat → Int → Int => rfW cy a u9) (fun r9 u9 => (∃ (zc : Int) (zb : Int → Int) (zx : Int), (nmOK zb ∧ (prsF (R 3) (R 0 4) (skp (R 3) (R 0 4) 0)) = (0, zx)) ∧ r9 = -10 - zx ∧ u9 = (upr (upr R 0 (ups (ups (ups (R 0) 6 0) 16 zc) 15 zx)) 7 (zb))) ∨ (∃ (A0 : Int → Int) (zb : Int → Int) (zm : Int → Int) (zn : Int) (z5 : Int) (zc : Int) (zq : Int) (z7 : Int) (z8 : Int) (z9 : Int), ((∃ zx : Int, (prsF (R 3) (R 0 4) (skp (R 3) (R 0 4) 0)) = (1, zx)) ∧ nmOK A0 ∧ nmOK zb ∧ (rcF (R 3) (R 0 4) (skp (R 3) (R 0 4) 0) (R 1) A0 0) = (z5, zn, zm)) ∧ r9 = zn ∧ u9 = (upr (upr (upr (upr R 0 (ups (ups (ups (ups (ups (ups (ups (ups (R 0) 6 0) 2 (kpN (R 0 2))) 5 z5) 16 zc) 15 zq) 7 z7) 8 z8) 9 z9)) 1 (zm)) 2 (kpS (R 2) (R 1) (R 0 2))) 7 (zb))))) 0 0 (va_A (rfW cy a R) sz) := by
  refine kM_start (cc := cX7_runCommands) (maxL := 4) (ret := (some .int)) (by decide) rfl (Nat.le_of_ble_eq_true rfl) ?_
  intro p e s m below meth c hx hb hr hlocks hml hts hown hsz hA hG hP hD hS hin ls hl
  have hK := hG.1
  have hl : lv_has ls 4 [(0, .ref (a 0))] := hl
  have hinX7 : ∀ w ∈ u_ws RX7 TX7 19, w ∈ wsX7_runCommands := by decide +kernel
  have hmw0 := hts (.fieldLink RX7 31 "ArcPlateModel" "code" "I") (by decide +kernel)
  have hmw1 := hts (.fieldLink RX7 250 "ArcPlateModel" "place" "I") (by decide +kernel)
  have hmw2 := hts (.fieldLink RX7 301 "ArcPlateModel" "stop" "I") (by decide +kernel)
  have hmw3 := hts (.fieldLink RX7 247 "ArcPlateModel" "textLength" "I") (by decide +kernel)
  have hbody : ∀ (H : Heap) (locs : List Loc) (hP : va_P D vwCl (rfW cy a R) H) (hS : va_S (va_A (rfW cy a R) sz) s.heap H locs) (ls : Array Slot) (hl : lv_has ls 4 [(0, .ref (a 0))]), W p l e { frames := 10, cells := 0, slots := 0, locals := 230 } s m ([.ref (a 0)] : List Value).toArray below meth c H locs 0 0 (MQ below (kQi D (rfW cy a R) sz (fun u9 : Nat → Int → Int => rfW cy a u9) (fun r9 u9 => (∃ (zc : Int) (zb : Int → Int) (zx : Int), (nmOK zb ∧ (prsF (R 3) (R 0 4) (skp (R 3) (R 0 4) 0)) = (0, zx)) ∧ r9 = -10 - zx ∧ u9 = (upr (upr R 0 (ups (ups (ups (R 0) 6 0) 16 zc) 15 zx)) 7 (zb))) ∨ (∃ (A0 : Int → Int) (zb : Int → Int) (zm : Int → Int) (zn : Int) (z5 : Int) (zc : Int) (zq : Int) (z7 : Int) (z8 : Int) (z9 : Int), ((∃ zx : Int, (prsF (R 3) (R 0 4) (skp (R 3) (R 0 4) 0)) = (1, zx)) ∧ nmOK A0 ∧ nmOK zb ∧ (rcF (R 3) (R 0 4) (skp (R 3) (R 0 4) 0) (R 1) A0 0) = (z5, zn, zm)) ∧ r9 = zn ∧ u9 = (upr (upr (upr (upr R 0 (ups (ups (ups (ups (ups (ups (ups (ups (R 0) 6 0) 2 (kpN (R 0 2))) 5 z5) 16 zc) 15 zq) 7 z7) 8 z8) 9 z9)) 1 (zm)) 2 (kpS (R 2) (R 1) (R 0 2))) 7 (zb))))) ([.ref (a 0)] : List Value).toArray s 0 0 (va_A (rfW cy a R) sz)) (F0 m 0 ls []) := by
    intro H locs hP hS ls hl
    refine lv_aload_n hx hb dX7_runCommands_0 rfl (lv_at hl 0 rfl) ?_
    refine k_iconst hx hb dX7_runCommands_1 ?_
    refine va_put (D := D) (ci := 6) (v := .int (iI 0)) (ty := .int) (C := RX7) (T := TX7) (N := 19) hx hb hts hinX7 tyX7 tyX7_ok nmX7 hown hK hP hD hS 0 rfl rfl 6 (by decide) hmw0 (fun _ h9 => h9) rfl (by decide +kernel) rfl rfl (Nat.le_of_ble_eq_true rfl) dX7_runCommands_2 (fun H locs hP hD hS => ?_)
    have hP : va_P D vwCl (rfW cy a (upr R 0 (ups (R 0) 6 0))) H := hP
    have hD : va_D (va_A (rfW cy a R) sz) (rfW cy a (upr R 0 (ups (R 0) 6 0))) := hD
    refine lv_aload_n hx hb dX7_runCommands_5 rfl (lv_at hl 0 rfl) ?_
    refine k_mui (k_runV (As := []) (rest := []) ⟨hx, hb, hml, hown, hts⟩ (c_X7_isText l D cy H.size a (upr R 0 (ups (R 0) 6 0)) (show 0 ≤ (R 0 4) by omega) (show (R 0 4) ≤ 150 by omega) (show ∀ k : Int, 0 ≤ k → k < 150 → 0 ≤ (R 3) k ∧ (R 3) k ≤ 127 by omega) (show nmOK ((R 7)) from hnm)) gX7_runCommands_X7_isText rfl ⟨rfl, rfl⟩ 0 rfl (by decide +kernel) ⟨Nat.le_of_ble_eq_true rfl, Nat.le_of_ble_eq_true rfl⟩ (GG_ok D cy) hG hS (k_free hD hS hA) hP hD (va_recv hK hP (ci := 6) (q0 := 0) rfl rfl) hl.1 rfl (Nat.le_of_ble_eq_true rfl) ⟨Nat.le_of_ble_eq_true rfl, Nat.le_of_ble_eq_true rfl⟩ dX7_runCommands_6) (k_free hD hS hA) hS (fun r_1 R_2 H1 locs1 hR_2 hP1 hD1 hS1 hk1 => ?_)
    rcases hR_2 with ⟨zc_4, zb_5, zx_6, c_3, hr_1, hR_2⟩ | ⟨zc_7, zb_8, zx_9, c_3, hr_1, hR_2⟩
    · skip
      have c_3 : nmOK zb_5 ∧ (prsF (R 3) ((R 0 4)) (skp (R 3) ((R 0 4)) 0)) = (0, zx_6) := c_3
      subst hr_1
      subst hR_2
      have hDn : va_D (va_A (rfW cy a R) sz) (rfW cy a (upr (upr R 0 (ups (ups (ups (R 0) 6 0) 16 zc_4) 15 zx_6)) 7 (zb_5))) := k_addr hD rfl
      have hPn : va_P D vwCl (rfW cy a (upr (upr R 0 (ups (ups (ups (R 0) 6 0) 16 zc_4) 15 zx_6)) 7 (zb_5))) H1 := hP1
      clear hP hD hS hP1 hD1 hk1
      have hP := hPn
      have hD := hDn
      have hS := hS1
      clear hPn hDn hS1
      generalize H1 = H at hP hS ⊢
      generalize locs1 = locs at hS ⊢
      have hit := c_3
      refine k_if_ne (tgt := 20) hx hb dX7_runCommands_9 (by decide) (by omega) (fun c_10 => ?_) (fun c_10 => ?_)
      · exfalso; omega
      · skip
        refine k_bipush hx hb dX7_runCommands_12 (by decide +kernel) ?_
        refine lv_aload_n hx hb dX7_runCommands_14 rfl (lv_at hl 0 rfl) ?_
        refine va_get (D := D) (ci := 6) (v := .int (iI zx_6)) (C := RX7) (T := TX7) (N := 19) hx hb hts hinX7 hown hK hP 0 rfl rfl 15 (by decide) hmw1 (fun _ h9 => h9) rfl dX7_runCommands_15 ?_
        refine k_isub hx hb dX7_runCommands_18 ?_
        exact W.iret (v := iI ((-10) - zx_6)) hx hb hr (fun t9 ht _ => ⟨⟨iI ((-10) - zx_6), (upr (upr R 0 (ups (ups (ups (R 0) 6 0) 16 zc_4) 15 zx_6)) 7 (zb_5)), rfl, ⟨((-10) - zx_6), rfl, (by first | exact Or.inl ⟨(zc_4), (zb_5), (zx_6), (hit), (by first | rfl | omega), rfl⟩ : (∃ (zc : Int) (zb : Int → Int) (zx : Int), (nmOK zb ∧ (prsF (R 3) (R 0 4) (skp (R 3) (R 0 4) 0)) = (0, zx)) ∧ ((-10) - zx_6 : Int) = -10 - zx ∧ (upr (upr R 0 (ups (ups (ups (R 0) 6 0) 16 zc_4) 15 zx_6)) 7 (zb_5)) = (upr (upr R 0 (ups (ups (ups (R 0) 6 0) 16 zc) 15 zx)) 7 (zb))) ∨ (∃ (A0 : Int → Int) (zb : Int → Int) (zm : Int → Int) (zn : Int) (z5 : Int) (zc : Int) (zq : Int) (z7 : Int) (z8 : Int) (z9 : Int), ((∃ zx : Int, (prsF (R 3) (R 0 4) (skp (R 3) (R 0 4) 0)) = (1, zx)) ∧ nmOK A0 ∧ nmOK zb ∧ (rcF (R 3) (R 0 4) (skp (R 3) (R 0 4) 0) (R 1) A0 0) = (z5, zn, zm)) ∧ ((-10) - zx_6 : Int) = zn ∧ (upr (upr R 0 (ups (ups (ups (R 0) 6 0) 16 zc_4) 15 zx_6)) 7 (zb_5)) = (upr (upr (upr (upr R 0 (ups (ups (ups (ups (ups (ups (ups (ups (R 0) 6 0) 2 (kpN (R 0 2))) 5 z5) 16 zc) 15 zq) 7 z7) 8 z8) 9 z9)) 1 (zm)) 2 (kpS (R 2) (R 1) (R 0 2))) 7 (zb))))⟩, by rw [ht]; exact hP, hD⟩, hS.F ht⟩) hS.2.2 dX7_runCommands_19 hlocks
    · skip
      have c_3 : nmOK zb_8 ∧ (prsF (R 3) ((R 0 4)) (skp (R 3) ((R 0 4)) 0)) = (1, zx_9) := c_3
      subst hr_1
      subst hR_2
      have hDn : va_D (va_A (rfW cy a R) sz) (rfW cy a (upr (upr R 0 (ups (ups (ups (R 0) 6 0) 16 zc_7) 15 zx_9)) 7 (zb_8))) := k_addr hD rfl
      have hPn : va_P D vwCl (rfW cy a (upr (upr R 0 (ups (ups (ups (R 0) 6 0) 16 zc_7) 15 zx_9)) 7 (zb_8))) H1 := hP1
      clear hP hD hS hP1 hD1 hk1
      have hP := hPn
      have hD := hDn
      have hS := hS1
      clear hPn hDn hS1
      generalize H1 = H at hP hS ⊢
      generalize locs1 = locs at hS ⊢
      have hit := c_3
      have hsk0 := skp_le (T := R 3) hn0
      refine k_if_ne (tgt := 20) hx hb dX7_runCommands_9 (by decide) (by omega) (fun c_11 => ?_) (fun c_11 => ?_)
      · skip
        refine lv_aload_n hx hb dX7_runCommands_20 rfl (lv_at hl 0 rfl) ?_
        refine k_muv (k_runV (As := []) (rest := []) ⟨hx, hb, hml, hown, hts⟩ (c_X7_keep l D cy H.size a (upr (upr R 0 (ups (ups (ups (R 0) 6 0) 16 zc_7) 15 zx_9)) 7 (zb_8)) (show 0 ≤ (((R 0 2))) ∧ (((R 0 2))) ≤ 4 by omega)) gX7_runCommands_X7_keep rfl ⟨rfl, rfl⟩ 0 rfl (by decide +kernel) ⟨Nat.le_of_ble_eq_true rfl, Nat.le_of_ble_eq_true rfl⟩ (GG_ok D cy) hG hS (k_free hD hS hA) hP hD (va_recv hK hP (ci := 6) (q0 := 0) rfl rfl) hl.1 rfl (Nat.le_of_ble_eq_true rfl) ⟨Nat.le_of_ble_eq_true rfl, Nat.le_of_ble_eq_true rfl⟩ dX7_runCommands_21) (k_free hD hS hA) hS (fun R_13 H1 locs1 hR_13 hP1 hD1 hS1 hk1 => ?_)
        have hR_13 : R_13 = (upr (upr (upr (upr R 0 (ups (ups (ups (R 0) 6 0) 16 zc_7) 15 zx_9)) 7 (zb_8)) 0 (ups (ups (ups (ups (R 0) 6 0) 16 zc_7) 15 zx_9) 2 (kpN ((((R 0 2))))))) 2 (kpS (R 2) (R 1) ((((R 0 2)))))) := hR_13
        subst hR_13
        have hDn : va_D (va_A (rfW cy a R) sz) (rfW cy a (upr (upr (upr R 0 (ups (ups (ups (ups (R 0) 6 0) 16 zc_7) 15 zx_9) 2 (kpN ((((R 0 2))))))) 2 (kpS (R 2) (R 1) ((((R 0 2)))))) 7 (zb_8))) := k_addr hD rfl
        have hPn : va_P D vwCl (rfW cy a (upr (upr (upr R 0 (ups (ups (ups (ups (R 0) 6 0) 16 zc_7) 15 zx_9) 2 (kpN ((((R 0 2))))))) 2 (kpS (R 2) (R 1) ((((R 0 2)))))) 7 (zb_8))) H1 := hP1
        clear hP hD hS hP1 hD1 hk1
        have hP := hPn
        have hD := hDn
        have hS := hS1
        clear hPn hDn hS1
        generalize H1 = H at hP hS ⊢
        generalize locs1 = locs at hS ⊢
        refine lv_aload_n hx hb dX7_runCommands_24 rfl (lv_at hl 0 rfl) ?_
        refine k_iconst hx hb dX7_runCommands_25 ?_
        refine va_put (D := D) (ci := 6) (v := .int (iI 0)) (ty := .int) (C := RX7) (T := TX7) (N := 19) hx hb hts hinX7 tyX7 tyX7_ok nmX7 hown hK hP hD hS 0 rfl rfl 15 (by decide) hmw1 (fun _ h9 => h9) rfl (by decide +kernel) rfl rfl (Nat.le_of_ble_eq_true rfl) dX7_runCommands_26 (fun H locs hP hD hS => ?_)
        have hP : va_P D vwCl (rfW cy a (upr (upr (upr R 0 (ups (ups (ups (ups (ups (R 0) 6 0) 16 zc_7) 15 zx_9) 2 (kpN ((((R 0 2)))))) 15 0)) 2 (kpS (R 2) (R 1) ((((R 0 2)))))) 7 (zb_8))) H := hP
        have hD : va_D (va_A (rfW cy a R) sz) (rfW cy a (upr (upr (upr R 0 (ups (ups (ups (ups (ups (R 0) 6 0) 16 zc_7) 15 zx_9) 2 (kpN ((((R 0 2)))))) 15 0)) 2 (kpS (R 2) (R 1) ((((R 0 2)))))) 7 (zb_8))) := hD
        refine lv_aload_n hx hb dX7_runCommands_29 rfl (lv_at hl 0 rfl) ?_
        refine k_iconst hx hb dX7_runCommands_30 ?_
        refine va_put (D := D) (ci := 6) (v := .int (iI 0)) (ty := .int) (C := RX7) (T := TX7) (N := 19) hx hb hts hinX7 tyX7 tyX7_ok nmX7 hown hK hP hD hS 0 rfl rfl 5 (by decide) hmw2 (fun _ h9 => h9) rfl (by decide +kernel) rfl rfl (Nat.le_of_ble_eq_true rfl) dX7_runCommands_31 (fun H locs hP hD hS => ?_)
        have hP : va_P D vwCl (rfW cy a (upr (upr (upr R 0 (ups (ups (ups (ups (ups (ups (R 0) 6 0) 16 zc_7) 15 zx_9) 2 (kpN ((((R 0 2)))))) 15 0) 5 0)) 2 (kpS (R 2) (R 1) ((((R 0 2)))))) 7 (zb_8))) H := hP
        have hD : va_D (va_A (rfW cy a R) sz) (rfW cy a (upr (upr (upr R 0 (ups (ups (ups (ups (ups (ups (R 0) 6 0) 16 zc_7) 15 zx_9) 2 (kpN ((((R 0 2)))))) 15 0) 5 0)) 2 (kpS (R 2) (R 1) ((((R 0 2)))))) 7 (zb_8))) := hD
        refine k_iconst hx hb dX7_runCommands_34 ?_
        refine lv_istore_n (lv' := [(1, .int (iI 0)), (0, .ref (a 0))]) hx hb dX7_runCommands_35 rfl hl (by decide) rfl (fun ls hl => ?_)
        refine lv_aload_n hx hb dX7_runCommands_36 rfl (lv_at hl 1 rfl) ?_
        refine k_mui (k_runV (As := []) (rest := []) ⟨hx, hb, hml, hown, hts⟩ (c_X7_skips l D cy H.size a (upr (upr (upr R 0 (ups (ups (ups (ups (ups (ups (R 0) 6 0) 16 zc_7) 15 zx_9) 2 (kpN ((((R 0 2)))))) 15 0) 5 0)) 2 (kpS (R 2) (R 1) ((((R 0 2)))))) 7 (zb_8)) (show 0 ≤ (0) ∧ (0) ≤ ((((((R 0 4)))))) by omega) (show ((((((R 0 4)))))) ≤ 150 by omega) (show ∀ k : Int, 0 ≤ k → k < 150 → 0 ≤ (R 3) k ∧ (R 3) k ≤ 127 by omega)) gX7_runCommands_X7_skips rfl ⟨rfl, rfl⟩ 0 rfl (by decide +kernel) ⟨Nat.le_of_ble_eq_true rfl, Nat.le_of_ble_eq_true rfl⟩ (GG_ok D cy) hG hS (k_free hD hS hA) hP hD (va_recv hK hP (ci := 6) (q0 := 0) rfl rfl) hl.1 rfl (Nat.le_of_ble_eq_true rfl) ⟨Nat.le_of_ble_eq_true rfl, Nat.le_of_ble_eq_true rfl⟩ dX7_runCommands_37) (k_free hD hS hA) hS (fun r_14 R_15 H1 locs1 hR_15 hP1 hD1 hS1 hk1 => ?_)
        rcases hR_15 with ⟨c_16, hr_14, hR_15⟩ | ⟨c_16, hr_14, hR_15⟩
        · skip
          have c_16 : (0) < (skp (R 3) (((((((R 0 4))))))) ((0))) := c_16
          subst hr_14
          subst hR_15
          have hDn : va_D (va_A (rfW cy a R) sz) (rfW cy a (upr (upr (upr R 0 (ups (ups (ups (ups (ups (ups (ups (R 0) 6 0) 16 zc_7) 15 zx_9) 2 (kpN (R 0 2))) 15 0) 5 0) 15 (skp (R 3) (((((((R 0 4))))))) ((0))))) 2 (kpS (R 2) (R 1) ((((R 0 2)))))) 7 (zb_8))) := k_addr hD rfl
          have hPn : va_P D vwCl (rfW cy a (upr (upr (upr R 0 (ups (ups (ups (ups (ups (ups (ups (R 0) 6 0) 16 zc_7) 15 zx_9) 2 (kpN (R 0 2))) 15 0) 5 0) 15 (skp (R 3) (((((((R 0 4))))))) ((0))))) 2 (kpS (R 2) (R 1) ((((R 0 2)))))) 7 (zb_8))) H1 := hP1
          clear hP hD hS hP1 hD1 hk1
          have hP := hPn
          have hD := hDn
          have hS := hS1
          clear hPn hDn hS1
          generalize H1 = H at hP hS ⊢
          generalize locs1 = locs at hS ⊢
          refine lv_istore_n (lv' := [(2, .int (iI 1)), (1, .int (iI 0)), (0, .ref (a 0))]) hx hb dX7_runCommands_40 rfl hl (by decide) rfl (fun ls hl => ?_)
          have loop41 : ∀ (n_17 : Nat) (A0 : Int → Int) (q : Int) (M : Int → Int) (A : Int → Int) (st5 : Int) (cm : Int) (y7 : Int) (y8 : Int) (y9 : Int) (c9 : Int) (hi0 : 0 ≤ q ∧ q ≤ R 0 4) (hi1 : nmOK A) (hi2 : Inv M) (hi3 : 0 ≤ st5 ∧ st5 ≤ 3) (hi4 : (st5 = 0 ∧ rcF (R 3) (R 0 4) q M A c9 = (rcF (R 3) (R 0 4) (skp (R 3) (R 0 4) 0) (R 1) A0 0) ∧ ∃ zx : Int, prsF (R 3) (R 0 4) q = (1, zx)) ∨ (¬ st5 = 0 ∧ (rcF (R 3) (R 0 4) (skp (R 3) (R 0 4) 0) (R 1) A0 0) = (st5, c9, M))) (hi5 : nmOK A0) (hi6 : ∃ zx : Int, (prsF (R 3) (R 0 4) (skp (R 3) (R 0 4) 0)) = (1, zx)) (hn : R 0 4 - q < (n_17 : Int)) (H : Heap) (locs : List Loc) (hP : va_P D vwCl (rfW cy a (upr (upr (upr (upr R 0 (ups (ups (ups (ups (ups (ups (ups (ups (R 0) 6 0) 2 (kpN (R 0 2))) 5 st5) 16 cm) 15 q) 7 y7) 8 y8) 9 y9)) 1 (M)) 2 (kpS (R 2) (R 1) (R 0 2))) 7 (A))) H) (hD : va_D (va_A (rfW cy a R) sz) (rfW cy a (upr (upr (upr (upr R 0 (ups (ups (ups (ups (ups (ups (ups (ups (R 0) 6 0) 2 (kpN (R 0 2))) 5 st5) 16 cm) 15 q) 7 y7) 8 y8) 9 y9)) 1 (M)) 2 (kpS (R 2) (R 1) (R 0 2))) 7 (A)))) (hS : va_S (va_A (rfW cy a R) sz) s.heap H locs) (ls : Array Slot) (hl : lv_has ls 4 [(1, .int (iI c9)), (0, .ref (a 0))]), W p l e { frames := 10, cells := 0, slots := 0, locals := 230 } s m ([.ref (a 0)] : List Value).toArray below meth c H locs 0 0 (MQ below (kQi D (rfW cy a R) sz (fun u9 : Nat → Int → Int => rfW cy a u9) (fun r9 u9 => (∃ (zc : Int) (zb : Int → Int) (zx : Int), (nmOK zb ∧ (prsF (R 3) (R 0 4) (skp (R 3) (R 0 4) 0)) = (0, zx)) ∧ r9 = -10 - zx ∧ u9 = (upr (upr R 0 (ups (ups (ups (R 0) 6 0) 16 zc) 15 zx)) 7 (zb))) ∨ (∃ (A0 : Int → Int) (zb : Int → Int) (zm : Int → Int) (zn : Int) (z5 : Int) (zc : Int) (zq : Int) (z7 : Int) (z8 : Int) (z9 : Int), ((∃ zx : Int, (prsF (R 3) (R 0 4) (skp (R 3) (R 0 4) 0)) = (1, zx)) ∧ nmOK A0 ∧ nmOK zb ∧ (rcF (R 3) (R 0 4) (skp (R 3) (R 0 4) 0) (R 1) A0 0) = (z5, zn, zm)) ∧ r9 = zn ∧ u9 = (upr (upr (upr (upr R 0 (ups (ups (ups (ups (ups (ups (ups (ups (R 0) 6 0) 2 (kpN (R 0 2))) 5 z5) 16 zc) 15 zq) 7 z7) 8 z8) 9 z9)) 1 (zm)) 2 (kpS (R 2) (R 1) (R 0 2))) 7 (zb))))) ([.ref (a 0)] : List Value).toArray s 0 0 (va_A (rfW cy a R) sz)) (F0 m 41 ls []) := by
            intro n_17
            induction n_17 with
            | zero => intro A0 q M A st5 cm y7 y8 y9 c9 hi0 hi1 hi2 hi3 hi4 hi5 hi6 hn H locs hP hD hS ls hl; exfalso; omega
            | succ n_17 ih41 =>
              intro A0 q M A st5 cm y7 y8 y9 c9 hi0 hi1 hi2 hi3 hi4 hi5 hi6 hn H locs hP hD hS ls hl
              refine lv_aload_n hx hb dX7_runCommands_41 rfl (lv_at hl 1 rfl) ?_
              refine va_get (D := D) (ci := 6) (v := .int (iI st5)) (C := RX7) (T := TX7) (N := 19) hx hb hts hinX7 hown hK hP 0 rfl rfl 5 (by decide) hmw2 (fun _ h9 => h9) rfl dX7_runCommands_42 ?_
              refine k_if_ne (tgt := 97) hx hb dX7_runCommands_45 (by decide) (by omega) (fun c_18 => ?_) (fun c_18 => ?_)
              · skip
                have hex : (rcF (R 3) (R 0 4) (skp (R 3) (R 0 4) 0) (R 1) A0 0) = (st5, c9, M) := by rcases hi4 with h9 | h9; exact absurd h9.1 (by omega); exact h9.2
                refine lv_iload_n hx hb dX7_runCommands_97 rfl (lv_at hl 0 rfl) ?_
                exact W.iret (v := iI c9) hx hb hr (fun t9 ht _ => ⟨⟨iI c9, (upr (upr (upr (upr R 0 (ups (ups (ups (ups (ups (ups (ups (ups (R 0) 6 0) 2 (kpN (R 0 2))) 5 st5) 16 cm) 15 q) 7 y7) 8 y8) 9 y9)) 1 (M)) 2 (kpS (R 2) (R 1) (R 0 2))) 7 (A)), rfl, ⟨c9, rfl, (by first | exact Or.inr (⟨(A0), (A), (M), (c9), (st5), (cm), (q), (y7), (y8), (y9), (by first | exact ⟨hi6, hi5, hi1, hex⟩ | exact hbad.elim), (by first | rfl | omega), rfl⟩) : (∃ (zc : Int) (zb : Int → Int) (zx : Int), (nmOK zb ∧ (prsF (R 3) (R 0 4) (skp (R 3) (R 0 4) 0)) = (0, zx)) ∧ (c9 : Int) = -10 - zx ∧ (upr (upr (upr (upr R 0 (ups (ups (ups (ups (ups (ups (ups (ups (R 0) 6 0) 2 (kpN (R 0 2))) 5 st5) 16 cm) 15 q) 7 y7) 8 y8) 9 y9)) 1 (M)) 2 (kpS (R 2) (R 1) (R 0 2))) 7 (A)) = (upr (upr R 0 (ups (ups (ups (R 0) 6 0) 16 zc) 15 zx)) 7 (zb))) ∨ (∃ (A0 : Int → Int) (zb : Int → Int) (zm : Int → Int) (zn : Int) (z5 : Int) (zc : Int) (zq : Int) (z7 : Int) (z8 : Int) (z9 : Int), ((∃ zx : Int, (prsF (R 3) (R 0 4) (skp (R 3) (R 0 4) 0)) = (1, zx)) ∧ nmOK A0 ∧ nmOK zb ∧ (rcF (R 3) (R 0 4) (skp (R 3) (R 0 4) 0) (R 1) A0 0) = (z5, zn, zm)) ∧ (c9 : Int) = zn ∧ (upr (upr (upr (upr R 0 (ups (ups (ups (ups (ups (ups (ups (ups (R 0) 6 0) 2 (kpN (R 0 2))) 5 st5) 16 cm) 15 q) 7 y7) 8 y8) 9 y9)) 1 (M)) 2 (kpS (R 2) (R 1) (R 0 2))) 7 (A)) = (upr (upr (upr (upr R 0 (ups (ups (ups (ups (ups (ups (ups (ups (R 0) 6 0) 2 (kpN (R 0 2))) 5 z5) 16 zc) 15 zq) 7 z7) 8 z8) 9 z9)) 1 (zm)) 2 (kpS (R 2) (R 1) (R 0 2))) 7 (zb))))⟩, by rw [ht]; exact hP, hD⟩, hS.F ht⟩) hS.2.2 dX7_runCommands_98 hlocks
              · skip
                obtain ⟨hst0, hres, zx9, hpx⟩ : st5 = 0 ∧ rcF (R 3) (R 0 4) q M A c9 = (rcF (R 3) (R 0 4) (skp (R 3) (R 0 4) 0) (R 1) A0 0) ∧ ∃ zx : Int, prsF (R 3) (R 0 4) q = (1, zx) := by rcases hi4 with h9 | h9; exact h9; exact absurd (show st5 = 0 by omega) h9.1
                refine lv_aload_n hx hb dX7_runCommands_48 rfl (lv_at hl 1 rfl) ?_
                refine va_get (D := D) (ci := 6) (v := .int (iI q)) (C := RX7) (T := TX7) (N := 19) hx hb hts hinX7 hown hK hP 0 rfl rfl 15 (by decide) hmw1 (fun _ h9 => h9) rfl dX7_runCommands_49 ?_
                refine lv_aload_n hx hb dX7_runCommands_52 rfl (lv_at hl 1 rfl) ?_
                refine va_get (D := D) (ci := 6) (v := .int (iI (R 0 4))) (C := RX7) (T := TX7) (N := 19) hx hb hts hinX7 hown hK hP 0 rfl rfl 4 (by decide) hmw3 (fun _ h9 => h9) rfl dX7_runCommands_53 ?_
                refine k_icmp_ge (tgt := 97) hx hb dX7_runCommands_56 (by decide) (by omega) (by omega) (fun c_19 => ?_) (fun c_19 => ?_)
                · skip
                  have hex : (rcF (R 3) (R 0 4) (skp (R 3) (R 0 4) 0) (R 1) A0 0) = (st5, c9, M) := by rw [← hres, hst0]; exact rcF_end (by omega)
                  refine lv_iload_n hx hb dX7_runCommands_97 rfl (lv_at hl 0 rfl) ?_
                  exact W.iret (v := iI c9) hx hb hr (fun t9 ht _ => ⟨⟨iI c9, (upr (upr (upr (upr R 0 (ups (ups (ups (ups (ups (ups (ups (ups (R 0) 6 0) 2 (kpN (R 0 2))) 5 st5) 16 cm) 15 q) 7 y7) 8 y8) 9 y9)) 1 (M)) 2 (kpS (R 2) (R 1) (R 0 2))) 7 (A)), rfl, ⟨c9, rfl, (by first | exact Or.inr (⟨(A0), (A), (M), (c9), (st5), (cm), (q), (y7), (y8), (y9), (by first | exact ⟨hi6, hi5, hi1, hex⟩ | exact hbad.elim), (by first | rfl | omega), rfl⟩) : (∃ (zc : Int) (zb : Int → Int) (zx : Int), (nmOK zb ∧ (prsF (R 3) (R 0 4) (skp (R 3) (R 0 4) 0)) = (0, zx)) ∧ (c9 : Int) = -10 - zx ∧ (upr (upr (upr (upr R 0 (ups (ups (ups (ups (ups (ups (ups (ups (R 0) 6 0) 2 (kpN (R 0 2))) 5 st5) 16 cm) 15 q) 7 y7) 8 y8) 9 y9)) 1 (M)) 2 (kpS (R 2) (R 1) (R 0 2))) 7 (A)) = (upr (upr R 0 (ups (ups (ups (R 0) 6 0) 16 zc) 15 zx)) 7 (zb))) ∨ (∃ (A0 : Int → Int) (zb : Int → Int) (zm : Int → Int) (zn : Int) (z5 : Int) (zc : Int) (zq : Int) (z7 : Int) (z8 : Int) (z9 : Int), ((∃ zx : Int, (prsF (R 3) (R 0 4) (skp (R 3) (R 0 4) 0)) = (1, zx)) ∧ nmOK A0 ∧ nmOK zb ∧ (rcF (R 3) (R 0 4) (skp (R 3) (R 0 4) 0) (R 1) A0 0) = (z5, zn, zm)) ∧ (c9 : Int) = zn ∧ (upr (upr (upr (upr R 0 (ups (ups (ups (ups (ups (ups (ups (ups (R 0) 6 0) 2 (kpN (R 0 2))) 5 st5) 16 cm) 15 q) 7 y7) 8 y8) 9 y9)) 1 (M)) 2 (kpS (R 2) (R 1) (R 0 2))) 7 (A)) = (upr (upr (upr (upr R 0 (ups (ups (ups (ups (ups (ups (ups (ups (R 0) 6 0) 2 (kpN (R 0 2))) 5 z5) 16 zc) 15 zq) 7 z7) 8 z8) 9 z9)) 1 (zm)) 2 (kpS (R 2) (R 1) (R 0 2))) 7 (zb))))⟩, by rw [ht]; exact hP, hD⟩, hS.F ht⟩) hS.2.2 dX7_runCommands_98 hlocks
                · skip
                  refine lv_aload_n hx hb dX7_runCommands_59 rfl (lv_at hl 1 rfl) ?_
                  refine k_mui (k_runV (As := []) (rest := []) ⟨hx, hb, hml, hown, hts⟩ (c_X7_readCommand l D cy H.size a (upr (upr (upr (upr R 0 (ups (ups (ups (ups (ups (ups (ups (ups (R 0) 6 0) 2 (kpN (R 0 2))) 5 st5) 16 cm) 15 q) 7 y7) 8 y8) 9 y9)) 1 (M)) 2 (kpS (R 2) (R 1) (R 0 2))) 7 (A)) (show 0 ≤ (((q))) ∧ (((q))) ≤ ((((((((R 0 4)))))))) by omega) (show ((((((((R 0 4)))))))) ≤ 150 by omega) (show ∀ k : Int, 0 ≤ k → k < 150 → 0 ≤ (R 3) k ∧ (R 3) k ≤ 127 by omega)) gX7_runCommands_X7_readCommand rfl ⟨rfl, rfl⟩ 0 rfl (by decide +kernel) ⟨Nat.le_of_ble_eq_true rfl, Nat.le_of_ble_eq_true rfl⟩ (GG_ok D cy) hG hS (k_free hD hS hA) hP hD (va_recv hK hP (ci := 6) (q0 := 0) rfl rfl) hl.1 rfl (Nat.le_of_ble_eq_true rfl) ⟨Nat.le_of_ble_eq_true rfl, Nat.le_of_ble_eq_true rfl⟩ dX7_runCommands_60) (k_free hD hS hA) hS (fun r_20 R_21 H1 locs1 hR_21 hP1 hD1 hS1 hk1 => ?_)
                  rcases hR_21 with ⟨k9_23, c_22, hr_20, hR_21⟩ | ⟨x9_24, k9_25, b9_26, c_22, hr_20, hR_21⟩ | ⟨x9_27, k9_28, b9_29, c_22, hr_20, hR_21⟩
                  · skip
                    have c_22 : (prsC (R 3) (((((((((R 0 4))))))))) ((((q)))) (A)) = (0, (((q))), k9_23, A) := c_22
                    subst hr_20
                    subst hR_21
                    have hDn : va_D (va_A (rfW cy a R) sz) (rfW cy a (upr (upr (upr (upr R 0 (ups (ups (ups (ups (ups (ups (ups (ups (ups (ups (R 0) 6 0) 2 (kpN (R 0 2))) 5 st5) 16 cm) 15 q) 7 y7) 8 y8) 9 y9) 16 k9_23) 15 ((((q)))))) 1 (M)) 2 (kpS (R 2) (R 1) (R 0 2))) 7 (A))) := k_addr hD rfl
                    have hPn : va_P D vwCl (rfW cy a (upr (upr (upr (upr R 0 (ups (ups (ups (ups (ups (ups (ups (ups (ups (ups (R 0) 6 0) 2 (kpN (R 0 2))) 5 st5) 16 cm) 15 q) 7 y7) 8 y8) 9 y9) 16 k9_23) 15 ((((q)))))) 1 (M)) 2 (kpS (R 2) (R 1) (R 0 2))) 7 (A))) H1 := hP1
                    clear hP hD hS hP1 hD1 hk1
                    have hP := hPn
                    have hD := hDn
                    have hS := hS1
                    clear hPn hDn hS1
                    generalize H1 = H at hP hS ⊢
                    generalize locs1 = locs at hS ⊢
                    have hbad : False := by have h9 := hpx.symm.trans (prsF_n0 (show q < R 0 4 by omega) c_22); exact absurd (congrArg Prod.fst h9) (show ¬ (1 : Int) = 0 by decide)
                    refine k_if_eq (tgt := 97) hx hb dX7_runCommands_63 (by decide) (by omega) (fun c_30 => ?_) (fun c_30 => ?_)
                    · skip
                      refine lv_iload_n hx hb dX7_runCommands_97 rfl (lv_at hl 0 rfl) ?_
                      exact W.iret (v := iI c9) hx hb hr (fun t9 ht _ => ⟨⟨iI c9, (upr (upr (upr (upr R 0 (ups (ups (ups (ups (ups (ups (ups (ups (ups (ups (R 0) 6 0) 2 (kpN (R 0 2))) 5 st5) 16 cm) 15 q) 7 y7) 8 y8) 9 y9) 16 k9_23) 15 ((((q)))))) 1 (M)) 2 (kpS (R 2) (R 1) (R 0 2))) 7 (A)), rfl, ⟨c9, rfl, (by first | exact Or.inr (⟨(A0), (A), (M), (c9), (st5), (k9_23), (q), (y7), (y8), (y9), (by first | exact ⟨hi6, hi5, hi1, hex⟩ | exact hbad.elim), (by first | rfl | omega), (by rw [show (ups (ups (ups (ups (ups (ups (ups (ups (ups (ups (R 0) 6 0) 2 (kpN (R 0 2))) 5 st5) 16 cm) 15 q) 7 y7) 8 y8) 9 y9) 16 k9_23) 15 ((((q))))) = (ups (ups (ups (ups (ups (ups (ups (ups (R 0) 6 0) 2 (kpN (R 0 2))) 5 st5) 16 k9_23) 15 q) 7 y7) 8 y8) 9 y9) from by first | rfl | exact hbad.elim])⟩) : (∃ (zc : Int) (zb : Int → Int) (zx : Int), (nmOK zb ∧ (prsF (R 3) (R 0 4) (skp (R 3) (R 0 4) 0)) = (0, zx)) ∧ (c9 : Int) = -10 - zx ∧ (upr (upr (upr (upr R 0 (ups (ups (ups (ups (ups (ups (ups (ups (ups (ups (R 0) 6 0) 2 (kpN (R 0 2))) 5 st5) 16 cm) 15 q) 7 y7) 8 y8) 9 y9) 16 k9_23) 15 ((((q)))))) 1 (M)) 2 (kpS (R 2) (R 1) (R 0 2))) 7 (A)) = (upr (upr R 0 (ups (ups (ups (R 0) 6 0) 16 zc) 15 zx)) 7 (zb))) ∨ (∃ (A0 : Int → Int) (zb : Int → Int) (zm : Int → Int) (zn : Int) (z5 : Int) (zc : Int) (zq : Int) (z7 : Int) (z8 : Int) (z9 : Int), ((∃ zx : Int, (prsF (R 3) (R 0 4) (skp (R 3) (R 0 4) 0)) = (1, zx)) ∧ nmOK A0 ∧ nmOK zb ∧ (rcF (R 3) (R 0 4) (skp (R 3) (R 0 4) 0) (R 1) A0 0) = (z5, zn, zm)) ∧ (c9 : Int) = zn ∧ (upr (upr (upr (upr R 0 (ups (ups (ups (ups (ups (ups (ups (ups (ups (ups (R 0) 6 0) 2 (kpN (R 0 2))) 5 st5) 16 cm) 15 q) 7 y7) 8 y8) 9 y9) 16 k9_23) 15 ((((q)))))) 1 (M)) 2 (kpS (R 2) (R 1) (R 0 2))) 7 (A)) = (upr (upr (upr (upr R 0 (ups (ups (ups (ups (ups (ups (ups (ups (R 0) 6 0) 2 (kpN (R 0 2))) 5 z5) 16 zc) 15 zq) 7 z7) 8 z8) 9 z9)) 1 (zm)) 2 (kpS (R 2) (R 1) (R 0 2))) 7 (zb))))⟩, by rw [ht]; exact hP, hD⟩, hS.F ht⟩) hS.2.2 dX7_runCommands_98 hlocks
                    · exfalso; omega
                  · skip
                    have c_22 : (prsC (R 3) (((((((((R 0 4))))))))) ((((q)))) (A)) = (0, x9_24, k9_25, b9_26) ∧ 0 ≤ k9_25 ∧ k9_25 ≤ 6 := c_22
                    subst hr_20
                    subst hR_21
                    have hDn : va_D (va_A (rfW cy a R) sz) (rfW cy a (upr (upr (upr (upr R 0 (ups (ups (ups (ups (ups (ups (ups (ups (ups (ups (R 0) 6 0) 2 (kpN (R 0 2))) 5 st5) 16 cm) 15 q) 7 y7) 8 y8) 9 y9) 16 k9_25) 15 x9_24)) 1 (M)) 2 (kpS (R 2) (R 1) (R 0 2))) 7 (b9_26))) := k_addr hD rfl
                    have hPn : va_P D vwCl (rfW cy a (upr (upr (upr (upr R 0 (ups (ups (ups (ups (ups (ups (ups (ups (ups (ups (R 0) 6 0) 2 (kpN (R 0 2))) 5 st5) 16 cm) 15 q) 7 y7) 8 y8) 9 y9) 16 k9_25) 15 x9_24)) 1 (M)) 2 (kpS (R 2) (R 1) (R 0 2))) 7 (b9_26))) H1 := hP1
                    clear hP hD hS hP1 hD1 hk1
                    have hP := hPn
                    have hD := hDn
                    have hS := hS1
                    clear hPn hDn hS1
                    generalize H1 = H at hP hS ⊢
                    generalize locs1 = locs at hS ⊢
                    have hbad : False := by have h9 := hpx.symm.trans (prsF_n0 (show q < R 0 4 by omega) c_22.1); exact absurd (congrArg Prod.fst h9) (show ¬ (1 : Int) = 0 by decide)
                    refine k_if_eq (tgt := 97) hx hb dX7_runCommands_63 (by decide) (by omega) (fun c_31 => ?_) (fun c_31 => ?_)
                    · skip
                      refine lv_iload_n hx hb dX7_runCommands_97 rfl (lv_at hl 0 rfl) ?_
                      exact W.iret (v := iI c9) hx hb hr (fun t9 ht _ => ⟨⟨iI c9, (upr (upr (upr (upr R 0 (ups (ups (ups (ups (ups (ups (ups (ups (ups (ups (R 0) 6 0) 2 (kpN (R 0 2))) 5 st5) 16 cm) 15 q) 7 y7) 8 y8) 9 y9) 16 k9_25) 15 x9_24)) 1 (M)) 2 (kpS (R 2) (R 1) (R 0 2))) 7 (b9_26)), rfl, ⟨c9, rfl, (by first | exact Or.inr (⟨(A0), (b9_26), (M), (c9), (st5), (k9_25), (x9_24), (y7), (y8), (y9), (by first | exact ⟨hi6, hi5, hi1, hex⟩ | exact hbad.elim), (by first | rfl | omega), (by rw [show (ups (ups (ups (ups (ups (ups (ups (ups (ups (ups (R 0) 6 0) 2 (kpN (R 0 2))) 5 st5) 16 cm) 15 q) 7 y7) 8 y8) 9 y9) 16 k9_25) 15 x9_24) = (ups (ups (ups (ups (ups (ups (ups (ups (R 0) 6 0) 2 (kpN (R 0 2))) 5 st5) 16 k9_25) 15 x9_24) 7 y7) 8 y8) 9 y9) from by first | rfl | exact hbad.elim])⟩) : (∃ (zc : Int) (zb : Int → Int) (zx : Int), (nmOK zb ∧ (prsF (R 3) (R 0 4) (skp (R 3) (R 0 4) 0)) = (0, zx)) ∧ (c9 : Int) = -10 - zx ∧ (upr (upr (upr (upr R 0 (ups (ups (ups (ups (ups (ups (ups (ups (ups (ups (R 0) 6 0) 2 (kpN (R 0 2))) 5 st5) 16 cm) 15 q) 7 y7) 8 y8) 9 y9) 16 k9_25) 15 x9_24)) 1 (M)) 2 (kpS (R 2) (R 1) (R 0 2))) 7 (b9_26)) = (upr (upr R 0 (ups (ups (ups (R 0) 6 0) 16 zc) 15 zx)) 7 (zb))) ∨ (∃ (A0 : Int → Int) (zb : Int → Int) (zm : Int → Int) (zn : Int) (z5 : Int) (zc : Int) (zq : Int) (z7 : Int) (z8 : Int) (z9 : Int), ((∃ zx : Int, (prsF (R 3) (R 0 4) (skp (R 3) (R 0 4) 0)) = (1, zx)) ∧ nmOK A0 ∧ nmOK zb ∧ (rcF (R 3) (R 0 4) (skp (R 3) (R 0 4) 0) (R 1) A0 0) = (z5, zn, zm)) ∧ (c9 : Int) = zn ∧ (upr (upr (upr (upr R 0 (ups (ups (ups (ups (ups (ups (ups (ups (ups (ups (R 0) 6 0) 2 (kpN (R 0 2))) 5 st5) 16 cm) 15 q) 7 y7) 8 y8) 9 y9) 16 k9_25) 15 x9_24)) 1 (M)) 2 (kpS (R 2) (R 1) (R 0 2))) 7 (b9_26)) = (upr (upr (upr (upr R 0 (ups (ups (ups (ups (ups (ups (ups (ups (R 0) 6 0) 2 (kpN (R 0 2))) 5 z5) 16 zc) 15 zq) 7 z7) 8 z8) 9 z9)) 1 (zm)) 2 (kpS (R 2) (R 1) (R 0 2))) 7 (zb))))⟩, by rw [ht]; exact hP, hD⟩, hS.F ht⟩) hS.2.2 dX7_runCommands_98 hlocks
                    · exfalso; omega
                  · skip
                    have c_22 : (prsC (R 3) (((((((((R 0 4))))))))) ((((q)))) (A)) = (1, x9_27, k9_28, b9_29) ∧ 0 ≤ k9_28 ∧ k9_28 ≤ 6 := c_22
                    subst hr_20
                    subst hR_21
                    have hDn : va_D (va_A (rfW cy a R) sz) (rfW cy a (upr (upr (upr (upr R 0 (ups (ups (ups (ups (ups (ups (ups (ups (ups (ups (R 0) 6 0) 2 (kpN (R 0 2))) 5 st5) 16 cm) 15 q) 7 y7) 8 y8) 9 y9) 16 k9_28) 15 x9_27)) 1 (M)) 2 (kpS (R 2) (R 1) (R 0 2))) 7 (b9_29))) := k_addr hD rfl
                    have hPn : va_P D vwCl (rfW cy a (upr (upr (upr (upr R 0 (ups (ups (ups (ups (ups (ups (ups (ups (ups (ups (R 0) 6 0) 2 (kpN (R 0 2))) 5 st5) 16 cm) 15 q) 7 y7) 8 y8) 9 y9) 16 k9_28) 15 x9_27)) 1 (M)) 2 (kpS (R 2) (R 1) (R 0 2))) 7 (b9_29))) H1 := hP1
                    clear hP hD hS hP1 hD1 hk1
                    have hP := hPn
                    have hD := hDn
                    have hS := hS1
                    clear hPn hDn hS1
                    generalize H1 = H at hP hS ⊢
                    generalize locs1 = locs at hS ⊢
                    have hpc := c_22.1
                    have hpy := prsF_y1 hi0.1 htn (show q < R 0 4 by omega) c_22.1
                    have hcb := prsC_b1 hi0.2 c_22.1
                    have hnm2 := prsC_n hi0.2 c_22.1 hi1
                    have hvr := ftV_rg (M) (b9_29) (k := k9_28) (by omega)
                    have hsk2 := skp_le (T := R 3) (n := R 0 4) (q := x9_27) (by omega)
                    refine k_if_eq (tgt := 97) hx hb dX7_runCommands_63 (by decide) (by omega) (fun c_32 => ?_) (fun c_32 => ?_)
                    · exfalso; omega
                    · skip
                      refine lv_aload_n hx hb dX7_runCommands_66 rfl (lv_at hl 1 rfl) ?_
                      refine lv_aload_n hx hb dX7_runCommands_67 rfl (lv_at hl 1 rfl) ?_
                      refine k_roV (As := []) (rest := [.ref (a 0)]) ⟨hx, hb, hml, hown, hts⟩ (c_X7_whyNot l D cy a (upr (upr (upr (upr R 0 (ups (ups (ups (ups (ups (ups (ups (ups (ups (ups (R 0) 6 0) 2 (kpN (R 0 2))) 5 st5) 16 cm) 15 q) 7 y7) 8 y8) 9 y9) 16 k9_28) 15 x9_27)) 1 (M)) 2 (kpS (R 2) (R 1) (R 0 2))) 7 (b9_29)) (show Inv (M) from hi2) (show 0 ≤ (k9_28) ∧ (k9_28) ≤ 6 by omega) (show nmOK (b9_29) from hnm2)) gX7_runCommands_X7_whyNot rfl ⟨rfl, rfl⟩ 0 rfl (by decide +kernel) ⟨Nat.le_of_ble_eq_true rfl, Nat.le_of_ble_eq_true rfl⟩ (GG_ok D cy) ((GG_ok D cy).2.2.2 _ _ _ _ (fun _ h => h.elim) ((GG_ok D cy).1 _ _ _ _ hS.2.1 hG)) hP (va_recv hK hP (ci := 6) (q0 := 0) rfl rfl) hl.1 rfl (Nat.le_of_ble_eq_true rfl) ⟨Nat.le_of_ble_eq_true rfl, Nat.le_of_ble_eq_true rfl⟩ dX7_runCommands_68 (fun r_33 hr_33 => ?_)
                      have hr_33 : r_33 = ftV (M) ((k9_28)) (b9_29) := hr_33
                      subst hr_33
                      refine va_put (D := D) (ci := 6) (v := .int (iI (ftV (M) ((k9_28)) (b9_29)))) (ty := .int) (C := RX7) (T := TX7) (N := 19) hx hb hts hinX7 tyX7 tyX7_ok nmX7 hown hK hP hD hS 0 rfl rfl 5 (by decide) hmw2 (fun _ h9 => h9) rfl (by decide +kernel) rfl rfl (Nat.le_of_ble_eq_true rfl) dX7_runCommands_71 (fun H locs hP hD hS => ?_)
                      have hP : va_P D vwCl (rfW cy a (upr (upr (upr (upr R 0 (ups (ups (ups (ups (ups (ups (ups (ups (ups (ups (ups (R 0) 6 0) 2 (kpN (R 0 2))) 5 st5) 16 cm) 15 q) 7 y7) 8 y8) 9 y9) 16 k9_28) 15 x9_27) 5 (ftV (M) ((k9_28)) (b9_29)))) 1 (M)) 2 (kpS (R 2) (R 1) (R 0 2))) 7 (b9_29))) H := hP
                      have hD : va_D (va_A (rfW cy a R) sz) (rfW cy a (upr (upr (upr (upr R 0 (ups (ups (ups (ups (ups (ups (ups (ups (ups (ups (ups (R 0) 6 0) 2 (kpN (R 0 2))) 5 st5) 16 cm) 15 q) 7 y7) 8 y8) 9 y9) 16 k9_28) 15 x9_27) 5 (ftV (M) ((k9_28)) (b9_29)))) 1 (M)) 2 (kpS (R 2) (R 1) (R 0 2))) 7 (b9_29))) := hD
                      refine lv_aload_n hx hb dX7_runCommands_74 rfl (lv_at hl 1 rfl) ?_
                      refine va_get (D := D) (ci := 6) (v := .int (iI (ftV (M) ((k9_28)) (b9_29)))) (C := RX7) (T := TX7) (N := 19) hx hb hts hinX7 hown hK hP 0 rfl rfl 5 (by decide) hmw2 (fun _ h9 => h9) rfl dX7_runCommands_75 ?_
                      refine k_if_ne (tgt := 89) hx hb dX7_runCommands_78 (by decide) (by omega) (fun c_34 => ?_) (fun c_34 => ?_)
                      · skip
                        have hv1 : ¬ ftV (M) (k9_28) (b9_29) = 0 := by omega
                        refine lv_aload_n hx hb dX7_runCommands_89 rfl (lv_at hl 1 rfl) ?_
                        refine k_mui (k_runV (As := []) (rest := []) ⟨hx, hb, hml, hown, hts⟩ (c_X7_skips l D cy H.size a (upr (upr (upr (upr R 0 (ups (ups (ups (ups (ups (ups (ups (ups (ups (ups (ups (R 0) 6 0) 2 (kpN (R 0 2))) 5 st5) 16 cm) 15 q) 7 y7) 8 y8) 9 y9) 16 k9_28) 15 x9_27) 5 (ftV (M) ((k9_28)) (b9_29)))) 1 (M)) 2 (kpS (R 2) (R 1) (R 0 2))) 7 (b9_29)) (show 0 ≤ (x9_27) ∧ (x9_27) ≤ (((((((((((R 0 4))))))))))) by omega) (show (((((((((((R 0 4))))))))))) ≤ 150 by omega) (show ∀ k : Int, 0 ≤ k → k < 150 → 0 ≤ (R 3) k ∧ (R 3) k ≤ 127 by omega)) gX7_runCommands_X7_skips rfl ⟨rfl, rfl⟩ 0 rfl (by decide +kernel) ⟨Nat.le_of_ble_eq_true rfl, Nat.le_of_ble_eq_true rfl⟩ (GG_ok D cy) hG hS (k_free hD hS hA) hP hD (va_recv hK hP (ci := 6) (q0 := 0) rfl rfl) hl.1 rfl (Nat.le_of_ble_eq_true rfl) ⟨Nat.le_of_ble_eq_true rfl, Nat.le_of_ble_eq_true rfl⟩ dX7_runCommands_90) (k_free hD hS hA) hS (fun r_35 R_36 H1 locs1 hR_36 hP1 hD1 hS1 hk1 => ?_)
                        rcases hR_36 with ⟨c_37, hr_35, hR_36⟩ | ⟨c_37, hr_35, hR_36⟩
                        · skip
                          have c_37 : (x9_27) < (skp (R 3) ((((((((((((R 0 4)))))))))))) ((x9_27))) := c_37
                          subst hr_35
                          subst hR_36
                          have hDn : va_D (va_A (rfW cy a R) sz) (rfW cy a (upr (upr (upr (upr R 0 (ups (ups (ups (ups (ups (ups (ups (ups (ups (ups (ups (ups (R 0) 6 0) 2 (kpN (R 0 2))) 5 st5) 16 cm) 15 q) 7 y7) 8 y8) 9 y9) 16 k9_28) 15 x9_27) 5 (ftV (M) (k9_28) (b9_29))) 15 (skp (R 3) ((((((((((((R 0 4)))))))))))) ((x9_27))))) 1 (M)) 2 (kpS (R 2) (R 1) (R 0 2))) 7 (b9_29))) := k_addr hD rfl
                          have hPn : va_P D vwCl (rfW cy a (upr (upr (upr (upr R 0 (ups (ups (ups (ups (ups (ups (ups (ups (ups (ups (ups (ups (R 0) 6 0) 2 (kpN (R 0 2))) 5 st5) 16 cm) 15 q) 7 y7) 8 y8) 9 y9) 16 k9_28) 15 x9_27) 5 (ftV (M) (k9_28) (b9_29))) 15 (skp (R 3) ((((((((((((R 0 4)))))))))))) ((x9_27))))) 1 (M)) 2 (kpS (R 2) (R 1) (R 0 2))) 7 (b9_29))) H1 := hP1
                          clear hP hD hS hP1 hD1 hk1
                          have hP := hPn
                          have hD := hDn
                          have hS := hS1
                          clear hPn hDn hS1
                          generalize H1 = H at hP hS ⊢
                          generalize locs1 = locs at hS ⊢
                          refine lv_istore_n (lv' := [(2, .int (iI 1)), (1, .int (iI c9)), (0, .ref (a 0))]) hx hb dX7_runCommands_93 rfl hl (by decide) rfl (fun ls hl => ?_)
                          refine lv_goto (tgt := 41) hx hb dX7_runCommands_94 (by decide) ?_
                          exact ih41 A0 (skp (R 3) ((((((((((((R 0 4)))))))))))) ((x9_27))) M b9_29 (ftV (M) (k9_28) (b9_29)) k9_28 y7 y8 y9 c9  (by omega) (hnm2) (by first | exact hIe | exact hi2) (by omega) (by first | exact Or.inl ⟨hv0, (rcF_go hi0.1 htn (by omega) hpc hv0).symm.trans hres, _, hpy.symm.trans hpx⟩ | exact Or.inr ⟨hv1, hres.symm.trans (rcF_no (by omega) hpc hv1)⟩) (hi5) (hi6) (by omega) H locs (by rw [show (ups (ups (ups (ups (ups (ups (ups (ups (R 0) 6 0) 2 (kpN (R 0 2))) 5 (ftV (M) (k9_28) (b9_29))) 16 k9_28) 15 (skp (R 3) ((((((((((((R 0 4)))))))))))) ((x9_27)))) 7 y7) 8 y8) 9 y9) = (ups (ups (ups (ups (ups (ups (ups (ups (ups (ups (ups (ups (R 0) 6 0) 2 (kpN (R 0 2))) 5 st5) 16 cm) 15 q) 7 y7) 8 y8) 9 y9) 16 k9_28) 15 x9_27) 5 (ftV (M) (k9_28) (b9_29))) 15 (skp (R 3) ((((((((((((R 0 4)))))))))))) ((x9_27)))) from by funext k9; by_cases e0 : k9 = 9; (subst e0; first | rfl | simp [ups]); by_cases e1 : k9 = 8; (subst e1; first | rfl | simp [ups]); by_cases e2 : k9 = 7; (subst e2; first | rfl | simp [ups]); by_cases e3 : k9 = 15; (subst e3; first | rfl | simp [ups]); by_cases e4 : k9 = 16; (subst e4; first | rfl | simp [ups]); by_cases e5 : k9 = 5; (subst e5; first | rfl | simp [ups]); by_cases e6 : k9 = 2; (subst e6; first | rfl | simp [ups]); by_cases e7 : k9 = 6; (subst e7; first | rfl | simp [ups]); simp only [ups, if_neg e0, if_neg e1, if_neg e2, if_neg e3, if_neg e4, if_neg e5, if_neg e6, if_neg e7]]; exact hP) (k_addr hD rfl) hS ls (lv_sub hl [1, 2] rfl)
                        · skip
                          have c_37 : (skp (R 3) ((((((((((((R 0 4)))))))))))) ((x9_27))) = (x9_27) := c_37
                          subst hr_35
                          subst hR_36
                          have hDn : va_D (va_A (rfW cy a R) sz) (rfW cy a (upr (upr (upr (upr R 0 (ups (ups (ups (ups (ups (ups (ups (ups (ups (ups (ups (ups (R 0) 6 0) 2 (kpN (R 0 2))) 5 st5) 16 cm) 15 q) 7 y7) 8 y8) 9 y9) 16 k9_28) 15 x9_27) 5 (ftV (M) (k9_28) (b9_29))) 15 (skp (R 3) ((((((((((((R 0 4)))))))))))) ((x9_27))))) 1 (M)) 2 (kpS (R 2) (R 1) (R 0 2))) 7 (b9_29))) := k_addr hD rfl
                          have hPn : va_P D vwCl (rfW cy a (upr (upr (upr (upr R 0 (ups (ups (ups (ups (ups (ups (ups (ups (ups (ups (ups (ups (R 0) 6 0) 2 (kpN (R 0 2))) 5 st5) 16 cm) 15 q) 7 y7) 8 y8) 9 y9) 16 k9_28) 15 x9_27) 5 (ftV (M) (k9_28) (b9_29))) 15 (skp (R 3) ((((((((((((R 0 4)))))))))))) ((x9_27))))) 1 (M)) 2 (kpS (R 2) (R 1) (R 0 2))) 7 (b9_29))) H1 := hP1
                          clear hP hD hS hP1 hD1 hk1
                          have hP := hPn
                          have hD := hDn
                          have hS := hS1
                          clear hPn hDn hS1
                          generalize H1 = H at hP hS ⊢
                          generalize locs1 = locs at hS ⊢
                          refine lv_istore_n (lv' := [(2, .int (iI 0)), (1, .int (iI c9)), (0, .ref (a 0))]) hx hb dX7_runCommands_93 rfl hl (by decide) rfl (fun ls hl => ?_)
                          refine lv_goto (tgt := 41) hx hb dX7_runCommands_94 (by decide) ?_
                          exact ih41 A0 (skp (R 3) ((((((((((((R 0 4)))))))))))) ((x9_27))) M b9_29 (ftV (M) (k9_28) (b9_29)) k9_28 y7 y8 y9 c9  (by omega) (hnm2) (by first | exact hIe | exact hi2) (by omega) (by first | exact Or.inl ⟨hv0, (rcF_go hi0.1 htn (by omega) hpc hv0).symm.trans hres, _, hpy.symm.trans hpx⟩ | exact Or.inr ⟨hv1, hres.symm.trans (rcF_no (by omega) hpc hv1)⟩) (hi5) (hi6) (by omega) H locs (by rw [show (ups (ups (ups (ups (ups (ups (ups (ups (R 0) 6 0) 2 (kpN (R 0 2))) 5 (ftV (M) (k9_28) (b9_29))) 16 k9_28) 15 (skp (R 3) ((((((((((((R 0 4)))))))))))) ((x9_27)))) 7 y7) 8 y8) 9 y9) = (ups (ups (ups (ups (ups (ups (ups (ups (ups (ups (ups (ups (R 0) 6 0) 2 (kpN (R 0 2))) 5 st5) 16 cm) 15 q) 7 y7) 8 y8) 9 y9) 16 k9_28) 15 x9_27) 5 (ftV (M) (k9_28) (b9_29))) 15 (skp (R 3) ((((((((((((R 0 4)))))))))))) ((x9_27)))) from by funext k9; by_cases e0 : k9 = 9; (subst e0; first | rfl | simp [ups]); by_cases e1 : k9 = 8; (subst e1; first | rfl | simp [ups]); by_cases e2 : k9 = 7; (subst e2; first | rfl | simp [ups]); by_cases e3 : k9 = 15; (subst e3; first | rfl | simp [ups]); by_cases e4 : k9 = 16; (subst e4; first | rfl | simp [ups]); by_cases e5 : k9 = 5; (subst e5; first | rfl | simp [ups]); by_cases e6 : k9 = 2; (subst e6; first | rfl | simp [ups]); by_cases e7 : k9 = 6; (subst e7; first | rfl | simp [ups]); simp only [ups, if_neg e0, if_neg e1, if_neg e2, if_neg e3, if_neg e4, if_neg e5, if_neg e6, if_neg e7]]; exact hP) (k_addr hD rfl) hS ls (lv_sub hl [1, 2] rfl)
                      · skip
                        have hv0 : ftV (M) (k9_28) (b9_29) = 0 := by omega
                        have hIe := ef_inv hi2 (by omega) hv0
                        refine lv_aload_n hx hb dX7_runCommands_81 rfl (lv_at hl 1 rfl) ?_
                        refine k_mui (k_runV (As := []) (rest := []) ⟨hx, hb, hml, hown, hts⟩ (c_X7_carryOut l D cy H.size a (upr (upr (upr (upr R 0 (ups (ups (ups (ups (ups (ups (ups (ups (ups (ups (ups (R 0) 6 0) 2 (kpN (R 0 2))) 5 st5) 16 cm) 15 q) 7 y7) 8 y8) 9 y9) 16 k9_28) 15 x9_27) 5 (ftV (M) ((k9_28)) (b9_29)))) 1 (M)) 2 (kpS (R 2) (R 1) (R 0 2))) 7 (b9_29)) (show Inv (M) from hi2) (show 0 ≤ ((k9_28)) ∧ ((k9_28)) ≤ 6 by omega) (show nmOK (b9_29) from hnm2) (show ftV (M) (((k9_28))) (b9_29) = 0 from hv0)) gX7_runCommands_X7_carryOut rfl ⟨rfl, rfl⟩ 0 rfl (by decide +kernel) ⟨Nat.le_of_ble_eq_true rfl, Nat.le_of_ble_eq_true rfl⟩ (GG_ok D cy) hG hS (k_free hD hS hA) hP hD (va_recv hK hP (ci := 6) (q0 := 0) rfl rfl) hl.1 rfl (Nat.le_of_ble_eq_true rfl) ⟨Nat.le_of_ble_eq_true rfl, Nat.le_of_ble_eq_true rfl⟩ dX7_runCommands_82) (k_free hD hS hA) hS (fun r_38 R_39 H1 locs1 hR_39 hP1 hD1 hS1 hk1 => ?_)
                        rcases hR_39 with ⟨zr_41, c_40, hr_38, hR_39⟩ | ⟨zr_42, x7_43, x8_44, x9_45, c_40, hr_38, hR_39⟩
                        · skip
                          have c_40 : ((k9_28)) < 6 := c_40
                          have hr_38 := hr_38.symm
                          subst hr_38
                          subst hR_39
                          have hDn : va_D (va_A (rfW cy a R) sz) (rfW cy a (upr (upr (upr (upr R 0 (ups (ups (ups (ups (ups (ups (ups (ups (ups (ups (ups (R 0) 6 0) 2 (kpN (R 0 2))) 5 st5) 16 cm) 15 q) 7 y7) 8 y8) 9 y9) 16 k9_28) 15 x9_27) 5 (ftV (M) ((k9_28)) (b9_29)))) 1 (efM (M) (((k9_28))) (b9_29))) 2 (kpS (R 2) (R 1) (R 0 2))) 7 (b9_29))) := k_addr hD rfl
                          have hPn : va_P D vwCl (rfW cy a (upr (upr (upr (upr R 0 (ups (ups (ups (ups (ups (ups (ups (ups (ups (ups (ups (R 0) 6 0) 2 (kpN (R 0 2))) 5 st5) 16 cm) 15 q) 7 y7) 8 y8) 9 y9) 16 k9_28) 15 x9_27) 5 (ftV (M) ((k9_28)) (b9_29)))) 1 (efM (M) (((k9_28))) (b9_29))) 2 (kpS (R 2) (R 1) (R 0 2))) 7 (b9_29))) H1 := hP1
                          clear hP hD hS hP1 hD1 hk1
                          have hP := hPn
                          have hD := hDn
                          have hS := hS1
                          clear hPn hDn hS1
                          generalize H1 = H at hP hS ⊢
                          generalize locs1 = locs at hS ⊢
                          refine lv_istore_n (lv' := [(3, .int (iI zr_41)), (1, .int (iI c9)), (0, .ref (a 0))]) hx hb dX7_runCommands_85 rfl hl (by decide) rfl (fun ls hl => ?_)
                          refine lv_iinc (v := iI (c9 + 1)) (lv' := [(1, .int (iI (c9 + 1))), (3, .int (iI zr_41)), (0, .ref (a 0))]) hx hb dX7_runCommands_86 hl (k := 1) rfl (iI_add _ _) (by decide) rfl (fun ls hl => ?_)
                          refine lv_aload_n hx hb dX7_runCommands_89 rfl (lv_at hl 2 rfl) ?_
                          refine k_mui (k_runV (As := []) (rest := []) ⟨hx, hb, hml, hown, hts⟩ (c_X7_skips l D cy H.size a (upr (upr (upr (upr R 0 (ups (ups (ups (ups (ups (ups (ups (ups (ups (ups (ups (R 0) 6 0) 2 (kpN (R 0 2))) 5 st5) 16 cm) 15 q) 7 y7) 8 y8) 9 y9) 16 k9_28) 15 x9_27) 5 (ftV (M) ((k9_28)) (b9_29)))) 1 (efM (M) (((k9_28))) (b9_29))) 2 (kpS (R 2) (R 1) (R 0 2))) 7 (b9_29)) (show 0 ≤ (x9_27) ∧ (x9_27) ≤ (((((((((((R 0 4))))))))))) by omega) (show (((((((((((R 0 4))))))))))) ≤ 150 by omega) (show ∀ k : Int, 0 ≤ k → k < 150 → 0 ≤ (R 3) k ∧ (R 3) k ≤ 127 by omega)) gX7_runCommands_X7_skips rfl ⟨rfl, rfl⟩ 0 rfl (by decide +kernel) ⟨Nat.le_of_ble_eq_true rfl, Nat.le_of_ble_eq_true rfl⟩ (GG_ok D cy) hG hS (k_free hD hS hA) hP hD (va_recv hK hP (ci := 6) (q0 := 0) rfl rfl) hl.1 rfl (Nat.le_of_ble_eq_true rfl) ⟨Nat.le_of_ble_eq_true rfl, Nat.le_of_ble_eq_true rfl⟩ dX7_runCommands_90) (k_free hD hS hA) hS (fun r_46 R_47 H1 locs1 hR_47 hP1 hD1 hS1 hk1 => ?_)
                          rcases hR_47 with ⟨c_48, hr_46, hR_47⟩ | ⟨c_48, hr_46, hR_47⟩
                          · skip
                            have c_48 : (x9_27) < (skp (R 3) ((((((((((((R 0 4)))))))))))) ((x9_27))) := c_48
                            subst hr_46
                            subst hR_47
                            have hDn : va_D (va_A (rfW cy a R) sz) (rfW cy a (upr (upr (upr (upr R 0 (ups (ups (ups (ups (ups (ups (ups (ups (ups (ups (ups (ups (R 0) 6 0) 2 (kpN (R 0 2))) 5 st5) 16 cm) 15 q) 7 y7) 8 y8) 9 y9) 16 k9_28) 15 x9_27) 5 (ftV (M) (k9_28) (b9_29))) 15 (skp (R 3) ((((((((((((R 0 4)))))))))))) ((x9_27))))) 1 (efM (M) (((k9_28))) (b9_29))) 2 (kpS (R 2) (R 1) (R 0 2))) 7 (b9_29))) := k_addr hD rfl
                            have hPn : va_P D vwCl (rfW cy a (upr (upr (upr (upr R 0 (ups (ups (ups (ups (ups (ups (ups (ups (ups (ups (ups (ups (R 0) 6 0) 2 (kpN (R 0 2))) 5 st5) 16 cm) 15 q) 7 y7) 8 y8) 9 y9) 16 k9_28) 15 x9_27) 5 (ftV (M) (k9_28) (b9_29))) 15 (skp (R 3) ((((((((((((R 0 4)))))))))))) ((x9_27))))) 1 (efM (M) (((k9_28))) (b9_29))) 2 (kpS (R 2) (R 1) (R 0 2))) 7 (b9_29))) H1 := hP1
                            clear hP hD hS hP1 hD1 hk1
                            have hP := hPn
                            have hD := hDn
                            have hS := hS1
                            clear hPn hDn hS1
                            generalize H1 = H at hP hS ⊢
                            generalize locs1 = locs at hS ⊢
                            refine lv_istore_n (lv' := [(2, .int (iI 1)), (1, .int (iI (c9 + 1))), (3, .int (iI zr_41)), (0, .ref (a 0))]) hx hb dX7_runCommands_93 rfl hl (by decide) rfl (fun ls hl => ?_)
                            refine lv_goto (tgt := 41) hx hb dX7_runCommands_94 (by decide) ?_
                            exact ih41 A0 (skp (R 3) ((((((((((((R 0 4)))))))))))) ((x9_27))) (efM (M) (((k9_28))) (b9_29)) b9_29 (ftV (M) (k9_28) (b9_29)) k9_28 y7 y8 y9 (c9 + 1)  (by omega) (hnm2) (by first | exact hIe | exact hi2) (by omega) (by first | exact Or.inl ⟨hv0, (rcF_go hi0.1 htn (by omega) hpc hv0).symm.trans hres, _, hpy.symm.trans hpx⟩ | exact Or.inr ⟨hv1, hres.symm.trans (rcF_no (by omega) hpc hv1)⟩) (hi5) (hi6) (by omega) H locs (by rw [show (ups (ups (ups (ups (ups (ups (ups (ups (R 0) 6 0) 2 (kpN (R 0 2))) 5 (ftV (M) (k9_28) (b9_29))) 16 k9_28) 15 (skp (R 3) ((((((((((((R 0 4)))))))))))) ((x9_27)))) 7 y7) 8 y8) 9 y9) = (ups (ups (ups (ups (ups (ups (ups (ups (ups (ups (ups (ups (R 0) 6 0) 2 (kpN (R 0 2))) 5 st5) 16 cm) 15 q) 7 y7) 8 y8) 9 y9) 16 k9_28) 15 x9_27) 5 (ftV (M) (k9_28) (b9_29))) 15 (skp (R 3) ((((((((((((R 0 4)))))))))))) ((x9_27)))) from by funext k9; by_cases e0 : k9 = 9; (subst e0; first | rfl | simp [ups]); by_cases e1 : k9 = 8; (subst e1; first | rfl | simp [ups]); by_cases e2 : k9 = 7; (subst e2; first | rfl | simp [ups]); by_cases e3 : k9 = 15; (subst e3; first | rfl | simp [ups]); by_cases e4 : k9 = 16; (subst e4; first | rfl | simp [ups]); by_cases e5 : k9 = 5; (subst e5; first | rfl | simp [ups]); by_cases e6 : k9 = 2; (subst e6; first | rfl | simp [ups]); by_cases e7 : k9 = 6; (subst e7; first | rfl | simp [ups]); simp only [ups, if_neg e0, if_neg e1, if_neg e2, if_neg e3, if_neg e4, if_neg e5, if_neg e6, if_neg e7]]; exact hP) (k_addr hD rfl) hS ls (lv_sub hl [1, 3] rfl)
                          · skip
                            have c_48 : (skp (R 3) ((((((((((((R 0 4)))))))))))) ((x9_27))) = (x9_27) := c_48
                            subst hr_46
                            subst hR_47
                            have hDn : va_D (va_A (rfW cy a R) sz) (rfW cy a (upr (upr (upr (upr R 0 (ups (ups (ups (ups (ups (ups (ups (ups (ups (ups (ups (ups (R 0) 6 0) 2 (kpN (R 0 2))) 5 st5) 16 cm) 15 q) 7 y7) 8 y8) 9 y9) 16 k9_28) 15 x9_27) 5 (ftV (M) (k9_28) (b9_29))) 15 (skp (R 3) ((((((((((((R 0 4)))))))))))) ((x9_27))))) 1 (efM (M) (((k9_28))) (b9_29))) 2 (kpS (R 2) (R 1) (R 0 2))) 7 (b9_29))) := k_addr hD rfl
                            have hPn : va_P D vwCl (rfW cy a (upr (upr (upr (upr R 0 (ups (ups (ups (ups (ups (ups (ups (ups (ups (ups (ups (ups (R 0) 6 0) 2 (kpN (R 0 2))) 5 st5) 16 cm) 15 q) 7 y7) 8 y8) 9 y9) 16 k9_28) 15 x9_27) 5 (ftV (M) (k9_28) (b9_29))) 15 (skp (R 3) ((((((((((((R 0 4)))))))))))) ((x9_27))))) 1 (efM (M) (((k9_28))) (b9_29))) 2 (kpS (R 2) (R 1) (R 0 2))) 7 (b9_29))) H1 := hP1
                            clear hP hD hS hP1 hD1 hk1
                            have hP := hPn
                            have hD := hDn
                            have hS := hS1
                            clear hPn hDn hS1
                            generalize H1 = H at hP hS ⊢
                            generalize locs1 = locs at hS ⊢
                            refine lv_istore_n (lv' := [(2, .int (iI 0)), (1, .int (iI (c9 + 1))), (3, .int (iI zr_41)), (0, .ref (a 0))]) hx hb dX7_runCommands_93 rfl hl (by decide) rfl (fun ls hl => ?_)
                            refine lv_goto (tgt := 41) hx hb dX7_runCommands_94 (by decide) ?_
                            exact ih41 A0 (skp (R 3) ((((((((((((R 0 4)))))))))))) ((x9_27))) (efM (M) (((k9_28))) (b9_29)) b9_29 (ftV (M) (k9_28) (b9_29)) k9_28 y7 y8 y9 (c9 + 1)  (by omega) (hnm2) (by first | exact hIe | exact hi2) (by omega) (by first | exact Or.inl ⟨hv0, (rcF_go hi0.1 htn (by omega) hpc hv0).symm.trans hres, _, hpy.symm.trans hpx⟩ | exact Or.inr ⟨hv1, hres.symm.trans (rcF_no (by omega) hpc hv1)⟩) (hi5) (hi6) (by omega) H locs (by rw [show (ups (ups (ups (ups (ups (ups (ups (ups (R 0) 6 0) 2 (kpN (R 0 2))) 5 (ftV (M) (k9_28) (b9_29))) 16 k9_28) 15 (skp (R 3) ((((((((((((R 0 4)))))))))))) ((x9_27)))) 7 y7) 8 y8) 9 y9) = (ups (ups (ups (ups (ups (ups (ups (ups (ups (ups (ups (ups (R 0) 6 0) 2 (kpN (R 0 2))) 5 st5) 16 cm) 15 q) 7 y7) 8 y8) 9 y9) 16 k9_28) 15 x9_27) 5 (ftV (M) (k9_28) (b9_29))) 15 (skp (R 3) ((((((((((((R 0 4)))))))))))) ((x9_27)))) from by funext k9; by_cases e0 : k9 = 9; (subst e0; first | rfl | simp [ups]); by_cases e1 : k9 = 8; (subst e1; first | rfl | simp [ups]); by_cases e2 : k9 = 7; (subst e2; first | rfl | simp [ups]); by_cases e3 : k9 = 15; (subst e3; first | rfl | simp [ups]); by_cases e4 : k9 = 16; (subst e4; first | rfl | simp [ups]); by_cases e5 : k9 = 5; (subst e5; first | rfl | simp [ups]); by_cases e6 : k9 = 2; (subst e6; first | rfl | simp [ups]); by_cases e7 : k9 = 6; (subst e7; first | rfl | simp [ups]); simp only [ups, if_neg e0, if_neg e1, if_neg e2, if_neg e3, if_neg e4, if_neg e5, if_neg e6, if_neg e7]]; exact hP) (k_addr hD rfl) hS ls (lv_sub hl [1, 3] rfl)
                        · skip
                          have c_40 : ((k9_28)) = 6 := c_40
                          have hr_38 := hr_38.symm
                          subst hr_38
                          subst hR_39
                          have hDn : va_D (va_A (rfW cy a R) sz) (rfW cy a (upr (upr (upr (upr R 0 (ups (ups (ups (ups (ups (ups (ups (ups (ups (ups (ups (ups (ups (ups (R 0) 6 0) 2 (kpN (R 0 2))) 5 st5) 16 cm) 15 q) 7 y7) 8 y8) 9 y9) 16 k9_28) 15 x9_27) 5 (ftV (M) (k9_28) (b9_29))) 7 x7_43) 8 x8_44) 9 x9_45)) 1 (efM (M) (((k9_28))) (b9_29))) 2 (kpS (R 2) (R 1) (R 0 2))) 7 (b9_29))) := k_addr hD rfl
                          have hPn : va_P D vwCl (rfW cy a (upr (upr (upr (upr R 0 (ups (ups (ups (ups (ups (ups (ups (ups (ups (ups (ups (ups (ups (ups (R 0) 6 0) 2 (kpN (R 0 2))) 5 st5) 16 cm) 15 q) 7 y7) 8 y8) 9 y9) 16 k9_28) 15 x9_27) 5 (ftV (M) (k9_28) (b9_29))) 7 x7_43) 8 x8_44) 9 x9_45)) 1 (efM (M) (((k9_28))) (b9_29))) 2 (kpS (R 2) (R 1) (R 0 2))) 7 (b9_29))) H1 := hP1
                          clear hP hD hS hP1 hD1 hk1
                          have hP := hPn
                          have hD := hDn
                          have hS := hS1
                          clear hPn hDn hS1
                          generalize H1 = H at hP hS ⊢
                          generalize locs1 = locs at hS ⊢
                          refine lv_istore_n (lv' := [(3, .int (iI zr_42)), (1, .int (iI c9)), (0, .ref (a 0))]) hx hb dX7_runCommands_85 rfl hl (by decide) rfl (fun ls hl => ?_)
                          refine lv_iinc (v := iI (c9 + 1)) (lv' := [(1, .int (iI (c9 + 1))), (3, .int (iI zr_42)), (0, .ref (a 0))]) hx hb dX7_runCommands_86 hl (k := 1) rfl (iI_add _ _) (by decide) rfl (fun ls hl => ?_)
                          refine lv_aload_n hx hb dX7_runCommands_89 rfl (lv_at hl 2 rfl) ?_
                          refine k_mui (k_runV (As := []) (rest := []) ⟨hx, hb, hml, hown, hts⟩ (c_X7_skips l D cy H.size a (upr (upr (upr (upr R 0 (ups (ups (ups (ups (ups (ups (ups (ups (ups (ups (ups (ups (ups (ups (R 0) 6 0) 2 (kpN (R 0 2))) 5 st5) 16 cm) 15 q) 7 y7) 8 y8) 9 y9) 16 k9_28) 15 x9_27) 5 (ftV (M) (k9_28) (b9_29))) 7 x7_43) 8 x8_44) 9 x9_45)) 1 (efM (M) (((k9_28))) (b9_29))) 2 (kpS (R 2) (R 1) (R 0 2))) 7 (b9_29)) (show 0 ≤ ((((x9_27)))) ∧ ((((x9_27)))) ≤ ((((((((((((((R 0 4)))))))))))))) by omega) (show ((((((((((((((R 0 4)))))))))))))) ≤ 150 by omega) (show ∀ k : Int, 0 ≤ k → k < 150 → 0 ≤ (R 3) k ∧ (R 3) k ≤ 127 by omega)) gX7_runCommands_X7_skips rfl ⟨rfl, rfl⟩ 0 rfl (by decide +kernel) ⟨Nat.le_of_ble_eq_true rfl, Nat.le_of_ble_eq_true rfl⟩ (GG_ok D cy) hG hS (k_free hD hS hA) hP hD (va_recv hK hP (ci := 6) (q0 := 0) rfl rfl) hl.1 rfl (Nat.le_of_ble_eq_true rfl) ⟨Nat.le_of_ble_eq_true rfl, Nat.le_of_ble_eq_true rfl⟩ dX7_runCommands_90) (k_free hD hS hA) hS (fun r_49 R_50 H1 locs1 hR_50 hP1 hD1 hS1 hk1 => ?_)
                          rcases hR_50 with ⟨c_51, hr_49, hR_50⟩ | ⟨c_51, hr_49, hR_50⟩
                          · skip
                            have c_51 : ((((x9_27)))) < (skp (R 3) (((((((((((((((R 0 4))))))))))))))) (((((x9_27)))))) := c_51
                            subst hr_49
                            subst hR_50
                            have hDn : va_D (va_A (rfW cy a R) sz) (rfW cy a (upr (upr (upr (upr R 0 (ups (ups (ups (ups (ups (ups (ups (ups (ups (ups (ups (ups (ups (ups (ups (R 0) 6 0) 2 (kpN (R 0 2))) 5 st5) 16 cm) 15 q) 7 y7) 8 y8) 9 y9) 16 k9_28) 15 x9_27) 5 (ftV (M) (k9_28) (b9_29))) 7 x7_43) 8 x8_44) 9 x9_45) 15 (skp (R 3) (((((((((((((((R 0 4))))))))))))))) (((((x9_27)))))))) 1 (efM (M) (((k9_28))) (b9_29))) 2 (kpS (R 2) (R 1) (R 0 2))) 7 (b9_29))) := k_addr hD rfl
                            have hPn : va_P D vwCl (rfW cy a (upr (upr (upr (upr R 0 (ups (ups (ups (ups (ups (ups (ups (ups (ups (ups (ups (ups (ups (ups (ups (R 0) 6 0) 2 (kpN (R 0 2))) 5 st5) 16 cm) 15 q) 7 y7) 8 y8) 9 y9) 16 k9_28) 15 x9_27) 5 (ftV (M) (k9_28) (b9_29))) 7 x7_43) 8 x8_44) 9 x9_45) 15 (skp (R 3) (((((((((((((((R 0 4))))))))))))))) (((((x9_27)))))))) 1 (efM (M) (((k9_28))) (b9_29))) 2 (kpS (R 2) (R 1) (R 0 2))) 7 (b9_29))) H1 := hP1
                            clear hP hD hS hP1 hD1 hk1
                            have hP := hPn
                            have hD := hDn
                            have hS := hS1
                            clear hPn hDn hS1
                            generalize H1 = H at hP hS ⊢
                            generalize locs1 = locs at hS ⊢
                            refine lv_istore_n (lv' := [(2, .int (iI 1)), (1, .int (iI (c9 + 1))), (3, .int (iI zr_42)), (0, .ref (a 0))]) hx hb dX7_runCommands_93 rfl hl (by decide) rfl (fun ls hl => ?_)
                            refine lv_goto (tgt := 41) hx hb dX7_runCommands_94 (by decide) ?_
                            exact ih41 A0 (skp (R 3) (((((((((((((((R 0 4))))))))))))))) (((((x9_27)))))) (efM (M) (((k9_28))) (b9_29)) b9_29 (ftV (M) (k9_28) (b9_29)) k9_28 x7_43 x8_44 x9_45 (c9 + 1)  (by omega) (hnm2) (by first | exact hIe | exact hi2) (by omega) (by first | exact Or.inl ⟨hv0, (rcF_go hi0.1 htn (by omega) hpc hv0).symm.trans hres, _, hpy.symm.trans hpx⟩ | exact Or.inr ⟨hv1, hres.symm.trans (rcF_no (by omega) hpc hv1)⟩) (hi5) (hi6) (by omega) H locs (by rw [show (ups (ups (ups (ups (ups (ups (ups (ups (R 0) 6 0) 2 (kpN (R 0 2))) 5 (ftV (M) (k9_28) (b9_29))) 16 k9_28) 15 (skp (R 3) (((((((((((((((R 0 4))))))))))))))) (((((x9_27))))))) 7 x7_43) 8 x8_44) 9 x9_45) = (ups (ups (ups (ups (ups (ups (ups (ups (ups (ups (ups (ups (ups (ups (ups (R 0) 6 0) 2 (kpN (R 0 2))) 5 st5) 16 cm) 15 q) 7 y7) 8 y8) 9 y9) 16 k9_28) 15 x9_27) 5 (ftV (M) (k9_28) (b9_29))) 7 x7_43) 8 x8_44) 9 x9_45) 15 (skp (R 3) (((((((((((((((R 0 4))))))))))))))) (((((x9_27))))))) from by funext k9; by_cases e0 : k9 = 9; (subst e0; first | rfl | simp [ups]); by_cases e1 : k9 = 8; (subst e1; first | rfl | simp [ups]); by_cases e2 : k9 = 7; (subst e2; first | rfl | simp [ups]); by_cases e3 : k9 = 15; (subst e3; first | rfl | simp [ups]); by_cases e4 : k9 = 16; (subst e4; first | rfl | simp [ups]); by_cases e5 : k9 = 5; (subst e5; first | rfl | simp [ups]); by_cases e6 : k9 = 2; (subst e6; first | rfl | simp [ups]); by_cases e7 : k9 = 6; (subst e7; first | rfl | simp [ups]); simp only [ups, if_neg e0, if_neg e1, if_neg e2, if_neg e3, if_neg e4, if_neg e5, if_neg e6, if_neg e7]]; exact hP) (k_addr hD rfl) hS ls (lv_sub hl [1, 3] rfl)
                          · skip
                            have c_51 : (skp (R 3) (((((((((((((((R 0 4))))))))))))))) (((((x9_27)))))) = ((((x9_27)))) := c_51
                            subst hr_49
                            subst hR_50
                            have hDn : va_D (va_A (rfW cy a R) sz) (rfW cy a (upr (upr (upr (upr R 0 (ups (ups (ups (ups (ups (ups (ups (ups (ups (ups (ups (ups (ups (ups (ups (R 0) 6 0) 2 (kpN (R 0 2))) 5 st5) 16 cm) 15 q) 7 y7) 8 y8) 9 y9) 16 k9_28) 15 x9_27) 5 (ftV (M) (k9_28) (b9_29))) 7 x7_43) 8 x8_44) 9 x9_45) 15 (skp (R 3) (((((((((((((((R 0 4))))))))))))))) (((((x9_27)))))))) 1 (efM (M) (((k9_28))) (b9_29))) 2 (kpS (R 2) (R 1) (R 0 2))) 7 (b9_29))) := k_addr hD rfl
                            have hPn : va_P D vwCl (rfW cy a (upr (upr (upr (upr R 0 (ups (ups (ups (ups (ups (ups (ups (ups (ups (ups (ups (ups (ups (ups (ups (R 0) 6 0) 2 (kpN (R 0 2))) 5 st5) 16 cm) 15 q) 7 y7) 8 y8) 9 y9) 16 k9_28) 15 x9_27) 5 (ftV (M) (k9_28) (b9_29))) 7 x7_43) 8 x8_44) 9 x9_45) 15 (skp (R 3) (((((((((((((((R 0 4))))))))))))))) (((((x9_27)))))))) 1 (efM (M) (((k9_28))) (b9_29))) 2 (kpS (R 2) (R 1) (R 0 2))) 7 (b9_29))) H1 := hP1
                            clear hP hD hS hP1 hD1 hk1
                            have hP := hPn
                            have hD := hDn
                            have hS := hS1
                            clear hPn hDn hS1
                            generalize H1 = H at hP hS ⊢
                            generalize locs1 = locs at hS ⊢
                            refine lv_istore_n (lv' := [(2, .int (iI 0)), (1, .int (iI (c9 + 1))), (3, .int (iI zr_42)), (0, .ref (a 0))]) hx hb dX7_runCommands_93 rfl hl (by decide) rfl (fun ls hl => ?_)
                            refine lv_goto (tgt := 41) hx hb dX7_runCommands_94 (by decide) ?_
                            exact ih41 A0 (skp (R 3) (((((((((((((((R 0 4))))))))))))))) (((((x9_27)))))) (efM (M) (((k9_28))) (b9_29)) b9_29 (ftV (M) (k9_28) (b9_29)) k9_28 x7_43 x8_44 x9_45 (c9 + 1)  (by omega) (hnm2) (by first | exact hIe | exact hi2) (by omega) (by first | exact Or.inl ⟨hv0, (rcF_go hi0.1 htn (by omega) hpc hv0).symm.trans hres, _, hpy.symm.trans hpx⟩ | exact Or.inr ⟨hv1, hres.symm.trans (rcF_no (by omega) hpc hv1)⟩) (hi5) (hi6) (by omega) H locs (by rw [show (ups (ups (ups (ups (ups (ups (ups (ups (R 0) 6 0) 2 (kpN (R 0 2))) 5 (ftV (M) (k9_28) (b9_29))) 16 k9_28) 15 (skp (R 3) (((((((((((((((R 0 4))))))))))))))) (((((x9_27))))))) 7 x7_43) 8 x8_44) 9 x9_45) = (ups (ups (ups (ups (ups (ups (ups (ups (ups (ups (ups (ups (ups (ups (ups (R 0) 6 0) 2 (kpN (R 0 2))) 5 st5) 16 cm) 15 q) 7 y7) 8 y8) 9 y9) 16 k9_28) 15 x9_27) 5 (ftV (M) (k9_28) (b9_29))) 7 x7_43) 8 x8_44) 9 x9_45) 15 (skp (R 3) (((((((((((((((R 0 4))))))))))))))) (((((x9_27))))))) from by funext k9; by_cases e0 : k9 = 9; (subst e0; first | rfl | simp [ups]); by_cases e1 : k9 = 8; (subst e1; first | rfl | simp [ups]); by_cases e2 : k9 = 7; (subst e2; first | rfl | simp [ups]); by_cases e3 : k9 = 15; (subst e3; first | rfl | simp [ups]); by_cases e4 : k9 = 16; (subst e4; first | rfl | simp [ups]); by_cases e5 : k9 = 5; (subst e5; first | rfl | simp [ups]); by_cases e6 : k9 = 2; (subst e6; first | rfl | simp [ups]); by_cases e7 : k9 = 6; (subst e7; first | rfl | simp [ups]); simp only [ups, if_neg e0, if_neg e1, if_neg e2, if_neg e3, if_neg e4, if_neg e5, if_neg e6, if_neg e7]]; exact hP) (k_addr hD rfl) hS ls (lv_sub hl [1, 3] rfl)
          exact loop41 ((R 0 4 - (skp (R 3) (((((((R 0 4))))))) ((0))) : Int) + 1).toNat zb_8 (skp (R 3) (((((((R 0 4))))))) ((0))) (R 1) zb_8 0 zc_7 (R 0 7) (R 0 8) (R 0 9) 0  (by omega) (hit.1) (hI) (by omega) (Or.inl ⟨rfl, rfl, _, hit.2⟩) (hit.1) (⟨_, hit.2⟩) (by omega) H locs (by rw [show (ups (ups (ups (ups (ups (ups (ups (ups (R 0) 6 0) 2 (kpN (R 0 2))) 5 0) 16 zc_7) 15 (skp (R 3) (((((((R 0 4))))))) ((0)))) 7 (R 0 7)) 8 (R 0 8)) 9 (R 0 9)) = (ups (ups (ups (ups (ups (ups (ups (R 0) 6 0) 16 zc_7) 15 zx_9) 2 (kpN (R 0 2))) 15 0) 5 0) 15 (skp (R 3) (((((((R 0 4))))))) ((0)))) from by funext k9; by_cases e0 : k9 = 9; (subst e0; first | rfl | simp [ups]); by_cases e1 : k9 = 8; (subst e1; first | rfl | simp [ups]); by_cases e2 : k9 = 7; (subst e2; first | rfl | simp [ups]); by_cases e3 : k9 = 15; (subst e3; first | rfl | simp [ups]); by_cases e4 : k9 = 16; (subst e4; first | rfl | simp [ups]); by_cases e5 : k9 = 5; (subst e5; first | rfl | simp [ups]); by_cases e6 : k9 = 2; (subst e6; first | rfl | simp [ups]); by_cases e7 : k9 = 6; (subst e7; first | rfl | simp [ups]); simp only [ups, if_neg e0, if_neg e1, if_neg e2, if_neg e3, if_neg e4, if_neg e5, if_neg e6, if_neg e7]]; exact hP) (k_addr hD rfl) hS ls (lv_sub hl [1, 2] rfl)
        · skip
          have c_16 : (skp (R 3) (((((((R 0 4))))))) ((0))) = (0) := c_16
          subst hr_14
          subst hR_15
          have hDn : va_D (va_A (rfW cy a R) sz) (rfW cy a (upr (upr (upr R 0 (ups (ups (ups (ups (ups (ups (ups (R 0) 6 0) 16 zc_7) 15 zx_9) 2 (kpN (R 0 2))) 15 0) 5 0) 15 (skp (R 3) (((((((R 0 4))))))) ((0))))) 2 (kpS (R 2) (R 1) ((((R 0 2)))))) 7 (zb_8))) := k_addr hD rfl
          have hPn : va_P D vwCl (rfW cy a (upr (upr (upr R 0 (ups (ups (ups (ups (ups (ups (ups (R 0) 6 0) 16 zc_7) 15 zx_9) 2 (kpN (R 0 2))) 15 0) 5 0) 15 (skp (R 3) (((((((R 0 4))))))) ((0))))) 2 (kpS (R 2) (R 1) ((((R 0 2)))))) 7 (zb_8))) H1 := hP1
          clear hP hD hS hP1 hD1 hk1
          have hP := hPn
          have hD := hDn
          have hS := hS1
          clear hPn hDn hS1
          generalize H1 = H at hP hS ⊢
          generalize locs1 = locs at hS ⊢
          refine lv_istore_n (lv' := [(2, .int (iI 0)), (1, .int (iI 0)), (0, .ref (a 0))]) hx hb dX7_runCommands_40 rfl hl (by decide) rfl (fun ls hl => ?_)
          have loop41 : ∀ (n_52 : Nat) (A0 : Int → Int) (q : Int) (M : Int → Int) (A : Int → Int) (st5 : Int) (cm : Int) (y7 : Int) (y8 : Int) (y9 : Int) (c9 : Int) (hi0 : 0 ≤ q ∧ q ≤ R 0 4) (hi1 : nmOK A) (hi2 : Inv M) (hi3 : 0 ≤ st5 ∧ st5 ≤ 3) (hi4 : (st5 = 0 ∧ rcF (R 3) (R 0 4) q M A c9 = (rcF (R 3) (R 0 4) (skp (R 3) (R 0 4) 0) (R 1) A0 0) ∧ ∃ zx : Int, prsF (R 3) (R 0 4) q = (1, zx)) ∨ (¬ st5 = 0 ∧ (rcF (R 3) (R 0 4) (skp (R 3) (R 0 4) 0) (R 1) A0 0) = (st5, c9, M))) (hi5 : nmOK A0) (hi6 : ∃ zx : Int, (prsF (R 3) (R 0 4) (skp (R 3) (R 0 4) 0)) = (1, zx)) (hn : R 0 4 - q < (n_52 : Int)) (H : Heap) (locs : List Loc) (hP : va_P D vwCl (rfW cy a (upr (upr (upr (upr R 0 (ups (ups (ups (ups (ups (ups (ups (ups (R 0) 6 0) 2 (kpN (R 0 2))) 5 st5) 16 cm) 15 q) 7 y7) 8 y8) 9 y9)) 1 (M)) 2 (kpS (R 2) (R 1) (R 0 2))) 7 (A))) H) (hD : va_D (va_A (rfW cy a R) sz) (rfW cy a (upr (upr (upr (upr R 0 (ups (ups (ups (ups (ups (ups (ups (ups (R 0) 6 0) 2 (kpN (R 0 2))) 5 st5) 16 cm) 15 q) 7 y7) 8 y8) 9 y9)) 1 (M)) 2 (kpS (R 2) (R 1) (R 0 2))) 7 (A)))) (hS : va_S (va_A (rfW cy a R) sz) s.heap H locs) (ls : Array Slot) (hl : lv_has ls 4 [(1, .int (iI c9)), (0, .ref (a 0))]), W p l e { frames := 10, cells := 0, slots := 0, locals := 230 } s m ([.ref (a 0)] : List Value).toArray below meth c H locs 0 0 (MQ below (kQi D (rfW cy a R) sz (fun u9 : Nat → Int → Int => rfW cy a u9) (fun r9 u9 => (∃ (zc : Int) (zb : Int → Int) (zx : Int), (nmOK zb ∧ (prsF (R 3) (R 0 4) (skp (R 3) (R 0 4) 0)) = (0, zx)) ∧ r9 = -10 - zx ∧ u9 = (upr (upr R 0 (ups (ups (ups (R 0) 6 0) 16 zc) 15 zx)) 7 (zb))) ∨ (∃ (A0 : Int → Int) (zb : Int → Int) (zm : Int → Int) (zn : Int) (z5 : Int) (zc : Int) (zq : Int) (z7 : Int) (z8 : Int) (z9 : Int), ((∃ zx : Int, (prsF (R 3) (R 0 4) (skp (R 3) (R 0 4) 0)) = (1, zx)) ∧ nmOK A0 ∧ nmOK zb ∧ (rcF (R 3) (R 0 4) (skp (R 3) (R 0 4) 0) (R 1) A0 0) = (z5, zn, zm)) ∧ r9 = zn ∧ u9 = (upr (upr (upr (upr R 0 (ups (ups (ups (ups (ups (ups (ups (ups (R 0) 6 0) 2 (kpN (R 0 2))) 5 z5) 16 zc) 15 zq) 7 z7) 8 z8) 9 z9)) 1 (zm)) 2 (kpS (R 2) (R 1) (R 0 2))) 7 (zb))))) ([.ref (a 0)] : List Value).toArray s 0 0 (va_A (rfW cy a R) sz)) (F0 m 41 ls []) := by
            intro n_52
            induction n_52 with
            | zero => intro A0 q M A st5 cm y7 y8 y9 c9 hi0 hi1 hi2 hi3 hi4 hi5 hi6 hn H locs hP hD hS ls hl; exfalso; omega
            | succ n_52 ih41 =>
              intro A0 q M A st5 cm y7 y8 y9 c9 hi0 hi1 hi2 hi3 hi4 hi5 hi6 hn H locs hP hD hS ls hl
              refine lv_aload_n hx hb dX7_runCommands_41 rfl (lv_at hl 1 rfl) ?_
              refine va_get (D := D) (ci := 6) (v := .int (iI st5)) (C := RX7) (T := TX7) (N := 19) hx hb hts hinX7 hown hK hP 0 rfl rfl 5 (by decide) hmw2 (fun _ h9 => h9) rfl dX7_runCommands_42 ?_
              refine k_if_ne (tgt := 97) hx hb dX7_runCommands_45 (by decide) (by omega) (fun c_53 => ?_) (fun c_53 => ?_)
              · skip
                have hex : (rcF (R 3) (R 0 4) (skp (R 3) (R 0 4) 0) (R 1) A0 0) = (st5, c9, M) := by rcases hi4 with h9 | h9; exact absurd h9.1 (by omega); exact h9.2
                refine lv_iload_n hx hb dX7_runCommands_97 rfl (lv_at hl 0 rfl) ?_
                exact W.iret (v := iI c9) hx hb hr (fun t9 ht _ => ⟨⟨iI c9, (upr (upr (upr (upr R 0 (ups (ups (ups (ups (ups (ups (ups (ups (R 0) 6 0) 2 (kpN (R 0 2))) 5 st5) 16 cm) 15 q) 7 y7) 8 y8) 9 y9)) 1 (M)) 2 (kpS (R 2) (R 1) (R 0 2))) 7 (A)), rfl, ⟨c9, rfl, (by first | exact Or.inr (⟨(A0), (A), (M), (c9), (st5), (cm), (q), (y7), (y8), (y9), (by first | exact ⟨hi6, hi5, hi1, hex⟩ | exact hbad.elim), (by first | rfl | omega), rfl⟩) : (∃ (zc : Int) (zb : Int → Int) (zx : Int), (nmOK zb ∧ (prsF (R 3) (R 0 4) (skp (R 3) (R 0 4) 0)) = (0, zx)) ∧ (c9 : Int) = -10 - zx ∧ (upr (upr (upr (upr R 0 (ups (ups (ups (ups (ups (ups (ups (ups (R 0) 6 0) 2 (kpN (R 0 2))) 5 st5) 16 cm) 15 q) 7 y7) 8 y8) 9 y9)) 1 (M)) 2 (kpS (R 2) (R 1) (R 0 2))) 7 (A)) = (upr (upr R 0 (ups (ups (ups (R 0) 6 0) 16 zc) 15 zx)) 7 (zb))) ∨ (∃ (A0 : Int → Int) (zb : Int → Int) (zm : Int → Int) (zn : Int) (z5 : Int) (zc : Int) (zq : Int) (z7 : Int) (z8 : Int) (z9 : Int), ((∃ zx : Int, (prsF (R 3) (R 0 4) (skp (R 3) (R 0 4) 0)) = (1, zx)) ∧ nmOK A0 ∧ nmOK zb ∧ (rcF (R 3) (R 0 4) (skp (R 3) (R 0 4) 0) (R 1) A0 0) = (z5, zn, zm)) ∧ (c9 : Int) = zn ∧ (upr (upr (upr (upr R 0 (ups (ups (ups (ups (ups (ups (ups (ups (R 0) 6 0) 2 (kpN (R 0 2))) 5 st5) 16 cm) 15 q) 7 y7) 8 y8) 9 y9)) 1 (M)) 2 (kpS (R 2) (R 1) (R 0 2))) 7 (A)) = (upr (upr (upr (upr R 0 (ups (ups (ups (ups (ups (ups (ups (ups (R 0) 6 0) 2 (kpN (R 0 2))) 5 z5) 16 zc) 15 zq) 7 z7) 8 z8) 9 z9)) 1 (zm)) 2 (kpS (R 2) (R 1) (R 0 2))) 7 (zb))))⟩, by rw [ht]; exact hP, hD⟩, hS.F ht⟩) hS.2.2 dX7_runCommands_98 hlocks
              · skip
                obtain ⟨hst0, hres, zx9, hpx⟩ : st5 = 0 ∧ rcF (R 3) (R 0 4) q M A c9 = (rcF (R 3) (R 0 4) (skp (R 3) (R 0 4) 0) (R 1) A0 0) ∧ ∃ zx : Int, prsF (R 3) (R 0 4) q = (1, zx) := by rcases hi4 with h9 | h9; exact h9; exact absurd (show st5 = 0 by omega) h9.1
                refine lv_aload_n hx hb dX7_runCommands_48 rfl (lv_at hl 1 rfl) ?_
                refine va_get (D := D) (ci := 6) (v := .int (iI q)) (C := RX7) (T := TX7) (N := 19) hx hb hts hinX7 hown hK hP 0 rfl rfl 15 (by decide) hmw1 (fun _ h9 => h9) rfl dX7_runCommands_49 ?_
                refine lv_aload_n hx hb dX7_runCommands_52 rfl (lv_at hl 1 rfl) ?_
                refine va_get (D := D) (ci := 6) (v := .int (iI (R 0 4))) (C := RX7) (T := TX7) (N := 19) hx hb hts hinX7 hown hK hP 0 rfl rfl 4 (by decide) hmw3 (fun _ h9 => h9) rfl dX7_runCommands_53 ?_
                refine k_icmp_ge (tgt := 97) hx hb dX7_runCommands_56 (by decide) (by omega) (by omega) (fun c_54 => ?_) (fun c_54 => ?_)
                · skip
                  have hex : (rcF (R 3) (R 0 4) (skp (R 3) (R 0 4) 0) (R 1) A0 0) = (st5, c9, M) := by rw [← hres, hst0]; exact rcF_end (by omega)
                  refine lv_iload_n hx hb dX7_runCommands_97 rfl (lv_at hl 0 rfl) ?_
                  exact W.iret (v := iI c9) hx hb hr (fun t9 ht _ => ⟨⟨iI c9, (upr (upr (upr (upr R 0 (ups (ups (ups (ups (ups (ups (ups (ups (R 0) 6 0) 2 (kpN (R 0 2))) 5 st5) 16 cm) 15 q) 7 y7) 8 y8) 9 y9)) 1 (M)) 2 (kpS (R 2) (R 1) (R 0 2))) 7 (A)), rfl, ⟨c9, rfl, (by first | exact Or.inr (⟨(A0), (A), (M), (c9), (st5), (cm), (q), (y7), (y8), (y9), (by first | exact ⟨hi6, hi5, hi1, hex⟩ | exact hbad.elim), (by first | rfl | omega), rfl⟩) : (∃ (zc : Int) (zb : Int → Int) (zx : Int), (nmOK zb ∧ (prsF (R 3) (R 0 4) (skp (R 3) (R 0 4) 0)) = (0, zx)) ∧ (c9 : Int) = -10 - zx ∧ (upr (upr (upr (upr R 0 (ups (ups (ups (ups (ups (ups (ups (ups (R 0) 6 0) 2 (kpN (R 0 2))) 5 st5) 16 cm) 15 q) 7 y7) 8 y8) 9 y9)) 1 (M)) 2 (kpS (R 2) (R 1) (R 0 2))) 7 (A)) = (upr (upr R 0 (ups (ups (ups (R 0) 6 0) 16 zc) 15 zx)) 7 (zb))) ∨ (∃ (A0 : Int → Int) (zb : Int → Int) (zm : Int → Int) (zn : Int) (z5 : Int) (zc : Int) (zq : Int) (z7 : Int) (z8 : Int) (z9 : Int), ((∃ zx : Int, (prsF (R 3) (R 0 4) (skp (R 3) (R 0 4) 0)) = (1, zx)) ∧ nmOK A0 ∧ nmOK zb ∧ (rcF (R 3) (R 0 4) (skp (R 3) (R 0 4) 0) (R 1) A0 0) = (z5, zn, zm)) ∧ (c9 : Int) = zn ∧ (upr (upr (upr (upr R 0 (ups (ups (ups (ups (ups (ups (ups (ups (R 0) 6 0) 2 (kpN (R 0 2))) 5 st5) 16 cm) 15 q) 7 y7) 8 y8) 9 y9)) 1 (M)) 2 (kpS (R 2) (R 1) (R 0 2))) 7 (A)) = (upr (upr (upr (upr R 0 (ups (ups (ups (ups (ups (ups (ups (ups (R 0) 6 0) 2 (kpN (R 0 2))) 5 z5) 16 zc) 15 zq) 7 z7) 8 z8) 9 z9)) 1 (zm)) 2 (kpS (R 2) (R 1) (R 0 2))) 7 (zb))))⟩, by rw [ht]; exact hP, hD⟩, hS.F ht⟩) hS.2.2 dX7_runCommands_98 hlocks
                · skip
                  refine lv_aload_n hx hb dX7_runCommands_59 rfl (lv_at hl 1 rfl) ?_
                  refine k_mui (k_runV (As := []) (rest := []) ⟨hx, hb, hml, hown, hts⟩ (c_X7_readCommand l D cy H.size a (upr (upr (upr (upr R 0 (ups (ups (ups (ups (ups (ups (ups (ups (R 0) 6 0) 2 (kpN (R 0 2))) 5 st5) 16 cm) 15 q) 7 y7) 8 y8) 9 y9)) 1 (M)) 2 (kpS (R 2) (R 1) (R 0 2))) 7 (A)) (show 0 ≤ (((q))) ∧ (((q))) ≤ ((((((((R 0 4)))))))) by omega) (show ((((((((R 0 4)))))))) ≤ 150 by omega) (show ∀ k : Int, 0 ≤ k → k < 150 → 0 ≤ (R 3) k ∧ (R 3) k ≤ 127 by omega)) gX7_runCommands_X7_readCommand rfl ⟨rfl, rfl⟩ 0 rfl (by decide +kernel) ⟨Nat.le_of_ble_eq_true rfl, Nat.le_of_ble_eq_true rfl⟩ (GG_ok D cy) hG hS (k_free hD hS hA) hP hD (va_recv hK hP (ci := 6) (q0 := 0) rfl rfl) hl.1 rfl (Nat.le_of_ble_eq_true rfl) ⟨Nat.le_of_ble_eq_true rfl, Nat.le_of_ble_eq_true rfl⟩ dX7_runCommands_60) (k_free hD hS hA) hS (fun r_55 R_56 H1 locs1 hR_56 hP1 hD1 hS1 hk1 => ?_)
                  rcases hR_56 with ⟨k9_58, c_57, hr_55, hR_56⟩ | ⟨x9_59, k9_60, b9_61, c_57, hr_55, hR_56⟩ | ⟨x9_62, k9_63, b9_64, c_57, hr_55, hR_56⟩
                  · skip
                    have c_57 : (prsC (R 3) (((((((((R 0 4))))))))) ((((q)))) (A)) = (0, (((q))), k9_58, A) := c_57
                    subst hr_55
                    subst hR_56
                    have hDn : va_D (va_A (rfW cy a R) sz) (rfW cy a (upr (upr (upr (upr R 0 (ups (ups (ups (ups (ups (ups (ups (ups (ups (ups (R 0) 6 0) 2 (kpN (R 0 2))) 5 st5) 16 cm) 15 q) 7 y7) 8 y8) 9 y9) 16 k9_58) 15 ((((q)))))) 1 (M)) 2 (kpS (R 2) (R 1) (R 0 2))) 7 (A))) := k_addr hD rfl
                    have hPn : va_P D vwCl (rfW cy a (upr (upr (upr (upr R 0 (ups (ups (ups (ups (ups (ups (ups (ups (ups (ups (R 0) 6 0) 2 (kpN (R 0 2))) 5 st5) 16 cm) 15 q) 7 y7) 8 y8) 9 y9) 16 k9_58) 15 ((((q)))))) 1 (M)) 2 (kpS (R 2) (R 1) (R 0 2))) 7 (A))) H1 := hP1
                    clear hP hD hS hP1 hD1 hk1
                    have hP := hPn
                    have hD := hDn
                    have hS := hS1
                    clear hPn hDn hS1
                    generalize H1 = H at hP hS ⊢
                    generalize locs1 = locs at hS ⊢
                    have hbad : False := by have h9 := hpx.symm.trans (prsF_n0 (show q < R 0 4 by omega) c_57); exact absurd (congrArg Prod.fst h9) (show ¬ (1 : Int) = 0 by decide)
                    refine k_if_eq (tgt := 97) hx hb dX7_runCommands_63 (by decide) (by omega) (fun c_65 => ?_) (fun c_65 => ?_)
                    · skip
                      refine lv_iload_n hx hb dX7_runCommands_97 rfl (lv_at hl 0 rfl) ?_
                      exact W.iret (v := iI c9) hx hb hr (fun t9 ht _ => ⟨⟨iI c9, (upr (upr (upr (upr R 0 (ups (ups (ups (ups (ups (ups (ups (ups (ups (ups (R 0) 6 0) 2 (kpN (R 0 2))) 5 st5) 16 cm) 15 q) 7 y7) 8 y8) 9 y9) 16 k9_58) 15 ((((q)))))) 1 (M)) 2 (kpS (R 2) (R 1) (R 0 2))) 7 (A)), rfl, ⟨c9, rfl, (by first | exact Or.inr (⟨(A0), (A), (M), (c9), (st5), (k9_58), (q), (y7), (y8), (y9), (by first | exact ⟨hi6, hi5, hi1, hex⟩ | exact hbad.elim), (by first | rfl | omega), (by rw [show (ups (ups (ups (ups (ups (ups (ups (ups (ups (ups (R 0) 6 0) 2 (kpN (R 0 2))) 5 st5) 16 cm) 15 q) 7 y7) 8 y8) 9 y9) 16 k9_58) 15 ((((q))))) = (ups (ups (ups (ups (ups (ups (ups (ups (R 0) 6 0) 2 (kpN (R 0 2))) 5 st5) 16 k9_58) 15 q) 7 y7) 8 y8) 9 y9) from by first | rfl | exact hbad.elim])⟩) : (∃ (zc : Int) (zb : Int → Int) (zx : Int), (nmOK zb ∧ (prsF (R 3) (R 0 4) (skp (R 3) (R 0 4) 0)) = (0, zx)) ∧ (c9 : Int) = -10 - zx ∧ (upr (upr (upr (upr R 0 (ups (ups (ups (ups (ups (ups (ups (ups (ups (ups (R 0) 6 0) 2 (kpN (R 0 2))) 5 st5) 16 cm) 15 q) 7 y7) 8 y8) 9 y9) 16 k9_58) 15 ((((q)))))) 1 (M)) 2 (kpS (R 2) (R 1) (R 0 2))) 7 (A)) = (upr (upr R 0 (ups (ups (ups (R 0) 6 0) 16 zc) 15 zx)) 7 (zb))) ∨ (∃ (A0 : Int → Int) (zb : Int → Int) (zm : Int → Int) (zn : Int) (z5 : Int) (zc : Int) (zq : Int) (z7 : Int) (z8 : Int) (z9 : Int), ((∃ zx : Int, (prsF (R 3) (R 0 4) (skp (R 3) (R 0 4) 0)) = (1, zx)) ∧ nmOK A0 ∧ nmOK zb ∧ (rcF (R 3) (R 0 4) (skp (R 3) (R 0 4) 0) (R 1) A0 0) = (z5, zn, zm)) ∧ (c9 : Int) = zn ∧ (upr (upr (upr (upr R 0 (ups (ups (ups (ups (ups (ups (ups (ups (ups (ups (R 0) 6 0) 2 (kpN (R 0 2))) 5 st5) 16 cm) 15 q) 7 y7) 8 y8) 9 y9) 16 k9_58) 15 ((((q)))))) 1 (M)) 2 (kpS (R 2) (R 1) (R 0 2))) 7 (A)) = (upr (upr (upr (upr R 0 (ups (ups (ups (ups (ups (ups (ups (ups (R 0) 6 0) 2 (kpN (R 0 2))) 5 z5) 16 zc) 15 zq) 7 z7) 8 z8) 9 z9)) 1 (zm)) 2 (kpS (R 2) (R 1) (R 0 2))) 7 (zb))))⟩, by rw [ht]; exact hP, hD⟩, hS.F ht⟩) hS.2.2 dX7_runCommands_98 hlocks
                    · exfalso; omega
                  · skip
                    have c_57 : (prsC (R 3) (((((((((R 0 4))))))))) ((((q)))) (A)) = (0, x9_59, k9_60, b9_61) ∧ 0 ≤ k9_60 ∧ k9_60 ≤ 6 := c_57
                    subst hr_55
                    subst hR_56
                    have hDn : va_D (va_A (rfW cy a R) sz) (rfW cy a (upr (upr (upr (upr R 0 (ups (ups (ups (ups (ups (ups (ups (ups (ups (ups (R 0) 6 0) 2 (kpN (R 0 2))) 5 st5) 16 cm) 15 q) 7 y7) 8 y8) 9 y9) 16 k9_60) 15 x9_59)) 1 (M)) 2 (kpS (R 2) (R 1) (R 0 2))) 7 (b9_61))) := k_addr hD rfl
                    have hPn : va_P D vwCl (rfW cy a (upr (upr (upr (upr R 0 (ups (ups (ups (ups (ups (ups (ups (ups (ups (ups (R 0) 6 0) 2 (kpN (R 0 2))) 5 st5) 16 cm) 15 q) 7 y7) 8 y8) 9 y9) 16 k9_60) 15 x9_59)) 1 (M)) 2 (kpS (R 2) (R 1) (R 0 2))) 7 (b9_61))) H1 := hP1
                    clear hP hD hS hP1 hD1 hk1
                    have hP := hPn
                    have hD := hDn
                    have hS := hS1
                    clear hPn hDn hS1
                    generalize H1 = H at hP hS ⊢
                    generalize locs1 = locs at hS ⊢
                    have hbad : False := by have h9 := hpx.symm.trans (prsF_n0 (show q < R 0 4 by omega) c_57.1); exact absurd (congrArg Prod.fst h9) (show ¬ (1 : Int) = 0 by decide)
                    refine k_if_eq (tgt := 97) hx hb dX7_runCommands_63 (by decide) (by omega) (fun c_66 => ?_) (fun c_66 => ?_)
                    · skip
                      refine lv_iload_n hx hb dX7_runCommands_97 rfl (lv_at hl 0 rfl) ?_
                      exact W.iret (v := iI c9) hx hb hr (fun t9 ht _ => ⟨⟨iI c9, (upr (upr (upr (upr R 0 (ups (ups (ups (ups (ups (ups (ups (ups (ups (ups (R 0) 6 0) 2 (kpN (R 0 2))) 5 st5) 16 cm) 15 q) 7 y7) 8 y8) 9 y9) 16 k9_60) 15 x9_59)) 1 (M)) 2 (kpS (R 2) (R 1) (R 0 2))) 7 (b9_61)), rfl, ⟨c9, rfl, (by first | exact Or.inr (⟨(A0), (b9_61), (M), (c9), (st5), (k9_60), (x9_59), (y7), (y8), (y9), (by first | exact ⟨hi6, hi5, hi1, hex⟩ | exact hbad.elim), (by first | rfl | omega), (by rw [show (ups (ups (ups (ups (ups (ups (ups (ups (ups (ups (R 0) 6 0) 2 (kpN (R 0 2))) 5 st5) 16 cm) 15 q) 7 y7) 8 y8) 9 y9) 16 k9_60) 15 x9_59) = (ups (ups (ups (ups (ups (ups (ups (ups (R 0) 6 0) 2 (kpN (R 0 2))) 5 st5) 16 k9_60) 15 x9_59) 7 y7) 8 y8) 9 y9) from by first | rfl | exact hbad.elim])⟩) : (∃ (zc : Int) (zb : Int → Int) (zx : Int), (nmOK zb ∧ (prsF (R 3) (R 0 4) (skp (R 3) (R 0 4) 0)) = (0, zx)) ∧ (c9 : Int) = -10 - zx ∧ (upr (upr (upr (upr R 0 (ups (ups (ups (ups (ups (ups (ups (ups (ups (ups (R 0) 6 0) 2 (kpN (R 0 2))) 5 st5) 16 cm) 15 q) 7 y7) 8 y8) 9 y9) 16 k9_60) 15 x9_59)) 1 (M)) 2 (kpS (R 2) (R 1) (R 0 2))) 7 (b9_61)) = (upr (upr R 0 (ups (ups (ups (R 0) 6 0) 16 zc) 15 zx)) 7 (zb))) ∨ (∃ (A0 : Int → Int) (zb : Int → Int) (zm : Int → Int) (zn : Int) (z5 : Int) (zc : Int) (zq : Int) (z7 : Int) (z8 : Int) (z9 : Int), ((∃ zx : Int, (prsF (R 3) (R 0 4) (skp (R 3) (R 0 4) 0)) = (1, zx)) ∧ nmOK A0 ∧ nmOK zb ∧ (rcF (R 3) (R 0 4) (skp (R 3) (R 0 4) 0) (R 1) A0 0) = (z5, zn, zm)) ∧ (c9 : Int) = zn ∧ (upr (upr (upr (upr R 0 (ups (ups (ups (ups (ups (ups (ups (ups (ups (ups (R 0) 6 0) 2 (kpN (R 0 2))) 5 st5) 16 cm) 15 q) 7 y7) 8 y8) 9 y9) 16 k9_60) 15 x9_59)) 1 (M)) 2 (kpS (R 2) (R 1) (R 0 2))) 7 (b9_61)) = (upr (upr (upr (upr R 0 (ups (ups (ups (ups (ups (ups (ups (ups (R 0) 6 0) 2 (kpN (R 0 2))) 5 z5) 16 zc) 15 zq) 7 z7) 8 z8) 9 z9)) 1 (zm)) 2 (kpS (R 2) (R 1) (R 0 2))) 7 (zb))))⟩, by rw [ht]; exact hP, hD⟩, hS.F ht⟩) hS.2.2 dX7_runCommands_98 hlocks
                    · exfalso; omega
                  · skip
                    have c_57 : (prsC (R 3) (((((((((R 0 4))))))))) ((((q)))) (A)) = (1, x9_62, k9_63, b9_64) ∧ 0 ≤ k9_63 ∧ k9_63 ≤ 6 := c_57
                    subst hr_55
                    subst hR_56
                    have hDn : va_D (va_A (rfW cy a R) sz) (rfW cy a (upr (upr (upr (upr R 0 (ups (ups (ups (ups (ups (ups (ups (ups (ups (ups (R 0) 6 0) 2 (kpN (R 0 2))) 5 st5) 16 cm) 15 q) 7 y7) 8 y8) 9 y9) 16 k9_63) 15 x9_62)) 1 (M)) 2 (kpS (R 2) (R 1) (R 0 2))) 7 (b9_64))) := k_addr hD rfl
                    have hPn : va_P D vwCl (rfW cy a (upr (upr (upr (upr R 0 (ups (ups (ups (ups (ups (ups (ups (ups (ups (ups (R 0) 6 0) 2 (kpN (R 0 2))) 5 st5) 16 cm) 15 q) 7 y7) 8 y8) 9 y9) 16 k9_63) 15 x9_62)) 1 (M)) 2 (kpS (R 2) (R 1) (R 0 2))) 7 (b9_64))) H1 := hP1
                    clear hP hD hS hP1 hD1 hk1
                    have hP := hPn
                    have hD := hDn
                    have hS := hS1
                    clear hPn hDn hS1
                    generalize H1 = H at hP hS ⊢
                    generalize locs1 = locs at hS ⊢
                    have hpc := c_57.1
                    have hpy := prsF_y1 hi0.1 htn (show q < R 0 4 by omega) c_57.1
                    have hcb := prsC_b1 hi0.2 c_57.1
                    have hnm2 := prsC_n hi0.2 c_57.1 hi1
                    have hvr := ftV_rg (M) (b9_64) (k := k9_63) (by omega)
                    have hsk2 := skp_le (T := R 3) (n := R 0 4) (q := x9_62) (by omega)
                    refine k_if_eq (tgt := 97) hx hb dX7_runCommands_63 (by decide) (by omega) (fun c_67 => ?_) (fun c_67 => ?_)
                    · exfalso; omega
                    · skip
                      refine lv_aload_n hx hb dX7_runCommands_66 rfl (lv_at hl 1 rfl) ?_
                      refine lv_aload_n hx hb dX7_runCommands_67 rfl (lv_at hl 1 rfl) ?_
                      refine k_roV (As := []) (rest := [.ref (a 0)]) ⟨hx, hb, hml, hown, hts⟩ (c_X7_whyNot l D cy a (upr (upr (upr (upr R 0 (ups (ups (ups (ups (ups (ups (ups (ups (ups (ups (R 0) 6 0) 2 (kpN (R 0 2))) 5 st5) 16 cm) 15 q) 7 y7) 8 y8) 9 y9) 16 k9_63) 15 x9_62)) 1 (M)) 2 (kpS (R 2) (R 1) (R 0 2))) 7 (b9_64)) (show Inv (M) from hi2) (show 0 ≤ (k9_63) ∧ (k9_63) ≤ 6 by omega) (show nmOK (b9_64) from hnm2)) gX7_runCommands_X7_whyNot rfl ⟨rfl, rfl⟩ 0 rfl (by decide +kernel) ⟨Nat.le_of_ble_eq_true rfl, Nat.le_of_ble_eq_true rfl⟩ (GG_ok D cy) ((GG_ok D cy).2.2.2 _ _ _ _ (fun _ h => h.elim) ((GG_ok D cy).1 _ _ _ _ hS.2.1 hG)) hP (va_recv hK hP (ci := 6) (q0 := 0) rfl rfl) hl.1 rfl (Nat.le_of_ble_eq_true rfl) ⟨Nat.le_of_ble_eq_true rfl, Nat.le_of_ble_eq_true rfl⟩ dX7_runCommands_68 (fun r_68 hr_68 => ?_)
                      have hr_68 : r_68 = ftV (M) ((k9_63)) (b9_64) := hr_68
                      subst hr_68
                      refine va_put (D := D) (ci := 6) (v := .int (iI (ftV (M) ((k9_63)) (b9_64)))) (ty := .int) (C := RX7) (T := TX7) (N := 19) hx hb hts hinX7 tyX7 tyX7_ok nmX7 hown hK hP hD hS 0 rfl rfl 5 (by decide) hmw2 (fun _ h9 => h9) rfl (by decide +kernel) rfl rfl (Nat.le_of_ble_eq_true rfl) dX7_runCommands_71 (fun H locs hP hD hS => ?_)
                      have hP : va_P D vwCl (rfW cy a (upr (upr (upr (upr R 0 (ups (ups (ups (ups (ups (ups (ups (ups (ups (ups (ups (R 0) 6 0) 2 (kpN (R 0 2))) 5 st5) 16 cm) 15 q) 7 y7) 8 y8) 9 y9) 16 k9_63) 15 x9_62) 5 (ftV (M) ((k9_63)) (b9_64)))) 1 (M)) 2 (kpS (R 2) (R 1) (R 0 2))) 7 (b9_64))) H := hP
                      have hD : va_D (va_A (rfW cy a R) sz) (rfW cy a (upr (upr (upr (upr R 0 (ups (ups (ups (ups (ups (ups (ups (ups (ups (ups (ups (R 0) 6 0) 2 (kpN (R 0 2))) 5 st5) 16 cm) 15 q) 7 y7) 8 y8) 9 y9) 16 k9_63) 15 x9_62) 5 (ftV (M) ((k9_63)) (b9_64)))) 1 (M)) 2 (kpS (R 2) (R 1) (R 0 2))) 7 (b9_64))) := hD
                      refine lv_aload_n hx hb dX7_runCommands_74 rfl (lv_at hl 1 rfl) ?_
                      refine va_get (D := D) (ci := 6) (v := .int (iI (ftV (M) ((k9_63)) (b9_64)))) (C := RX7) (T := TX7) (N := 19) hx hb hts hinX7 hown hK hP 0 rfl rfl 5 (by decide) hmw2 (fun _ h9 => h9) rfl dX7_runCommands_75 ?_
                      refine k_if_ne (tgt := 89) hx hb dX7_runCommands_78 (by decide) (by omega) (fun c_69 => ?_) (fun c_69 => ?_)
                      · skip
                        have hv1 : ¬ ftV (M) (k9_63) (b9_64) = 0 := by omega
                        refine lv_aload_n hx hb dX7_runCommands_89 rfl (lv_at hl 1 rfl) ?_
                        refine k_mui (k_runV (As := []) (rest := []) ⟨hx, hb, hml, hown, hts⟩ (c_X7_skips l D cy H.size a (upr (upr (upr (upr R 0 (ups (ups (ups (ups (ups (ups (ups (ups (ups (ups (ups (R 0) 6 0) 2 (kpN (R 0 2))) 5 st5) 16 cm) 15 q) 7 y7) 8 y8) 9 y9) 16 k9_63) 15 x9_62) 5 (ftV (M) ((k9_63)) (b9_64)))) 1 (M)) 2 (kpS (R 2) (R 1) (R 0 2))) 7 (b9_64)) (show 0 ≤ (x9_62) ∧ (x9_62) ≤ (((((((((((R 0 4))))))))))) by omega) (show (((((((((((R 0 4))))))))))) ≤ 150 by omega) (show ∀ k : Int, 0 ≤ k → k < 150 → 0 ≤ (R 3) k ∧ (R 3) k ≤ 127 by omega)) gX7_runCommands_X7_skips rfl ⟨rfl, rfl⟩ 0 rfl (by decide +kernel) ⟨Nat.le_of_ble_eq_true rfl, Nat.le_of_ble_eq_true rfl⟩ (GG_ok D cy) hG hS (k_free hD hS hA) hP hD (va_recv hK hP (ci := 6) (q0 := 0) rfl rfl) hl.1 rfl (Nat.le_of_ble_eq_true rfl) ⟨Nat.le_of_ble_eq_true rfl, Nat.le_of_ble_eq_true rfl⟩ dX7_runCommands_90) (k_free hD hS hA) hS (fun r_70 R_71 H1 locs1 hR_71 hP1 hD1 hS1 hk1 => ?_)
                        rcases hR_71 with ⟨c_72, hr_70, hR_71⟩ | ⟨c_72, hr_70, hR_71⟩
                        · skip
                          have c_72 : (x9_62) < (skp (R 3) ((((((((((((R 0 4)))))))))))) ((x9_62))) := c_72
                          subst hr_70
                          subst hR_71
                          have hDn : va_D (va_A (rfW cy a R) sz) (rfW cy a (upr (upr (upr (upr R 0 (ups (ups (ups (ups (ups (ups (ups (ups (ups (ups (ups (ups (R 0) 6 0) 2 (kpN (R 0 2))) 5 st5) 16 cm) 15 q) 7 y7) 8 y8) 9 y9) 16 k9_63) 15 x9_62) 5 (ftV (M) (k9_63) (b9_64))) 15 (skp (R 3) ((((((((((((R 0 4)))))))))))) ((x9_62))))) 1 (M)) 2 (kpS (R 2) (R 1) (R 0 2))) 7 (b9_64))) := k_addr hD rfl
                          have hPn : va_P D vwCl (rfW cy a (upr (upr (upr (upr R 0 (ups (ups (ups (ups (ups (ups (ups (ups (ups (ups (ups (ups (R 0) 6 0) 2 (kpN (R 0 2))) 5 st5) 16 cm) 15 q) 7 y7) 8 y8) 9 y9) 16 k9_63) 15 x9_62) 5 (ftV (M) (k9_63) (b9_64))) 15 (skp (R 3) ((((((((((((R 0 4)))))))))))) ((x9_62))))) 1 (M)) 2 (kpS (R 2) (R 1) (R 0 2))) 7 (b9_64))) H1 := hP1
                          clear hP hD hS hP1 hD1 hk1
                          have hP := hPn
                          have hD := hDn
                          have hS := hS1
                          clear hPn hDn hS1
                          generalize H1 = H at hP hS ⊢
                          generalize locs1 = locs at hS ⊢
                          refine lv_istore_n (lv' := [(2, .int (iI 1)), (1, .int (iI c9)), (0, .ref (a 0))]) hx hb dX7_runCommands_93 rfl hl (by decide) rfl (fun ls hl => ?_)
                          refine lv_goto (tgt := 41) hx hb dX7_runCommands_94 (by decide) ?_
                          exact ih41 A0 (skp (R 3) ((((((((((((R 0 4)))))))))))) ((x9_62))) M b9_64 (ftV (M) (k9_63) (b9_64)) k9_63 y7 y8 y9 c9  (by omega) (hnm2) (by first | exact hIe | exact hi2) (by omega) (by first | exact Or.inl ⟨hv0, (rcF_go hi0.1 htn (by omega) hpc hv0).symm.trans hres, _, hpy.symm.trans hpx⟩ | exact Or.inr ⟨hv1, hres.symm.trans (rcF_no (by omega) hpc hv1)⟩) (hi5) (hi6) (by omega) H locs (by rw [show (ups (ups (ups (ups (ups (ups (ups (ups (R 0) 6 0) 2 (kpN (R 0 2))) 5 (ftV (M) (k9_63) (b9_64))) 16 k9_63) 15 (skp (R 3) ((((((((((((R 0 4)))))))))))) ((x9_62)))) 7 y7) 8 y8) 9 y9) = (ups (ups (ups (ups (ups (ups (ups (ups (ups (ups (ups (ups (R 0) 6 0) 2 (kpN (R 0 2))) 5 st5) 16 cm) 15 q) 7 y7) 8 y8) 9 y9) 16 k9_63) 15 x9_62) 5 (ftV (M) (k9_63) (b9_64))) 15 (skp (R 3) ((((((((((((R 0 4)))))))))))) ((x9_62)))) from by funext k9; by_cases e0 : k9 = 9; (subst e0; first | rfl | simp [ups]); by_cases e1 : k9 = 8; (subst e1; first | rfl | simp [ups]); by_cases e2 : k9 = 7; (subst e2; first | rfl | simp [ups]); by_cases e3 : k9 = 15; (subst e3; first | rfl | simp [ups]); by_cases e4 : k9 = 16; (subst e4; first | rfl | simp [ups]); by_cases e5 : k9 = 5; (subst e5; first | rfl | simp [ups]); by_cases e6 : k9 = 2; (subst e6; first | rfl | simp [ups]); by_cases e7 : k9 = 6; (subst e7; first | rfl | simp [ups]); simp only [ups, if_neg e0, if_neg e1, if_neg e2, if_neg e3, if_neg e4, if_neg e5, if_neg e6, if_neg e7]]; exact hP) (k_addr hD rfl) hS ls (lv_sub hl [1, 2] rfl)
                        · skip
                          have c_72 : (skp (R 3) ((((((((((((R 0 4)))))))))))) ((x9_62))) = (x9_62) := c_72
                          subst hr_70
                          subst hR_71
                          have hDn : va_D (va_A (rfW cy a R) sz) (rfW cy a (upr (upr (upr (upr R 0 (ups (ups (ups (ups (ups (ups (ups (ups (ups (ups (ups (ups (R 0) 6 0) 2 (kpN (R 0 2))) 5 st5) 16 cm) 15 q) 7 y7) 8 y8) 9 y9) 16 k9_63) 15 x9_62) 5 (ftV (M) (k9_63) (b9_64))) 15 (skp (R 3) ((((((((((((R 0 4)))))))))))) ((x9_62))))) 1 (M)) 2 (kpS (R 2) (R 1) (R 0 2))) 7 (b9_64))) := k_addr hD rfl
                          have hPn : va_P D vwCl (rfW cy a (upr (upr (upr (upr R 0 (ups (ups (ups (ups (ups (ups (ups (ups (ups (ups (ups (ups (R 0) 6 0) 2 (kpN (R 0 2))) 5 st5) 16 cm) 15 q) 7 y7) 8 y8) 9 y9) 16 k9_63) 15 x9_62) 5 (ftV (M) (k9_63) (b9_64))) 15 (skp (R 3) ((((((((((((R 0 4)))))))))))) ((x9_62))))) 1 (M)) 2 (kpS (R 2) (R 1) (R 0 2))) 7 (b9_64))) H1 := hP1
                          clear hP hD hS hP1 hD1 hk1
                          have hP := hPn
                          have hD := hDn
                          have hS := hS1
                          clear hPn hDn hS1
                          generalize H1 = H at hP hS ⊢
                          generalize locs1 = locs at hS ⊢
                          refine lv_istore_n (lv' := [(2, .int (iI 0)), (1, .int (iI c9)), (0, .ref (a 0))]) hx hb dX7_runCommands_93 rfl hl (by decide) rfl (fun ls hl => ?_)
                          refine lv_goto (tgt := 41) hx hb dX7_runCommands_94 (by decide) ?_
                          exact ih41 A0 (skp (R 3) ((((((((((((R 0 4)))))))))))) ((x9_62))) M b9_64 (ftV (M) (k9_63) (b9_64)) k9_63 y7 y8 y9 c9  (by omega) (hnm2) (by first | exact hIe | exact hi2) (by omega) (by first | exact Or.inl ⟨hv0, (rcF_go hi0.1 htn (by omega) hpc hv0).symm.trans hres, _, hpy.symm.trans hpx⟩ | exact Or.inr ⟨hv1, hres.symm.trans (rcF_no (by omega) hpc hv1)⟩) (hi5) (hi6) (by omega) H locs (by rw [show (ups (ups (ups (ups (ups (ups (ups (ups (R 0) 6 0) 2 (kpN (R 0 2))) 5 (ftV (M) (k9_63) (b9_64))) 16 k9_63) 15 (skp (R 3) ((((((((((((R 0 4)))))))))))) ((x9_62)))) 7 y7) 8 y8) 9 y9) = (ups (ups (ups (ups (ups (ups (ups (ups (ups (ups (ups (ups (R 0) 6 0) 2 (kpN (R 0 2))) 5 st5) 16 cm) 15 q) 7 y7) 8 y8) 9 y9) 16 k9_63) 15 x9_62) 5 (ftV (M) (k9_63) (b9_64))) 15 (skp (R 3) ((((((((((((R 0 4)))))))))))) ((x9_62)))) from by funext k9; by_cases e0 : k9 = 9; (subst e0; first | rfl | simp [ups]); by_cases e1 : k9 = 8; (subst e1; first | rfl | simp [ups]); by_cases e2 : k9 = 7; (subst e2; first | rfl | simp [ups]); by_cases e3 : k9 = 15; (subst e3; first | rfl | simp [ups]); by_cases e4 : k9 = 16; (subst e4; first | rfl | simp [ups]); by_cases e5 : k9 = 5; (subst e5; first | rfl | simp [ups]); by_cases e6 : k9 = 2; (subst e6; first | rfl | simp [ups]); by_cases e7 : k9 = 6; (subst e7; first | rfl | simp [ups]); simp only [ups, if_neg e0, if_neg e1, if_neg e2, if_neg e3, if_neg e4, if_neg e5, if_neg e6, if_neg e7]]; exact hP) (k_addr hD rfl) hS ls (lv_sub hl [1, 2] rfl)
                      · skip
                        have hv0 : ftV (M) (k9_63) (b9_64) = 0 := by omega
                        have hIe := ef_inv hi2 (by omega) hv0
                        refine lv_aload_n hx hb dX7_runCommands_81 rfl (lv_at hl 1 rfl) ?_
                        refine k_mui (k_runV (As := []) (rest := []) ⟨hx, hb, hml, hown, hts⟩ (c_X7_carryOut l D cy H.size a (upr (upr (upr (upr R 0 (ups (ups (ups (ups (ups (ups (ups (ups (ups (ups (ups (R 0) 6 0) 2 (kpN (R 0 2))) 5 st5) 16 cm) 15 q) 7 y7) 8 y8) 9 y9) 16 k9_63) 15 x9_62) 5 (ftV (M) ((k9_63)) (b9_64)))) 1 (M)) 2 (kpS (R 2) (R 1) (R 0 2))) 7 (b9_64)) (show Inv (M) from hi2) (show 0 ≤ ((k9_63)) ∧ ((k9_63)) ≤ 6 by omega) (show nmOK (b9_64) from hnm2) (show ftV (M) (((k9_63))) (b9_64) = 0 from hv0)) gX7_runCommands_X7_carryOut rfl ⟨rfl, rfl⟩ 0 rfl (by decide +kernel) ⟨Nat.le_of_ble_eq_true rfl, Nat.le_of_ble_eq_true rfl⟩ (GG_ok D cy) hG hS (k_free hD hS hA) hP hD (va_recv hK hP (ci := 6) (q0 := 0) rfl rfl) hl.1 rfl (Nat.le_of_ble_eq_true rfl) ⟨Nat.le_of_ble_eq_true rfl, Nat.le_of_ble_eq_true rfl⟩ dX7_runCommands_82) (k_free hD hS hA) hS (fun r_73 R_74 H1 locs1 hR_74 hP1 hD1 hS1 hk1 => ?_)
                        rcases hR_74 with ⟨zr_76, c_75, hr_73, hR_74⟩ | ⟨zr_77, x7_78, x8_79, x9_80, c_75, hr_73, hR_74⟩
                        · skip
                          have c_75 : ((k9_63)) < 6 := c_75
                          have hr_73 := hr_73.symm
                          subst hr_73
                          subst hR_74
                          have hDn : va_D (va_A (rfW cy a R) sz) (rfW cy a (upr (upr (upr (upr R 0 (ups (ups (ups (ups (ups (ups (ups (ups (ups (ups (ups (R 0) 6 0) 2 (kpN (R 0 2))) 5 st5) 16 cm) 15 q) 7 y7) 8 y8) 9 y9) 16 k9_63) 15 x9_62) 5 (ftV (M) ((k9_63)) (b9_64)))) 1 (efM (M) (((k9_63))) (b9_64))) 2 (kpS (R 2) (R 1) (R 0 2))) 7 (b9_64))) := k_addr hD rfl
                          have hPn : va_P D vwCl (rfW cy a (upr (upr (upr (upr R 0 (ups (ups (ups (ups (ups (ups (ups (ups (ups (ups (ups (R 0) 6 0) 2 (kpN (R 0 2))) 5 st5) 16 cm) 15 q) 7 y7) 8 y8) 9 y9) 16 k9_63) 15 x9_62) 5 (ftV (M) ((k9_63)) (b9_64)))) 1 (efM (M) (((k9_63))) (b9_64))) 2 (kpS (R 2) (R 1) (R 0 2))) 7 (b9_64))) H1 := hP1
                          clear hP hD hS hP1 hD1 hk1
                          have hP := hPn
                          have hD := hDn
                          have hS := hS1
                          clear hPn hDn hS1
                          generalize H1 = H at hP hS ⊢
                          generalize locs1 = locs at hS ⊢
                          refine lv_istore_n (lv' := [(3, .int (iI zr_76)), (1, .int (iI c9)), (0, .ref (a 0))]) hx hb dX7_runCommands_85 rfl hl (by decide) rfl (fun ls hl => ?_)
                          refine lv_iinc (v := iI (c9 + 1)) (lv' := [(1, .int (iI (c9 + 1))), (3, .int (iI zr_76)), (0, .ref (a 0))]) hx hb dX7_runCommands_86 hl (k := 1) rfl (iI_add _ _) (by decide) rfl (fun ls hl => ?_)
                          refine lv_aload_n hx hb dX7_runCommands_89 rfl (lv_at hl 2 rfl) ?_
                          refine k_mui (k_runV (As := []) (rest := []) ⟨hx, hb, hml, hown, hts⟩ (c_X7_skips l D cy H.size a (upr (upr (upr (upr R 0 (ups (ups (ups (ups (ups (ups (ups (ups (ups (ups (ups (R 0) 6 0) 2 (kpN (R 0 2))) 5 st5) 16 cm) 15 q) 7 y7) 8 y8) 9 y9) 16 k9_63) 15 x9_62) 5 (ftV (M) ((k9_63)) (b9_64)))) 1 (efM (M) (((k9_63))) (b9_64))) 2 (kpS (R 2) (R 1) (R 0 2))) 7 (b9_64)) (show 0 ≤ (x9_62) ∧ (x9_62) ≤ (((((((((((R 0 4))))))))))) by omega) (show (((((((((((R 0 4))))))))))) ≤ 150 by omega) (show ∀ k : Int, 0 ≤ k → k < 150 → 0 ≤ (R 3) k ∧ (R 3) k ≤ 127 by omega)) gX7_runCommands_X7_skips rfl ⟨rfl, rfl⟩ 0 rfl (by decide +kernel) ⟨Nat.le_of_ble_eq_true rfl, Nat.le_of_ble_eq_true rfl⟩ (GG_ok D cy) hG hS (k_free hD hS hA) hP hD (va_recv hK hP (ci := 6) (q0 := 0) rfl rfl) hl.1 rfl (Nat.le_of_ble_eq_true rfl) ⟨Nat.le_of_ble_eq_true rfl, Nat.le_of_ble_eq_true rfl⟩ dX7_runCommands_90) (k_free hD hS hA) hS (fun r_81 R_82 H1 locs1 hR_82 hP1 hD1 hS1 hk1 => ?_)
                          rcases hR_82 with ⟨c_83, hr_81, hR_82⟩ | ⟨c_83, hr_81, hR_82⟩
                          · skip
                            have c_83 : (x9_62) < (skp (R 3) ((((((((((((R 0 4)))))))))))) ((x9_62))) := c_83
                            subst hr_81
                            subst hR_82
                            have hDn : va_D (va_A (rfW cy a R) sz) (rfW cy a (upr (upr (upr (upr R 0 (ups (ups (ups (ups (ups (ups (ups (ups (ups (ups (ups (ups (R 0) 6 0) 2 (kpN (R 0 2))) 5 st5) 16 cm) 15 q) 7 y7) 8 y8) 9 y9) 16 k9_63) 15 x9_62) 5 (ftV (M) (k9_63) (b9_64))) 15 (skp (R 3) ((((((((((((R 0 4)))))))))))) ((x9_62))))) 1 (efM (M) (((k9_63))) (b9_64))) 2 (kpS (R 2) (R 1) (R 0 2))) 7 (b9_64))) := k_addr hD rfl
                            have hPn : va_P D vwCl (rfW cy a (upr (upr (upr (upr R 0 (ups (ups (ups (ups (ups (ups (ups (ups (ups (ups (ups (ups (R 0) 6 0) 2 (kpN (R 0 2))) 5 st5) 16 cm) 15 q) 7 y7) 8 y8) 9 y9) 16 k9_63) 15 x9_62) 5 (ftV (M) (k9_63) (b9_64))) 15 (skp (R 3) ((((((((((((R 0 4)))))))))))) ((x9_62))))) 1 (efM (M) (((k9_63))) (b9_64))) 2 (kpS (R 2) (R 1) (R 0 2))) 7 (b9_64))) H1 := hP1
                            clear hP hD hS hP1 hD1 hk1
                            have hP := hPn
                            have hD := hDn
                            have hS := hS1
                            clear hPn hDn hS1
                            generalize H1 = H at hP hS ⊢
                            generalize locs1 = locs at hS ⊢
                            refine lv_istore_n (lv' := [(2, .int (iI 1)), (1, .int (iI (c9 + 1))), (3, .int (iI zr_76)), (0, .ref (a 0))]) hx hb dX7_runCommands_93 rfl hl (by decide) rfl (fun ls hl => ?_)
                            refine lv_goto (tgt := 41) hx hb dX7_runCommands_94 (by decide) ?_
                            exact ih41 A0 (skp (R 3) ((((((((((((R 0 4)))))))))))) ((x9_62))) (efM (M) (((k9_63))) (b9_64)) b9_64 (ftV (M) (k9_63) (b9_64)) k9_63 y7 y8 y9 (c9 + 1)  (by omega) (hnm2) (by first | exact hIe | exact hi2) (by omega) (by first | exact Or.inl ⟨hv0, (rcF_go hi0.1 htn (by omega) hpc hv0).symm.trans hres, _, hpy.symm.trans hpx⟩ | exact Or.inr ⟨hv1, hres.symm.trans (rcF_no (by omega) hpc hv1)⟩) (hi5) (hi6) (by omega) H locs (by rw [show (ups (ups (ups (ups (ups (ups (ups (ups (R 0) 6 0) 2 (kpN (R 0 2))) 5 (ftV (M) (k9_63) (b9_64))) 16 k9_63) 15 (skp (R 3) ((((((((((((R 0 4)))))))))))) ((x9_62)))) 7 y7) 8 y8) 9 y9) = (ups (ups (ups (ups (ups (ups (ups (ups (ups (ups (ups (ups (R 0) 6 0) 2 (kpN (R 0 2))) 5 st5) 16 cm) 15 q) 7 y7) 8 y8) 9 y9) 16 k9_63) 15 x9_62) 5 (ftV (M) (k9_63) (b9_64))) 15 (skp (R 3) ((((((((((((R 0 4)))))))))))) ((x9_62)))) from by funext k9; by_cases e0 : k9 = 9; (subst e0; first | rfl | simp [ups]); by_cases e1 : k9 = 8; (subst e1; first | rfl | simp [ups]); by_cases e2 : k9 = 7; (subst e2; first | rfl | simp [ups]); by_cases e3 : k9 = 15; (subst e3; first | rfl | simp [ups]); by_cases e4 : k9 = 16; (subst e4; first | rfl | simp [ups]); by_cases e5 : k9 = 5; (subst e5; first | rfl | simp [ups]); by_cases e6 : k9 = 2; (subst e6; first | rfl | simp [ups]); by_cases e7 : k9 = 6; (subst e7; first | rfl | simp [ups]); simp only [ups, if_neg e0, if_neg e1, if_neg e2, if_neg e3, if_neg e4, if_neg e5, if_neg e6, if_neg e7]]; exact hP) (k_addr hD rfl) hS ls (lv_sub hl [1, 3] rfl)
                          · skip
                            have c_83 : (skp (R 3) ((((((((((((R 0 4)))))))))))) ((x9_62))) = (x9_62) := c_83
                            subst hr_81
                            subst hR_82
                            have hDn : va_D (va_A (rfW cy a R) sz) (rfW cy a (upr (upr (upr (upr R 0 (ups (ups (ups (ups (ups (ups (ups (ups (ups (ups (ups (ups (R 0) 6 0) 2 (kpN (R 0 2))) 5 st5) 16 cm) 15 q) 7 y7) 8 y8) 9 y9) 16 k9_63) 15 x9_62) 5 (ftV (M) (k9_63) (b9_64))) 15 (skp (R 3) ((((((((((((R 0 4)))))))))))) ((x9_62))))) 1 (efM (M) (((k9_63))) (b9_64))) 2 (kpS (R 2) (R 1) (R 0 2))) 7 (b9_64))) := k_addr hD rfl
                            have hPn : va_P D vwCl (rfW cy a (upr (upr (upr (upr R 0 (ups (ups (ups (ups (ups (ups (ups (ups (ups (ups (ups (ups (R 0) 6 0) 2 (kpN (R 0 2))) 5 st5) 16 cm) 15 q) 7 y7) 8 y8) 9 y9) 16 k9_63) 15 x9_62) 5 (ftV (M) (k9_63) (b9_64))) 15 (skp (R 3) ((((((((((((R 0 4)))))))))))) ((x9_62))))) 1 (efM (M) (((k9_63))) (b9_64))) 2 (kpS (R 2) (R 1) (R 0 2))) 7 (b9_64))) H1 := hP1
                            clear hP hD hS hP1 hD1 hk1
                            have hP := hPn
                            have hD := hDn
                            have hS := hS1
                            clear hPn hDn hS1
                            generalize H1 = H at hP hS ⊢
                            generalize locs1 = locs at hS ⊢
                            refine lv_istore_n (lv' := [(2, .int (iI 0)), (1, .int (iI (c9 + 1))), (3, .int (iI zr_76)), (0, .ref (a 0))]) hx hb dX7_runCommands_93 rfl hl (by decide) rfl (fun ls hl => ?_)
                            refine lv_goto (tgt := 41) hx hb dX7_runCommands_94 (by decide) ?_
                            exact ih41 A0 (skp (R 3) ((((((((((((R 0 4)))))))))))) ((x9_62))) (efM (M) (((k9_63))) (b9_64)) b9_64 (ftV (M) (k9_63) (b9_64)) k9_63 y7 y8 y9 (c9 + 1)  (by omega) (hnm2) (by first | exact hIe | exact hi2) (by omega) (by first | exact Or.inl ⟨hv0, (rcF_go hi0.1 htn (by omega) hpc hv0).symm.trans hres, _, hpy.symm.trans hpx⟩ | exact Or.inr ⟨hv1, hres.symm.trans (rcF_no (by omega) hpc hv1)⟩) (hi5) (hi6) (by omega) H locs (by rw [show (ups (ups (ups (ups (ups (ups (ups (ups (R 0) 6 0) 2 (kpN (R 0 2))) 5 (ftV (M) (k9_63) (b9_64))) 16 k9_63) 15 (skp (R 3) ((((((((((((R 0 4)))))))))))) ((x9_62)))) 7 y7) 8 y8) 9 y9) = (ups (ups (ups (ups (ups (ups (ups (ups (ups (ups (ups (ups (R 0) 6 0) 2 (kpN (R 0 2))) 5 st5) 16 cm) 15 q) 7 y7) 8 y8) 9 y9) 16 k9_63) 15 x9_62) 5 (ftV (M) (k9_63) (b9_64))) 15 (skp (R 3) ((((((((((((R 0 4)))))))))))) ((x9_62)))) from by funext k9; by_cases e0 : k9 = 9; (subst e0; first | rfl | simp [ups]); by_cases e1 : k9 = 8; (subst e1; first | rfl | simp [ups]); by_cases e2 : k9 = 7; (subst e2; first | rfl | simp [ups]); by_cases e3 : k9 = 15; (subst e3; first | rfl | simp [ups]); by_cases e4 : k9 = 16; (subst e4; first | rfl | simp [ups]); by_cases e5 : k9 = 5; (subst e5; first | rfl | simp [ups]); by_cases e6 : k9 = 2; (subst e6; first | rfl | simp [ups]); by_cases e7 : k9 = 6; (subst e7; first | rfl | simp [ups]); simp only [ups, if_neg e0, if_neg e1, if_neg e2, if_neg e3, if_neg e4, if_neg e5, if_neg e6, if_neg e7]]; exact hP) (k_addr hD rfl) hS ls (lv_sub hl [1, 3] rfl)
                        · skip
                          have c_75 : ((k9_63)) = 6 := c_75
                          have hr_73 := hr_73.symm
                          subst hr_73
                          subst hR_74
                          have hDn : va_D (va_A (rfW cy a R) sz) (rfW cy a (upr (upr (upr (upr R 0 (ups (ups (ups (ups (ups (ups (ups (ups (ups (ups (ups (ups (ups (ups (R 0) 6 0) 2 (kpN (R 0 2))) 5 st5) 16 cm) 15 q) 7 y7) 8 y8) 9 y9) 16 k9_63) 15 x9_62) 5 (ftV (M) (k9_63) (b9_64))) 7 x7_78) 8 x8_79) 9 x9_80)) 1 (efM (M) (((k9_63))) (b9_64))) 2 (kpS (R 2) (R 1) (R 0 2))) 7 (b9_64))) := k_addr hD rfl
                          have hPn : va_P D vwCl (rfW cy a (upr (upr (upr (upr R 0 (ups (ups (ups (ups (ups (ups (ups (ups (ups (ups (ups (ups (ups (ups (R 0) 6 0) 2 (kpN (R 0 2))) 5 st5) 16 cm) 15 q) 7 y7) 8 y8) 9 y9) 16 k9_63) 15 x9_62) 5 (ftV (M) (k9_63) (b9_64))) 7 x7_78) 8 x8_79) 9 x9_80)) 1 (efM (M) (((k9_63))) (b9_64))) 2 (kpS (R 2) (R 1) (R 0 2))) 7 (b9_64))) H1 := hP1
                          clear hP hD hS hP1 hD1 hk1
                          have hP := hPn
                          have hD := hDn
                          have hS := hS1
                          clear hPn hDn hS1
                          generalize H1 = H at hP hS ⊢
                          generalize locs1 = locs at hS ⊢
                          refine lv_istore_n (lv' := [(3, .int (iI zr_77)), (1, .int (iI c9)), (0, .ref (a 0))]) hx hb dX7_runCommands_85 rfl hl (by decide) rfl (fun ls hl => ?_)
                          refine lv_iinc (v := iI (c9 + 1)) (lv' := [(1, .int (iI (c9 + 1))), (3, .int (iI zr_77)), (0, .ref (a 0))]) hx hb dX7_runCommands_86 hl (k := 1) rfl (iI_add _ _) (by decide) rfl (fun ls hl => ?_)
                          refine lv_aload_n hx hb dX7_runCommands_89 rfl (lv_at hl 2 rfl) ?_
                          refine k_mui (k_runV (As := []) (rest := []) ⟨hx, hb, hml, hown, hts⟩ (c_X7_skips l D cy H.size a (upr (upr (upr (upr R 0 (ups (ups (ups (ups (ups (ups (ups (ups (ups (ups (ups (ups (ups (ups (R 0) 6 0) 2 (kpN (R 0 2))) 5 st5) 16 cm) 15 q) 7 y7) 8 y8) 9 y9) 16 k9_63) 15 x9_62) 5 (ftV (M) (k9_63) (b9_64))) 7 x7_78) 8 x8_79) 9 x9_80)) 1 (efM (M) (((k9_63))) (b9_64))) 2 (kpS (R 2) (R 1) (R 0 2))) 7 (b9_64)) (show 0 ≤ ((((x9_62)))) ∧ ((((x9_62)))) ≤ ((((((((((((((R 0 4)))))))))))))) by omega) (show ((((((((((((((R 0 4)))))))))))))) ≤ 150 by omega) (show ∀ k : Int, 0 ≤ k → k < 150 → 0 ≤ (R 3) k ∧ (R 3) k ≤ 127 by omega)) gX7_runCommands_X7_skips rfl ⟨rfl, rfl⟩ 0 rfl (by decide +kernel) ⟨Nat.le_of_ble_eq_true rfl, Nat.le_of_ble_eq_true rfl⟩ (GG_ok D cy) hG hS (k_free hD hS hA) hP hD (va_recv hK hP (ci := 6) (q0 := 0) rfl rfl) hl.1 rfl (Nat.le_of_ble_eq_true rfl) ⟨Nat.le_of_ble_eq_true rfl, Nat.le_of_ble_eq_true rfl⟩ dX7_runCommands_90) (k_free hD hS hA) hS (fun r_84 R_85 H1 locs1 hR_85 hP1 hD1 hS1 hk1 => ?_)
                          rcases hR_85 with ⟨c_86, hr_84, hR_85⟩ | ⟨c_86, hr_84, hR_85⟩
                          · skip
                            have c_86 : ((((x9_62)))) < (skp (R 3) (((((((((((((((R 0 4))))))))))))))) (((((x9_62)))))) := c_86
                            subst hr_84
                            subst hR_85
                            have hDn : va_D (va_A (rfW cy a R) sz) (rfW cy a (upr (upr (upr (upr R 0 (ups (ups (ups (ups (ups (ups (ups (ups (ups (ups (ups (ups (ups (ups (ups (R 0) 6 0) 2 (kpN (R 0 2))) 5 st5) 16 cm) 15 q) 7 y7) 8 y8) 9 y9) 16 k9_63) 15 x9_62) 5 (ftV (M) (k9_63) (b9_64))) 7 x7_78) 8 x8_79) 9 x9_80) 15 (skp (R 3) (((((((((((((((R 0 4))))))))))))))) (((((x9_62)))))))) 1 (efM (M) (((k9_63))) (b9_64))) 2 (kpS (R 2) (R 1) (R 0 2))) 7 (b9_64))) := k_addr hD rfl
                            have hPn : va_P D vwCl (rfW cy a (upr (upr (upr (upr R 0 (ups (ups (ups (ups (ups (ups (ups (ups (ups (ups (ups (ups (ups (ups (ups (R 0) 6 0) 2 (kpN (R 0 2))) 5 st5) 16 cm) 15 q) 7 y7) 8 y8) 9 y9) 16 k9_63) 15 x9_62) 5 (ftV (M) (k9_63) (b9_64))) 7 x7_78) 8 x8_79) 9 x9_80) 15 (skp (R 3) (((((((((((((((R 0 4))))))))))))))) (((((x9_62)))))))) 1 (efM (M) (((k9_63))) (b9_64))) 2 (kpS (R 2) (R 1) (R 0 2))) 7 (b9_64))) H1 := hP1
                            clear hP hD hS hP1 hD1 hk1
                            have hP := hPn
                            have hD := hDn
                            have hS := hS1
                            clear hPn hDn hS1
                            generalize H1 = H at hP hS ⊢
                            generalize locs1 = locs at hS ⊢
                            refine lv_istore_n (lv' := [(2, .int (iI 1)), (1, .int (iI (c9 + 1))), (3, .int (iI zr_77)), (0, .ref (a 0))]) hx hb dX7_runCommands_93 rfl hl (by decide) rfl (fun ls hl => ?_)
                            refine lv_goto (tgt := 41) hx hb dX7_runCommands_94 (by decide) ?_
                            exact ih41 A0 (skp (R 3) (((((((((((((((R 0 4))))))))))))))) (((((x9_62)))))) (efM (M) (((k9_63))) (b9_64)) b9_64 (ftV (M) (k9_63) (b9_64)) k9_63 x7_78 x8_79 x9_80 (c9 + 1)  (by omega) (hnm2) (by first | exact hIe | exact hi2) (by omega) (by first | exact Or.inl ⟨hv0, (rcF_go hi0.1 htn (by omega) hpc hv0).symm.trans hres, _, hpy.symm.trans hpx⟩ | exact Or.inr ⟨hv1, hres.symm.trans (rcF_no (by omega) hpc hv1)⟩) (hi5) (hi6) (by omega) H locs (by rw [show (ups (ups (ups (ups (ups (ups (ups (ups (R 0) 6 0) 2 (kpN (R 0 2))) 5 (ftV (M) (k9_63) (b9_64))) 16 k9_63) 15 (skp (R 3) (((((((((((((((R 0 4))))))))))))))) (((((x9_62))))))) 7 x7_78) 8 x8_79) 9 x9_80) = (ups (ups (ups (ups (ups (ups (ups (ups (ups (ups (ups (ups (ups (ups (ups (R 0) 6 0) 2 (kpN (R 0 2))) 5 st5) 16 cm) 15 q) 7 y7) 8 y8) 9 y9) 16 k9_63) 15 x9_62) 5 (ftV (M) (k9_63) (b9_64))) 7 x7_78) 8 x8_79) 9 x9_80) 15 (skp (R 3) (((((((((((((((R 0 4))))))))))))))) (((((x9_62))))))) from by funext k9; by_cases e0 : k9 = 9; (subst e0; first | rfl | simp [ups]); by_cases e1 : k9 = 8; (subst e1; first | rfl | simp [ups]); by_cases e2 : k9 = 7; (subst e2; first | rfl | simp [ups]); by_cases e3 : k9 = 15; (subst e3; first | rfl | simp [ups]); by_cases e4 : k9 = 16; (subst e4; first | rfl | simp [ups]); by_cases e5 : k9 = 5; (subst e5; first | rfl | simp [ups]); by_cases e6 : k9 = 2; (subst e6; first | rfl | simp [ups]); by_cases e7 : k9 = 6; (subst e7; first | rfl | simp [ups]); simp only [ups, if_neg e0, if_neg e1, if_neg e2, if_neg e3, if_neg e4, if_neg e5, if_neg e6, if_neg e7]]; exact hP) (k_addr hD rfl) hS ls (lv_sub hl [1, 3] rfl)
                          · skip
                            have c_86 : (skp (R 3) (((((((((((((((R 0 4))))))))))))))) (((((x9_62)))))) = ((((x9_62)))) := c_86
                            subst hr_84
                            subst hR_85
                            have hDn : va_D (va_A (rfW cy a R) sz) (rfW cy a (upr (upr (upr (upr R 0 (ups (ups (ups (ups (ups (ups (ups (ups (ups (ups (ups (ups (ups (ups (ups (R 0) 6 0) 2 (kpN (R 0 2))) 5 st5) 16 cm) 15 q) 7 y7) 8 y8) 9 y9) 16 k9_63) 15 x9_62) 5 (ftV (M) (k9_63) (b9_64))) 7 x7_78) 8 x8_79) 9 x9_80) 15 (skp (R 3) (((((((((((((((R 0 4))))))))))))))) (((((x9_62)))))))) 1 (efM (M) (((k9_63))) (b9_64))) 2 (kpS (R 2) (R 1) (R 0 2))) 7 (b9_64))) := k_addr hD rfl
                            have hPn : va_P D vwCl (rfW cy a (upr (upr (upr (upr R 0 (ups (ups (ups (ups (ups (ups (ups (ups (ups (ups (ups (ups (ups (ups (ups (R 0) 6 0) 2 (kpN (R 0 2))) 5 st5) 16 cm) 15 q) 7 y7) 8 y8) 9 y9) 16 k9_63) 15 x9_62) 5 (ftV (M) (k9_63) (b9_64))) 7 x7_78) 8 x8_79) 9 x9_80) 15 (skp (R 3) (((((((((((((((R 0 4))))))))))))))) (((((x9_62)))))))) 1 (efM (M) (((k9_63))) (b9_64))) 2 (kpS (R 2) (R 1) (R 0 2))) 7 (b9_64))) H1 := hP1
                            clear hP hD hS hP1 hD1 hk1
                            have hP := hPn
                            have hD := hDn
                            have hS := hS1
                            clear hPn hDn hS1
                            generalize H1 = H at hP hS ⊢
                            generalize locs1 = locs at hS ⊢
                            refine lv_istore_n (lv' := [(2, .int (iI 0)), (1, .int (iI (c9 + 1))), (3, .int (iI zr_77)), (0, .ref (a 0))]) hx hb dX7_runCommands_93 rfl hl (by decide) rfl (fun ls hl => ?_)
                            refine lv_goto (tgt := 41) hx hb dX7_runCommands_94 (by decide) ?_
                            exact ih41 A0 (skp (R 3) (((((((((((((((R 0 4))))))))))))))) (((((x9_62)))))) (efM (M) (((k9_63))) (b9_64)) b9_64 (ftV (M) (k9_63) (b9_64)) k9_63 x7_78 x8_79 x9_80 (c9 + 1)  (by omega) (hnm2) (by first | exact hIe | exact hi2) (by omega) (by first | exact Or.inl ⟨hv0, (rcF_go hi0.1 htn (by omega) hpc hv0).symm.trans hres, _, hpy.symm.trans hpx⟩ | exact Or.inr ⟨hv1, hres.symm.trans (rcF_no (by omega) hpc hv1)⟩) (hi5) (hi6) (by omega) H locs (by rw [show (ups (ups (ups (ups (ups (ups (ups (ups (R 0) 6 0) 2 (kpN (R 0 2))) 5 (ftV (M) (k9_63) (b9_64))) 16 k9_63) 15 (skp (R 3) (((((((((((((((R 0 4))))))))))))))) (((((x9_62))))))) 7 x7_78) 8 x8_79) 9 x9_80) = (ups (ups (ups (ups (ups (ups (ups (ups (ups (ups (ups (ups (ups (ups (ups (R 0) 6 0) 2 (kpN (R 0 2))) 5 st5) 16 cm) 15 q) 7 y7) 8 y8) 9 y9) 16 k9_63) 15 x9_62) 5 (ftV (M) (k9_63) (b9_64))) 7 x7_78) 8 x8_79) 9 x9_80) 15 (skp (R 3) (((((((((((((((R 0 4))))))))))))))) (((((x9_62))))))) from by funext k9; by_cases e0 : k9 = 9; (subst e0; first | rfl | simp [ups]); by_cases e1 : k9 = 8; (subst e1; first | rfl | simp [ups]); by_cases e2 : k9 = 7; (subst e2; first | rfl | simp [ups]); by_cases e3 : k9 = 15; (subst e3; first | rfl | simp [ups]); by_cases e4 : k9 = 16; (subst e4; first | rfl | simp [ups]); by_cases e5 : k9 = 5; (subst e5; first | rfl | simp [ups]); by_cases e6 : k9 = 2; (subst e6; first | rfl | simp [ups]); by_cases e7 : k9 = 6; (subst e7; first | rfl | simp [ups]); simp only [ups, if_neg e0, if_neg e1, if_neg e2, if_neg e3, if_neg e4, if_neg e5, if_neg e6, if_neg e7]]; exact hP) (k_addr hD rfl) hS ls (lv_sub hl [1, 3] rfl)
          exact loop41 ((R 0 4 - (skp (R 3) (((((((R 0 4))))))) ((0))) : Int) + 1).toNat zb_8 (skp (R 3) (((((((R 0 4))))))) ((0))) (R 1) zb_8 0 zc_7 (R 0 7) (R 0 8) (R 0 9) 0  (by omega) (hit.1) (hI) (by omega) (Or.inl ⟨rfl, rfl, _, hit.2⟩) (hit.1) (⟨_, hit.2⟩) (by omega) H locs (by rw [show (ups (ups (ups (ups (ups (ups (ups (ups (R 0) 6 0) 2 (kpN (R 0 2))) 5 0) 16 zc_7) 15 (skp (R 3) (((((((R 0 4))))))) ((0)))) 7 (R 0 7)) 8 (R 0 8)) 9 (R 0 9)) = (ups (ups (ups (ups (ups (ups (ups (R 0) 6 0) 16 zc_7) 15 zx_9) 2 (kpN (R 0 2))) 15 0) 5 0) 15 (skp (R 3) (((((((R 0 4))))))) ((0)))) from by funext k9; by_cases e0 : k9 = 9; (subst e0; first | rfl | simp [ups]); by_cases e1 : k9 = 8; (subst e1; first | rfl | simp [ups]); by_cases e2 : k9 = 7; (subst e2; first | rfl | simp [ups]); by_cases e3 : k9 = 15; (subst e3; first | rfl | simp [ups]); by_cases e4 : k9 = 16; (subst e4; first | rfl | simp [ups]); by_cases e5 : k9 = 5; (subst e5; first | rfl | simp [ups]); by_cases e6 : k9 = 2; (subst e6; first | rfl | simp [ups]); by_cases e7 : k9 = 6; (subst e7; first | rfl | simp [ups]); simp only [ups, if_neg e0, if_neg e1, if_neg e2, if_neg e3, if_neg e4, if_neg e5, if_neg e6, if_neg e7]]; exact hP) (k_addr hD rfl) hS ls (lv_sub hl [1, 2] rfl)
      · exfalso; omega
  exact hbody s.heap [] hP hS ls hl
