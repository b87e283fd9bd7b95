set_option maxHeartbeats 4000000 in
set_option maxRecDepth 100000 in
theorem c_X6_runCommands (l : Launch) (D : va_G) (cy : Nat → ClassId) (sz : Nat) (a : Nat → Nat) (P : Nat → Int → Int)  (hI : Inv (mO P)) (hsv : 0 ≤ P 50 1 ∧ P 50 1 ≤ 4) (hn0 : 0 ≤ P 10 0 ∧ P 10 0 ≤ 150) (hT : ∀ k : Int, 0 ≤ k → k < 150 → 0 ≤ P 11 k ∧ P 11 k ≤ 127) (hnn : nOK (P 13)) : Met l yX6_runCommands wsX6_runCommands { frames := 8, cells := 0, slots := 0, locals := 178 } (mPre (GS D cy) D (obrunW cy a P) sz ([.ref (a 100)] : List Value)) (kQi D (obrunW cy a P) sz (fun u9 : (Nat → Nat) × (Nat → Int → Int) => obrunW cy (pgm a u9.1) u9.2) (fun r9 u9 => rcP P u9.2 r9)) 0 0 (va_A (obrunW cy a P) sz) := by
  refine kM_start (cc := cX6_runCommands) (maxL := 3) (ret := (some .int)) (by decide) rfl (Nat.le_of_ble_eq_true rfl) ?_
  intro p e s m below meth c hx hb hr hlocks hml hts hown hsz hA hG hP hD hS hin ls hl
  have hGs := hG
  have hJd := hG.2.1
  have hG := hG.1
  have hK := hG.1
  have hl : lv_has ls 3 [(0, .ref (a 100))] := hl
  have hinX5 : ∀ w ∈ u_ws RX5 TX5 6, w ∈ wsX6_runCommands := by decide +kernel
  have hinX6 : ∀ w ∈ u_ws RX6 TX6 8, w ∈ wsX6_runCommands := by decide +kernel
  have hmw0 := hts (.fieldLink RX6 26 "ArcPlate" "script" "LArcPlate$Script;") (by decide +kernel)
  have hmw1 := hts (.fieldLink RX6 51 "ArcPlate" "halt" "I") (by decide +kernel)
  have hmw2 := hts (.fieldLink RX6 234 "ArcPlate$Script" "commands" "I") (by decide +kernel)
  have hmw3 := hts (.fieldLink RX6 10 "ArcPlate" "plate" "LArcPlate$Plate;") (by decide +kernel)
  have hS0 := po_S hI
  have hbody : ∀ (H : Heap) (locs : List Loc) (hP : va_P D vwCl (obrunW cy a P) H) (hS : va_S (va_A (obrunW cy a P) sz) s.heap H locs) (ls : Array Slot) (hl : lv_has ls 3 [(0, .ref (a 100))]), W p l e { frames := 8, cells := 0, slots := 0, locals := 178 } s m ([.ref (a 100)] : List Value).toArray below meth c H locs 0 0 (MQ below (kQi D (obrunW cy a P) sz (fun u9 : (Nat → Nat) × (Nat → Int → Int) => obrunW cy (pgm a u9.1) u9.2) (fun r9 u9 => rcP P u9.2 r9)) ([.ref (a 100)] : List Value).toArray s 0 0 (va_A (obrunW cy a P) sz)) (F0 m 0 ls []) := by
    intro H locs hP hS ls hl
    refine lv_aload_n hx hb dX6_runCommands_0 rfl (lv_at hl 0 rfl) ?_
    refine va_get (D := D) (ci := 5) (v := .ref (a 10)) (C := RX6) (T := TX6) (N := 8) hx hb hts hinX6 hown hK hP 0 rfl rfl 2 (by decide) hmw0 (fun _ h9 => h9) rfl dX6_runCommands_1 ?_
    have hPc := hP.sub (ws' := (scW cy a P)) [48, 49, 50, 51] rfl
    have hDc := hD.sub (ws' := (scW cy a P)) [48, 49, 50, 51] (by decide) rfl
    have hFc := va_free (wc := (scW cy a P)) hD hS hA [48, 49, 50, 51] rfl
    refine k_mui (k_runV (As := []) (rest := []) ⟨hx, hb, hml, hown, hts⟩ (c_X5_read l D cy H.size a P (show 0 ≤ P 10 0 by omega) (show P 10 0 ≤ 150 by omega) (show ∀ k : Int, 0 ≤ k → k < 150 → 0 ≤ P 11 k ∧ P 11 k ≤ 127 by omega) (show nOK (P 13) by omega)) gX6_runCommands_X5_read rfl ⟨rfl, rfl⟩ 0 rfl (by decide +kernel) ⟨Nat.le_of_ble_eq_true rfl, Nat.le_of_ble_eq_true rfl⟩ (GS_ok D cy) hGs hS hFc hPc hDc (va_recv hK hP (ci := 4) (q0 := 48) rfl rfl) hl.1 rfl (Nat.le_of_ble_eq_true rfl) ⟨Nat.le_of_ble_eq_true rfl, Nat.le_of_ble_eq_true rfl⟩ dX6_runCommands_4) hFc hS (fun r_1 R_2 H1 locs1 hR_2 hP1 hD1 hS1 hk1 => ?_)
    rcases hR_2 with ⟨x9_4, zq_5, zc_6, zK_7, zN_8, c_3, hr_1, hR_2⟩ | ⟨zq_9, zc_10, zK_11, zN_12, c_3, hr_1, hR_2⟩
    · skip
      have c_3 : (prsF (P 11) (P 10 0) (skp (P 11) (P 10 0) 0) = (0, x9_4) ∧ 0 ≤ x9_4) ∧ nOK zN_8 := c_3
      have hr_1 := hr_1.symm
      subst hr_1
      subst hR_2
      have hDn : va_D (va_A (obrunW cy a P) sz) (obrunW cy a (upr (upr (upr P 10 (ups (ups (P 10) 5 zq_5) 1 zc_6)) 12 (zK_7)) 13 (zN_8))) := k_addr hD rfl
      have hPn := k_join (ws' := (obrunW cy a (upr (upr (upr P 10 (ups (ups (P 10) 5 zq_5) 1 zc_6)) 12 (zK_7)) 13 (zN_8)))) hP hD [48, 49, 50, 51] [none, none, none, none, none, none, none, none, none, none, none, none, none, none, none, none, none, none, none, none, none, none, none, none, none, none, none, none, none, none, none, none, none, none, none, none, none, none, none, none, none, none, none, none, none, none, none, none, some 0, some 1, some 2, some 3] rfl hk1 hP1 rfl rfl
      clear hP hD hS hP1 hD1 hk1
      have hP := hPn
      have hD := hDn
      have hS := hS1
      clear hPn hDn hS1
      generalize H1 = H at hP hS ⊢
      generalize locs1 = locs at hS ⊢
      have hrd := c_3
      have hrx := prsF_le (skp_le hn0.1).2 hrd.1.1
      refine lv_istore_n (lv' := [(1, .int (iI x9_4)), (0, .ref (a 100))]) hx hb dX6_runCommands_7 rfl hl (by decide) rfl (fun ls hl => ?_)
      refine lv_iload_n hx hb dX6_runCommands_8 rfl (lv_at hl 0 rfl) ?_
      refine k_iconst hx hb dX6_runCommands_9 ?_
      refine k_icmp_eq (tgt := 18) hx hb dX6_runCommands_10 (by decide) (by omega) (by omega) (fun c_13 => ?_) (fun c_13 => ?_)
      · exfalso; omega
      · skip
        refine k_bipush hx hb dX6_runCommands_13 (by decide +kernel) ?_
        refine lv_iload_n hx hb dX6_runCommands_15 rfl (lv_at hl 0 rfl) ?_
        refine k_isub hx hb dX6_runCommands_16 ?_
        exact W.iret (v := iI ((-10) - x9_4)) hx hb hr (fun t9 ht _ => ⟨⟨iI ((-10) - x9_4), (a, (upr (upr (upr P 10 (ups (ups (P 10) 5 zq_5) 1 zc_6)) 12 (zK_7)) 13 (zN_8))), rfl, ⟨((-10) - x9_4), rfl, (⟨⟨fun c9 g1 g2 g3 g4 g5 => (by (repeat rw [upr_o _ _ (by omega)])), rfl, hrd.2⟩, Or.inl ⟨_, hrd.1.1, rfl, (by (repeat rw [upr_o _ _ (by omega)])), fun i9 h9 => (by (repeat rw [upr_o _ _ (by omega)])), fun c9 h9 h8 => (by (repeat rw [upr_o _ _ (by omega)]))⟩⟩ : rcP P (upr (upr (upr P 10 (ups (ups (P 10) 5 zq_5) 1 zc_6)) 12 (zK_7)) 13 (zN_8)) ((-10) - x9_4 : Int))⟩, by rw [ht]; exact hP, hD⟩, hS.F ht⟩) hS.2.2 dX6_runCommands_17 hlocks
    · skip
      have c_3 : ((∃ x9 : Int, prsF (P 11) (P 10 0) (skp (P 11) (P 10 0) 0) = (1, x9)) ∧ cmAll (P 11) (P 10 0) zK_11 zN_12 zc_10) ∧ nOK zN_12 ∧ 0 ≤ zc_10 ∧ zc_10 ≤ 150 := c_3
      subst hr_1
      subst hR_2
      have hDn : va_D (va_A (obrunW cy a P) sz) (obrunW cy a (upr (upr (upr P 10 (ups (ups (P 10) 5 zq_9) 1 zc_10)) 12 (zK_11)) 13 (zN_12))) := k_addr hD rfl
      have hPn := k_join (ws' := (obrunW cy a (upr (upr (upr P 10 (ups (ups (P 10) 5 zq_9) 1 zc_10)) 12 (zK_11)) 13 (zN_12)))) hP hD [48, 49, 50, 51] [none, none, none, none, none, none, none, none, none, none, none, none, none, none, none, none, none, none, none, none, none, none, none, none, none, none, none, none, none, none, none, none, none, none, none, none, none, none, none, none, none, none, none, none, none, none, none, none, some 0, some 1, some 2, some 3] rfl hk1 hP1 rfl rfl
      clear hP hD hS hP1 hD1 hk1
      have hP := hPn
      have hD := hDn
      have hS := hS1
      clear hPn hDn hS1
      generalize H1 = H at hP hS ⊢
      generalize locs1 = locs at hS ⊢
      have hrd := c_3
      obtain ⟨Pl, hPl0, hcm, hPl1, hPl2⟩ := hrd.1.2
      have hnz := hrd.2.1
      have hzc := hrd.2.2
      refine lv_istore_n (lv' := [(1, .int (iI (-1))), (0, .ref (a 100))]) hx hb dX6_runCommands_7 rfl hl (by decide) rfl (fun ls hl => ?_)
      refine lv_iload_n hx hb dX6_runCommands_8 rfl (lv_at hl 0 rfl) ?_
      refine k_iconst hx hb dX6_runCommands_9 ?_
      refine k_icmp_eq (tgt := 18) hx hb dX6_runCommands_10 (by decide) (by omega) (by omega) (fun c_14 => ?_) (fun c_14 => ?_)
      · skip
        refine lv_aload_n hx hb dX6_runCommands_18 rfl (lv_at hl 1 rfl) ?_
        have hPc := hP.sub (ws' := (obhsW cy a (upr (upr (upr P 10 (ups (ups (P 10) 5 zq_9) 1 zc_10)) 12 (zK_11)) 13 (zN_12)))) [0, 1, 2, 3, 4, 5, 6, 7, 8, 9, 10, 11, 12, 13, 14, 15, 16, 17, 18, 19, 20, 21, 22, 23, 24, 25, 26, 27, 28, 29, 30, 31, 32, 33, 34, 35, 36, 37, 38, 39, 40, 41, 42, 43, 44, 45, 46, 47] rfl
        have hDc := hD.sub (ws' := (obhsW cy a (upr (upr (upr P 10 (ups (ups (P 10) 5 zq_9) 1 zc_10)) 12 (zK_11)) 13 (zN_12)))) [0, 1, 2, 3, 4, 5, 6, 7, 8, 9, 10, 11, 12, 13, 14, 15, 16, 17, 18, 19, 20, 21, 22, 23, 24, 25, 26, 27, 28, 29, 30, 31, 32, 33, 34, 35, 36, 37, 38, 39, 40, 41, 42, 43, 44, 45, 46, 47] (by decide) rfl
        have hFc := va_free (wc := (obhsW cy a (upr (upr (upr P 10 (ups (ups (P 10) 5 zq_9) 1 zc_10)) 12 (zK_11)) 13 (zN_12)))) hD hS hA [0, 1, 2, 3, 4, 5, 6, 7, 8, 9, 10, 11, 12, 13, 14, 15, 16, 17, 18, 19, 20, 21, 22, 23, 24, 25, 26, 27, 28, 29, 30, 31, 32, 33, 34, 35, 36, 37, 38, 39, 40, 41, 42, 43, 44, 45, 46, 47] rfl
        refine k_muv (k_runV (As := []) (rest := []) ⟨hx, hb, hml, hown, hts⟩ (c_X6_keepState l D cy H.size a (upr (upr (upr P 10 (ups (ups (P 10) 5 zq_9) 1 zc_10)) 12 (zK_11)) 13 (zN_12)) (show Inv (mO P) from hI) (show 0 ≤ (P 50) 1 ∧ (P 50) 1 ≤ 4 by omega)) gX6_runCommands_X6_keepState rfl ⟨rfl, rfl⟩ 0 rfl (by decide +kernel) ⟨Nat.le_of_ble_eq_true rfl, Nat.le_of_ble_eq_true rfl⟩ (GG_ok D cy) hG hS hFc hPc hDc (va_recv hK hP (ci := 5) (q0 := 0) rfl rfl) hl.1 rfl (Nat.le_of_ble_eq_true rfl) ⟨Nat.le_of_ble_eq_true rfl, Nat.le_of_ble_eq_true rfl⟩ dX6_runCommands_19) hFc hS (fun R_16 H1 locs1 hR_16 hP1 hD1 hS1 hk1 => ?_)
        obtain ⟨g_17, Q_18⟩ := R_16
        have hR_16 : (∀ c9 : Nat, c9 < 50 → Q_18 c9 = (upr (upr (upr P 10 (ups (ups (P 10) 5 zq_9) 1 zc_10)) 12 (zK_11)) 13 (zN_12)) c9) ∧ Q_18 100 = ups ((P 100)) 6 0 ∧ kept2 (upr (upr (upr P 10 (ups (ups (P 10) 5 zq_9) 1 zc_10)) 12 (zK_11)) 13 (zN_12)) Q_18 := hR_16
        have hDn : va_D (va_A (obrunW cy a P) sz) (obrunW cy (pgm a g_17) (upr (upr (upr (upr Q_18 10 (ups (ups (P 10) 5 zq_9) 1 zc_10)) 11 (P 11)) 12 (zK_11)) 13 (zN_12))) := k_joinD (ws' := (obrunW cy (pgm a g_17) (upr (upr (upr (upr Q_18 10 (ups (ups (P 10) 5 zq_9) 1 zc_10)) 11 (P 11)) 12 (zK_11)) 13 (zN_12)))) hP hD [0, 1, 2, 3, 4, 5, 6, 7, 8, 9, 10, 11, 12, 13, 14, 15, 16, 17, 18, 19, 20, 21, 22, 23, 24, 25, 26, 27, 28, 29, 30, 31, 32, 33, 34, 35, 36, 37, 38, 39, 40, 41, 42, 43, 44, 45, 46, 47] [some 0, some 1, some 2, some 3, some 4, some 5, some 6, some 7, some 8, some 9, some 10, some 11, some 12, some 13, some 14, some 15, some 16, some 17, some 18, some 19, some 20, some 21, some 22, some 23, some 24, some 25, some 26, some 27, some 28, some 29, some 30, some 31, some 32, some 33, some 34, some 35, some 36, some 37, some 38, some 39, some 40, some 41, some 42, some 43, some 44, some 45, some 46, some 47, none, none, none, none] rfl hFc hD1 rfl rfl (by decide)
        have hPn := k_join (ws' := (obrunW cy (pgm a g_17) (upr (upr (upr (upr Q_18 10 (ups (ups (P 10) 5 zq_9) 1 zc_10)) 11 (P 11)) 12 (zK_11)) 13 (zN_12)))) hP hD [0, 1, 2, 3, 4, 5, 6, 7, 8, 9, 10, 11, 12, 13, 14, 15, 16, 17, 18, 19, 20, 21, 22, 23, 24, 25, 26, 27, 28, 29, 30, 31, 32, 33, 34, 35, 36, 37, 38, 39, 40, 41, 42, 43, 44, 45, 46, 47] [some 0, some 1, some 2, some 3, some 4, some 5, some 6, some 7, some 8, some 9, some 10, some 11, some 12, some 13, some 14, some 15, some 16, some 17, some 18, some 19, some 20, some 21, some 22, some 23, some 24, some 25, some 26, some 27, some 28, some 29, some 30, some 31, some 32, some 33, some 34, some 35, some 36, some 37, some 38, some 39, some 40, some 41, some 42, some 43, some 44, some 45, some 46, some 47, none, none, none, none] rfl hk1 hP1 rfl rfl
        have hPn : va_P D vwCl (obrunW cy (pgm a g_17) (upr (upr (upr (upr (upr (upr (upr (upr (upr (upr (upr (upr (upr Q_18 0 (P 0)) 1 (P 1)) 2 (P 2)) 3 (P 3)) 4 (P 4)) 5 (P 5)) 6 (P 6)) 7 (P 7)) 8 (P 8)) 10 (ups (ups (P 10) 5 zq_9) 1 zc_10)) 11 (P 11)) 12 (zK_11)) 13 (zN_12))) H1 := by rw [← (show Q_18 = (upr (upr (upr (upr (upr (upr (upr (upr (upr Q_18 0 (P 0)) 1 (P 1)) 2 (P 2)) 3 (P 3)) 4 (P 4)) 5 (P 5)) 6 (P 6)) 7 (P 7)) 8 (P 8)) from keep9_lo hR_16.1 (fun c9 h9 => by (repeat rw [upr_o _ _ (by omega)])))]; exact hPn
        have hDn : va_D (va_A (obrunW cy a P) sz) (obrunW cy (pgm a g_17) (upr (upr (upr (upr (upr (upr (upr (upr (upr (upr (upr (upr (upr Q_18 0 (P 0)) 1 (P 1)) 2 (P 2)) 3 (P 3)) 4 (P 4)) 5 (P 5)) 6 (P 6)) 7 (P 7)) 8 (P 8)) 10 (ups (ups (P 10) 5 zq_9) 1 zc_10)) 11 (P 11)) 12 (zK_11)) 13 (zN_12))) := k_addr hDn rfl
        clear hP hD hS hP1 hD1 hk1
        have hP := hPn
        have hD := hDn
        have hS := hS1
        clear hPn hDn hS1
        generalize H1 = H at hP hS ⊢
        generalize locs1 = locs at hS ⊢
        obtain ⟨hq, h100, hkp⟩ := hR_16
        have hkp := kept2_lo (P := P) hkp (fun c9 h9 h8 => by (repeat rw [upr_o _ _ (by omega)])) rfl hsv
        have hq9 := q9_lo (P := P) hq (fun c9 g1 g2 g3 => by (repeat rw [upr_o _ _ (by omega)]))
        refine lv_aload_n hx hb dX6_runCommands_22 rfl (lv_at hl 1 rfl) ?_
        refine k_iconst hx hb dX6_runCommands_23 ?_
        refine va_put (D := D) (ci := 5) (v := .int (iI 0)) (ty := .int) (C := RX6) (T := TX6) (N := 8) hx hb hts hinX6 tyX6 tyX6_ok nmX6 hown hK hP hD hS 0 rfl rfl 7 (by decide) hmw1 (fun _ h9 => h9) rfl (by decide +kernel) rfl rfl (Nat.le_of_ble_eq_true rfl) dX6_runCommands_24 (fun H locs hP hD hS => ?_)
        have hP : va_P D vwCl (obrunW cy (pgm a g_17) (upr (upr (upr (upr (upr (upr (upr (upr (upr (upr (upr (upr (upr (upr Q_18 0 (P 0)) 1 (P 1)) 2 (P 2)) 3 (P 3)) 4 (P 4)) 5 (P 5)) 6 (P 6)) 7 (P 7)) 8 (P 8)) 10 (ups (ups (P 10) 5 zq_9) 1 zc_10)) 11 (P 11)) 12 (zK_11)) 13 (zN_12)) 100 (ups (Q_18 100) 7 0))) H := hP
        have hD : va_D (va_A (obrunW cy a P) sz) (obrunW cy (pgm a g_17) (upr (upr (upr (upr (upr (upr (upr (upr (upr (upr (upr (upr (upr (upr Q_18 0 (P 0)) 1 (P 1)) 2 (P 2)) 3 (P 3)) 4 (P 4)) 5 (P 5)) 6 (P 6)) 7 (P 7)) 8 (P 8)) 10 (ups (ups (P 10) 5 zq_9) 1 zc_10)) 11 (P 11)) 12 (zK_11)) 13 (zN_12)) 100 (ups (Q_18 100) 7 0))) := hD
        refine k_iconst hx hb dX6_runCommands_27 ?_
        refine lv_istore_n (lv' := [(2, .int (iI 0)), (1, .int (iI (-1))), (0, .ref (a 100))]) hx hb dX6_runCommands_28 rfl hl (by decide) rfl (fun ls hl => ?_)
        have loop29 : ∀ (n_19 : Nat) (M : Int → Int) (A : Int → Int) (c9 : Int) (Z : Nat → Int → Int) (hi0 : 0 ≤ c9 ∧ c9 ≤ zc_10) (hi1 : rcF (P 11) (P 10 0) (Pl c9) M A c9 = rcR P) (hi2 : Inv M) (hi3 : ag M (mO Z)) (hn : zc_10 - c9 < (n_19 : Int)) (H : Heap) (locs : List Loc) (hP : va_P D vwCl (obrunW cy (pgm a g_17) (upr (upr (upr (upr (upr (upr (upr (upr (upr (upr (upr (upr (upr (upr Q_18 0 (Z 0)) 1 (Z 1)) 2 (Z 2)) 3 (Z 3)) 4 (Z 4)) 5 (Z 5)) 6 (Z 6)) 7 (Z 7)) 8 (Z 8)) 10 (ups (ups (P 10) 5 zq_9) 1 zc_10)) 11 (P 11)) 12 (zK_11)) 13 (zN_12)) 100 (ups (ups (P 100) 6 0) 7 0))) H) (hD : va_D (va_A (obrunW cy a P) sz) (obrunW cy (pgm a g_17) (upr (upr (upr (upr (upr (upr (upr (upr (upr (upr (upr (upr (upr (upr Q_18 0 (Z 0)) 1 (Z 1)) 2 (Z 2)) 3 (Z 3)) 4 (Z 4)) 5 (Z 5)) 6 (Z 6)) 7 (Z 7)) 8 (Z 8)) 10 (ups (ups (P 10) 5 zq_9) 1 zc_10)) 11 (P 11)) 12 (zK_11)) 13 (zN_12)) 100 (ups (ups (P 100) 6 0) 7 0)))) (hS : va_S (va_A (obrunW cy a P) sz) s.heap H locs) (ls : Array Slot) (hl : lv_has ls 3 [(2, .int (iI c9)), (1, .int (iI (-1))), (0, .ref (a 100))]), W p l e { frames := 8, cells := 0, slots := 0, locals := 178 } s m ([.ref (a 100)] : List Value).toArray below meth c H locs 0 0 (MQ below (kQi D (obrunW cy a P) sz (fun u9 : (Nat → Nat) × (Nat → Int → Int) => obrunW cy (pgm a u9.1) u9.2) (fun r9 u9 => rcP P u9.2 r9)) ([.ref (a 100)] : List Value).toArray s 0 0 (va_A (obrunW cy a P) sz)) (F0 m 29 ls []) := by
          intro n_19
          induction n_19 with
          | zero => intro M A c9 Z hi0 hi1 hi2 hi3 hn H locs hP hD hS ls hl; exfalso; omega
          | succ n_19 ih29 =>
            intro M A c9 Z hi0 hi1 hi2 hi3 hn H locs hP hD hS ls hl
            refine lv_iload_n hx hb dX6_runCommands_29 rfl (lv_at hl 0 rfl) ?_
            refine lv_aload_n hx hb dX6_runCommands_30 rfl (lv_at hl 2 rfl) ?_
            refine va_get (D := D) (ci := 5) (v := .ref ((pgm a g_17) 10)) (C := RX6) (T := TX6) (N := 8) hx hb hts hinX6 hown hK hP 0 rfl rfl 2 (by decide) hmw0 (fun _ h9 => h9) rfl dX6_runCommands_31 ?_
            refine va_get (D := D) (ci := 4) (v := .int (iI zc_10)) (C := RX5) (T := TX5) (N := 6) hx hb hts hinX5 hown hK hP 48 rfl rfl 1 (by decide) hmw2 (fun _ h9 => h9) rfl dX6_runCommands_34 ?_
            refine k_icmp_ge (tgt := 83) hx hb dX6_runCommands_37 (by decide) (by omega) (by omega) (fun c_20 => ?_) (fun c_20 => ?_)
            · skip
              have hce : c9 = zc_10 := by omega
              have hre : rcR P = (0, c9, M) := by rw [← hi1]; exact rcF_end (by rw [hce]; exact hPl2)
              refine lv_aload_n hx hb dX6_runCommands_83 rfl (lv_at hl 2 rfl) ?_
              refine va_get (D := D) (ci := 5) (v := .ref ((pgm a g_17) 10)) (C := RX6) (T := TX6) (N := 8) hx hb hts hinX6 hown hK hP 0 rfl rfl 2 (by decide) hmw0 (fun _ h9 => h9) rfl dX6_runCommands_84 ?_
              refine va_get (D := D) (ci := 4) (v := .int (iI zc_10)) (C := RX5) (T := TX5) (N := 6) hx hb hts hinX5 hown hK hP 48 rfl rfl 1 (by decide) hmw2 (fun _ h9 => h9) rfl dX6_runCommands_87 ?_
              exact W.iret (v := iI zc_10) hx hb hr (fun t9 ht _ => ⟨⟨iI zc_10, (g_17, (upr (upr (upr (upr (upr (upr (upr (upr (upr (upr (upr (upr (upr (upr Q_18 0 (Z 0)) 1 (Z 1)) 2 (Z 2)) 3 (Z 3)) 4 (Z 4)) 5 (Z 5)) 6 (Z 6)) 7 (Z 7)) 8 (Z 8)) 10 (ups (ups (P 10) 5 zq_9) 1 zc_10)) 11 (P 11)) 12 (zK_11)) 13 (zN_12)) 100 (ups (ups (P 100) 6 0) 7 0))), rfl, ⟨zc_10, rfl, (⟨⟨fun c9 g1 g2 g3 g4 g5 => by (by_cases h11 : c9 = 11); (subst h11; rfl); (repeat rw [upr_o _ _ (by omega)]); exact hq9 c9 g1 g2 g3 g4, rfl, hnz⟩, Or.inr ⟨hrd.1.1, by rw [hre]; exact hce.symm, by rw [hre]; rfl, rfl, by rw [hre]; exact hi3, kept2_up hsv (fun c9 h9 h8 => (by (repeat rw [upr_o _ _ (by omega)]))) hkp⟩⟩ : rcP P (upr (upr (upr (upr (upr (upr (upr (upr (upr (upr (upr (upr (upr (upr Q_18 0 (Z 0)) 1 (Z 1)) 2 (Z 2)) 3 (Z 3)) 4 (Z 4)) 5 (Z 5)) 6 (Z 6)) 7 (Z 7)) 8 (Z 8)) 10 (ups (ups (P 10) 5 zq_9) 1 zc_10)) 11 (P 11)) 12 (zK_11)) 13 (zN_12)) 100 (ups (ups (P 100) 6 0) 7 0)) (zc_10 : Int))⟩, by rw [ht]; exact hP, hD⟩, hS.F ht⟩) hS.2.2 dX6_runCommands_90 hlocks
            · skip
              obtain ⟨x9, B9, he9, hpn, hfe⟩ := cmOK_at hcm hi0.1 (show c9 < zc_10 by omega) A
              have hplc := (hcm c9 hi0.1 (by omega)).1.1
              have hk9 := (hcm c9 hi0.1 (by omega)).1.2
              have hIZ := inv_A hi3 hi2
              have hncm := nOK_C hnz hi0.1 (show c9 < 150 by omega)
              refine lv_aload_n hx hb dX6_runCommands_40 rfl (lv_at hl 2 rfl) ?_
              refine lv_aload_n hx hb dX6_runCommands_41 rfl (lv_at hl 2 rfl) ?_
              refine va_get (D := D) (ci := 5) (v := .ref ((pgm a g_17) 10)) (C := RX6) (T := TX6) (N := 8) hx hb hts hinX6 hown hK hP 0 rfl rfl 2 (by decide) hmw0 (fun _ h9 => h9) rfl dX6_runCommands_42 ?_
              refine lv_iload_n hx hb dX6_runCommands_45 rfl (lv_at hl 0 rfl) ?_
              refine lv_aload_n hx hb dX6_runCommands_46 rfl (lv_at hl 2 rfl) ?_
              refine va_get (D := D) (ci := 5) (v := .ref ((pgm a g_17) 0)) (C := RX6) (T := TX6) (N := 8) hx hb hts hinX6 hown hK hP 0 rfl rfl 0 (by decide) hmw3 (fun _ h9 => h9) rfl dX6_runCommands_47 ?_
              refine k_roV (As := [.int (iI c9), .ref ((pgm a g_17) 0)]) (rest := [.ref (a 100)]) ⟨hx, hb, hml, hown, hts⟩ (c_X5_faultOf l D cy (pgm a g_17) (upr (upr (upr (upr (upr (upr (upr (upr (upr (upr (upr (upr (upr (upr Q_18 0 (Z 0)) 1 (Z 1)) 2 (Z 2)) 3 (Z 3)) 4 (Z 4)) 5 (Z 5)) 6 (Z 6)) 7 (Z 7)) 8 (Z 8)) 10 (ups (ups (P 10) 5 zq_9) 1 zc_10)) 11 (P 11)) 12 (zK_11)) 13 (zN_12)) 100 (ups (ups (P 100) 6 0) 7 0)) c9 (show Inv (mO (upr (upr (upr (upr (upr (upr (upr (upr (upr Q_18 0 (Z 0)) 1 (Z 1)) 2 (Z 2)) 3 (Z 3)) 4 (Z 4)) 5 (Z 5)) 6 (Z 6)) 7 (Z 7)) 8 (Z 8))) from hIZ) (show 0 ≤ c9 ∧ c9 < 150 by omega) (show 0 ≤ zK_11 c9 ∧ zK_11 c9 ≤ 6 by omega) (show nmOK (nmC (zN_12) c9) from hncm)) gX6_runCommands_X5_faultOf rfl ⟨rfl, rfl⟩ 2 rfl (by decide +kernel) ⟨Nat.le_of_ble_eq_true rfl, Nat.le_of_ble_eq_true rfl⟩ (GG_ok D cy) ((GG_ok D cy).2.2.2 _ _ _ _ (fun _ h => h.elim) ((GG_ok D cy).1 _ _ _ _ hS.2.1 hG)) (hP.sub (ws' := (scplW cy (pgm a g_17) (upr (upr (upr (upr (upr (upr (upr (upr (upr (upr (upr (upr (upr (upr Q_18 0 (Z 0)) 1 (Z 1)) 2 (Z 2)) 3 (Z 3)) 4 (Z 4)) 5 (Z 5)) 6 (Z 6)) 7 (Z 7)) 8 (Z 8)) 10 (ups (ups (P 10) 5 zq_9) 1 zc_10)) 11 (P 11)) 12 (zK_11)) 13 (zN_12)) 100 (ups (ups (P 100) 6 0) 7 0)))) [48, 49, 50, 51, 39, 40, 41, 42, 43, 44, 45, 46, 47] rfl) (va_recv hK hP (ci := 4) (q0 := 48) rfl rfl) hl.1 rfl (Nat.le_of_ble_eq_true rfl) ⟨Nat.le_of_ble_eq_true rfl, Nat.le_of_ble_eq_true rfl⟩ dX6_runCommands_50 (fun r_21 hr_21 => ?_)
              have hr_21 : r_21 = ftV (mO (upr (upr (upr (upr (upr (upr (upr (upr (upr Q_18 0 (Z 0)) 1 (Z 1)) 2 (Z 2)) 3 (Z 3)) 4 (Z 4)) 5 (Z 5)) 6 (Z 6)) 7 (Z 7)) 8 (Z 8))) (zK_11 c9) (nmC (zN_12) c9) := hr_21
              subst hr_21
              have hval : (ftV (mO (upr (upr (upr (upr (upr (upr (upr (upr (upr Q_18 0 (Z 0)) 1 (Z 1)) 2 (Z 2)) 3 (Z 3)) 4 (Z 4)) 5 (Z 5)) 6 (Z 6)) 7 (Z 7)) 8 (Z 8))) (zK_11 c9) (nmC (zN_12) c9)) = ftV M (zK_11 c9) B9 := (ftA _ hi3 (by omega)).symm.trans (hfe M).1.symm
              have hvr := ftV_rg M B9 (k := zK_11 c9) (by omega)
              refine va_put (D := D) (ci := 5) (v := .int (iI (ftV (mO (upr (upr (upr (upr (upr (upr (upr (upr (upr Q_18 0 (Z 0)) 1 (Z 1)) 2 (Z 2)) 3 (Z 3)) 4 (Z 4)) 5 (Z 5)) 6 (Z 6)) 7 (Z 7)) 8 (Z 8))) (zK_11 c9) (nmC (zN_12) c9)))) (ty := .int) (C := RX6) (T := TX6) (N := 8) hx hb hts hinX6 tyX6 tyX6_ok nmX6 hown hK hP hD hS 0 rfl rfl 7 (by decide) hmw1 (fun _ h9 => h9) rfl (by decide +kernel) rfl rfl (Nat.le_of_ble_eq_true rfl) dX6_runCommands_53 (fun H locs hP hD hS => ?_)
              have hP : va_P D vwCl (obrunW cy (pgm a g_17) (upr (upr (upr (upr (upr (upr (upr (upr (upr (upr (upr (upr (upr (upr Q_18 0 (Z 0)) 1 (Z 1)) 2 (Z 2)) 3 (Z 3)) 4 (Z 4)) 5 (Z 5)) 6 (Z 6)) 7 (Z 7)) 8 (Z 8)) 10 (ups (ups (P 10) 5 zq_9) 1 zc_10)) 11 (P 11)) 12 (zK_11)) 13 (zN_12)) 100 (ups (ups (ups (P 100) 6 0) 7 0) 7 (ftV (mO (upr (upr (upr (upr (upr (upr (upr (upr (upr Q_18 0 (Z 0)) 1 (Z 1)) 2 (Z 2)) 3 (Z 3)) 4 (Z 4)) 5 (Z 5)) 6 (Z 6)) 7 (Z 7)) 8 (Z 8))) (zK_11 c9) (nmC (zN_12) c9))))) H := hP
              have hD : va_D (va_A (obrunW cy a P) sz) (obrunW cy (pgm a g_17) (upr (upr (upr (upr (upr (upr (upr (upr (upr (upr (upr (upr (upr (upr Q_18 0 (Z 0)) 1 (Z 1)) 2 (Z 2)) 3 (Z 3)) 4 (Z 4)) 5 (Z 5)) 6 (Z 6)) 7 (Z 7)) 8 (Z 8)) 10 (ups (ups (P 10) 5 zq_9) 1 zc_10)) 11 (P 11)) 12 (zK_11)) 13 (zN_12)) 100 (ups (ups (ups (P 100) 6 0) 7 0) 7 (ftV (mO (upr (upr (upr (upr (upr (upr (upr (upr (upr Q_18 0 (Z 0)) 1 (Z 1)) 2 (Z 2)) 3 (Z 3)) 4 (Z 4)) 5 (Z 5)) 6 (Z 6)) 7 (Z 7)) 8 (Z 8))) (zK_11 c9) (nmC (zN_12) c9))))) := hD
              refine lv_aload_n hx hb dX6_runCommands_56 rfl (lv_at hl 2 rfl) ?_
              refine va_get (D := D) (ci := 5) (v := .int (iI (ftV (mO (upr (upr (upr (upr (upr (upr (upr (upr (upr Q_18 0 (Z 0)) 1 (Z 1)) 2 (Z 2)) 3 (Z 3)) 4 (Z 4)) 5 (Z 5)) 6 (Z 6)) 7 (Z 7)) 8 (Z 8))) (zK_11 c9) (nmC (zN_12) c9)))) (C := RX6) (T := TX6) (N := 8) hx hb hts hinX6 hown hK hP 0 rfl rfl 7 (by decide) hmw1 (fun _ h9 => h9) rfl dX6_runCommands_57 ?_
              refine k_if_eq (tgt := 65) hx hb dX6_runCommands_60 (by decide) (by omega) (fun c_22 => ?_) (fun c_22 => ?_)
              · skip
                have hv0 : ftV M (zK_11 c9) B9 = 0 := by omega
                refine lv_aload_n hx hb dX6_runCommands_65 rfl (lv_at hl 2 rfl) ?_
                refine va_get (D := D) (ci := 5) (v := .ref ((pgm a g_17) 10)) (C := RX6) (T := TX6) (N := 8) hx hb hts hinX6 hown hK hP 0 rfl rfl 2 (by decide) hmw0 (fun _ h9 => h9) rfl dX6_runCommands_66 ?_
                refine lv_iload_n hx hb dX6_runCommands_69 rfl (lv_at hl 0 rfl) ?_
                refine lv_aload_n hx hb dX6_runCommands_70 rfl (lv_at hl 2 rfl) ?_
                refine va_get (D := D) (ci := 5) (v := .ref ((pgm a g_17) 0)) (C := RX6) (T := TX6) (N := 8) hx hb hts hinX6 hown hK hP 0 rfl rfl 0 (by decide) hmw3 (fun _ h9 => h9) rfl dX6_runCommands_71 ?_
                have hPc := hP.sub (ws' := (scplW cy (pgm a g_17) (upr (upr (upr (upr (upr (upr (upr (upr (upr (upr (upr (upr (upr (upr Q_18 0 (Z 0)) 1 (Z 1)) 2 (Z 2)) 3 (Z 3)) 4 (Z 4)) 5 (Z 5)) 6 (Z 6)) 7 (Z 7)) 8 (Z 8)) 10 (ups (ups (P 10) 5 zq_9) 1 zc_10)) 11 (P 11)) 12 (zK_11)) 13 (zN_12)) 100 (ups (ups (ups (P 100) 6 0) 7 0) 7 (ftV (mO (upr (upr (upr (upr (upr (upr (upr (upr (upr Q_18 0 (Z 0)) 1 (Z 1)) 2 (Z 2)) 3 (Z 3)) 4 (Z 4)) 5 (Z 5)) 6 (Z 6)) 7 (Z 7)) 8 (Z 8))) (zK_11 c9) (nmC (zN_12) c9)))))) [48, 49, 50, 51, 39, 40, 41, 42, 43, 44, 45, 46, 47] rfl
                have hDc := hD.sub (ws' := (scplW cy (pgm a g_17) (upr (upr (upr (upr (upr (upr (upr (upr (upr (upr (upr (upr (upr (upr Q_18 0 (Z 0)) 1 (Z 1)) 2 (Z 2)) 3 (Z 3)) 4 (Z 4)) 5 (Z 5)) 6 (Z 6)) 7 (Z 7)) 8 (Z 8)) 10 (ups (ups (P 10) 5 zq_9) 1 zc_10)) 11 (P 11)) 12 (zK_11)) 13 (zN_12)) 100 (ups (ups (ups (P 100) 6 0) 7 0) 7 (ftV (mO (upr (upr (upr (upr (upr (upr (upr (upr (upr Q_18 0 (Z 0)) 1 (Z 1)) 2 (Z 2)) 3 (Z 3)) 4 (Z 4)) 5 (Z 5)) 6 (Z 6)) 7 (Z 7)) 8 (Z 8))) (zK_11 c9) (nmC (zN_12) c9)))))) [48, 49, 50, 51, 39, 40, 41, 42, 43, 44, 45, 46, 47] (by decide) rfl
                have hFc := va_free (wc := (scplW cy (pgm a g_17) (upr (upr (upr (upr (upr (upr (upr (upr (upr (upr (upr (upr (upr (upr Q_18 0 (Z 0)) 1 (Z 1)) 2 (Z 2)) 3 (Z 3)) 4 (Z 4)) 5 (Z 5)) 6 (Z 6)) 7 (Z 7)) 8 (Z 8)) 10 (ups (ups (P 10) 5 zq_9) 1 zc_10)) 11 (P 11)) 12 (zK_11)) 13 (zN_12)) 100 (ups (ups (ups (P 100) 6 0) 7 0) 7 (ftV (mO (upr (upr (upr (upr (upr (upr (upr (upr (upr Q_18 0 (Z 0)) 1 (Z 1)) 2 (Z 2)) 3 (Z 3)) 4 (Z 4)) 5 (Z 5)) 6 (Z 6)) 7 (Z 7)) 8 (Z 8))) (zK_11 c9) (nmC (zN_12) c9)))))) hD hS hA [48, 49, 50, 51, 39, 40, 41, 42, 43, 44, 45, 46, 47] rfl
                refine k_muv (k_runV (As := [.int (iI c9), .ref ((pgm a g_17) 0)]) (rest := []) ⟨hx, hb, hml, hown, hts⟩ (c_X5_carryOut l D cy H.size (pgm a g_17) (upr (upr (upr (upr (upr (upr (upr (upr (upr (upr (upr (upr (upr (upr Q_18 0 (Z 0)) 1 (Z 1)) 2 (Z 2)) 3 (Z 3)) 4 (Z 4)) 5 (Z 5)) 6 (Z 6)) 7 (Z 7)) 8 (Z 8)) 10 (ups (ups (P 10) 5 zq_9) 1 zc_10)) 11 (P 11)) 12 (zK_11)) 13 (zN_12)) 100 (ups (ups (ups (P 100) 6 0) 7 0) 7 (ftV (mO (upr (upr (upr (upr (upr (upr (upr (upr (upr Q_18 0 (Z 0)) 1 (Z 1)) 2 (Z 2)) 3 (Z 3)) 4 (Z 4)) 5 (Z 5)) 6 (Z 6)) 7 (Z 7)) 8 (Z 8))) (zK_11 c9) (nmC (zN_12) c9)))) c9 M (show Inv (mO (upr (upr (upr (upr (upr (upr (upr (upr (upr Q_18 0 (Z 0)) 1 (Z 1)) 2 (Z 2)) 3 (Z 3)) 4 (Z 4)) 5 (Z 5)) 6 (Z 6)) 7 (Z 7)) 8 (Z 8))) from hIZ) (show 0 ≤ c9 ∧ c9 < 150 by omega) (show 0 ≤ zK_11 c9 ∧ zK_11 c9 ≤ 6 by omega) (show nmOK (nmC (zN_12) c9) from hncm) (show Inv M from hi2) (show ag M (mO (upr (upr (upr (upr (upr (upr (upr (upr (upr Q_18 0 (Z 0)) 1 (Z 1)) 2 (Z 2)) 3 (Z 3)) 4 (Z 4)) 5 (Z 5)) 6 (Z 6)) 7 (Z 7)) 8 (Z 8))) from hi3) (show ftV M (zK_11 c9) (nmC (zN_12) c9) = 0 from by rw [← (hfe M).1]; exact hv0)) gX6_runCommands_X5_carryOut rfl ⟨rfl, rfl⟩ 2 rfl (by decide +kernel) ⟨Nat.le_of_ble_eq_true rfl, Nat.le_of_ble_eq_true rfl⟩ (GG_ok D cy) hG hS hFc hPc hDc (va_recv hK hP (ci := 4) (q0 := 48) rfl rfl) hl.1 rfl (Nat.le_of_ble_eq_true rfl) ⟨Nat.le_of_ble_eq_true rfl, Nat.le_of_ble_eq_true rfl⟩ dX6_runCommands_74) hFc hS (fun R_24 H1 locs1 hR_24 hP1 hD1 hS1 hk1 => ?_)
                have hR_24 : ∃ (zP : Nat → Int → Int), (ag (efM M (zK_11 c9) (nmC (zN_12) c9)) (mO zP)) ∧ (R_24 = (upr (upr (upr (upr (upr (upr (upr (upr (upr (upr (upr (upr (upr (upr (upr (upr (upr (upr (upr (upr (upr (upr (upr Q_18 0 (Z 0)) 1 (Z 1)) 2 (Z 2)) 3 (Z 3)) 4 (Z 4)) 5 (Z 5)) 6 (Z 6)) 7 (Z 7)) 8 (Z 8)) 10 (ups (ups (P 10) 5 zq_9) 1 zc_10)) 11 (P 11)) 12 (zK_11)) 13 (zN_12)) 100 (ups (ups (ups (P 100) 6 0) 7 0) 7 (ftV (mO (upr (upr (upr (upr (upr (upr (upr (upr (upr Q_18 0 (Z 0)) 1 (Z 1)) 2 (Z 2)) 3 (Z 3)) 4 (Z 4)) 5 (Z 5)) 6 (Z 6)) 7 (Z 7)) 8 (Z 8))) (zK_11 c9) (nmC (zN_12) c9)))) 0 (zP 0)) 1 (zP 1)) 2 (zP 2)) 3 (zP 3)) 4 (zP 4)) 5 (zP 5)) 6 (zP 6)) 7 (zP 7)) 8 (zP 8))) := hR_24
                obtain ⟨zP_25, hf_26, hR_24⟩ := hR_24
                have hf_26 : ag (efM M (zK_11 c9) (nmC (zN_12) c9)) (mO zP_25) := hf_26
                subst hR_24
                have hDn : va_D (va_A (obrunW cy a P) sz) (obrunW cy (pgm a g_17) (upr (upr (upr (upr (upr (upr (upr (upr (upr (upr (upr (upr (upr (upr Q_18 0 (zP_25 0)) 1 (zP_25 1)) 2 (zP_25 2)) 3 (zP_25 3)) 4 (zP_25 4)) 5 (zP_25 5)) 6 (zP_25 6)) 7 (zP_25 7)) 8 (zP_25 8)) 10 (ups (ups (P 10) 5 zq_9) 1 zc_10)) 11 (P 11)) 12 (zK_11)) 13 (zN_12)) 100 (ups (ups (ups (P 100) 6 0) 7 0) 7 (ftV (mO (upr (upr (upr (upr (upr (upr (upr (upr (upr Q_18 0 (Z 0)) 1 (Z 1)) 2 (Z 2)) 3 (Z 3)) 4 (Z 4)) 5 (Z 5)) 6 (Z 6)) 7 (Z 7)) 8 (Z 8))) (zK_11 c9) (nmC (zN_12) c9))))) := k_addr hD rfl
                have hPn := k_join (ws' := (obrunW cy (pgm a g_17) (upr (upr (upr (upr (upr (upr (upr (upr (upr (upr (upr (upr (upr (upr Q_18 0 (zP_25 0)) 1 (zP_25 1)) 2 (zP_25 2)) 3 (zP_25 3)) 4 (zP_25 4)) 5 (zP_25 5)) 6 (zP_25 6)) 7 (zP_25 7)) 8 (zP_25 8)) 10 (ups (ups (P 10) 5 zq_9) 1 zc_10)) 11 (P 11)) 12 (zK_11)) 13 (zN_12)) 100 (ups (ups (ups (P 100) 6 0) 7 0) 7 (ftV (mO (upr (upr (upr (upr (upr (upr (upr (upr (upr Q_18 0 (Z 0)) 1 (Z 1)) 2 (Z 2)) 3 (Z 3)) 4 (Z 4)) 5 (Z 5)) 6 (Z 6)) 7 (Z 7)) 8 (Z 8))) (zK_11 c9) (nmC (zN_12) c9)))))) hP hD [48, 49, 50, 51, 39, 40, 41, 42, 43, 44, 45, 46, 47] [none, none, none, none, none, none, none, none, none, none, none, none, none, none, none, none, none, none, none, none, none, none, none, none, none, none, none, none, none, none, none, none, none, none, none, none, none, none, none, some 4, some 5, some 6, some 7, some 8, some 9, some 10, some 11, some 12, some 0, some 1, some 2, some 3] rfl hk1 hP1 rfl rfl
                clear hP hD hS hP1 hD1 hk1
                have hP := hPn
                have hD := hDn
                have hS := hS1
                clear hPn hDn hS1
                generalize H1 = H at hP hS ⊢
                generalize locs1 = locs at hS ⊢
                have hag2 := hf_26
                rw [← (hfe M).2] at hag2
                refine lv_iinc (v := iI (c9 + 1)) (lv' := [(2, .int (iI (c9 + 1))), (1, .int (iI (-1))), (0, .ref (a 100))]) hx hb dX6_runCommands_77 hl (k := 0) rfl (iI_add _ _) (by decide) rfl (fun ls hl => ?_)
                refine lv_goto (tgt := 29) hx hb dX6_runCommands_80 (by decide) ?_
                exact ih29 (efM M (zK_11 c9) B9) B9 (c9 + 1) (upr (upr (upr (upr (upr (upr (upr (upr (upr (upr (upr (upr (upr (upr Q_18 0 (zP_25 0)) 1 (zP_25 1)) 2 (zP_25 2)) 3 (zP_25 3)) 4 (zP_25 4)) 5 (zP_25 5)) 6 (zP_25 6)) 7 (zP_25 7)) 8 (zP_25 8)) 10 (ups (ups (P 10) 5 zq_9) 1 zc_10)) 11 (P 11)) 12 (zK_11)) 13 (zN_12)) 100 (ups (ups (ups (P 100) 6 0) 7 0) 7 (ftV (mO (upr (upr (upr (upr (upr (upr (upr (upr (upr Q_18 0 (Z 0)) 1 (Z 1)) 2 (Z 2)) 3 (Z 3)) 4 (Z 4)) 5 (Z 5)) 6 (Z 6)) 7 (Z 7)) 8 (Z 8))) (zK_11 c9) (nmC (zN_12) c9))))  (by omega) (by rw [← hi1, rcF_go hplc.1 hn0.2 hplc.2 he9 hv0, hpn]) (ef_inv hi2 hk9 hv0) (hag2) (by omega) H locs (by rw [show (ups (ups (P 100) 6 0) 7 0) = (ups (ups (ups (P 100) 6 0) 7 0) 7 (ftV (mO (upr (upr (upr (upr (upr (upr (upr (upr (upr Q_18 0 (Z 0)) 1 (Z 1)) 2 (Z 2)) 3 (Z 3)) 4 (Z 4)) 5 (Z 5)) 6 (Z 6)) 7 (Z 7)) 8 (Z 8))) (zK_11 c9) (nmC (zN_12) c9))) from by funext k9; unfold ups; (repeat' split) <;> first | rfl | omega | (exfalso; omega)]; exact hP) (k_addr hD rfl) hS ls (lv_sub hl [0, 1, 2] rfl)
              · skip
                have hv1 : ¬ ftV M (zK_11 c9) B9 = 0 := by omega
                have hre : rcR P = (ftV M (zK_11 c9) B9, c9, M) := by rw [← hi1]; exact rcF_no hplc.2 he9 hv1
                refine lv_iload_n hx hb dX6_runCommands_63 rfl (lv_at hl 0 rfl) ?_
                exact W.iret (v := iI c9) hx hb hr (fun t9 ht _ => ⟨⟨iI c9, (g_17, (upr (upr (upr (upr (upr (upr (upr (upr (upr (upr (upr (upr (upr (upr Q_18 0 (Z 0)) 1 (Z 1)) 2 (Z 2)) 3 (Z 3)) 4 (Z 4)) 5 (Z 5)) 6 (Z 6)) 7 (Z 7)) 8 (Z 8)) 10 (ups (ups (P 10) 5 zq_9) 1 zc_10)) 11 (P 11)) 12 (zK_11)) 13 (zN_12)) 100 (ups (ups (ups (P 100) 6 0) 7 0) 7 (ftV (mO (upr (upr (upr (upr (upr (upr (upr (upr (upr Q_18 0 (Z 0)) 1 (Z 1)) 2 (Z 2)) 3 (Z 3)) 4 (Z 4)) 5 (Z 5)) 6 (Z 6)) 7 (Z 7)) 8 (Z 8))) (zK_11 c9) (nmC (zN_12) c9))))), rfl, ⟨c9, rfl, (⟨⟨fun c9 g1 g2 g3 g4 g5 => by (by_cases h11 : c9 = 11); (subst h11; rfl); (repeat rw [upr_o _ _ (by omega)]); exact hq9 c9 g1 g2 g3 g4, rfl, hnz⟩, Or.inr ⟨hrd.1.1, by rw [hre], by rw [hre]; exact hval, rfl, by rw [hre]; exact hi3, kept2_up hsv (fun c9 h9 h8 => (by (repeat rw [upr_o _ _ (by omega)]))) hkp⟩⟩ : rcP P (upr (upr (upr (upr (upr (upr (upr (upr (upr (upr (upr (upr (upr (upr Q_18 0 (Z 0)) 1 (Z 1)) 2 (Z 2)) 3 (Z 3)) 4 (Z 4)) 5 (Z 5)) 6 (Z 6)) 7 (Z 7)) 8 (Z 8)) 10 (ups (ups (P 10) 5 zq_9) 1 zc_10)) 11 (P 11)) 12 (zK_11)) 13 (zN_12)) 100 (ups (ups (ups (P 100) 6 0) 7 0) 7 (ftV (mO (upr (upr (upr (upr (upr (upr (upr (upr (upr Q_18 0 (Z 0)) 1 (Z 1)) 2 (Z 2)) 3 (Z 3)) 4 (Z 4)) 5 (Z 5)) 6 (Z 6)) 7 (Z 7)) 8 (Z 8))) (zK_11 c9) (nmC (zN_12) c9)))) (c9 : Int))⟩, by rw [ht]; exact hP, hD⟩, hS.F ht⟩) hS.2.2 dX6_runCommands_64 hlocks
        exact loop29 ((zc_10 - 0 : Int) + 1).toNat (mO P) (fun _ => 0) 0 P  (by omega) (by rw [hPl0]; rfl) (hI) (ag_refl _) (by omega) H locs (by rw [show (ups (ups (P 100) 6 0) 7 0) = (ups (Q_18 100) 7 0) from by first | rfl | (rw [h100])]; exact hP) (k_addr hD rfl) hS ls (lv_sub hl [0, 1, 2] rfl)
      · exfalso; omega
  exact hbody s.heap [] hP hS ls hl
