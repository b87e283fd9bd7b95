set_option maxHeartbeats 4000000 in
set_option maxRecDepth 100000 in
theorem c_X7_readCommand (l : Launch) (D : va_G) (cy : Nat → ClassId) (sz : Nat) (a : Nat → Nat) (R : Nat → Int → Int)  (hpl : 0 ≤ R 0 15 ∧ R 0 15 ≤ R 0 4) (htn : R 0 4 ≤ 150) (hT : ∀ k : Int, 0 ≤ k → k < 150 → 0 ≤ R 3 k ∧ R 3 k ≤ 127) : Met l yX7_readCommand wsX7_readCommand { frames := 3, cells := 0, slots := 0, locals := 64 } (mPre (GG D cy) D (rfW cy a R) sz ([.ref (a 0)] : List Value)) (kQi D (rfW cy a R) sz (fun u9 : Nat → Int → Int => rfW cy a u9) (fun r9 u9 => (∃ (k9 : Int), ((prsC (R 3) (R 0 4) (R 0 15) (R 7)) = (0, R 0 15, k9, R 7)) ∧ r9 = 0 ∧ u9 = (upr R 0 (ups (ups (R 0) 16 k9) 15 (R 0 15)))) ∨ (∃ (x9 : Int) (k9 : Int) (b9 : Int → Int), ((prsC (R 3) (R 0 4) (R 0 15) (R 7)) = (0, x9, k9, b9) ∧ 0 ≤ k9 ∧ k9 ≤ 6) ∧ r9 = 0 ∧ u9 = (upr (upr R 0 (ups (ups (R 0) 16 k9) 15 x9)) 7 (b9))) ∨ (∃ (x9 : Int) (k9 : Int) (b9 : Int → Int), ((prsC (R 3) (R 0 4) (R 0 15) (R 7)) = (1, x9, k9, b9) ∧ 0 ≤ k9 ∧ k9 ≤ 6) ∧ r9 = 1 ∧ u9 = (upr (upr R 0 (ups (ups (R 0) 16 k9) 15 x9)) 7 (b9))))) 0 0 (va_A (rfW cy a R) sz) := by
  refine kM_start (cc := cX7_readCommand) (maxL := 2) (ret := (some .boolean)) (by decide) rfl (Nat.le_of_ble_eq_true rfl) ?_
  intro p e s m below meth c hx hb hr hlocks hml hts hown hsz hA hG hP hD hS hin ls hl
  have hK := hG.1
  have hl : lv_has ls 2 [(0, .ref (a 0))] := hl
  have hinX7 : ∀ w ∈ u_ws RX7 TX7 19, w ∈ wsX7_readCommand := by decide +kernel
  have hmw0 := hts (.fieldLink RX7 250 "ArcPlateModel" "place" "I") (by decide +kernel)
  have hbody : ∀ (H : Heap) (locs : List Loc) (hP : va_P D vwCl (rfW cy a R) H) (hS : va_S (va_A (rfW cy a R) sz) s.heap H locs) (ls : Array Slot) (hl : lv_has ls 2 [(0, .ref (a 0))]), W p l e { frames := 3, cells := 0, slots := 0, locals := 64 } s m ([.ref (a 0)] : List Value).toArray below meth c H locs 0 0 (MQ below (kQi D (rfW cy a R) sz (fun u9 : Nat → Int → Int => rfW cy a u9) (fun r9 u9 => (∃ (k9 : Int), ((prsC (R 3) (R 0 4) (R 0 15) (R 7)) = (0, R 0 15, k9, R 7)) ∧ r9 = 0 ∧ u9 = (upr R 0 (ups (ups (R 0) 16 k9) 15 (R 0 15)))) ∨ (∃ (x9 : Int) (k9 : Int) (b9 : Int → Int), ((prsC (R 3) (R 0 4) (R 0 15) (R 7)) = (0, x9, k9, b9) ∧ 0 ≤ k9 ∧ k9 ≤ 6) ∧ r9 = 0 ∧ u9 = (upr (upr R 0 (ups (ups (R 0) 16 k9) 15 x9)) 7 (b9))) ∨ (∃ (x9 : Int) (k9 : Int) (b9 : Int → Int), ((prsC (R 3) (R 0 4) (R 0 15) (R 7)) = (1, x9, k9, b9) ∧ 0 ≤ k9 ∧ k9 ≤ 6) ∧ r9 = 1 ∧ u9 = (upr (upr R 0 (ups (ups (R 0) 16 k9) 15 x9)) 7 (b9))))) ([.ref (a 0)] : List Value).toArray s 0 0 (va_A (rfW cy a R) sz)) (F0 m 0 ls []) := by
    intro H locs hP hS ls hl
    refine lv_aload_n hx hb dX7_readCommand_0 rfl (lv_at hl 0 rfl) ?_
    refine k_mui (k_runV (As := []) (rest := []) ⟨hx, hb, hml, hown, hts⟩ (c_X7_readWord l D cy H.size a R (show 0 ≤ R 0 15 ∧ R 0 15 ≤ R 0 4 by omega) (show R 0 4 ≤ 150 by omega) (show ∀ k : Int, 0 ≤ k → k < 150 → 0 ≤ R 3 k ∧ R 3 k ≤ 127 by omega)) gX7_readCommand_X7_readWord rfl ⟨rfl, rfl⟩ 0 rfl (by decide +kernel) ⟨Nat.le_of_ble_eq_true rfl, Nat.le_of_ble_eq_true rfl⟩ (GG_ok D cy) hG hS (k_free hD hS hA) hP hD (va_recv hK hP (ci := 6) (q0 := 0) rfl rfl) hl.1 rfl (Nat.le_of_ble_eq_true rfl) ⟨Nat.le_of_ble_eq_true rfl, Nat.le_of_ble_eq_true rfl⟩ dX7_readCommand_1) (k_free hD hS hA) hS (fun r_1 R_2 H1 locs1 hR_2 hP1 hD1 hS1 hk1 => ?_)
    rcases hR_2 with ⟨kk_4, c_3, hr_1, hR_2⟩ | ⟨kk_5, ww_6, c_3, hr_1, hR_2⟩
    · skip
      have c_3 : (kindW (R 3) (R 0 15) (wre (R 3) (R 0 4) (R 0 15))) = kk_4 ∧ kk_4 = -1000000000 := c_3
      subst hr_1
      subst hR_2
      have hDn : va_D (va_A (rfW cy a R) sz) (rfW cy a (upr R 0 (ups (ups (R 0) 16 kk_4) 15 (R 0 15)))) := k_addr hD rfl
      have hPn : va_P D vwCl (rfW cy a (upr R 0 (ups (ups (R 0) 16 kk_4) 15 (R 0 15)))) H1 := hP1
      clear hP hD hS hP1 hD1 hk1
      have hP := hPn
      have hD := hDn
      have hS := hS1
      clear hPn hDn hS1
      generalize H1 = H at hP hS ⊢
      generalize locs1 = locs at hS ⊢
      have hk0 := c_3
      refine k_if_ne (tgt := 9) hx hb dX7_readCommand_4 (by decide) (by omega) (fun c_7 => ?_) (fun c_7 => ?_)
      · exfalso; omega
      · skip
        refine k_iconst hx hb dX7_readCommand_7 ?_
        exact W.zret (v := iI 0) hx hb hr (by decide +kernel) (fun t9 ht _ => ⟨⟨iI 0, (upr R 0 (ups (ups (R 0) 16 kk_4) 15 (R 0 15))), rfl, ⟨0, rfl, (by first | exact Or.inl ⟨(kk_4), (by rw [hk0.2]; exact prsC_0 (hk0.1.trans hk0.2)), (by first | rfl | omega), rfl⟩ : (∃ (k9 : Int), ((prsC (R 3) (R 0 4) (R 0 15) (R 7)) = (0, R 0 15, k9, R 7)) ∧ (0 : Int) = 0 ∧ (upr R 0 (ups (ups (R 0) 16 kk_4) 15 (R 0 15))) = (upr R 0 (ups (ups (R 0) 16 k9) 15 (R 0 15)))) ∨ (∃ (x9 : Int) (k9 : Int) (b9 : Int → Int), ((prsC (R 3) (R 0 4) (R 0 15) (R 7)) = (0, x9, k9, b9) ∧ 0 ≤ k9 ∧ k9 ≤ 6) ∧ (0 : Int) = 0 ∧ (upr R 0 (ups (ups (R 0) 16 kk_4) 15 (R 0 15))) = (upr (upr R 0 (ups (ups (R 0) 16 k9) 15 x9)) 7 (b9))) ∨ (∃ (x9 : Int) (k9 : Int) (b9 : Int → Int), ((prsC (R 3) (R 0 4) (R 0 15) (R 7)) = (1, x9, k9, b9) ∧ 0 ≤ k9 ∧ k9 ≤ 6) ∧ (0 : Int) = 1 ∧ (upr R 0 (ups (ups (R 0) 16 kk_4) 15 (R 0 15))) = (upr (upr R 0 (ups (ups (R 0) 16 k9) 15 x9)) 7 (b9))))⟩, by rw [ht]; exact hP, hD⟩, hS.F ht⟩) hS.2.2 dX7_readCommand_8 hlocks
    · skip
      have c_3 : kk_5 = (kindW (R 3) (R 0 15) (wre (R 3) (R 0 4) (R 0 15))) ∧ ww_6 = (wre (R 3) (R 0 4) (R 0 15)) ∧ 0 ≤ kk_5 ∧ kk_5 ≤ 6 := c_3
      subst hr_1
      subst hR_2
      have hDn : va_D (va_A (rfW cy a R) sz) (rfW cy a (upr R 0 (ups (ups (R 0) 16 kk_5) 15 ww_6))) := k_addr hD rfl
      have hPn : va_P D vwCl (rfW cy a (upr R 0 (ups (ups (R 0) 16 kk_5) 15 ww_6))) H1 := hP1
      clear hP hD hS hP1 hD1 hk1
      have hP := hPn
      have hD := hDn
      have hS := hS1
      clear hPn hDn hS1
      generalize H1 = H at hP hS ⊢
      generalize locs1 = locs at hS ⊢
      have hk1 := c_3
      have hwe := wre_bd (R 3) hpl.2
      refine k_if_ne (tgt := 9) hx hb dX7_readCommand_4 (by decide) (by omega) (fun c_8 => ?_) (fun c_8 => ?_)
      · skip
        refine k_iconst hx hb dX7_readCommand_9 ?_
        refine lv_istore_n (lv' := [(1, .int (iI 0)), (0, .ref (a 0))]) hx hb dX7_readCommand_10 rfl hl (by decide) rfl (fun ls hl => ?_)
        have loop11 : ∀ (n_9 : Nat) (K9 : Int) (W9 : Int) (i : Int) (q : Int) (B : Int → Int) (hi0 : 0 ≤ i) (hi1 : i ≤ manyF K9) (hi2 : R 0 15 ≤ q ∧ q ≤ R 0 4) (hi3 : prsN (R 3) (R 0 4) (manyF K9 - i).toNat q B i = prsN (R 3) (R 0 4) (manyF K9).toNat W9 (R 7) 0) (hi4 : K9 = (kindW (R 3) (R 0 15) (wre (R 3) (R 0 4) (R 0 15))) ∧ W9 = (wre (R 3) (R 0 4) (R 0 15)) ∧ 0 ≤ K9 ∧ K9 ≤ 6) (hn : manyF K9 - i < (n_9 : Int)) (H : Heap) (locs : List Loc) (hP : va_P D vwCl (rfW cy a (upr (upr R 0 (ups (ups (R 0) 16 K9) 15 q)) 7 (B))) H) (hD : va_D (va_A (rfW cy a R) sz) (rfW cy a (upr (upr R 0 (ups (ups (R 0) 16 K9) 15 q)) 7 (B)))) (hS : va_S (va_A (rfW cy a R) sz) s.heap H locs) (ls : Array Slot) (hl : lv_has ls 2 [(1, .int (iI i)), (0, .ref (a 0))]), W p l e { frames := 3, cells := 0, slots := 0, locals := 64 } s m ([.ref (a 0)] : List Value).toArray below meth c H locs 0 0 (MQ below (kQi D (rfW cy a R) sz (fun u9 : Nat → Int → Int => rfW cy a u9) (fun r9 u9 => (∃ (k9 : Int), ((prsC (R 3) (R 0 4) (R 0 15) (R 7)) = (0, R 0 15, k9, R 7)) ∧ r9 = 0 ∧ u9 = (upr R 0 (ups (ups (R 0) 16 k9) 15 (R 0 15)))) ∨ (∃ (x9 : Int) (k9 : Int) (b9 : Int → Int), ((prsC (R 3) (R 0 4) (R 0 15) (R 7)) = (0, x9, k9, b9) ∧ 0 ≤ k9 ∧ k9 ≤ 6) ∧ r9 = 0 ∧ u9 = (upr (upr R 0 (ups (ups (R 0) 16 k9) 15 x9)) 7 (b9))) ∨ (∃ (x9 : Int) (k9 : Int) (b9 : Int → Int), ((prsC (R 3) (R 0 4) (R 0 15) (R 7)) = (1, x9, k9, b9) ∧ 0 ≤ k9 ∧ k9 ≤ 6) ∧ r9 = 1 ∧ u9 = (upr (upr R 0 (ups (ups (R 0) 16 k9) 15 x9)) 7 (b9))))) ([.ref (a 0)] : List Value).toArray s 0 0 (va_A (rfW cy a R) sz)) (F0 m 11 ls []) := by
          intro n_9
          induction n_9 with
          | zero => intro K9 W9 i q B hi0 hi1 hi2 hi3 hi4 hn H locs hP hD hS ls hl; exfalso; omega
          | succ n_9 ih11 =>
            intro K9 W9 i q B hi0 hi1 hi2 hi3 hi4 hn H locs hP hD hS ls hl
            have hsl := skp_le (T := R 3) hi2.2
            have hmf := manyF_rg K9
            refine lv_iload_n hx hb dX7_readCommand_11 rfl (lv_at hl 0 rfl) ?_
            refine lv_aload_n hx hb dX7_readCommand_12 rfl (lv_at hl 1 rfl) ?_
            refine k_roV (As := []) (rest := [.int (iI i)]) ⟨hx, hb, hml, hown, hts⟩ (c_X7_manyFor l D cy a (upr (upr R 0 (ups (ups (R 0) 16 K9) 15 q)) 7 (B)) (show -2147483648 ≤ (K9) ∧ (K9) ≤ 2147483647 by omega)) gX7_readCommand_X7_manyFor rfl ⟨rfl, rfl⟩ 0 rfl (by decide +kernel) ⟨Nat.le_of_ble_eq_true rfl, Nat.le_of_ble_eq_true rfl⟩ (GG_ok D cy) ((GG_ok D cy).2.2.2 _ _ _ _ (fun _ h => h.elim) ((GG_ok D cy).1 _ _ _ _ hS.2.1 hG)) hP (va_recv hK hP (ci := 6) (q0 := 0) rfl rfl) hl.1 rfl (Nat.le_of_ble_eq_true rfl) ⟨Nat.le_of_ble_eq_true rfl, Nat.le_of_ble_eq_true rfl⟩ dX7_readCommand_13 (fun r_10 hr_10 => ?_)
            have hr_10 : r_10 = manyF ((K9)) := hr_10
            subst hr_10
            refine k_icmp_ge (tgt := 35) hx hb dX7_readCommand_16 (by decide) (by omega) (by omega) (fun c_11 => ?_) (fun c_11 => ?_)
            · skip
              have hpe : prsN (R 3) (R 0 4) (manyF K9).toNat W9 (R 7) 0 = (1, q, B) := by rw [← hi3, show (manyF K9 - i).toNat = 0 by omega]; rfl
              refine lv_aload_n hx hb dX7_readCommand_35 rfl (lv_at hl 1 rfl) ?_
              refine k_mui (k_runV (As := []) (rest := []) ⟨hx, hb, hml, hown, hts⟩ (c_X7_skips l D cy H.size a (upr (upr R 0 (ups (ups (R 0) 16 K9) 15 q)) 7 (B)) (show 0 ≤ q ∧ q ≤ ((R 0 4)) by omega) (show ((R 0 4)) ≤ 150 by omega) (show ∀ k : Int, 0 ≤ k → k < 150 → 0 ≤ (R 3) k ∧ (R 3) k ≤ 127 by omega)) gX7_readCommand_X7_skips rfl ⟨rfl, rfl⟩ 0 rfl (by decide +kernel) ⟨Nat.le_of_ble_eq_true rfl, Nat.le_of_ble_eq_true rfl⟩ (GG_ok D cy) hG hS (k_free hD hS hA) hP hD (va_recv hK hP (ci := 6) (q0 := 0) rfl rfl) hl.1 rfl (Nat.le_of_ble_eq_true rfl) ⟨Nat.le_of_ble_eq_true rfl, Nat.le_of_ble_eq_true rfl⟩ dX7_readCommand_36) (k_free hD hS hA) hS (fun r_12 R_13 H1 locs1 hR_13 hP1 hD1 hS1 hk1 => ?_)
              rcases hR_13 with ⟨c_14, hr_12, hR_13⟩ | ⟨c_14, hr_12, hR_13⟩
              · skip
                have c_14 : q < (skp (R 3) (((R 0 4))) (q)) := c_14
                subst hr_12
                subst hR_13
                have hDn : va_D (va_A (rfW cy a R) sz) (rfW cy a (upr (upr R 0 (ups (ups (ups (R 0) 16 K9) 15 q) 15 (skp (R 3) (((R 0 4))) (q)))) 7 (B))) := k_addr hD rfl
                have hPn : va_P D vwCl (rfW cy a (upr (upr R 0 (ups (ups (ups (R 0) 16 K9) 15 q) 15 (skp (R 3) (((R 0 4))) (q)))) 7 (B))) H1 := hP1
                clear hP hD hS hP1 hD1 hk1
                have hP := hPn
                have hD := hDn
                have hS := hS1
                clear hPn hDn hS1
                generalize H1 = H at hP hS ⊢
                generalize locs1 = locs at hS ⊢
                refine lv_istore_n (lv' := [(1, .int (iI 1)), (0, .ref (a 0))]) hx hb dX7_readCommand_39 rfl hl (by decide) rfl (fun ls hl => ?_)
                refine lv_aload_n hx hb dX7_readCommand_40 rfl (lv_at hl 1 rfl) ?_
                refine k_roV (As := []) (rest := []) ⟨hx, hb, hml, hown, hts⟩ (c_X7_here l D cy a (upr (upr R 0 (ups (ups (ups (R 0) 16 K9) 15 q) 15 (skp (R 3) (((R 0 4))) (q)))) 7 (B)) (show 0 ≤ (skp (R 3) (((R 0 4))) (q)) ∧ (skp (R 3) (((R 0 4))) (q)) ≤ (((R 0 4))) by omega) (show (((R 0 4))) ≤ 150 by omega)) gX7_readCommand_X7_here rfl ⟨rfl, rfl⟩ 0 rfl (by decide +kernel) ⟨Nat.le_of_ble_eq_true rfl, Nat.le_of_ble_eq_true rfl⟩ (GG_ok D cy) ((GG_ok D cy).2.2.2 _ _ _ _ (fun _ h => h.elim) ((GG_ok D cy).1 _ _ _ _ hS.2.1 hG)) hP (va_recv hK hP (ci := 6) (q0 := 0) rfl rfl) hl.1 rfl (Nat.le_of_ble_eq_true rfl) ⟨Nat.le_of_ble_eq_true rfl, Nat.le_of_ble_eq_true rfl⟩ dX7_readCommand_41 (fun r_15 hr_15 => ?_)
                have hr_15 : (((skp (R 3) (((R 0 4))) (q)) < (((R 0 4)))) ∧ r_15 = (R 3) ((skp (R 3) (R 0 4) (q)))) ∨ (((((R 0 4))) ≤ (skp (R 3) (((R 0 4))) (q))) ∧ r_15 = -1000000000) := hr_15
                rcases hr_15 with ⟨c_16, hr_15⟩ | ⟨c_16, hr_15⟩ <;> subst hr_15
                · skip
                  have hT9 := hT (skp (R 3) (R 0 4) q) (by omega) (by omega)
                  refine k_bipush hx hb dX7_readCommand_44 (by decide +kernel) ?_
                  refine k_icmp_eq (tgt := 51) hx hb dX7_readCommand_46 (by decide) (by omega) (by omega) (fun c_17 => ?_) (fun c_17 => ?_)
                  · skip
                    have hpc := prsC_2 (T := R 3) (n := R 0 4) (q := R 0 15) (A := R 7) hi4.1.symm hi4.2.1.symm (by omega) hpe ⟨by omega, by omega⟩
                    refine lv_aload_n hx hb dX7_readCommand_51 rfl (lv_at hl 1 rfl) ?_
                    refine lv_dup hx hb dX7_readCommand_52 rfl ?_
                    refine va_get (D := D) (ci := 6) (v := .int (iI (skp (R 3) (((R 0 4))) (q)))) (C := RX7) (T := TX7) (N := 19) hx hb hts hinX7 hown hK hP 0 rfl rfl 15 (by decide) hmw0 (fun _ h9 => h9) rfl dX7_readCommand_53 ?_
                    refine k_iconst hx hb dX7_readCommand_56 ?_
                    refine k_iadd hx hb dX7_readCommand_57 ?_
                    refine va_put (D := D) (ci := 6) (v := .int (iI ((skp (R 3) (((R 0 4))) (q)) + 1))) (ty := .int) (C := RX7) (T := TX7) (N := 19) hx hb hts hinX7 tyX7 tyX7_ok nmX7 hown hK hP hD hS 0 rfl rfl 15 (by decide) hmw0 (fun _ h9 => h9) rfl (by decide +kernel) rfl rfl (Nat.le_of_ble_eq_true rfl) dX7_readCommand_58 (fun H locs hP hD hS => ?_)
                    have hP : va_P D vwCl (rfW cy a (upr (upr R 0 (ups (ups (ups (ups (R 0) 16 K9) 15 q) 15 (skp (R 3) (((R 0 4))) (q))) 15 ((skp (R 3) (((R 0 4))) (q)) + 1))) 7 (B))) H := hP
                    have hD : va_D (va_A (rfW cy a R) sz) (rfW cy a (upr (upr R 0 (ups (ups (ups (ups (R 0) 16 K9) 15 q) 15 (skp (R 3) (((R 0 4))) (q))) 15 ((skp (R 3) (((R 0 4))) (q)) + 1))) 7 (B))) := hD
                    refine k_iconst hx hb dX7_readCommand_61 ?_
                    exact W.zret (v := iI 1) hx hb hr (by decide +kernel) (fun t9 ht _ => ⟨⟨iI 1, (upr (upr R 0 (ups (ups (ups (ups (R 0) 16 K9) 15 q) 15 (skp (R 3) (((R 0 4))) (q))) 15 ((skp (R 3) (((R 0 4))) (q)) + 1))) 7 (B)), rfl, ⟨1, rfl, (by first | exact Or.inr (Or.inr (⟨(((skp (R 3) (((R 0 4))) (q)) + 1)), (K9), (B), (⟨hpc, hi4.2.2⟩), (by first | rfl | omega), (by rw [show (ups (ups (ups (ups (R 0) 16 K9) 15 q) 15 (skp (R 3) (((R 0 4))) (q))) 15 ((skp (R 3) (((R 0 4))) (q)) + 1)) = (ups (ups (R 0) 16 K9) 15 ((skp (R 3) (((R 0 4))) (q)) + 1)) from by first | exact ups_ups _ _ _ _ | (funext k9; unfold ups; (repeat' split) <;> first | rfl | omega | (exfalso; omega))])⟩)) : (∃ (k9 : Int), ((prsC (R 3) (R 0 4) (R 0 15) (R 7)) = (0, R 0 15, k9, R 7)) ∧ (1 : Int) = 0 ∧ (upr (upr R 0 (ups (ups (ups (ups (R 0) 16 K9) 15 q) 15 (skp (R 3) (((R 0 4))) (q))) 15 ((skp (R 3) (((R 0 4))) (q)) + 1))) 7 (B)) = (upr R 0 (ups (ups (R 0) 16 k9) 15 (R 0 15)))) ∨ (∃ (x9 : Int) (k9 : Int) (b9 : Int → Int), ((prsC (R 3) (R 0 4) (R 0 15) (R 7)) = (0, x9, k9, b9) ∧ 0 ≤ k9 ∧ k9 ≤ 6) ∧ (1 : Int) = 0 ∧ (upr (upr R 0 (ups (ups (ups (ups (R 0) 16 K9) 15 q) 15 (skp (R 3) (((R 0 4))) (q))) 15 ((skp (R 3) (((R 0 4))) (q)) + 1))) 7 (B)) = (upr (upr R 0 (ups (ups (R 0) 16 k9) 15 x9)) 7 (b9))) ∨ (∃ (x9 : Int) (k9 : Int) (b9 : Int → Int), ((prsC (R 3) (R 0 4) (R 0 15) (R 7)) = (1, x9, k9, b9) ∧ 0 ≤ k9 ∧ k9 ≤ 6) ∧ (1 : Int) = 1 ∧ (upr (upr R 0 (ups (ups (ups (ups (R 0) 16 K9) 15 q) 15 (skp (R 3) (((R 0 4))) (q))) 15 ((skp (R 3) (((R 0 4))) (q)) + 1))) 7 (B)) = (upr (upr R 0 (ups (ups (R 0) 16 k9) 15 x9)) 7 (b9))))⟩, by rw [ht]; exact hP, hD⟩, hS.F ht⟩) hS.2.2 dX7_readCommand_62 hlocks
                  · skip
                    have hpc := prsC_3 (T := R 3) (n := R 0 4) (q := R 0 15) (A := R 7) hi4.1.symm hi4.2.1.symm (by omega) hpe (fun h9 => by omega)
                    refine k_iconst hx hb dX7_readCommand_49 ?_
                    exact W.zret (v := iI 0) hx hb hr (by decide +kernel) (fun t9 ht _ => ⟨⟨iI 0, (upr (upr R 0 (ups (ups (ups (R 0) 16 K9) 15 q) 15 (skp (R 3) (((R 0 4))) (q)))) 7 (B)), rfl, ⟨0, rfl, (by first | exact Or.inr (Or.inl ⟨((skp (R 3) (((R 0 4))) (q))), (K9), (B), (⟨hpc, hi4.2.2⟩), (by first | rfl | omega), (by rw [show (ups (ups (ups (R 0) 16 K9) 15 q) 15 (skp (R 3) (((R 0 4))) (q))) = (ups (ups (R 0) 16 K9) 15 (skp (R 3) (((R 0 4))) (q))) from by first | exact ups_ups _ _ _ _ | (funext k9; unfold ups; (repeat' split) <;> first | rfl | omega | (exfalso; omega))])⟩) : (∃ (k9 : Int), ((prsC (R 3) (R 0 4) (R 0 15) (R 7)) = (0, R 0 15, k9, R 7)) ∧ (0 : Int) = 0 ∧ (upr (upr R 0 (ups (ups (ups (R 0) 16 K9) 15 q) 15 (skp (R 3) (((R 0 4))) (q)))) 7 (B)) = (upr R 0 (ups (ups (R 0) 16 k9) 15 (R 0 15)))) ∨ (∃ (x9 : Int) (k9 : Int) (b9 : Int → Int), ((prsC (R 3) (R 0 4) (R 0 15) (R 7)) = (0, x9, k9, b9) ∧ 0 ≤ k9 ∧ k9 ≤ 6) ∧ (0 : Int) = 0 ∧ (upr (upr R 0 (ups (ups (ups (R 0) 16 K9) 15 q) 15 (skp (R 3) (((R 0 4))) (q)))) 7 (B)) = (upr (upr R 0 (ups (ups (R 0) 16 k9) 15 x9)) 7 (b9))) ∨ (∃ (x9 : Int) (k9 : Int) (b9 : Int → Int), ((prsC (R 3) (R 0 4) (R 0 15) (R 7)) = (1, x9, k9, b9) ∧ 0 ≤ k9 ∧ k9 ≤ 6) ∧ (0 : Int) = 1 ∧ (upr (upr R 0 (ups (ups (ups (R 0) 16 K9) 15 q) 15 (skp (R 3) (((R 0 4))) (q)))) 7 (B)) = (upr (upr R 0 (ups (ups (R 0) 16 k9) 15 x9)) 7 (b9))))⟩, by rw [ht]; exact hP, hD⟩, hS.F ht⟩) hS.2.2 dX7_readCommand_50 hlocks
                · skip
                  refine k_bipush hx hb dX7_readCommand_44 (by decide +kernel) ?_
                  refine k_icmp_eq (tgt := 51) hx hb dX7_readCommand_46 (by decide) (by omega) (by omega) (fun c_18 => ?_) (fun c_18 => ?_)
                  · exfalso; omega
                  · skip
                    have hpc := prsC_3 (T := R 3) (n := R 0 4) (q := R 0 15) (A := R 7) hi4.1.symm hi4.2.1.symm (by omega) hpe (fun h9 => by omega)
                    refine k_iconst hx hb dX7_readCommand_49 ?_
                    exact W.zret (v := iI 0) hx hb hr (by decide +kernel) (fun t9 ht _ => ⟨⟨iI 0, (upr (upr R 0 (ups (ups (ups (R 0) 16 K9) 15 q) 15 (skp (R 3) (((R 0 4))) (q)))) 7 (B)), rfl, ⟨0, rfl, (by first | exact Or.inr (Or.inl ⟨((skp (R 3) (((R 0 4))) (q))), (K9), (B), (⟨hpc, hi4.2.2⟩), (by first | rfl | omega), (by rw [show (ups (ups (ups (R 0) 16 K9) 15 q) 15 (skp (R 3) (((R 0 4))) (q))) = (ups (ups (R 0) 16 K9) 15 (skp (R 3) (((R 0 4))) (q))) from by first | exact ups_ups _ _ _ _ | (funext k9; unfold ups; (repeat' split) <;> first | rfl | omega | (exfalso; omega))])⟩) : (∃ (k9 : Int), ((prsC (R 3) (R 0 4) (R 0 15) (R 7)) = (0, R 0 15, k9, R 7)) ∧ (0 : Int) = 0 ∧ (upr (upr R 0 (ups (ups (ups (R 0) 16 K9) 15 q) 15 (skp (R 3) (((R 0 4))) (q)))) 7 (B)) = (upr R 0 (ups (ups (R 0) 16 k9) 15 (R 0 15)))) ∨ (∃ (x9 : Int) (k9 : Int) (b9 : Int → Int), ((prsC (R 3) (R 0 4) (R 0 15) (R 7)) = (0, x9, k9, b9) ∧ 0 ≤ k9 ∧ k9 ≤ 6) ∧ (0 : Int) = 0 ∧ (upr (upr R 0 (ups (ups (ups (R 0) 16 K9) 15 q) 15 (skp (R 3) (((R 0 4))) (q)))) 7 (B)) = (upr (upr R 0 (ups (ups (R 0) 16 k9) 15 x9)) 7 (b9))) ∨ (∃ (x9 : Int) (k9 : Int) (b9 : Int → Int), ((prsC (R 3) (R 0 4) (R 0 15) (R 7)) = (1, x9, k9, b9) ∧ 0 ≤ k9 ∧ k9 ≤ 6) ∧ (0 : Int) = 1 ∧ (upr (upr R 0 (ups (ups (ups (R 0) 16 K9) 15 q) 15 (skp (R 3) (((R 0 4))) (q)))) 7 (B)) = (upr (upr R 0 (ups (ups (R 0) 16 k9) 15 x9)) 7 (b9))))⟩, by rw [ht]; exact hP, hD⟩, hS.F ht⟩) hS.2.2 dX7_readCommand_50 hlocks
              · skip
                have c_14 : (skp (R 3) (((R 0 4))) (q)) = q := c_14
                subst hr_12
                subst hR_13
                have hDn : va_D (va_A (rfW cy a R) sz) (rfW cy a (upr (upr R 0 (ups (ups (ups (R 0) 16 K9) 15 q) 15 (skp (R 3) (((R 0 4))) (q)))) 7 (B))) := k_addr hD rfl
                have hPn : va_P D vwCl (rfW cy a (upr (upr R 0 (ups (ups (ups (R 0) 16 K9) 15 q) 15 (skp (R 3) (((R 0 4))) (q)))) 7 (B))) H1 := hP1
                clear hP hD hS hP1 hD1 hk1
                have hP := hPn
                have hD := hDn
                have hS := hS1
                clear hPn hDn hS1
                generalize H1 = H at hP hS ⊢
                generalize locs1 = locs at hS ⊢
                refine lv_istore_n (lv' := [(1, .int (iI 0)), (0, .ref (a 0))]) hx hb dX7_readCommand_39 rfl hl (by decide) rfl (fun ls hl => ?_)
                refine lv_aload_n hx hb dX7_readCommand_40 rfl (lv_at hl 1 rfl) ?_
                refine k_roV (As := []) (rest := []) ⟨hx, hb, hml, hown, hts⟩ (c_X7_here l D cy a (upr (upr R 0 (ups (ups (ups (R 0) 16 K9) 15 q) 15 (skp (R 3) (((R 0 4))) (q)))) 7 (B)) (show 0 ≤ (skp (R 3) (((R 0 4))) (q)) ∧ (skp (R 3) (((R 0 4))) (q)) ≤ (((R 0 4))) by omega) (show (((R 0 4))) ≤ 150 by omega)) gX7_readCommand_X7_here rfl ⟨rfl, rfl⟩ 0 rfl (by decide +kernel) ⟨Nat.le_of_ble_eq_true rfl, Nat.le_of_ble_eq_true rfl⟩ (GG_ok D cy) ((GG_ok D cy).2.2.2 _ _ _ _ (fun _ h => h.elim) ((GG_ok D cy).1 _ _ _ _ hS.2.1 hG)) hP (va_recv hK hP (ci := 6) (q0 := 0) rfl rfl) hl.1 rfl (Nat.le_of_ble_eq_true rfl) ⟨Nat.le_of_ble_eq_true rfl, Nat.le_of_ble_eq_true rfl⟩ dX7_readCommand_41 (fun r_19 hr_19 => ?_)
                have hr_19 : (((skp (R 3) (((R 0 4))) (q)) < (((R 0 4)))) ∧ r_19 = (R 3) ((skp (R 3) (R 0 4) (q)))) ∨ (((((R 0 4))) ≤ (skp (R 3) (((R 0 4))) (q))) ∧ r_19 = -1000000000) := hr_19
                rcases hr_19 with ⟨c_20, hr_19⟩ | ⟨c_20, hr_19⟩ <;> subst hr_19
                · skip
                  have hT9 := hT (skp (R 3) (R 0 4) q) (by omega) (by omega)
                  refine k_bipush hx hb dX7_readCommand_44 (by decide +kernel) ?_
                  refine k_icmp_eq (tgt := 51) hx hb dX7_readCommand_46 (by decide) (by omega) (by omega) (fun c_21 => ?_) (fun c_21 => ?_)
                  · skip
                    have hpc := prsC_2 (T := R 3) (n := R 0 4) (q := R 0 15) (A := R 7) hi4.1.symm hi4.2.1.symm (by omega) hpe ⟨by omega, by omega⟩
                    refine lv_aload_n hx hb dX7_readCommand_51 rfl (lv_at hl 1 rfl) ?_
                    refine lv_dup hx hb dX7_readCommand_52 rfl ?_
                    refine va_get (D := D) (ci := 6) (v := .int (iI (skp (R 3) (((R 0 4))) (q)))) (C := RX7) (T := TX7) (N := 19) hx hb hts hinX7 hown hK hP 0 rfl rfl 15 (by decide) hmw0 (fun _ h9 => h9) rfl dX7_readCommand_53 ?_
                    refine k_iconst hx hb dX7_readCommand_56 ?_
                    refine k_iadd hx hb dX7_readCommand_57 ?_
                    refine va_put (D := D) (ci := 6) (v := .int (iI ((skp (R 3) (((R 0 4))) (q)) + 1))) (ty := .int) (C := RX7) (T := TX7) (N := 19) hx hb hts hinX7 tyX7 tyX7_ok nmX7 hown hK hP hD hS 0 rfl rfl 15 (by decide) hmw0 (fun _ h9 => h9) rfl (by decide +kernel) rfl rfl (Nat.le_of_ble_eq_true rfl) dX7_readCommand_58 (fun H locs hP hD hS => ?_)
                    have hP : va_P D vwCl (rfW cy a (upr (upr R 0 (ups (ups (ups (ups (R 0) 16 K9) 15 q) 15 (skp (R 3) (((R 0 4))) (q))) 15 ((skp (R 3) (((R 0 4))) (q)) + 1))) 7 (B))) H := hP
                    have hD : va_D (va_A (rfW cy a R) sz) (rfW cy a (upr (upr R 0 (ups (ups (ups (ups (R 0) 16 K9) 15 q) 15 (skp (R 3) (((R 0 4))) (q))) 15 ((skp (R 3) (((R 0 4))) (q)) + 1))) 7 (B))) := hD
                    refine k_iconst hx hb dX7_readCommand_61 ?_
                    exact W.zret (v := iI 1) hx hb hr (by decide +kernel) (fun t9 ht _ => ⟨⟨iI 1, (upr (upr R 0 (ups (ups (ups (ups (R 0) 16 K9) 15 q) 15 (skp (R 3) (((R 0 4))) (q))) 15 ((skp (R 3) (((R 0 4))) (q)) + 1))) 7 (B)), rfl, ⟨1, rfl, (by first | exact Or.inr (Or.inr (⟨(((skp (R 3) (((R 0 4))) (q)) + 1)), (K9), (B), (⟨hpc, hi4.2.2⟩), (by first | rfl | omega), (by rw [show (ups (ups (ups (ups (R 0) 16 K9) 15 q) 15 (skp (R 3) (((R 0 4))) (q))) 15 ((skp (R 3) (((R 0 4))) (q)) + 1)) = (ups (ups (R 0) 16 K9) 15 ((skp (R 3) (((R 0 4))) (q)) + 1)) from by first | exact ups_ups _ _ _ _ | (funext k9; unfold ups; (repeat' split) <;> first | rfl | omega | (exfalso; omega))])⟩)) : (∃ (k9 : Int), ((prsC (R 3) (R 0 4) (R 0 15) (R 7)) = (0, R 0 15, k9, R 7)) ∧ (1 : Int) = 0 ∧ (upr (upr R 0 (ups (ups (ups (ups (R 0) 16 K9) 15 q) 15 (skp (R 3) (((R 0 4))) (q))) 15 ((skp (R 3) (((R 0 4))) (q)) + 1))) 7 (B)) = (upr R 0 (ups (ups (R 0) 16 k9) 15 (R 0 15)))) ∨ (∃ (x9 : Int) (k9 : Int) (b9 : Int → Int), ((prsC (R 3) (R 0 4) (R 0 15) (R 7)) = (0, x9, k9, b9) ∧ 0 ≤ k9 ∧ k9 ≤ 6) ∧ (1 : Int) = 0 ∧ (upr (upr R 0 (ups (ups (ups (ups (R 0) 16 K9) 15 q) 15 (skp (R 3) (((R 0 4))) (q))) 15 ((skp (R 3) (((R 0 4))) (q)) + 1))) 7 (B)) = (upr (upr R 0 (ups (ups (R 0) 16 k9) 15 x9)) 7 (b9))) ∨ (∃ (x9 : Int) (k9 : Int) (b9 : Int → Int), ((prsC (R 3) (R 0 4) (R 0 15) (R 7)) = (1, x9, k9, b9) ∧ 0 ≤ k9 ∧ k9 ≤ 6) ∧ (1 : Int) = 1 ∧ (upr (upr R 0 (ups (ups (ups (ups (R 0) 16 K9) 15 q) 15 (skp (R 3) (((R 0 4))) (q))) 15 ((skp (R 3) (((R 0 4))) (q)) + 1))) 7 (B)) = (upr (upr R 0 (ups (ups (R 0) 16 k9) 15 x9)) 7 (b9))))⟩, by rw [ht]; exact hP, hD⟩, hS.F ht⟩) hS.2.2 dX7_readCommand_62 hlocks
                  · skip
                    have hpc := prsC_3 (T := R 3) (n := R 0 4) (q := R 0 15) (A := R 7) hi4.1.symm hi4.2.1.symm (by omega) hpe (fun h9 => by omega)
                    refine k_iconst hx hb dX7_readCommand_49 ?_
                    exact W.zret (v := iI 0) hx hb hr (by decide +kernel) (fun t9 ht _ => ⟨⟨iI 0, (upr (upr R 0 (ups (ups (ups (R 0) 16 K9) 15 q) 15 (skp (R 3) (((R 0 4))) (q)))) 7 (B)), rfl, ⟨0, rfl, (by first | exact Or.inr (Or.inl ⟨((skp (R 3) (((R 0 4))) (q))), (K9), (B), (⟨hpc, hi4.2.2⟩), (by first | rfl | omega), (by rw [show (ups (ups (ups (R 0) 16 K9) 15 q) 15 (skp (R 3) (((R 0 4))) (q))) = (ups (ups (R 0) 16 K9) 15 (skp (R 3) (((R 0 4))) (q))) from by first | exact ups_ups _ _ _ _ | (funext k9; unfold ups; (repeat' split) <;> first | rfl | omega | (exfalso; omega))])⟩) : (∃ (k9 : Int), ((prsC (R 3) (R 0 4) (R 0 15) (R 7)) = (0, R 0 15, k9, R 7)) ∧ (0 : Int) = 0 ∧ (upr (upr R 0 (ups (ups (ups (R 0) 16 K9) 15 q) 15 (skp (R 3) (((R 0 4))) (q)))) 7 (B)) = (upr R 0 (ups (ups (R 0) 16 k9) 15 (R 0 15)))) ∨ (∃ (x9 : Int) (k9 : Int) (b9 : Int → Int), ((prsC (R 3) (R 0 4) (R 0 15) (R 7)) = (0, x9, k9, b9) ∧ 0 ≤ k9 ∧ k9 ≤ 6) ∧ (0 : Int) = 0 ∧ (upr (upr R 0 (ups (ups (ups (R 0) 16 K9) 15 q) 15 (skp (R 3) (((R 0 4))) (q)))) 7 (B)) = (upr (upr R 0 (ups (ups (R 0) 16 k9) 15 x9)) 7 (b9))) ∨ (∃ (x9 : Int) (k9 : Int) (b9 : Int → Int), ((prsC (R 3) (R 0 4) (R 0 15) (R 7)) = (1, x9, k9, b9) ∧ 0 ≤ k9 ∧ k9 ≤ 6) ∧ (0 : Int) = 1 ∧ (upr (upr R 0 (ups (ups (ups (R 0) 16 K9) 15 q) 15 (skp (R 3) (((R 0 4))) (q)))) 7 (B)) = (upr (upr R 0 (ups (ups (R 0) 16 k9) 15 x9)) 7 (b9))))⟩, by rw [ht]; exact hP, hD⟩, hS.F ht⟩) hS.2.2 dX7_readCommand_50 hlocks
                · skip
                  refine k_bipush hx hb dX7_readCommand_44 (by decide +kernel) ?_
                  refine k_icmp_eq (tgt := 51) hx hb dX7_readCommand_46 (by decide) (by omega) (by omega) (fun c_22 => ?_) (fun c_22 => ?_)
                  · exfalso; omega
                  · skip
                    have hpc := prsC_3 (T := R 3) (n := R 0 4) (q := R 0 15) (A := R 7) hi4.1.symm hi4.2.1.symm (by omega) hpe (fun h9 => by omega)
                    refine k_iconst hx hb dX7_readCommand_49 ?_
                    exact W.zret (v := iI 0) hx hb hr (by decide +kernel) (fun t9 ht _ => ⟨⟨iI 0, (upr (upr R 0 (ups (ups (ups (R 0) 16 K9) 15 q) 15 (skp (R 3) (((R 0 4))) (q)))) 7 (B)), rfl, ⟨0, rfl, (by first | exact Or.inr (Or.inl ⟨((skp (R 3) (((R 0 4))) (q))), (K9), (B), (⟨hpc, hi4.2.2⟩), (by first | rfl | omega), (by rw [show (ups (ups (ups (R 0) 16 K9) 15 q) 15 (skp (R 3) (((R 0 4))) (q))) = (ups (ups (R 0) 16 K9) 15 (skp (R 3) (((R 0 4))) (q))) from by first | exact ups_ups _ _ _ _ | (funext k9; unfold ups; (repeat' split) <;> first | rfl | omega | (exfalso; omega))])⟩) : (∃ (k9 : Int), ((prsC (R 3) (R 0 4) (R 0 15) (R 7)) = (0, R 0 15, k9, R 7)) ∧ (0 : Int) = 0 ∧ (upr (upr R 0 (ups (ups (ups (R 0) 16 K9) 15 q) 15 (skp (R 3) (((R 0 4))) (q)))) 7 (B)) = (upr R 0 (ups (ups (R 0) 16 k9) 15 (R 0 15)))) ∨ (∃ (x9 : Int) (k9 : Int) (b9 : Int → Int), ((prsC (R 3) (R 0 4) (R 0 15) (R 7)) = (0, x9, k9, b9) ∧ 0 ≤ k9 ∧ k9 ≤ 6) ∧ (0 : Int) = 0 ∧ (upr (upr R 0 (ups (ups (ups (R 0) 16 K9) 15 q) 15 (skp (R 3) (((R 0 4))) (q)))) 7 (B)) = (upr (upr R 0 (ups (ups (R 0) 16 k9) 15 x9)) 7 (b9))) ∨ (∃ (x9 : Int) (k9 : Int) (b9 : Int → Int), ((prsC (R 3) (R 0 4) (R 0 15) (R 7)) = (1, x9, k9, b9) ∧ 0 ≤ k9 ∧ k9 ≤ 6) ∧ (0 : Int) = 1 ∧ (upr (upr R 0 (ups (ups (ups (R 0) 16 K9) 15 q) 15 (skp (R 3) (((R 0 4))) (q)))) 7 (B)) = (upr (upr R 0 (ups (ups (R 0) 16 k9) 15 x9)) 7 (b9))))⟩, by rw [ht]; exact hP, hD⟩, hS.F ht⟩) hS.2.2 dX7_readCommand_50 hlocks
            · skip
              refine lv_aload_n hx hb dX7_readCommand_19 rfl (lv_at hl 1 rfl) ?_
              refine lv_iload_n hx hb dX7_readCommand_20 rfl (lv_at hl 0 rfl) ?_
              refine k_mui (k_runV (As := [.int (iI i)]) (rest := []) ⟨hx, hb, hml, hown, hts⟩ (c_X7_readNumber l D cy H.size a (upr (upr R 0 (ups (ups (R 0) 16 K9) 15 q)) 7 (B)) i (show 0 ≤ q ∧ q ≤ ((R 0 4)) by omega) (show ((R 0 4)) ≤ 150 by omega) (show ∀ k : Int, 0 ≤ k → k < 150 → 0 ≤ (R 3) k ∧ (R 3) k ≤ 127 by omega) (show 0 ≤ i ∧ i < 4 by omega)) gX7_readCommand_X7_readNumber rfl ⟨rfl, rfl⟩ 1 rfl (by decide +kernel) ⟨Nat.le_of_ble_eq_true rfl, Nat.le_of_ble_eq_true rfl⟩ (GG_ok D cy) hG hS (k_free hD hS hA) hP hD (va_recv hK hP (ci := 6) (q0 := 0) rfl rfl) hl.1 rfl (Nat.le_of_ble_eq_true rfl) ⟨Nat.le_of_ble_eq_true rfl, Nat.le_of_ble_eq_true rfl⟩ dX7_readCommand_21) (k_free hD hS hA) hS (fun r_23 R_24 H1 locs1 hR_24 hP1 hD1 hS1 hk1 => ?_)
              rcases hR_24 with ⟨c_25, hr_23, hR_24⟩ | ⟨dv_26, c_25, hr_23, hR_24⟩ | ⟨dq_27, dv_28, c_25, hr_23, hR_24⟩
              · skip
                have c_25 : (skp (R 3) (((R 0 4))) (q)) = q := c_25
                subst hr_23
                subst hR_24
                have hDn : va_D (va_A (rfW cy a R) sz) (rfW cy a (upr (upr R 0 (ups (ups (ups (R 0) 16 K9) 15 q) 15 (skp (R 3) (((R 0 4))) (q)))) 7 (B))) := k_addr hD rfl
                have hPn : va_P D vwCl (rfW cy a (upr (upr R 0 (ups (ups (ups (R 0) 16 K9) 15 q) 15 (skp (R 3) (((R 0 4))) (q)))) 7 (B))) H1 := hP1
                clear hP hD hS hP1 hD1 hk1
                have hP := hPn
                have hD := hDn
                have hS := hS1
                clear hPn hDn hS1
                generalize H1 = H at hP hS ⊢
                generalize locs1 = locs at hS ⊢
                have hps : prsN (R 3) (R 0 4) (manyF K9 - i).toNat q B i = (0, skp (R 3) (R 0 4) q, B) := by rw [c_25]; exact prsN_a (T := R 3) (n := R 0 4) (m := manyF K9) (k := i) (q := q) (A := B) (by omega) c_25
                have hpc := prsC_1 (T := R 3) (n := R 0 4) (q := R 0 15) (A := R 7) hi4.1.symm hi4.2.1.symm (by omega) (hi3.symm.trans hps)
                refine k_if_ne (tgt := 29) hx hb dX7_readCommand_24 (by decide) (by omega) (fun c_29 => ?_) (fun c_29 => ?_)
                · exfalso; omega
                · skip
                  refine k_iconst hx hb dX7_readCommand_27 ?_
                  exact W.zret (v := iI 0) hx hb hr (by decide +kernel) (fun t9 ht _ => ⟨⟨iI 0, (upr (upr R 0 (ups (ups (ups (R 0) 16 K9) 15 q) 15 (skp (R 3) (((R 0 4))) (q)))) 7 (B)), rfl, ⟨0, rfl, (by first | exact Or.inr (Or.inl ⟨((skp (R 3) (((R 0 4))) (q))), (K9), (B), (⟨hpc, hi4.2.2⟩), (by first | rfl | omega), (by rw [show (ups (ups (ups (R 0) 16 K9) 15 q) 15 (skp (R 3) (((R 0 4))) (q))) = (ups (ups (R 0) 16 K9) 15 (skp (R 3) (((R 0 4))) (q))) from by first | exact ups_ups _ _ _ _ | (funext k9; unfold ups; (repeat' split) <;> first | rfl | omega | (exfalso; omega))])⟩) : (∃ (k9 : Int), ((prsC (R 3) (R 0 4) (R 0 15) (R 7)) = (0, R 0 15, k9, R 7)) ∧ (0 : Int) = 0 ∧ (upr (upr R 0 (ups (ups (ups (R 0) 16 K9) 15 q) 15 (skp (R 3) (((R 0 4))) (q)))) 7 (B)) = (upr R 0 (ups (ups (R 0) 16 k9) 15 (R 0 15)))) ∨ (∃ (x9 : Int) (k9 : Int) (b9 : Int → Int), ((prsC (R 3) (R 0 4) (R 0 15) (R 7)) = (0, x9, k9, b9) ∧ 0 ≤ k9 ∧ k9 ≤ 6) ∧ (0 : Int) = 0 ∧ (upr (upr R 0 (ups (ups (ups (R 0) 16 K9) 15 q) 15 (skp (R 3) (((R 0 4))) (q)))) 7 (B)) = (upr (upr R 0 (ups (ups (R 0) 16 k9) 15 x9)) 7 (b9))) ∨ (∃ (x9 : Int) (k9 : Int) (b9 : Int → Int), ((prsC (R 3) (R 0 4) (R 0 15) (R 7)) = (1, x9, k9, b9) ∧ 0 ≤ k9 ∧ k9 ≤ 6) ∧ (0 : Int) = 1 ∧ (upr (upr R 0 (ups (ups (ups (R 0) 16 K9) 15 q) 15 (skp (R 3) (((R 0 4))) (q)))) 7 (B)) = (upr (upr R 0 (ups (ups (R 0) 16 k9) 15 x9)) 7 (b9))))⟩, by rw [ht]; exact hP, hD⟩, hS.F ht⟩) hS.2.2 dX7_readCommand_28 hlocks
              · skip
                have c_25 : q < (skp (R 3) (((R 0 4))) (q)) ∧ (dgF (R 3) (((R 0 4))) (skp (R 3) (((R 0 4))) (q))) = ((skp (R 3) (((R 0 4))) (q)), dv_26) := c_25
                subst hr_23
                subst hR_24
                have hDn : va_D (va_A (rfW cy a R) sz) (rfW cy a (upr (upr R 0 (ups (ups (ups (R 0) 16 K9) 15 q) 15 (skp (R 3) (((R 0 4))) (q)))) 7 (ups (B) i dv_26))) := k_addr hD rfl
                have hPn : va_P D vwCl (rfW cy a (upr (upr R 0 (ups (ups (ups (R 0) 16 K9) 15 q) 15 (skp (R 3) (((R 0 4))) (q)))) 7 (ups (B) i dv_26))) H1 := hP1
                clear hP hD hS hP1 hD1 hk1
                have hP := hPn
                have hD := hDn
                have hS := hS1
                clear hPn hDn hS1
                generalize H1 = H at hP hS ⊢
                generalize locs1 = locs at hS ⊢
                have hps := prsN_b (T := R 3) (n := R 0 4) (m := manyF K9) (k := i) (q := q) (A := B) (by omega) (by omega) c_25.2
                have hpc := prsC_1 (T := R 3) (n := R 0 4) (q := R 0 15) (A := R 7) hi4.1.symm hi4.2.1.symm (by omega) (hi3.symm.trans hps)
                refine k_if_ne (tgt := 29) hx hb dX7_readCommand_24 (by decide) (by omega) (fun c_30 => ?_) (fun c_30 => ?_)
                · exfalso; omega
                · skip
                  refine k_iconst hx hb dX7_readCommand_27 ?_
                  exact W.zret (v := iI 0) hx hb hr (by decide +kernel) (fun t9 ht _ => ⟨⟨iI 0, (upr (upr R 0 (ups (ups (ups (R 0) 16 K9) 15 q) 15 (skp (R 3) (((R 0 4))) (q)))) 7 (ups (B) i dv_26)), rfl, ⟨0, rfl, (by first | exact Or.inr (Or.inl ⟨((skp (R 3) (((R 0 4))) (q))), (K9), ((ups (B) i dv_26)), (⟨hpc, hi4.2.2⟩), (by first | rfl | omega), (by rw [show (ups (ups (ups (R 0) 16 K9) 15 q) 15 (skp (R 3) (((R 0 4))) (q))) = (ups (ups (R 0) 16 K9) 15 (skp (R 3) (((R 0 4))) (q))) from by first | exact ups_ups _ _ _ _ | (funext k9; unfold ups; (repeat' split) <;> first | rfl | omega | (exfalso; omega))])⟩) : (∃ (k9 : Int), ((prsC (R 3) (R 0 4) (R 0 15) (R 7)) = (0, R 0 15, k9, R 7)) ∧ (0 : Int) = 0 ∧ (upr (upr R 0 (ups (ups (ups (R 0) 16 K9) 15 q) 15 (skp (R 3) (((R 0 4))) (q)))) 7 (ups (B) i dv_26)) = (upr R 0 (ups (ups (R 0) 16 k9) 15 (R 0 15)))) ∨ (∃ (x9 : Int) (k9 : Int) (b9 : Int → Int), ((prsC (R 3) (R 0 4) (R 0 15) (R 7)) = (0, x9, k9, b9) ∧ 0 ≤ k9 ∧ k9 ≤ 6) ∧ (0 : Int) = 0 ∧ (upr (upr R 0 (ups (ups (ups (R 0) 16 K9) 15 q) 15 (skp (R 3) (((R 0 4))) (q)))) 7 (ups (B) i dv_26)) = (upr (upr R 0 (ups (ups (R 0) 16 k9) 15 x9)) 7 (b9))) ∨ (∃ (x9 : Int) (k9 : Int) (b9 : Int → Int), ((prsC (R 3) (R 0 4) (R 0 15) (R 7)) = (1, x9, k9, b9) ∧ 0 ≤ k9 ∧ k9 ≤ 6) ∧ (0 : Int) = 1 ∧ (upr (upr R 0 (ups (ups (ups (R 0) 16 K9) 15 q) 15 (skp (R 3) (((R 0 4))) (q)))) 7 (ups (B) i dv_26)) = (upr (upr R 0 (ups (ups (R 0) 16 k9) 15 x9)) 7 (b9))))⟩, by rw [ht]; exact hP, hD⟩, hS.F ht⟩) hS.2.2 dX7_readCommand_28 hlocks
              · skip
                have c_25 : (q < (skp (R 3) (((R 0 4))) (q)) ∧ (skp (R 3) (((R 0 4))) (q)) < dq_27 ∧ dq_27 ≤ ((R 0 4))) ∧ (dgF (R 3) (((R 0 4))) (skp (R 3) (((R 0 4))) (q))) = (dq_27, dv_28) := c_25
                subst hr_23
                subst hR_24
                have hDn : va_D (va_A (rfW cy a R) sz) (rfW cy a (upr (upr R 0 (ups (ups (ups (R 0) 16 K9) 15 q) 15 dq_27)) 7 (ups (B) i dv_28))) := k_addr hD rfl
                have hPn : va_P D vwCl (rfW cy a (upr (upr R 0 (ups (ups (ups (R 0) 16 K9) 15 q) 15 dq_27)) 7 (ups (B) i dv_28))) H1 := hP1
                clear hP hD hS hP1 hD1 hk1
                have hP := hPn
                have hD := hDn
                have hS := hS1
                clear hPn hDn hS1
                generalize H1 = H at hP hS ⊢
                generalize locs1 = locs at hS ⊢
                have hps := prsN_c (T := R 3) (n := R 0 4) (m := manyF K9) (k := i) (q := q) (A := B) (by omega) (by omega) c_25.2 (by omega)
                refine k_if_ne (tgt := 29) hx hb dX7_readCommand_24 (by decide) (by omega) (fun c_31 => ?_) (fun c_31 => ?_)
                · skip
                  refine lv_iinc (v := iI (i + 1)) (lv' := [(1, .int (iI (i + 1))), (0, .ref (a 0))]) hx hb dX7_readCommand_29 hl (k := 0) rfl (iI_add _ _) (by decide) rfl (fun ls hl => ?_)
                  refine lv_goto (tgt := 11) hx hb dX7_readCommand_32 (by decide) ?_
                  exact ih11 K9 W9 (i + 1) dq_27 (ups (B) i dv_28)  (by omega) (by omega) (by omega) (hps.symm.trans hi3) (hi4) (by omega) H locs (by rw [show (ups (ups (R 0) 16 K9) 15 dq_27) = (ups (ups (ups (R 0) 16 K9) 15 q) 15 dq_27) from (ups_ups _ _ _ _).symm]; exact hP) (k_addr hD rfl) hS ls (lv_sub hl [0, 1] rfl)
                · exfalso; omega
        exact loop11 ((manyF kk_5 - 0 : Int) + 1).toNat kk_5 ww_6 0 ww_6 (R 7)  (by omega) ((manyF_rg _).1) (by rw [hk1.2.1]; omega) (by rw [Int.sub_zero]) (hk1) (by omega) H locs (hP) (k_addr hD rfl) hS ls (lv_sub hl [0, 1] rfl)
      · exfalso; omega
  exact hbody s.heap [] hP hS ls hl
