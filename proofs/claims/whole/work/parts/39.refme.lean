set_option maxHeartbeats 4000000 in
set_option maxRecDepth 100000 in
theorem c_X7_isText (l : Launch) (D : va_G) (cy : Nat → ClassId) (sz : Nat) (a : Nat → Nat) (R : Nat → Int → Int)  (hn0 : 0 ≤ R 0 4) (htn : R 0 4 ≤ 150) (hT : ∀ k : Int, 0 ≤ k → k < 150 → 0 ≤ R 3 k ∧ R 3 k ≤ 127) (hnm : nmOK (R 7)) : Met l yX7_isText wsX7_isText { frames := 4, cells := 0, slots := 0, locals := 85 } (mPre (GG D cy) D (rfW cy a R) sz ([.ref (a 0)] : List Value)) (kQi D (rfW cy a R) sz (fun u9 : Nat → Int → Int => rfW cy a u9) (fun r9 u9 => (∃ (zc : Int) (zb : Int → Int) (zx : Int), (nmOK zb ∧ (prsF (R 3) (R 0 4) (skp (R 3) (R 0 4) 0)) = (0, zx)) ∧ r9 = 0 ∧ u9 = (upr (upr R 0 (ups (ups (R 0) 16 zc) 15 zx)) 7 (zb))) ∨ (∃ (zc : Int) (zb : Int → Int) (zx : Int), (nmOK zb ∧ (prsF (R 3) (R 0 4) (skp (R 3) (R 0 4) 0)) = (1, zx)) ∧ r9 = 1 ∧ u9 = (upr (upr R 0 (ups (ups (R 0) 16 zc) 15 zx)) 7 (zb))))) 0 0 (va_A (rfW cy a R) sz) := by
  refine kM_start (cc := cX7_isText) (maxL := 3) (ret := (some .boolean)) (by decide) rfl (Nat.le_of_ble_eq_true rfl) ?_
  intro p e s m below meth c hx hb hr hlocks hml hts hown hsz hA hG hP hD hS hin ls hl
  have hK := hG.1
  have hl : lv_has ls 3 [(0, .ref (a 0))] := hl
  have hinX7 : ∀ w ∈ u_ws RX7 TX7 19, w ∈ wsX7_isText := by decide +kernel
  have hmw0 := hts (.fieldLink RX7 250 "ArcPlateModel" "place" "I") (by decide +kernel)
  have hmw1 := hts (.fieldLink RX7 247 "ArcPlateModel" "textLength" "I") (by decide +kernel)
  have hsb := skp_le (T := R 3) hn0
  have hbody : ∀ (H : Heap) (locs : List Loc) (hP : va_P D vwCl (rfW cy a R) H) (hS : va_S (va_A (rfW cy a R) sz) s.heap H locs) (ls : Array Slot) (hl : lv_has ls 3 [(0, .ref (a 0))]), W p l e { frames := 4, cells := 0, slots := 0, locals := 85 } s m ([.ref (a 0)] : List Value).toArray below meth c H locs 0 0 (MQ below (kQi D (rfW cy a R) sz (fun u9 : Nat → Int → Int => rfW cy a u9) (fun r9 u9 => (∃ (zc : Int) (zb : Int → Int) (zx : Int), (nmOK zb ∧ (prsF (R 3) (R 0 4) (skp (R 3) (R 0 4) 0)) = (0, zx)) ∧ r9 = 0 ∧ u9 = (upr (upr R 0 (ups (ups (R 0) 16 zc) 15 zx)) 7 (zb))) ∨ (∃ (zc : Int) (zb : Int → Int) (zx : Int), (nmOK zb ∧ (prsF (R 3) (R 0 4) (skp (R 3) (R 0 4) 0)) = (1, zx)) ∧ r9 = 1 ∧ u9 = (upr (upr R 0 (ups (ups (R 0) 16 zc) 15 zx)) 7 (zb))))) ([.ref (a 0)] : List Value).toArray s 0 0 (va_A (rfW cy a R) sz)) (F0 m 0 ls []) := by
    intro H locs hP hS ls hl
    refine lv_aload_n hx hb dX7_isText_0 rfl (lv_at hl 0 rfl) ?_
    refine k_iconst hx hb dX7_isText_1 ?_
    refine va_put (D := D) (ci := 6) (v := .int (iI 0)) (ty := .int) (C := RX7) (T := TX7) (N := 19) hx hb hts hinX7 tyX7 tyX7_ok nmX7 hown hK hP hD hS 0 rfl rfl 15 (by decide) hmw0 (fun _ h9 => h9) rfl (by decide +kernel) rfl rfl (Nat.le_of_ble_eq_true rfl) dX7_isText_2 (fun H locs hP hD hS => ?_)
    have hP : va_P D vwCl (rfW cy a (upr R 0 (ups (R 0) 15 0))) H := hP
    have hD : va_D (va_A (rfW cy a R) sz) (rfW cy a (upr R 0 (ups (R 0) 15 0))) := hD
    refine k_iconst hx hb dX7_isText_5 ?_
    refine lv_istore_n (lv' := [(1, .int (iI 1)), (0, .ref (a 0))]) hx hb dX7_isText_6 rfl hl (by decide) rfl (fun ls hl => ?_)
    refine lv_aload_n hx hb dX7_isText_7 rfl (lv_at hl 1 rfl) ?_
    refine k_mui (k_runV (As := []) (rest := []) ⟨hx, hb, hml, hown, hts⟩ (c_X7_skips l D cy H.size a (upr R 0 (ups (R 0) 15 0)) (show 0 ≤ 0 ∧ 0 ≤ (R 0 4) by omega) (show (R 0 4) ≤ 150 by omega) (show ∀ k : Int, 0 ≤ k → k < 150 → 0 ≤ (R 3) k ∧ (R 3) k ≤ 127 by omega)) gX7_isText_X7_skips rfl ⟨rfl, rfl⟩ 0 rfl (by decide +kernel) ⟨Nat.le_of_ble_eq_true rfl, Nat.le_of_ble_eq_true rfl⟩ (GG_ok D cy) hG hS (k_free hD hS hA) hP hD (va_recv hK hP (ci := 6) (q0 := 0) rfl rfl) hl.1 rfl (Nat.le_of_ble_eq_true rfl) ⟨Nat.le_of_ble_eq_true rfl, Nat.le_of_ble_eq_true rfl⟩ dX7_isText_8) (k_free hD hS hA) hS (fun r_1 R_2 H1 locs1 hR_2 hP1 hD1 hS1 hk1 => ?_)
    rcases hR_2 with ⟨c_3, hr_1, hR_2⟩ | ⟨c_3, hr_1, hR_2⟩
    · skip
      have c_3 : 0 < (skp (R 3) ((R 0 4)) (0)) := c_3
      subst hr_1
      subst hR_2
      have hDn : va_D (va_A (rfW cy a R) sz) (rfW cy a (upr R 0 (ups (ups (R 0) 15 0) 15 (skp (R 3) ((R 0 4)) (0))))) := k_addr hD rfl
      have hPn : va_P D vwCl (rfW cy a (upr R 0 (ups (ups (R 0) 15 0) 15 (skp (R 3) ((R 0 4)) (0))))) H1 := hP1
      clear hP hD hS hP1 hD1 hk1
      have hP := hPn
      have hD := hDn
      have hS := hS1
      clear hPn hDn hS1
      generalize H1 = H at hP hS ⊢
      generalize locs1 = locs at hS ⊢
      refine lv_istore_n (lv' := [(2, .int (iI 1)), (1, .int (iI 1)), (0, .ref (a 0))]) hx hb dX7_isText_11 rfl hl (by decide) rfl (fun ls hl => ?_)
      have loop12 : ∀ (n_4 : Nat) (q : Int) (o : Int) (c9 : Int) (B : Int → Int) (hi0 : 0 ≤ q ∧ q ≤ R 0 4) (hi1 : nmOK B) (hi2 : (o = 1 ∧ prsF (R 3) (R 0 4) q = (prsF (R 3) (R 0 4) (skp (R 3) (R 0 4) 0))) ∨ (o = 0 ∧ (prsF (R 3) (R 0 4) (skp (R 3) (R 0 4) 0)) = (0, q))) (hn : R 0 4 - q + o < (n_4 : Int)) (H : Heap) (locs : List Loc) (hP : va_P D vwCl (rfW cy a (upr (upr R 0 (ups (ups (R 0) 16 c9) 15 q)) 7 (B))) H) (hD : va_D (va_A (rfW cy a R) sz) (rfW cy a (upr (upr R 0 (ups (ups (R 0) 16 c9) 15 q)) 7 (B)))) (hS : va_S (va_A (rfW cy a R) sz) s.heap H locs) (ls : Array Slot) (hl : lv_has ls 3 [(1, .int (iI o)), (0, .ref (a 0))]), W p l e { frames := 4, cells := 0, slots := 0, locals := 85 } s m ([.ref (a 0)] : List Value).toArray below meth c H locs 0 0 (MQ below (kQi D (rfW cy a R) sz (fun u9 : Nat → Int → Int => rfW cy a u9) (fun r9 u9 => (∃ (zc : Int) (zb : Int → Int) (zx : Int), (nmOK zb ∧ (prsF (R 3) (R 0 4) (skp (R 3) (R 0 4) 0)) = (0, zx)) ∧ r9 = 0 ∧ u9 = (upr (upr R 0 (ups (ups (R 0) 16 zc) 15 zx)) 7 (zb))) ∨ (∃ (zc : Int) (zb : Int → Int) (zx : Int), (nmOK zb ∧ (prsF (R 3) (R 0 4) (skp (R 3) (R 0 4) 0)) = (1, zx)) ∧ r9 = 1 ∧ u9 = (upr (upr R 0 (ups (ups (R 0) 16 zc) 15 zx)) 7 (zb))))) ([.ref (a 0)] : List Value).toArray s 0 0 (va_A (rfW cy a R) sz)) (F0 m 12 ls []) := by
        intro n_4
        induction n_4 with
        | zero => intro q o c9 B hi0 hi1 hi2 hn H locs hP hD hS ls hl; have hoo : o = 0 ∨ o = 1 := (by rcases hi2 with h9 | h9 <;> omega); exfalso; omega
        | succ n_4 ih12 =>
          intro q o c9 B hi0 hi1 hi2 hn H locs hP hD hS ls hl
          have hoo : o = 0 ∨ o = 1 := by rcases hi2 with h9 | h9 <;> omega
          refine lv_iload_n hx hb dX7_isText_12 rfl (lv_at hl 0 rfl) ?_
          refine k_if_eq (tgt := 52) hx hb dX7_isText_13 (by decide) (by omega) (fun c_5 => ?_) (fun c_5 => ?_)
          · skip
            have hpe : (prsF (R 3) (R 0 4) (skp (R 3) (R 0 4) 0)) = (0, q) := by rcases hi2 with h9 | h9; omega; exact h9.2
            refine lv_iload_n hx hb dX7_isText_52 rfl (lv_at hl 0 rfl) ?_
            exact W.zret (v := iI o) hx hb hr (by exact bool_nar (by omega)) (fun t9 ht _ => ⟨⟨iI o, (upr (upr R 0 (ups (ups (R 0) 16 c9) 15 q)) 7 (B)), rfl, ⟨o, rfl, (by first | exact Or.inl ⟨(c9), (B), (q), (⟨hi1, hpe⟩), (by omega), rfl⟩ | exact Or.inr (⟨(c9), (B), (q), (⟨hi1, hpe⟩), (by omega), rfl⟩) : (∃ (zc : Int) (zb : Int → Int) (zx : Int), (nmOK zb ∧ (prsF (R 3) (R 0 4) (skp (R 3) (R 0 4) 0)) = (0, zx)) ∧ (o : Int) = 0 ∧ (upr (upr R 0 (ups (ups (R 0) 16 c9) 15 q)) 7 (B)) = (upr (upr R 0 (ups (ups (R 0) 16 zc) 15 zx)) 7 (zb))) ∨ (∃ (zc : Int) (zb : Int → Int) (zx : Int), (nmOK zb ∧ (prsF (R 3) (R 0 4) (skp (R 3) (R 0 4) 0)) = (1, zx)) ∧ (o : Int) = 1 ∧ (upr (upr R 0 (ups (ups (R 0) 16 c9) 15 q)) 7 (B)) = (upr (upr R 0 (ups (ups (R 0) 16 zc) 15 zx)) 7 (zb))))⟩, by rw [ht]; exact hP, hD⟩, hS.F ht⟩) hS.2.2 dX7_isText_53 hlocks
          · skip
            refine lv_aload_n hx hb dX7_isText_16 rfl (lv_at hl 1 rfl) ?_
            refine va_get (D := D) (ci := 6) (v := .int (iI q)) (C := RX7) (T := TX7) (N := 19) hx hb hts hinX7 hown hK hP 0 rfl rfl 15 (by decide) hmw0 (fun _ h9 => h9) rfl dX7_isText_17 ?_
            refine lv_aload_n hx hb dX7_isText_20 rfl (lv_at hl 1 rfl) ?_
            refine va_get (D := D) (ci := 6) (v := .int (iI (R 0 4))) (C := RX7) (T := TX7) (N := 19) hx hb hts hinX7 hown hK hP 0 rfl rfl 4 (by decide) hmw1 (fun _ h9 => h9) rfl dX7_isText_21 ?_
            refine k_icmp_ge (tgt := 52) hx hb dX7_isText_24 (by decide) (by omega) (by omega) (fun c_6 => ?_) (fun c_6 => ?_)
            · skip
              have hpe : (prsF (R 3) (R 0 4) (skp (R 3) (R 0 4) 0)) = (1, q) := by rcases hi2 with h9 | h9; (rw [← h9.2]; exact prsF_end (by omega)); omega
              refine lv_iload_n hx hb dX7_isText_52 rfl (lv_at hl 0 rfl) ?_
              exact W.zret (v := iI o) hx hb hr (by exact bool_nar (by omega)) (fun t9 ht _ => ⟨⟨iI o, (upr (upr R 0 (ups (ups (R 0) 16 c9) 15 q)) 7 (B)), rfl, ⟨o, rfl, (by first | exact Or.inl ⟨(c9), (B), (q), (⟨hi1, hpe⟩), (by omega), rfl⟩ | exact Or.inr (⟨(c9), (B), (q), (⟨hi1, hpe⟩), (by omega), rfl⟩) : (∃ (zc : Int) (zb : Int → Int) (zx : Int), (nmOK zb ∧ (prsF (R 3) (R 0 4) (skp (R 3) (R 0 4) 0)) = (0, zx)) ∧ (o : Int) = 0 ∧ (upr (upr R 0 (ups (ups (R 0) 16 c9) 15 q)) 7 (B)) = (upr (upr R 0 (ups (ups (R 0) 16 zc) 15 zx)) 7 (zb))) ∨ (∃ (zc : Int) (zb : Int → Int) (zx : Int), (nmOK zb ∧ (prsF (R 3) (R 0 4) (skp (R 3) (R 0 4) 0)) = (1, zx)) ∧ (o : Int) = 1 ∧ (upr (upr R 0 (ups (ups (R 0) 16 c9) 15 q)) 7 (B)) = (upr (upr R 0 (ups (ups (R 0) 16 zc) 15 zx)) 7 (zb))))⟩, by rw [ht]; exact hP, hD⟩, hS.F ht⟩) hS.2.2 dX7_isText_53 hlocks
            · skip
              have hor : prsF (R 3) (R 0 4) q = (prsF (R 3) (R 0 4) (skp (R 3) (R 0 4) 0)) := by rcases hi2 with h9 | h9; exact h9.2; omega
              have hoo1 : o = 1 := by omega
              refine lv_aload_n hx hb dX7_isText_27 rfl (lv_at hl 1 rfl) ?_
              refine k_mui (k_runV (As := []) (rest := []) ⟨hx, hb, hml, hown, hts⟩ (c_X7_readCommand l D cy H.size a (upr (upr R 0 (ups (ups (R 0) 16 c9) 15 q)) 7 (B)) (show 0 ≤ q ∧ q ≤ ((R 0 4)) by omega) (show ((R 0 4)) ≤ 150 by omega) (show ∀ k : Int, 0 ≤ k → k < 150 → 0 ≤ (R 3) k ∧ (R 3) k ≤ 127 by omega)) gX7_isText_X7_readCommand rfl ⟨rfl, rfl⟩ 0 rfl (by decide +kernel) ⟨Nat.le_of_ble_eq_true rfl, Nat.le_of_ble_eq_true rfl⟩ (GG_ok D cy) hG hS (k_free hD hS hA) hP hD (va_recv hK hP (ci := 6) (q0 := 0) rfl rfl) hl.1 rfl (Nat.le_of_ble_eq_true rfl) ⟨Nat.le_of_ble_eq_true rfl, Nat.le_of_ble_eq_true rfl⟩ dX7_isText_28) (k_free hD hS hA) hS (fun r_7 R_8 H1 locs1 hR_8 hP1 hD1 hS1 hk1 => ?_)
              rcases hR_8 with ⟨k9_10, c_9, hr_7, hR_8⟩ | ⟨x9_11, k9_12, b9_13, c_9, hr_7, hR_8⟩ | ⟨x9_14, k9_15, b9_16, c_9, hr_7, hR_8⟩
              · skip
                have c_9 : (prsC (R 3) (((R 0 4))) (q) (B)) = (0, q, k9_10, B) := c_9
                subst hr_7
                subst hR_8
                have hDn : va_D (va_A (rfW cy a R) sz) (rfW cy a (upr (upr R 0 (ups (ups (ups (ups (R 0) 16 c9) 15 q) 16 k9_10) 15 (q))) 7 (B))) := k_addr hD rfl
                have hPn : va_P D vwCl (rfW cy a (upr (upr R 0 (ups (ups (ups (ups (R 0) 16 c9) 15 q) 16 k9_10) 15 (q))) 7 (B))) H1 := hP1
                clear hP hD hS hP1 hD1 hk1
                have hP := hPn
                have hD := hDn
                have hS := hS1
                clear hPn hDn hS1
                generalize H1 = H at hP hS ⊢
                generalize locs1 = locs at hS ⊢
                have hpn := prsF_n0 (show q < R 0 4 by omega) c_9
                have hnm2 := hi1
                refine lv_istore_n (lv' := [(1, .int (iI 0)), (0, .ref (a 0))]) hx hb dX7_isText_31 rfl hl (by decide) rfl (fun ls hl => ?_)
                refine lv_iload_n hx hb dX7_isText_32 rfl (lv_at hl 0 rfl) ?_
                refine k_if_eq (tgt := 47) hx hb dX7_isText_33 (by decide) (by omega) (fun c_17 => ?_) (fun c_17 => ?_)
                · skip
                  refine k_iconst hx hb dX7_isText_47 ?_
                  refine lv_istore_n (lv' := [(2, .int (iI 0)), (1, .int (iI 0)), (0, .ref (a 0))]) hx hb dX7_isText_48 rfl hl (by decide) rfl (fun ls hl => ?_)
                  refine lv_goto (tgt := 12) hx hb dX7_isText_49 (by decide) ?_
                  exact ih12 q 0 k9_10 B  (by omega) (by first | exact hi1 | exact hnm2) (by first | exact Or.inr ⟨rfl, hor.symm.trans hpn⟩ | exact Or.inl ⟨hoo1, hpy.symm.trans hor⟩ | exact Or.inl ⟨rfl, hpy.symm.trans hor⟩) (by omega) H locs (by rw [show (ups (ups (R 0) 16 k9_10) 15 q) = (ups (ups (ups (ups (R 0) 16 c9) 15 q) 16 k9_10) 15 (q)) from by first | rfl | (funext k9; unfold ups; (repeat' split) <;> first | rfl | omega | (exfalso; omega))]; exact hP) (k_addr hD rfl) hS ls (lv_sub hl [1, 2] rfl)
                · exfalso; omega
              · skip
                have c_9 : (prsC (R 3) (((R 0 4))) (q) (B)) = (0, x9_11, k9_12, b9_13) ∧ 0 ≤ k9_12 ∧ k9_12 ≤ 6 := c_9
                subst hr_7
                subst hR_8
                have hDn : va_D (va_A (rfW cy a R) sz) (rfW cy a (upr (upr R 0 (ups (ups (ups (ups (R 0) 16 c9) 15 q) 16 k9_12) 15 x9_11)) 7 (b9_13))) := k_addr hD rfl
                have hPn : va_P D vwCl (rfW cy a (upr (upr R 0 (ups (ups (ups (ups (R 0) 16 c9) 15 q) 16 k9_12) 15 x9_11)) 7 (b9_13))) H1 := hP1
                clear hP hD hS hP1 hD1 hk1
                have hP := hPn
                have hD := hDn
                have hS := hS1
                clear hPn hDn hS1
                generalize H1 = H at hP hS ⊢
                generalize locs1 = locs at hS ⊢
                have hpn := prsF_n0 (show q < R 0 4 by omega) c_9.1
                have hcb := prsC_b0 hi0.2 c_9.1
                have hnm2 := prsC_n hi0.2 c_9.1 hi1
                refine lv_istore_n (lv' := [(1, .int (iI 0)), (0, .ref (a 0))]) hx hb dX7_isText_31 rfl hl (by decide) rfl (fun ls hl => ?_)
                refine lv_iload_n hx hb dX7_isText_32 rfl (lv_at hl 0 rfl) ?_
                refine k_if_eq (tgt := 47) hx hb dX7_isText_33 (by decide) (by omega) (fun c_18 => ?_) (fun c_18 => ?_)
                · skip
                  refine k_iconst hx hb dX7_isText_47 ?_
                  refine lv_istore_n (lv' := [(2, .int (iI 0)), (1, .int (iI 0)), (0, .ref (a 0))]) hx hb dX7_isText_48 rfl hl (by decide) rfl (fun ls hl => ?_)
                  refine lv_goto (tgt := 12) hx hb dX7_isText_49 (by decide) ?_
                  exact ih12 x9_11 0 k9_12 b9_13  (by omega) (by first | exact hi1 | exact hnm2) (by first | exact Or.inr ⟨rfl, hor.symm.trans hpn⟩ | exact Or.inl ⟨hoo1, hpy.symm.trans hor⟩ | exact Or.inl ⟨rfl, hpy.symm.trans hor⟩) (by omega) H locs (by rw [show (ups (ups (R 0) 16 k9_12) 15 x9_11) = (ups (ups (ups (ups (R 0) 16 c9) 15 q) 16 k9_12) 15 x9_11) from by first | rfl | (funext k9; unfold ups; (repeat' split) <;> first | rfl | omega | (exfalso; omega))]; exact hP) (k_addr hD rfl) hS ls (lv_sub hl [1, 2] rfl)
                · exfalso; omega
              · skip
                have c_9 : (prsC (R 3) (((R 0 4))) (q) (B)) = (1, x9_14, k9_15, b9_16) ∧ 0 ≤ k9_15 ∧ k9_15 ≤ 6 := c_9
                subst hr_7
                subst hR_8
                have hDn : va_D (va_A (rfW cy a R) sz) (rfW cy a (upr (upr R 0 (ups (ups (ups (ups (R 0) 16 c9) 15 q) 16 k9_15) 15 x9_14)) 7 (b9_16))) := k_addr hD rfl
                have hPn : va_P D vwCl (rfW cy a (upr (upr R 0 (ups (ups (ups (ups (R 0) 16 c9) 15 q) 16 k9_15) 15 x9_14)) 7 (b9_16))) H1 := hP1
                clear hP hD hS hP1 hD1 hk1
                have hP := hPn
                have hD := hDn
                have hS := hS1
                clear hPn hDn hS1
                generalize H1 = H at hP hS ⊢
                generalize locs1 = locs at hS ⊢
                have hpy := prsF_y1 hi0.1 htn (show q < R 0 4 by omega) c_9.1
                have hcb := prsC_b1 hi0.2 c_9.1
                have hnm2 := prsC_n hi0.2 c_9.1 hi1
                have hsb2 := skp_le (T := R 3) (n := R 0 4) (q := x9_14) (by omega)
                refine lv_istore_n (lv' := [(1, .int (iI 1)), (0, .ref (a 0))]) hx hb dX7_isText_31 rfl hl (by decide) rfl (fun ls hl => ?_)
                refine lv_iload_n hx hb dX7_isText_32 rfl (lv_at hl 0 rfl) ?_
                refine k_if_eq (tgt := 47) hx hb dX7_isText_33 (by decide) (by omega) (fun c_19 => ?_) (fun c_19 => ?_)
                · exfalso; omega
                · skip
                  refine lv_aload_n hx hb dX7_isText_36 rfl (lv_at hl 1 rfl) ?_
                  refine k_mui (k_runV (As := []) (rest := []) ⟨hx, hb, hml, hown, hts⟩ (c_X7_skips l D cy H.size a (upr (upr R 0 (ups (ups (ups (ups (R 0) 16 c9) 15 q) 16 k9_15) 15 x9_14)) 7 (b9_16)) (show 0 ≤ x9_14 ∧ x9_14 ≤ ((((R 0 4)))) by omega) (show ((((R 0 4)))) ≤ 150 by omega) (show ∀ k : Int, 0 ≤ k → k < 150 → 0 ≤ (R 3) k ∧ (R 3) k ≤ 127 by omega)) gX7_isText_X7_skips rfl ⟨rfl, rfl⟩ 0 rfl (by decide +kernel) ⟨Nat.le_of_ble_eq_true rfl, Nat.le_of_ble_eq_true rfl⟩ (GG_ok D cy) hG hS (k_free hD hS hA) hP hD (va_recv hK hP (ci := 6) (q0 := 0) rfl rfl) hl.1 rfl (Nat.le_of_ble_eq_true rfl) ⟨Nat.le_of_ble_eq_true rfl, Nat.le_of_ble_eq_true rfl⟩ dX7_isText_37) (k_free hD hS hA) hS (fun r_20 R_21 H1 locs1 hR_21 hP1 hD1 hS1 hk1 => ?_)
                  rcases hR_21 with ⟨c_22, hr_20, hR_21⟩ | ⟨c_22, hr_20, hR_21⟩
                  · skip
                    have c_22 : x9_14 < (skp (R 3) (((((R 0 4))))) (x9_14)) := c_22
                    subst hr_20
                    subst hR_21
                    have hDn : va_D (va_A (rfW cy a R) sz) (rfW cy a (upr (upr R 0 (ups (ups (ups (ups (ups (R 0) 16 c9) 15 q) 16 k9_15) 15 x9_14) 15 (skp (R 3) (((((R 0 4))))) (x9_14)))) 7 (b9_16))) := k_addr hD rfl
                    have hPn : va_P D vwCl (rfW cy a (upr (upr R 0 (ups (ups (ups (ups (ups (R 0) 16 c9) 15 q) 16 k9_15) 15 x9_14) 15 (skp (R 3) (((((R 0 4))))) (x9_14)))) 7 (b9_16))) H1 := hP1
                    clear hP hD hS hP1 hD1 hk1
                    have hP := hPn
                    have hD := hDn
                    have hS := hS1
                    clear hPn hDn hS1
                    generalize H1 = H at hP hS ⊢
                    generalize locs1 = locs at hS ⊢
                    refine k_if_eq (tgt := 47) hx hb dX7_isText_40 (by decide) (by omega) (fun c_23 => ?_) (fun c_23 => ?_)
                    · exfalso; omega
                    · skip
                      refine k_iconst hx hb dX7_isText_43 ?_
                      refine lv_goto (tgt := 48) hx hb dX7_isText_44 (by decide) ?_
                      refine lv_istore_n (lv' := [(2, .int (iI 1)), (1, .int (iI 1)), (0, .ref (a 0))]) hx hb dX7_isText_48 rfl hl (by decide) rfl (fun ls hl => ?_)
                      refine lv_goto (tgt := 12) hx hb dX7_isText_49 (by decide) ?_
                      exact ih12 (skp (R 3) (((((R 0 4))))) (x9_14)) 1 k9_15 b9_16  (by omega) (by first | exact hi1 | exact hnm2) (by first | exact Or.inr ⟨rfl, hor.symm.trans hpn⟩ | exact Or.inl ⟨hoo1, hpy.symm.trans hor⟩ | exact Or.inl ⟨rfl, hpy.symm.trans hor⟩) (by omega) H locs (by rw [show (ups (ups (R 0) 16 k9_15) 15 (skp (R 3) (((((R 0 4))))) (x9_14))) = (ups (ups (ups (ups (ups (R 0) 16 c9) 15 q) 16 k9_15) 15 x9_14) 15 (skp (R 3) (((((R 0 4))))) (x9_14))) from by first | rfl | (funext k9; unfold ups; (repeat' split) <;> first | rfl | omega | (exfalso; omega))]; exact hP) (k_addr hD rfl) hS ls (lv_sub hl [1, 2] rfl)
                  · skip
                    have c_22 : (skp (R 3) (((((R 0 4))))) (x9_14)) = x9_14 := c_22
                    subst hr_20
                    subst hR_21
                    have hDn : va_D (va_A (rfW cy a R) sz) (rfW cy a (upr (upr R 0 (ups (ups (ups (ups (ups (R 0) 16 c9) 15 q) 16 k9_15) 15 x9_14) 15 (skp (R 3) (((((R 0 4))))) (x9_14)))) 7 (b9_16))) := k_addr hD rfl
                    have hPn : va_P D vwCl (rfW cy a (upr (upr R 0 (ups (ups (ups (ups (ups (R 0) 16 c9) 15 q) 16 k9_15) 15 x9_14) 15 (skp (R 3) (((((R 0 4))))) (x9_14)))) 7 (b9_16))) H1 := hP1
                    clear hP hD hS hP1 hD1 hk1
                    have hP := hPn
                    have hD := hDn
                    have hS := hS1
                    clear hPn hDn hS1
                    generalize H1 = H at hP hS ⊢
                    generalize locs1 = locs at hS ⊢
                    refine k_if_eq (tgt := 47) hx hb dX7_isText_40 (by decide) (by omega) (fun c_24 => ?_) (fun c_24 => ?_)
                    · skip
                      refine k_iconst hx hb dX7_isText_47 ?_
                      refine lv_istore_n (lv' := [(2, .int (iI 0)), (1, .int (iI 1)), (0, .ref (a 0))]) hx hb dX7_isText_48 rfl hl (by decide) rfl (fun ls hl => ?_)
                      refine lv_goto (tgt := 12) hx hb dX7_isText_49 (by decide) ?_
                      exact ih12 (skp (R 3) (((((R 0 4))))) (x9_14)) 1 k9_15 b9_16  (by omega) (by first | exact hi1 | exact hnm2) (by first | exact Or.inr ⟨rfl, hor.symm.trans hpn⟩ | exact Or.inl ⟨hoo1, hpy.symm.trans hor⟩ | exact Or.inl ⟨rfl, hpy.symm.trans hor⟩) (by omega) H locs (by rw [show (ups (ups (R 0) 16 k9_15) 15 (skp (R 3) (((((R 0 4))))) (x9_14))) = (ups (ups (ups (ups (ups (R 0) 16 c9) 15 q) 16 k9_15) 15 x9_14) 15 (skp (R 3) (((((R 0 4))))) (x9_14))) from by first | rfl | (funext k9; unfold ups; (repeat' split) <;> first | rfl | omega | (exfalso; omega))]; exact hP) (k_addr hD rfl) hS ls (lv_sub hl [1, 2] rfl)
                    · exfalso; omega
      exact loop12 ((R 0 4 - (skp (R 3) ((R 0 4)) (0)) + 1 : Int) + 1).toNat (skp (R 3) ((R 0 4)) (0)) 1 (R 0 16) (R 7)  (by omega) (hnm) (Or.inl ⟨rfl, rfl⟩) (by omega) H locs (by rw [show (ups (ups (R 0) 16 (R 0 16)) 15 (skp (R 3) ((R 0 4)) (0))) = (ups (ups (R 0) 15 0) 15 (skp (R 3) ((R 0 4)) (0))) from by rw [ups_self, ups_ups]]; exact hP) (k_addr hD rfl) hS ls (lv_sub hl [1, 2] rfl)
    · skip
      have c_3 : (skp (R 3) ((R 0 4)) (0)) = 0 := c_3
      subst hr_1
      subst hR_2
      have hDn : va_D (va_A (rfW cy a R) sz) (rfW cy a (upr R 0 (ups (ups (R 0) 15 0) 15 (skp (R 3) ((R 0 4)) (0))))) := k_addr hD rfl
      have hPn : va_P D vwCl (rfW cy a (upr R 0 (ups (ups (R 0) 15 0) 15 (skp (R 3) ((R 0 4)) (0))))) H1 := hP1
      clear hP hD hS hP1 hD1 hk1
      have hP := hPn
      have hD := hDn
      have hS := hS1
      clear hPn hDn hS1
      generalize H1 = H at hP hS ⊢
      generalize locs1 = locs at hS ⊢
      refine lv_istore_n (lv' := [(2, .int (iI 0)), (1, .int (iI 1)), (0, .ref (a 0))]) hx hb dX7_isText_11 rfl hl (by decide) rfl (fun ls hl => ?_)
      have loop12 : ∀ (n_25 : Nat) (q : Int) (o : Int) (c9 : Int) (B : Int → Int) (hi0 : 0 ≤ q ∧ q ≤ R 0 4) (hi1 : nmOK B) (hi2 : (o = 1 ∧ prsF (R 3) (R 0 4) q = (prsF (R 3) (R 0 4) (skp (R 3) (R 0 4) 0))) ∨ (o = 0 ∧ (prsF (R 3) (R 0 4) (skp (R 3) (R 0 4) 0)) = (0, q))) (hn : R 0 4 - q + o < (n_25 : Int)) (H : Heap) (locs : List Loc) (hP : va_P D vwCl (rfW cy a (upr (upr R 0 (ups (ups (R 0) 16 c9) 15 q)) 7 (B))) H) (hD : va_D (va_A (rfW cy a R) sz) (rfW cy a (upr (upr R 0 (ups (ups (R 0) 16 c9) 15 q)) 7 (B)))) (hS : va_S (va_A (rfW cy a R) sz) s.heap H locs) (ls : Array Slot) (hl : lv_has ls 3 [(1, .int (iI o)), (0, .ref (a 0))]), W p l e { frames := 4, cells := 0, slots := 0, locals := 85 } s m ([.ref (a 0)] : List Value).toArray below meth c H locs 0 0 (MQ below (kQi D (rfW cy a R) sz (fun u9 : Nat → Int → Int => rfW cy a u9) (fun r9 u9 => (∃ (zc : Int) (zb : Int → Int) (zx : Int), (nmOK zb ∧ (prsF (R 3) (R 0 4) (skp (R 3) (R 0 4) 0)) = (0, zx)) ∧ r9 = 0 ∧ u9 = (upr (upr R 0 (ups (ups (R 0) 16 zc) 15 zx)) 7 (zb))) ∨ (∃ (zc : Int) (zb : Int → Int) (zx : Int), (nmOK zb ∧ (prsF (R 3) (R 0 4) (skp (R 3) (R 0 4) 0)) = (1, zx)) ∧ r9 = 1 ∧ u9 = (upr (upr R 0 (ups (ups (R 0) 16 zc) 15 zx)) 7 (zb))))) ([.ref (a 0)] : List Value).toArray s 0 0 (va_A (rfW cy a R) sz)) (F0 m 12 ls []) := by
        intro n_25
        induction n_25 with
        | zero => intro q o c9 B hi0 hi1 hi2 hn H locs hP hD hS ls hl; have hoo : o = 0 ∨ o = 1 := (by rcases hi2 with h9 | h9 <;> omega); exfalso; omega
        | succ n_25 ih12 =>
          intro q o c9 B hi0 hi1 hi2 hn H locs hP hD hS ls hl
          have hoo : o = 0 ∨ o = 1 := by rcases hi2 with h9 | h9 <;> omega
          refine lv_iload_n hx hb dX7_isText_12 rfl (lv_at hl 0 rfl) ?_
          refine k_if_eq (tgt := 52) hx hb dX7_isText_13 (by decide) (by omega) (fun c_26 => ?_) (fun c_26 => ?_)
          · skip
            have hpe : (prsF (R 3) (R 0 4) (skp (R 3) (R 0 4) 0)) = (0, q) := by rcases hi2 with h9 | h9; omega; exact h9.2
            refine lv_iload_n hx hb dX7_isText_52 rfl (lv_at hl 0 rfl) ?_
            exact W.zret (v := iI o) hx hb hr (by exact bool_nar (by omega)) (fun t9 ht _ => ⟨⟨iI o, (upr (upr R 0 (ups (ups (R 0) 16 c9) 15 q)) 7 (B)), rfl, ⟨o, rfl, (by first | exact Or.inl ⟨(c9), (B), (q), (⟨hi1, hpe⟩), (by omega), rfl⟩ | exact Or.inr (⟨(c9), (B), (q), (⟨hi1, hpe⟩), (by omega), rfl⟩) : (∃ (zc : Int) (zb : Int → Int) (zx : Int), (nmOK zb ∧ (prsF (R 3) (R 0 4) (skp (R 3) (R 0 4) 0)) = (0, zx)) ∧ (o : Int) = 0 ∧ (upr (upr R 0 (ups (ups (R 0) 16 c9) 15 q)) 7 (B)) = (upr (upr R 0 (ups (ups (R 0) 16 zc) 15 zx)) 7 (zb))) ∨ (∃ (zc : Int) (zb : Int → Int) (zx : Int), (nmOK zb ∧ (prsF (R 3) (R 0 4) (skp (R 3) (R 0 4) 0)) = (1, zx)) ∧ (o : Int) = 1 ∧ (upr (upr R 0 (ups (ups (R 0) 16 c9) 15 q)) 7 (B)) = (upr (upr R 0 (ups (ups (R 0) 16 zc) 15 zx)) 7 (zb))))⟩, by rw [ht]; exact hP, hD⟩, hS.F ht⟩) hS.2.2 dX7_isText_53 hlocks
          · skip
            refine lv_aload_n hx hb dX7_isText_16 rfl (lv_at hl 1 rfl) ?_
            refine va_get (D := D) (ci := 6) (v := .int (iI q)) (C := RX7) (T := TX7) (N := 19) hx hb hts hinX7 hown hK hP 0 rfl rfl 15 (by decide) hmw0 (fun _ h9 => h9) rfl dX7_isText_17 ?_
            refine lv_aload_n hx hb dX7_isText_20 rfl (lv_at hl 1 rfl) ?_
            refine va_get (D := D) (ci := 6) (v := .int (iI (R 0 4))) (C := RX7) (T := TX7) (N := 19) hx hb hts hinX7 hown hK hP 0 rfl rfl 4 (by decide) hmw1 (fun _ h9 => h9) rfl dX7_isText_21 ?_
            refine k_icmp_ge (tgt := 52) hx hb dX7_isText_24 (by decide) (by omega) (by omega) (fun c_27 => ?_) (fun c_27 => ?_)
            · skip
              have hpe : (prsF (R 3) (R 0 4) (skp (R 3) (R 0 4) 0)) = (1, q) := by rcases hi2 with h9 | h9; (rw [← h9.2]; exact prsF_end (by omega)); omega
              refine lv_iload_n hx hb dX7_isText_52 rfl (lv_at hl 0 rfl) ?_
              exact W.zret (v := iI o) hx hb hr (by exact bool_nar (by omega)) (fun t9 ht _ => ⟨⟨iI o, (upr (upr R 0 (ups (ups (R 0) 16 c9) 15 q)) 7 (B)), rfl, ⟨o, rfl, (by first | exact Or.inl ⟨(c9), (B), (q), (⟨hi1, hpe⟩), (by omega), rfl⟩ | exact Or.inr (⟨(c9), (B), (q), (⟨hi1, hpe⟩), (by omega), rfl⟩) : (∃ (zc : Int) (zb : Int → Int) (zx : Int), (nmOK zb ∧ (prsF (R 3) (R 0 4) (skp (R 3) (R 0 4) 0)) = (0, zx)) ∧ (o : Int) = 0 ∧ (upr (upr R 0 (ups (ups (R 0) 16 c9) 15 q)) 7 (B)) = (upr (upr R 0 (ups (ups (R 0) 16 zc) 15 zx)) 7 (zb))) ∨ (∃ (zc : Int) (zb : Int → Int) (zx : Int), (nmOK zb ∧ (prsF (R 3) (R 0 4) (skp (R 3) (R 0 4) 0)) = (1, zx)) ∧ (o : Int) = 1 ∧ (upr (upr R 0 (ups (ups (R 0) 16 c9) 15 q)) 7 (B)) = (upr (upr R 0 (ups (ups (R 0) 16 zc) 15 zx)) 7 (zb))))⟩, by rw [ht]; exact hP, hD⟩, hS.F ht⟩) hS.2.2 dX7_isText_53 hlocks
            · skip
              have hor : prsF (R 3) (R 0 4) q = (prsF (R 3) (R 0 4) (skp (R 3) (R 0 4) 0)) := by rcases hi2 with h9 | h9; exact h9.2; omega
              have hoo1 : o = 1 := by omega
              refine lv_aload_n hx hb dX7_isText_27 rfl (lv_at hl 1 rfl) ?_
              refine k_mui (k_runV (As := []) (rest := []) ⟨hx, hb, hml, hown, hts⟩ (c_X7_readCommand l D cy H.size a (upr (upr R 0 (ups (ups (R 0) 16 c9) 15 q)) 7 (B)) (show 0 ≤ q ∧ q ≤ ((R 0 4)) by omega) (show ((R 0 4)) ≤ 150 by omega) (show ∀ k : Int, 0 ≤ k → k < 150 → 0 ≤ (R 3) k ∧ (R 3) k ≤ 127 by omega)) gX7_isText_X7_readCommand rfl ⟨rfl, rfl⟩ 0 rfl (by decide +kernel) ⟨Nat.le_of_ble_eq_true rfl, Nat.le_of_ble_eq_true rfl⟩ (GG_ok D cy) hG hS (k_free hD hS hA) hP hD (va_recv hK hP (ci := 6) (q0 := 0) rfl rfl) hl.1 rfl (Nat.le_of_ble_eq_true rfl) ⟨Nat.le_of_ble_eq_true rfl, Nat.le_of_ble_eq_true rfl⟩ dX7_isText_28) (k_free hD hS hA) hS (fun r_28 R_29 H1 locs1 hR_29 hP1 hD1 hS1 hk1 => ?_)
              rcases hR_29 with ⟨k9_31, c_30, hr_28, hR_29⟩ | ⟨x9_32, k9_33, b9_34, c_30, hr_28, hR_29⟩ | ⟨x9_35, k9_36, b9_37, c_30, hr_28, hR_29⟩
              · skip
                have c_30 : (prsC (R 3) (((R 0 4))) (q) (B)) = (0, q, k9_31, B) := c_30
                subst hr_28
                subst hR_29
                have hDn : va_D (va_A (rfW cy a R) sz) (rfW cy a (upr (upr R 0 (ups (ups (ups (ups (R 0) 16 c9) 15 q) 16 k9_31) 15 (q))) 7 (B))) := k_addr hD rfl
                have hPn : va_P D vwCl (rfW cy a (upr (upr R 0 (ups (ups (ups (ups (R 0) 16 c9) 15 q) 16 k9_31) 15 (q))) 7 (B))) H1 := hP1
                clear hP hD hS hP1 hD1 hk1
                have hP := hPn
                have hD := hDn
                have hS := hS1
                clear hPn hDn hS1
                generalize H1 = H at hP hS ⊢
                generalize locs1 = locs at hS ⊢
                have hpn := prsF_n0 (show q < R 0 4 by omega) c_30
                have hnm2 := hi1
                refine lv_istore_n (lv' := [(1, .int (iI 0)), (0, .ref (a 0))]) hx hb dX7_isText_31 rfl hl (by decide) rfl (fun ls hl => ?_)
                refine lv_iload_n hx hb dX7_isText_32 rfl (lv_at hl 0 rfl) ?_
                refine k_if_eq (tgt := 47) hx hb dX7_isText_33 (by decide) (by omega) (fun c_38 => ?_) (fun c_38 => ?_)
                · skip
                  refine k_iconst hx hb dX7_isText_47 ?_
                  refine lv_istore_n (lv' := [(2, .int (iI 0)), (1, .int (iI 0)), (0, .ref (a 0))]) hx hb dX7_isText_48 rfl hl (by decide) rfl (fun ls hl => ?_)
                  refine lv_goto (tgt := 12) hx hb dX7_isText_49 (by decide) ?_
                  exact ih12 q 0 k9_31 B  (by omega) (by first | exact hi1 | exact hnm2) (by first | exact Or.inr ⟨rfl, hor.symm.trans hpn⟩ | exact Or.inl ⟨hoo1, hpy.symm.trans hor⟩ | exact Or.inl ⟨rfl, hpy.symm.trans hor⟩) (by omega) H locs (by rw [show (ups (ups (R 0) 16 k9_31) 15 q) = (ups (ups (ups (ups (R 0) 16 c9) 15 q) 16 k9_31) 15 (q)) from by first | rfl | (funext k9; unfold ups; (repeat' split) <;> first | rfl | omega | (exfalso; omega))]; exact hP) (k_addr hD rfl) hS ls (lv_sub hl [1, 2] rfl)
                · exfalso; omega
              · skip
                have c_30 : (prsC (R 3) (((R 0 4))) (q) (B)) = (0, x9_32, k9_33, b9_34) ∧ 0 ≤ k9_33 ∧ k9_33 ≤ 6 := c_30
                subst hr_28
                subst hR_29
                have hDn : va_D (va_A (rfW cy a R) sz) (rfW cy a (upr (upr R 0 (ups (ups (ups (ups (R 0) 16 c9) 15 q) 16 k9_33) 15 x9_32)) 7 (b9_34))) := k_addr hD rfl
                have hPn : va_P D vwCl (rfW cy a (upr (upr R 0 (ups (ups (ups (ups (R 0) 16 c9) 15 q) 16 k9_33) 15 x9_32)) 7 (b9_34))) H1 := hP1
                clear hP hD hS hP1 hD1 hk1
                have hP := hPn
                have hD := hDn
                have hS := hS1
                clear hPn hDn hS1
                generalize H1 = H at hP hS ⊢
                generalize locs1 = locs at hS ⊢
                have hpn := prsF_n0 (show q < R 0 4 by omega) c_30.1
                have hcb := prsC_b0 hi0.2 c_30.1
                have hnm2 := prsC_n hi0.2 c_30.1 hi1
                refine lv_istore_n (lv' := [(1, .int (iI 0)), (0, .ref (a 0))]) hx hb dX7_isText_31 rfl hl (by decide) rfl (fun ls hl => ?_)
                refine lv_iload_n hx hb dX7_isText_32 rfl (lv_at hl 0 rfl) ?_
                refine k_if_eq (tgt := 47) hx hb dX7_isText_33 (by decide) (by omega) (fun c_39 => ?_) (fun c_39 => ?_)
                · skip
                  refine k_iconst hx hb dX7_isText_47 ?_
                  refine lv_istore_n (lv' := [(2, .int (iI 0)), (1, .int (iI 0)), (0, .ref (a 0))]) hx hb dX7_isText_48 rfl hl (by decide) rfl (fun ls hl => ?_)
                  refine lv_goto (tgt := 12) hx hb dX7_isText_49 (by decide) ?_
                  exact ih12 x9_32 0 k9_33 b9_34  (by omega) (by first | exact hi1 | exact hnm2) (by first | exact Or.inr ⟨rfl, hor.symm.trans hpn⟩ | exact Or.inl ⟨hoo1, hpy.symm.trans hor⟩ | exact Or.inl ⟨rfl, hpy.symm.trans hor⟩) (by omega) H locs (by rw [show (ups (ups (R 0) 16 k9_33) 15 x9_32) = (ups (ups (ups (ups (R 0) 16 c9) 15 q) 16 k9_33) 15 x9_32) from by first | rfl | (funext k9; unfold ups; (repeat' split) <;> first | rfl | omega | (exfalso; omega))]; exact hP) (k_addr hD rfl) hS ls (lv_sub hl [1, 2] rfl)
                · exfalso; omega
              · skip
                have c_30 : (prsC (R 3) (((R 0 4))) (q) (B)) = (1, x9_35, k9_36, b9_37) ∧ 0 ≤ k9_36 ∧ k9_36 ≤ 6 := c_30
                subst hr_28
                subst hR_29
                have hDn : va_D (va_A (rfW cy a R) sz) (rfW cy a (upr (upr R 0 (ups (ups (ups (ups (R 0) 16 c9) 15 q) 16 k9_36) 15 x9_35)) 7 (b9_37))) := k_addr hD rfl
                have hPn : va_P D vwCl (rfW cy a (upr (upr R 0 (ups (ups (ups (ups (R 0) 16 c9) 15 q) 16 k9_36) 15 x9_35)) 7 (b9_37))) H1 := hP1
                clear hP hD hS hP1 hD1 hk1
                have hP := hPn
                have hD := hDn
                have hS := hS1
                clear hPn hDn hS1
                generalize H1 = H at hP hS ⊢
                generalize locs1 = locs at hS ⊢
                have hpy := prsF_y1 hi0.1 htn (show q < R 0 4 by omega) c_30.1
                have hcb := prsC_b1 hi0.2 c_30.1
                have hnm2 := prsC_n hi0.2 c_30.1 hi1
                have hsb2 := skp_le (T := R 3) (n := R 0 4) (q := x9_35) (by omega)
                refine lv_istore_n (lv' := [(1, .int (iI 1)), (0, .ref (a 0))]) hx hb dX7_isText_31 rfl hl (by decide) rfl (fun ls hl => ?_)
                refine lv_iload_n hx hb dX7_isText_32 rfl (lv_at hl 0 rfl) ?_
                refine k_if_eq (tgt := 47) hx hb dX7_isText_33 (by decide) (by omega) (fun c_40 => ?_) (fun c_40 => ?_)
                · exfalso; omega
                · skip
                  refine lv_aload_n hx hb dX7_isText_36 rfl (lv_at hl 1 rfl) ?_
                  refine k_mui (k_runV (As := []) (rest := []) ⟨hx, hb, hml, hown, hts⟩ (c_X7_skips l D cy H.size a (upr (upr R 0 (ups (ups (ups (ups (R 0) 16 c9) 15 q) 16 k9_36) 15 x9_35)) 7 (b9_37)) (show 0 ≤ x9_35 ∧ x9_35 ≤ ((((R 0 4)))) by omega) (show ((((R 0 4)))) ≤ 150 by omega) (show ∀ k : Int, 0 ≤ k → k < 150 → 0 ≤ (R 3) k ∧ (R 3) k ≤ 127 by omega)) gX7_isText_X7_skips rfl ⟨rfl, rfl⟩ 0 rfl (by decide +kernel) ⟨Nat.le_of_ble_eq_true rfl, Nat.le_of_ble_eq_true rfl⟩ (GG_ok D cy) hG hS (k_free hD hS hA) hP hD (va_recv hK hP (ci := 6) (q0 := 0) rfl rfl) hl.1 rfl (Nat.le_of_ble_eq_true rfl) ⟨Nat.le_of_ble_eq_true rfl, Nat.le_of_ble_eq_true rfl⟩ dX7_isText_37) (k_free hD hS hA) hS (fun r_41 R_42 H1 locs1 hR_42 hP1 hD1 hS1 hk1 => ?_)
                  rcases hR_42 with ⟨c_43, hr_41, hR_42⟩ | ⟨c_43, hr_41, hR_42⟩
                  · skip
                    have c_43 : x9_35 < (skp (R 3) (((((R 0 4))))) (x9_35)) := c_43
                    subst hr_41
                    subst hR_42
                    have hDn : va_D (va_A (rfW cy a R) sz) (rfW cy a (upr (upr R 0 (ups (ups (ups (ups (ups (R 0) 16 c9) 15 q) 16 k9_36) 15 x9_35) 15 (skp (R 3) (((((R 0 4))))) (x9_35)))) 7 (b9_37))) := k_addr hD rfl
                    have hPn : va_P D vwCl (rfW cy a (upr (upr R 0 (ups (ups (ups (ups (ups (R 0) 16 c9) 15 q) 16 k9_36) 15 x9_35) 15 (skp (R 3) (((((R 0 4))))) (x9_35)))) 7 (b9_37))) H1 := hP1
                    clear hP hD hS hP1 hD1 hk1
                    have hP := hPn
                    have hD := hDn
                    have hS := hS1
                    clear hPn hDn hS1
                    generalize H1 = H at hP hS ⊢
                    generalize locs1 = locs at hS ⊢
                    refine k_if_eq (tgt := 47) hx hb dX7_isText_40 (by decide) (by omega) (fun c_44 => ?_) (fun c_44 => ?_)
                    · exfalso; omega
                    · skip
                      refine k_iconst hx hb dX7_isText_43 ?_
                      refine lv_goto (tgt := 48) hx hb dX7_isText_44 (by decide) ?_
                      refine lv_istore_n (lv' := [(2, .int (iI 1)), (1, .int (iI 1)), (0, .ref (a 0))]) hx hb dX7_isText_48 rfl hl (by decide) rfl (fun ls hl => ?_)
                      refine lv_goto (tgt := 12) hx hb dX7_isText_49 (by decide) ?_
                      exact ih12 (skp (R 3) (((((R 0 4))))) (x9_35)) 1 k9_36 b9_37  (by omega) (by first | exact hi1 | exact hnm2) (by first | exact Or.inr ⟨rfl, hor.symm.trans hpn⟩ | exact Or.inl ⟨hoo1, hpy.symm.trans hor⟩ | exact Or.inl ⟨rfl, hpy.symm.trans hor⟩) (by omega) H locs (by rw [show (ups (ups (R 0) 16 k9_36) 15 (skp (R 3) (((((R 0 4))))) (x9_35))) = (ups (ups (ups (ups (ups (R 0) 16 c9) 15 q) 16 k9_36) 15 x9_35) 15 (skp (R 3) (((((R 0 4))))) (x9_35))) from by first | rfl | (funext k9; unfold ups; (repeat' split) <;> first | rfl | omega | (exfalso; omega))]; exact hP) (k_addr hD rfl) hS ls (lv_sub hl [1, 2] rfl)
                  · skip
                    have c_43 : (skp (R 3) (((((R 0 4))))) (x9_35)) = x9_35 := c_43
                    subst hr_41
                    subst hR_42
                    have hDn : va_D (va_A (rfW cy a R) sz) (rfW cy a (upr (upr R 0 (ups (ups (ups (ups (ups (R 0) 16 c9) 15 q) 16 k9_36) 15 x9_35) 15 (skp (R 3) (((((R 0 4))))) (x9_35)))) 7 (b9_37))) := k_addr hD rfl
                    have hPn : va_P D vwCl (rfW cy a (upr (upr R 0 (ups (ups (ups (ups (ups (R 0) 16 c9) 15 q) 16 k9_36) 15 x9_35) 15 (skp (R 3) (((((R 0 4))))) (x9_35)))) 7 (b9_37))) H1 := hP1
                    clear hP hD hS hP1 hD1 hk1
                    have hP := hPn
                    have hD := hDn
                    have hS := hS1
                    clear hPn hDn hS1
                    generalize H1 = H at hP hS ⊢
                    generalize locs1 = locs at hS ⊢
                    refine k_if_eq (tgt := 47) hx hb dX7_isText_40 (by decide) (by omega) (fun c_45 => ?_) (fun c_45 => ?_)
                    · skip
                      refine k_iconst hx hb dX7_isText_47 ?_
                      refine lv_istore_n (lv' := [(2, .int (iI 0)), (1, .int (iI 1)), (0, .ref (a 0))]) hx hb dX7_isText_48 rfl hl (by decide) rfl (fun ls hl => ?_)
                      refine lv_goto (tgt := 12) hx hb dX7_isText_49 (by decide) ?_
                      exact ih12 (skp (R 3) (((((R 0 4))))) (x9_35)) 1 k9_36 b9_37  (by omega) (by first | exact hi1 | exact hnm2) (by first | exact Or.inr ⟨rfl, hor.symm.trans hpn⟩ | exact Or.inl ⟨hoo1, hpy.symm.trans hor⟩ | exact Or.inl ⟨rfl, hpy.symm.trans hor⟩) (by omega) H locs (by rw [show (ups (ups (R 0) 16 k9_36) 15 (skp (R 3) (((((R 0 4))))) (x9_35))) = (ups (ups (ups (ups (ups (R 0) 16 c9) 15 q) 16 k9_36) 15 x9_35) 15 (skp (R 3) (((((R 0 4))))) (x9_35))) from by first | rfl | (funext k9; unfold ups; (repeat' split) <;> first | rfl | omega | (exfalso; omega))]; exact hP) (k_addr hD rfl) hS ls (lv_sub hl [1, 2] rfl)
                    · exfalso; omega
      exact loop12 ((R 0 4 - (skp (R 3) ((R 0 4)) (0)) + 1 : Int) + 1).toNat (skp (R 3) ((R 0 4)) (0)) 1 (R 0 16) (R 7)  (by omega) (hnm) (Or.inl ⟨rfl, rfl⟩) (by omega) H locs (by rw [show (ups (ups (R 0) 16 (R 0 16)) 15 (skp (R 3) ((R 0 4)) (0))) = (ups (ups (R 0) 15 0) 15 (skp (R 3) ((R 0 4)) (0))) from by rw [ups_self, ups_ups]]; exact hP) (k_addr hD rfl) hS ls (lv_sub hl [1, 2] rfl)
  exact hbody s.heap [] hP hS ls hl
set_option maxHeartbeats 4000000 in
set_option maxRecDepth 100000 in
theorem c_X7_whyNot (l : Launch) (D : va_G) (cy : Nat → ClassId) (a : Nat → Nat) (R : Nat → Int → Int)  (hI : Inv (R 1)) (hcm : 0 ≤ R 0 16 ∧ R 0 16 ≤ 6) (hnm : nmOK (R 7)) : Met l yX7_whyNot wsX7_whyNot { frames := 4, cells := 0, slots := 0, locals := 91 } (kPre (GG D cy) D (rfW cy a R) ([.ref (a 0)] : List Value)) (kRO (fun r => r = ftV (R 1) (R 0 16) (R 7))) 0 0 (fun _ => False) := by
  refine kRO_start (cc := cX7_whyNot) (maxL := 1) (ret := (some .int)) (by decide) rfl (Nat.le_of_ble_eq_true rfl) ?_
  intro p e s m below meth c hx hb hr hlocks hml hts hown hG hP ls hl
  have hK := hG.1
  have hl : lv_has ls 1 [(0, .ref (a 0))] := hl
  have hinX7 : ∀ w ∈ u_ws RX7 TX7 19, w ∈ wsX7_whyNot := by decide +kernel
  have hmw0 := hts (.fieldLink RX7 280 "ArcPlateModel" "command" "I") (by decide +kernel)
  have hmw1 := hts (.fieldLink RX7 28 "ArcPlateModel" "numbers" "[I") (by decide +kernel)
  have hA0 := hnm 0 (by decide) (by decide)
  have hA1 := hnm 1 (by decide) (by decide)
  have hA2 := hnm 2 (by decide) (by decide)
  have hA3 := hnm 3 (by decide) (by decide)
  refine lv_aload_n hx hb dX7_whyNot_0 rfl (lv_at hl 0 rfl) ?_
  refine va_get (D := D) (ci := 6) (v := .int (iI (R 0 16))) (C := RX7) (T := TX7) (N := 19) hx hb hts hinX7 hown hK hP 0 rfl rfl 16 (by decide) hmw0 (fun _ h9 => h9) rfl dX7_whyNot_1 ?_
  rcases (show (R 0 16) = 0 ∨ (R 0 16) = 1 ∨ (R 0 16) = 2 ∨ (R 0 16) = 3 ∨ (R 0 16) = 4 ∨ (R 0 16) = 5 ∨ ((R 0 16) < 0 ∨ 5 < (R 0 16)) by omega) with c_1 | c_1 | c_1 | c_1 | c_1 | c_1 | c_1
  · skip
    refine k_tin (tgt := 44) hx hb 0 c_1 (by decide) dX7_whyNot_4 (by decide) (by decide) rfl (by decide) ?_
    refine lv_aload_n hx hb dX7_whyNot_44 rfl (lv_at hl 0 rfl) ?_
    refine k_roV (As := []) (rest := []) ⟨hx, hb, hml, hown, hts⟩ (c_X7_notTrail l D cy a R hI) gX7_whyNot_X7_notTrail rfl ⟨rfl, rfl⟩ 0 rfl (by decide +kernel) ⟨Nat.le_of_ble_eq_true rfl, Nat.le_of_ble_eq_true rfl⟩ (GG_ok D cy) hG hP (va_recv hK hP (ci := 6) (q0 := 0) rfl rfl) hl.1 rfl (Nat.le_of_ble_eq_true rfl) ⟨Nat.le_of_ble_eq_true rfl, Nat.le_of_ble_eq_true rfl⟩ dX7_whyNot_45 (fun r_2 hr_2 => ?_)
    have hr_2 : ((R 1 12 = 12) ∧ r_2 = 3) ∨ ((R 1 12 < 12) ∧ r_2 = 0) := hr_2
    rcases hr_2 with ⟨c_3, hr_2⟩ | ⟨c_3, hr_2⟩ <;> subst hr_2
    · skip
      exact W.iret (v := iI 3) hx hb hr (fun t9 ht _ => ⟨3, rfl, (by rw [(fv_0 (by omega)).1]; first | (rw [if_pos (by omega)]; done) | (rw [if_neg (by omega)]; done) : (3 : Int) = ftV (R 1) (R 0 16) (R 7)), ht⟩) (fun _ h => nomatch h) dX7_whyNot_48 hlocks
    · skip
      exact W.iret (v := iI 0) hx hb hr (fun t9 ht _ => ⟨0, rfl, (by rw [(fv_0 (by omega)).1]; first | (rw [if_pos (by omega)]; done) | (rw [if_neg (by omega)]; done) : (0 : Int) = ftV (R 1) (R 0 16) (R 7)), ht⟩) (fun _ h => nomatch h) dX7_whyNot_48 hlocks
  · skip
    refine k_tin (tgt := 49) hx hb 1 c_1 (by decide) dX7_whyNot_4 (by decide) (by decide) rfl (by decide) ?_
    refine lv_aload_n hx hb dX7_whyNot_49 rfl (lv_at hl 0 rfl) ?_
    refine lv_aload_n hx hb dX7_whyNot_50 rfl (lv_at hl 0 rfl) ?_
    refine va_get (D := D) (ci := 6) (v := .ref (a 7)) (C := RX7) (T := TX7) (N := 19) hx hb hts hinX7 hown hK hP 0 rfl rfl 17 (by decide) hmw1 (fun _ h9 => h9) rfl dX7_whyNot_51 ?_
    refine k_iconst hx hb dX7_whyNot_54 ?_
    refine k_iald hx hb hK hP 7 0 (f := R 7) rfl rfl (i := 0) (by omega) dX7_whyNot_55 ?_
    refine lv_aload_n hx hb dX7_whyNot_56 rfl (lv_at hl 0 rfl) ?_
    refine va_get (D := D) (ci := 6) (v := .ref (a 7)) (C := RX7) (T := TX7) (N := 19) hx hb hts hinX7 hown hK hP 0 rfl rfl 17 (by decide) hmw1 (fun _ h9 => h9) rfl dX7_whyNot_57 ?_
    refine k_iconst hx hb dX7_whyNot_60 ?_
    refine k_iald hx hb hK hP 7 0 (f := R 7) rfl rfl (i := 1) (by omega) dX7_whyNot_61 ?_
    refine lv_aload_n hx hb dX7_whyNot_62 rfl (lv_at hl 0 rfl) ?_
    refine va_get (D := D) (ci := 6) (v := .ref (a 7)) (C := RX7) (T := TX7) (N := 19) hx hb hts hinX7 hown hK hP 0 rfl rfl 17 (by decide) hmw1 (fun _ h9 => h9) rfl dX7_whyNot_63 ?_
    refine k_iconst hx hb dX7_whyNot_66 ?_
    refine k_iald hx hb hK hP 7 0 (f := R 7) rfl rfl (i := 2) (by omega) dX7_whyNot_67 ?_
    refine lv_aload_n hx hb dX7_whyNot_68 rfl (lv_at hl 0 rfl) ?_
    refine va_get (D := D) (ci := 6) (v := .ref (a 7)) (C := RX7) (T := TX7) (N := 19) hx hb hts hinX7 hown hK hP 0 rfl rfl 17 (by decide) hmw1 (fun _ h9 => h9) rfl dX7_whyNot_69 ?_
    refine k_iconst hx hb dX7_whyNot_72 ?_
    refine k_iald hx hb hK hP 7 0 (f := R 7) rfl rfl (i := 3) (by omega) dX7_whyNot_73 ?_
    refine k_roV (As := [.int (iI (R 7 0)), .int (iI (R 7 1)), .int (iI (R 7 2)), .int (iI (R 7 3))]) (rest := []) ⟨hx, hb, hml, hown, hts⟩ (c_X7_notPoint l D cy a R (R 7 0) (R 7 1) (R 7 2) (R 7 3) hI (show -2147483648 ≤ (R 7 0) ∧ (R 7 0) ≤ 2147483647 by omega) (show -2147483648 ≤ (R 7 1) ∧ (R 7 1) ≤ 2147483647 by omega) (show -2147483648 ≤ (R 7 2) ∧ (R 7 2) ≤ 2147483647 by omega) (show -2147483648 ≤ (R 7 3) ∧ (R 7 3) ≤ 2147483647 by omega)) gX7_whyNot_X7_notPoint rfl ⟨rfl, rfl⟩ 4 rfl (by decide +kernel) ⟨Nat.le_of_ble_eq_true rfl, Nat.le_of_ble_eq_true rfl⟩ (GG_ok D cy) hG hP (va_recv hK hP (ci := 6) (q0 := 0) rfl rfl) hl.1 rfl (Nat.le_of_ble_eq_true rfl) ⟨Nat.le_of_ble_eq_true rfl, Nat.le_of_ble_eq_true rfl⟩ dX7_whyNot_74 (fun r_4 hr_4 => ?_)
    have hr_4 : ((¬ (0 ≤ (R 7 0) ∧ (R 7 0) < R 1 12)) ∧ r_4 = 1) ∨ (((0 ≤ (R 7 0) ∧ (R 7 0) < R 1 12) ∧ ¬ pointOK (R 7 1) (R 7 2) (R 7 3)) ∧ r_4 = 2) ∨ ((((0 ≤ (R 7 0) ∧ (R 7 0) < R 1 12) ∧ pointOK (R 7 1) (R 7 2) (R 7 3)) ∧ (pts (R 1) (R 7 0) = 12 ∨ hasF (R 1) (R 7 0) (R 7 1))) ∧ r_4 = 3) ∨ ((((0 ≤ (R 7 0) ∧ (R 7 0) < R 1 12) ∧ pointOK (R 7 1) (R 7 2) (R 7 3)) ∧ (pts (R 1) (R 7 0) < 12 ∧ ¬ hasF (R 1) (R 7 0) (R 7 1))) ∧ r_4 = 0) := hr_4
    rcases hr_4 with ⟨c_5, hr_4⟩ | ⟨c_5, hr_4⟩ | ⟨c_5, hr_4⟩ | ⟨c_5, hr_4⟩ <;> subst hr_4
    · skip
      exact W.iret (v := iI 1) hx hb hr (fun t9 ht _ => ⟨1, rfl, (by rw [(fv_1 (by omega)).1]; first | exact (ftP_1 (by assumption)).symm | exact (ftP_2 (by assumption)).symm | exact (ftP_3 (by assumption)).symm | exact (ftP_0 (by assumption)).symm : (1 : Int) = ftV (R 1) (R 0 16) (R 7)), ht⟩) (fun _ h => nomatch h) dX7_whyNot_77 hlocks
    · skip
      exact W.iret (v := iI 2) hx hb hr (fun t9 ht _ => ⟨2, rfl, (by rw [(fv_1 (by omega)).1]; first | exact (ftP_1 (by assumption)).symm | exact (ftP_2 (by assumption)).symm | exact (ftP_3 (by assumption)).symm | exact (ftP_0 (by assumption)).symm : (2 : Int) = ftV (R 1) (R 0 16) (R 7)), ht⟩) (fun _ h => nomatch h) dX7_whyNot_77 hlocks
    · skip
      exact W.iret (v := iI 3) hx hb hr (fun t9 ht _ => ⟨3, rfl, (by rw [(fv_1 (by omega)).1]; first | exact (ftP_1 (by assumption)).symm | exact (ftP_2 (by assumption)).symm | exact (ftP_3 (by assumption)).symm | exact (ftP_0 (by assumption)).symm : (3 : Int) = ftV (R 1) (R 0 16) (R 7)), ht⟩) (fun _ h => nomatch h) dX7_whyNot_77 hlocks
    · skip
      exact W.iret (v := iI 0) hx hb hr (fun t9 ht _ => ⟨0, rfl, (by rw [(fv_1 (by omega)).1]; first | exact (ftP_1 (by assumption)).symm | exact (ftP_2 (by assumption)).symm | exact (ftP_3 (by assumption)).symm | exact (ftP_0 (by assumption)).symm : (0 : Int) = ftV (R 1) (R 0 16) (R 7)), ht⟩) (fun _ h => nomatch h) dX7_whyNot_77 hlocks
  · skip
    refine k_tin (tgt := 78) hx hb 2 c_1 (by decide) dX7_whyNot_4 (by decide) (by decide) rfl (by decide) ?_
    refine lv_aload_n hx hb dX7_whyNot_78 rfl (lv_at hl 0 rfl) ?_
    refine lv_aload_n hx hb dX7_whyNot_79 rfl (lv_at hl 0 rfl) ?_
    refine va_get (D := D) (ci := 6) (v := .ref (a 7)) (C := RX7) (T := TX7) (N := 19) hx hb hts hinX7 hown hK hP 0 rfl rfl 17 (by decide) hmw1 (fun _ h9 => h9) rfl dX7_whyNot_80 ?_
    refine k_iconst hx hb dX7_whyNot_83 ?_
    refine k_iald hx hb hK hP 7 0 (f := R 7) rfl rfl (i := 0) (by omega) dX7_whyNot_84 ?_
    refine lv_aload_n hx hb dX7_whyNot_85 rfl (lv_at hl 0 rfl) ?_
    refine va_get (D := D) (ci := 6) (v := .ref (a 7)) (C := RX7) (T := TX7) (N := 19) hx hb hts hinX7 hown hK hP 0 rfl rfl 17 (by decide) hmw1 (fun _ h9 => h9) rfl dX7_whyNot_86 ?_
    refine k_iconst hx hb dX7_whyNot_89 ?_
    refine k_iald hx hb hK hP 7 0 (f := R 7) rfl rfl (i := 1) (by omega) dX7_whyNot_90 ?_
    refine lv_aload_n hx hb dX7_whyNot_91 rfl (lv_at hl 0 rfl) ?_
    refine va_get (D := D) (ci := 6) (v := .ref (a 7)) (C := RX7) (T := TX7) (N := 19) hx hb hts hinX7 hown hK hP 0 rfl rfl 17 (by decide) hmw1 (fun _ h9 => h9) rfl dX7_whyNot_92 ?_
    refine k_iconst hx hb dX7_whyNot_95 ?_
    refine k_iald hx hb hK hP 7 0 (f := R 7) rfl rfl (i := 2) (by omega) dX7_whyNot_96 ?_
    refine k_roV (As := [.int (iI (R 7 0)), .int (iI (R 7 1)), .int (iI (R 7 2))]) (rest := []) ⟨hx, hb, hml, hown, hts⟩ (c_X7_notStar l D cy a R (R 7 0) (R 7 1) (R 7 2) hI (show -2147483648 ≤ (R 7 0) ∧ (R 7 0) ≤ 2147483647 by omega) (show -2147483648 ≤ (R 7 1) ∧ (R 7 1) ≤ 2147483647 by omega) (show -2147483648 ≤ (R 7 2) ∧ (R 7 2) ≤ 2147483647 by omega)) gX7_whyNot_X7_notStar rfl ⟨rfl, rfl⟩ 3 rfl (by decide +kernel) ⟨Nat.le_of_ble_eq_true rfl, Nat.le_of_ble_eq_true rfl⟩ (GG_ok D cy) hG hP (va_recv hK hP (ci := 6) (q0 := 0) rfl rfl) hl.1 rfl (Nat.le_of_ble_eq_true rfl) ⟨Nat.le_of_ble_eq_true rfl, Nat.le_of_ble_eq_true rfl⟩ dX7_whyNot_97 (fun r_6 hr_6 => ?_)
    have hr_6 : ((starOK (R 7 0) (R 7 1) (R 7 2) ∧ R 1 13 < 12) ∧ r_6 = 0) ∨ ((¬ starOK (R 7 0) (R 7 1) (R 7 2)) ∧ r_6 = 2) ∨ ((starOK (R 7 0) (R 7 1) (R 7 2) ∧ R 1 13 = 12) ∧ r_6 = 3) := hr_6
    rcases hr_6 with ⟨c_7, hr_6⟩ | ⟨c_7, hr_6⟩ | ⟨c_7, hr_6⟩ <;> subst hr_6
    · skip
      exact W.iret (v := iI 0) hx hb hr (fun t9 ht _ => ⟨0, rfl, (by rw [(fv_2 (by omega)).1]; first | exact (ftS_0 (by assumption)).symm | exact (ftS_2 (by assumption)).symm | exact (ftS_3 (by assumption)).symm : (0 : Int) = ftV (R 1) (R 0 16) (R 7)), ht⟩) (fun _ h => nomatch h) dX7_whyNot_100 hlocks
    · skip
      exact W.iret (v := iI 2) hx hb hr (fun t9 ht _ => ⟨2, rfl, (by rw [(fv_2 (by omega)).1]; first | exact (ftS_0 (by assumption)).symm | exact (ftS_2 (by assumption)).symm | exact (ftS_3 (by assumption)).symm : (2 : Int) = ftV (R 1) (R 0 16) (R 7)), ht⟩) (fun _ h => nomatch h) dX7_whyNot_100 hlocks
    · skip
      exact W.iret (v := iI 3) hx hb hr (fun t9 ht _ => ⟨3, rfl, (by rw [(fv_2 (by omega)).1]; first | exact (ftS_0 (by assumption)).symm | exact (ftS_2 (by assumption)).symm | exact (ftS_3 (by assumption)).symm : (3 : Int) = ftV (R 1) (R 0 16) (R 7)), ht⟩) (fun _ h => nomatch h) dX7_whyNot_100 hlocks
  · skip
    refine k_tin (tgt := 101) hx hb 3 c_1 (by decide) dX7_whyNot_4 (by decide) (by decide) rfl (by decide) ?_
    refine lv_aload_n hx hb dX7_whyNot_101 rfl (lv_at hl 0 rfl) ?_
    refine va_get (D := D) (ci := 6) (v := .ref (a 7)) (C := RX7) (T := TX7) (N := 19) hx hb hts hinX7 hown hK hP 0 rfl rfl 17 (by decide) hmw1 (fun _ h9 => h9) rfl dX7_whyNot_102 ?_
    refine k_iconst hx hb dX7_whyNot_105 ?_
    refine k_iald hx hb hK hP 7 0 (f := R 7) rfl rfl (i := 0) (by omega) dX7_whyNot_106 ?_
    refine lv_aload_n hx hb dX7_whyNot_107 rfl (lv_at hl 0 rfl) ?_
    refine va_get (D := D) (ci := 6) (v := .ref (a 7)) (C := RX7) (T := TX7) (N := 19) hx hb hts hinX7 hown hK hP 0 rfl rfl 17 (by decide) hmw1 (fun _ h9 => h9) rfl dX7_whyNot_108 ?_
    refine k_iconst hx hb dX7_whyNot_111 ?_
    refine k_iald hx hb hK hP 7 0 (f := R 7) rfl rfl (i := 1) (by omega) dX7_whyNot_112 ?_
    refine k_roS (As := [.int (iI (R 7 0)), .int (iI (R 7 1))]) (rest := []) ⟨hx, hb, hml, hown, hts⟩ (c_X7_notPole l D (R 7 0) (R 7 1) (show -2147483648 ≤ (R 7 0) ∧ (R 7 0) ≤ 2147483647 by omega) (show -2147483648 ≤ (R 7 1) ∧ (R 7 1) ≤ 2147483647 by omega)) gX7_whyNot_X7_notPole rfl ⟨rfl, rfl⟩ 2 rfl (by decide +kernel) ⟨Nat.le_of_ble_eq_true rfl, Nat.le_of_ble_eq_true rfl⟩ kGT_ok trivial (fun k q h => by simp at h) hl.1 rfl (Nat.le_of_ble_eq_true rfl) ⟨Nat.le_of_ble_eq_true rfl, Nat.le_of_ble_eq_true rfl⟩ dX7_whyNot_113 (fun r_8 hr_8 => ?_)
    have hr_8 : ((poleOK (R 7 0) (R 7 1)) ∧ r_8 = 0) ∨ ((¬ poleOK (R 7 0) (R 7 1)) ∧ r_8 = 2) := hr_8
    rcases hr_8 with ⟨c_9, hr_8⟩ | ⟨c_9, hr_8⟩ <;> subst hr_8
    · skip
      exact W.iret (v := iI 0) hx hb hr (fun t9 ht _ => ⟨0, rfl, (by rw [(fv_3 (by omega)).1]; first | exact (okV_y (by assumption)).symm | exact (okV_n (by assumption)).symm : (0 : Int) = ftV (R 1) (R 0 16) (R 7)), ht⟩) (fun _ h => nomatch h) dX7_whyNot_116 hlocks
    · skip
      exact W.iret (v := iI 2) hx hb hr (fun t9 ht _ => ⟨2, rfl, (by rw [(fv_3 (by omega)).1]; first | exact (okV_y (by assumption)).symm | exact (okV_n (by assumption)).symm : (2 : Int) = ftV (R 1) (R 0 16) (R 7)), ht⟩) (fun _ h => nomatch h) dX7_whyNot_116 hlocks
  · skip
    refine k_tin (tgt := 117) hx hb 4 c_1 (by decide) dX7_whyNot_4 (by decide) (by decide) rfl (by decide) ?_
    refine lv_aload_n hx hb dX7_whyNot_117 rfl (lv_at hl 0 rfl) ?_
    refine va_get (D := D) (ci := 6) (v := .ref (a 7)) (C := RX7) (T := TX7) (N := 19) hx hb hts hinX7 hown hK hP 0 rfl rfl 17 (by decide) hmw1 (fun _ h9 => h9) rfl dX7_whyNot_118 ?_
    refine k_iconst hx hb dX7_whyNot_121 ?_
    refine k_iald hx hb hK hP 7 0 (f := R 7) rfl rfl (i := 0) (by omega) dX7_whyNot_122 ?_
    refine lv_aload_n hx hb dX7_whyNot_123 rfl (lv_at hl 0 rfl) ?_
    refine va_get (D := D) (ci := 6) (v := .ref (a 7)) (C := RX7) (T := TX7) (N := 19) hx hb hts hinX7 hown hK hP 0 rfl rfl 17 (by decide) hmw1 (fun _ h9 => h9) rfl dX7_whyNot_124 ?_
    refine k_iconst hx hb dX7_whyNot_127 ?_
    refine k_iald hx hb hK hP 7 0 (f := R 7) rfl rfl (i := 1) (by omega) dX7_whyNot_128 ?_
    refine k_roS (As := [.int (iI (R 7 0)), .int (iI (R 7 1))]) (rest := []) ⟨hx, hb, hml, hown, hts⟩ (c_X7_notSet l D (R 7 0) (R 7 1) (show -2147483648 ≤ (R 7 0) ∧ (R 7 0) ≤ 2147483647 by omega) (show -2147483648 ≤ (R 7 1) ∧ (R 7 1) ≤ 2147483647 by omega)) gX7_whyNot_X7_notSet rfl ⟨rfl, rfl⟩ 2 rfl (by decide +kernel) ⟨Nat.le_of_ble_eq_true rfl, Nat.le_of_ble_eq_true rfl⟩ kGT_ok trivial (fun k q h => by simp at h) hl.1 rfl (Nat.le_of_ble_eq_true rfl) ⟨Nat.le_of_ble_eq_true rfl, Nat.le_of_ble_eq_true rfl⟩ dX7_whyNot_129 (fun r_10 hr_10 => ?_)
    have hr_10 : ((setOK (R 7 0) (R 7 1)) ∧ r_10 = 0) ∨ ((¬ setOK (R 7 0) (R 7 1)) ∧ r_10 = 2) := hr_10
    rcases hr_10 with ⟨c_11, hr_10⟩ | ⟨c_11, hr_10⟩ <;> subst hr_10
    · skip
      exact W.iret (v := iI 0) hx hb hr (fun t9 ht _ => ⟨0, rfl, (by rw [(fv_4 (by omega)).1]; first | exact (okV_y (by assumption)).symm | exact (okV_n (by assumption)).symm : (0 : Int) = ftV (R 1) (R 0 16) (R 7)), ht⟩) (fun _ h => nomatch h) dX7_whyNot_132 hlocks
    · skip
      exact W.iret (v := iI 2) hx hb hr (fun t9 ht _ => ⟨2, rfl, (by rw [(fv_4 (by omega)).1]; first | exact (okV_y (by assumption)).symm | exact (okV_n (by assumption)).symm : (2 : Int) = ftV (R 1) (R 0 16) (R 7)), ht⟩) (fun _ h => nomatch h) dX7_whyNot_132 hlocks
  · skip
    refine k_tin (tgt := 133) hx hb 5 c_1 (by decide) dX7_whyNot_4 (by decide) (by decide) rfl (by decide) ?_
    refine k_iconst hx hb dX7_whyNot_133 ?_
    refine lv_aload_n hx hb dX7_whyNot_134 rfl (lv_at hl 0 rfl) ?_
    refine va_get (D := D) (ci := 6) (v := .ref (a 7)) (C := RX7) (T := TX7) (N := 19) hx hb hts hinX7 hown hK hP 0 rfl rfl 17 (by decide) hmw1 (fun _ h9 => h9) rfl dX7_whyNot_135 ?_
    refine k_iconst hx hb dX7_whyNot_138 ?_
    refine k_iald hx hb hK hP 7 0 (f := R 7) rfl rfl (i := 0) (by omega) dX7_whyNot_139 ?_
    refine k_ineg hx hb dX7_whyNot_140 ?_
    refine k_roS (As := [.int (iI 0), .int (iI (-(R 7 0)))]) (rest := []) ⟨hx, hb, hml, hown, hts⟩ (c_X7_notSet l D 0 (-(R 7 0)) (show -2147483648 ≤ 0 ∧ 0 ≤ 2147483647 by omega) (show -2147483648 ≤ (-(R 7 0)) ∧ (-(R 7 0)) ≤ 2147483647 by omega)) gX7_whyNot_X7_notSet rfl ⟨rfl, rfl⟩ 2 rfl (by decide +kernel) ⟨Nat.le_of_ble_eq_true rfl, Nat.le_of_ble_eq_true rfl⟩ kGT_ok trivial (fun k q h => by simp at h) hl.1 rfl (Nat.le_of_ble_eq_true rfl) ⟨Nat.le_of_ble_eq_true rfl, Nat.le_of_ble_eq_true rfl⟩ dX7_whyNot_141 (fun r_12 hr_12 => ?_)
    have hr_12 : ((setOK 0 (-(R 7 0))) ∧ r_12 = 0) ∨ ((¬ setOK 0 (-(R 7 0))) ∧ r_12 = 2) := hr_12
    rcases hr_12 with ⟨c_13, hr_12⟩ | ⟨c_13, hr_12⟩ <;> subst hr_12
    · skip
      exact W.iret (v := iI 0) hx hb hr (fun t9 ht _ => ⟨0, rfl, (by rw [(fv_5 (by omega)).1]; first | exact (okV_y (by assumption)).symm | exact (okV_n (by assumption)).symm : (0 : Int) = ftV (R 1) (R 0 16) (R 7)), ht⟩) (fun _ h => nomatch h) dX7_whyNot_144 hlocks
    · skip
      exact W.iret (v := iI 2) hx hb hr (fun t9 ht _ => ⟨2, rfl, (by rw [(fv_5 (by omega)).1]; first | exact (okV_y (by assumption)).symm | exact (okV_n (by assumption)).symm : (2 : Int) = ftV (R 1) (R 0 16) (R 7)), ht⟩) (fun _ h => nomatch h) dX7_whyNot_144 hlocks
  · skip
    refine k_tout (tgt := 145) hx hb (by omega) dX7_whyNot_4 c_1 (by decide) ?_
    refine lv_aload_n hx hb dX7_whyNot_145 rfl (lv_at hl 0 rfl) ?_
    refine va_get (D := D) (ci := 6) (v := .ref (a 7)) (C := RX7) (T := TX7) (N := 19) hx hb hts hinX7 hown hK hP 0 rfl rfl 17 (by decide) hmw1 (fun _ h9 => h9) rfl dX7_whyNot_146 ?_
    refine k_iconst hx hb dX7_whyNot_149 ?_
    refine k_iald hx hb hK hP 7 0 (f := R 7) rfl rfl (i := 0) (by omega) dX7_whyNot_150 ?_
    refine k_roS (As := [.int (iI (R 7 0))]) (rest := []) ⟨hx, hb, hml, hown, hts⟩ (c_X7_notSearch l D (R 7 0) (show -2147483648 ≤ (R 7 0) ∧ (R 7 0) ≤ 2147483647 by omega)) gX7_whyNot_X7_notSearch rfl ⟨rfl, rfl⟩ 1 rfl (by decide +kernel) ⟨Nat.le_of_ble_eq_true rfl, Nat.le_of_ble_eq_true rfl⟩ kGT_ok trivial (fun k q h => by simp at h) hl.1 rfl (Nat.le_of_ble_eq_true rfl) ⟨Nat.le_of_ble_eq_true rfl, Nat.le_of_ble_eq_true rfl⟩ dX7_whyNot_151 (fun r_14 hr_14 => ?_)
    have hr_14 : ((1 ≤ (R 7 0) ∧ (R 7 0) ≤ 512) ∧ r_14 = 0) ∨ ((¬ (1 ≤ (R 7 0) ∧ (R 7 0) ≤ 512)) ∧ r_14 = 2) := hr_14
    rcases hr_14 with ⟨c_15, hr_14⟩ | ⟨c_15, hr_14⟩ <;> subst hr_14
    · skip
      exact W.iret (v := iI 0) hx hb hr (fun t9 ht _ => ⟨0, rfl, (by rw [(fv_6 (by omega)).1]; first | exact (okV_y (by assumption)).symm | exact (okV_n (by assumption)).symm : (0 : Int) = ftV (R 1) (R 0 16) (R 7)), ht⟩) (fun _ h => nomatch h) dX7_whyNot_154 hlocks
    · skip
      exact W.iret (v := iI 2) hx hb hr (fun t9 ht _ => ⟨2, rfl, (by rw [(fv_6 (by omega)).1]; first | exact (okV_y (by assumption)).symm | exact (okV_n (by assumption)).symm : (2 : Int) = ftV (R 1) (R 0 16) (R 7)), ht⟩) (fun _ h => nomatch h) dX7_whyNot_154 hlocks
