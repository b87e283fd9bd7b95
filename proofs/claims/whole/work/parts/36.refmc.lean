set_option maxHeartbeats 4000000 in
set_option maxRecDepth 100000 in
theorem c_X7_here (l : Launch) (D : va_G) (cy : Nat → ClassId) (a : Nat → Nat) (R : Nat → Int → Int)  (hpl : 0 ≤ R 0 15 ∧ R 0 15 ≤ R 0 4) (htn : R 0 4 ≤ 150) : Met l yX7_here wsX7_here { frames := 0, cells := 0, slots := 0, locals := 0 } (kPre (GG D cy) D (rfW cy a R) ([.ref (a 0)] : List Value)) (kRO (fun r => ((R 0 15 < R 0 4) ∧ r = R 3 (R 0 15)) ∨ ((R 0 4 ≤ R 0 15) ∧ r = -1000000000))) 0 0 (fun _ => False) := by
  refine kRO_start (cc := cX7_here) (maxL := 1) (ret := (some .int)) (by decide) rfl (Nat.le_of_ble_eq_true rfl) ?_
  intro p e s m below meth c hx hb hr hlocks hml hts hown hG hP ls hl
  have hK := hG.1
  have hl : lv_has ls 1 [(0, .ref (a 0))] := hl
  have hinX7 : ∀ w ∈ u_ws RX7 TX7 19, w ∈ wsX7_here := by decide +kernel
  have hmw0 := hts (.fieldLink RX7 250 "ArcPlateModel" "place" "I") (by decide +kernel)
  have hmw1 := hts (.fieldLink RX7 247 "ArcPlateModel" "textLength" "I") (by decide +kernel)
  have hmw2 := hts (.constant RX7 109 (-1000000000)) (by decide +kernel)
  have hmw3 := hts (.fieldLink RX7 16 "ArcPlateModel" "text" "[I") (by decide +kernel)
  refine lv_aload_n hx hb dX7_here_0 rfl (lv_at hl 0 rfl) ?_
  refine va_get (D := D) (ci := 6) (v := .int (iI (R 0 15))) (C := RX7) (T := TX7) (N := 19) hx hb hts hinX7 hown hK hP 0 rfl rfl 15 (by decide) hmw0 (fun _ h9 => h9) rfl dX7_here_1 ?_
  refine lv_aload_n hx hb dX7_here_4 rfl (lv_at hl 0 rfl) ?_
  refine va_get (D := D) (ci := 6) (v := .int (iI (R 0 4))) (C := RX7) (T := TX7) (N := 19) hx hb hts hinX7 hown hK hP 0 rfl rfl 4 (by decide) hmw1 (fun _ h9 => h9) rfl dX7_here_5 ?_
  refine k_icmp_ge (tgt := 23) hx hb dX7_here_8 (by decide) (by omega) (by omega) (fun c_1 => ?_) (fun c_1 => ?_)
  · skip
    refine k_ldc (z := (-1000000000)) hx hb hown hmw2 (by decide +kernel) dX7_here_23 ?_
    exact W.iret (v := iI (-1000000000)) hx hb hr (fun t9 ht _ => ⟨(-1000000000), rfl, (by omega : ((R 0 15 < R 0 4) ∧ ((-1000000000) : Int) = R 3 (R 0 15)) ∨ ((R 0 4 ≤ R 0 15) ∧ ((-1000000000) : Int) = -1000000000)), ht⟩) (fun _ h => nomatch h) dX7_here_25 hlocks
  · skip
    refine lv_aload_n hx hb dX7_here_11 rfl (lv_at hl 0 rfl) ?_
    refine va_get (D := D) (ci := 6) (v := .ref (a 3)) (C := RX7) (T := TX7) (N := 19) hx hb hts hinX7 hown hK hP 0 rfl rfl 3 (by decide) hmw3 (fun _ h9 => h9) rfl dX7_here_12 ?_
    refine lv_aload_n hx hb dX7_here_15 rfl (lv_at hl 0 rfl) ?_
    refine va_get (D := D) (ci := 6) (v := .int (iI (R 0 15))) (C := RX7) (T := TX7) (N := 19) hx hb hts hinX7 hown hK hP 0 rfl rfl 15 (by decide) hmw0 (fun _ h9 => h9) rfl dX7_here_16 ?_
    refine k_iald hx hb hK hP 3 0 (f := R 3) rfl rfl (i := R 0 15) (by omega) dX7_here_19 ?_
    refine lv_goto (tgt := 25) hx hb dX7_here_20 (by decide) ?_
    exact W.iret (v := iI (R 3 (R 0 15))) hx hb hr (fun t9 ht _ => ⟨(R 3 (R 0 15)), rfl, (by omega : ((R 0 15 < R 0 4) ∧ (R 3 (R 0 15) : Int) = R 3 (R 0 15)) ∨ ((R 0 4 ≤ R 0 15) ∧ (R 3 (R 0 15) : Int) = -1000000000)), ht⟩) (fun _ h => nomatch h) dX7_here_25 hlocks
set_option maxHeartbeats 4000000 in
set_option maxRecDepth 100000 in
theorem c_X7_skips (l : Launch) (D : va_G) (cy : Nat → ClassId) (sz : Nat) (a : Nat → Nat) (R : Nat → Int → Int)  (hpl : 0 ≤ R 0 15 ∧ R 0 15 ≤ R 0 4) (htn : R 0 4 ≤ 150) (hT : ∀ k : Int, 0 ≤ k → k < 150 → 0 ≤ R 3 k ∧ R 3 k ≤ 127) : Met l yX7_skips wsX7_skips { frames := 1, cells := 0, slots := 0, locals := 20 } (mPre (GG D cy) D (rfW cy a R) sz ([.ref (a 0)] : List Value)) (kQi D (rfW cy a R) sz (fun u9 : Nat → Int → Int => rfW cy a u9) (fun r9 u9 => ((R 0 15 < (skp (R 3) (R 0 4) (R 0 15))) ∧ r9 = 1 ∧ u9 = (upr R 0 (ups (R 0) 15 (skp (R 3) (R 0 4) (R 0 15))))) ∨ (((skp (R 3) (R 0 4) (R 0 15)) = R 0 15) ∧ r9 = 0 ∧ u9 = (upr R 0 (ups (R 0) 15 (skp (R 3) (R 0 4) (R 0 15))))))) 0 0 (va_A (rfW cy a R) sz) := by
  refine kM_start (cc := cX7_skips) (maxL := 2) (ret := (some .boolean)) (by decide) rfl (Nat.le_of_ble_eq_true rfl) ?_
  intro p e s m below meth c hx hb hr hlocks hml hts hown hsz hA hG hP hD hS hin ls hl
  have hK := hG.1
  have hl : lv_has ls 2 [(0, .ref (a 0))] := hl
  have hinX7 : ∀ w ∈ u_ws RX7 TX7 19, w ∈ wsX7_skips := by decide +kernel
  have hmw0 := hts (.fieldLink RX7 250 "ArcPlateModel" "place" "I") (by decide +kernel)
  have hbody : ∀ (H : Heap) (locs : List Loc) (hP : va_P D vwCl (rfW cy a R) H) (hS : va_S (va_A (rfW cy a R) sz) s.heap H locs) (ls : Array Slot) (hl : lv_has ls 2 [(0, .ref (a 0))]), W p l e { frames := 1, cells := 0, slots := 0, locals := 20 } s m ([.ref (a 0)] : List Value).toArray below meth c H locs 0 0 (MQ below (kQi D (rfW cy a R) sz (fun u9 : Nat → Int → Int => rfW cy a u9) (fun r9 u9 => ((R 0 15 < (skp (R 3) (R 0 4) (R 0 15))) ∧ r9 = 1 ∧ u9 = (upr R 0 (ups (R 0) 15 (skp (R 3) (R 0 4) (R 0 15))))) ∨ (((skp (R 3) (R 0 4) (R 0 15)) = R 0 15) ∧ r9 = 0 ∧ u9 = (upr R 0 (ups (R 0) 15 (skp (R 3) (R 0 4) (R 0 15))))))) ([.ref (a 0)] : List Value).toArray s 0 0 (va_A (rfW cy a R) sz)) (F0 m 0 ls []) := by
    intro H locs hP hS ls hl
    refine lv_aload_n hx hb dX7_skips_0 rfl (lv_at hl 0 rfl) ?_
    refine va_get (D := D) (ci := 6) (v := .int (iI (R 0 15))) (C := RX7) (T := TX7) (N := 19) hx hb hts hinX7 hown hK hP 0 rfl rfl 15 (by decide) hmw0 (fun _ h9 => h9) rfl dX7_skips_1 ?_
    refine lv_istore_n (lv' := [(1, .int (iI (R 0 15))), (0, .ref (a 0))]) hx hb dX7_skips_4 rfl hl (by decide) rfl (fun ls hl => ?_)
    have loop5 : ∀ (n_1 : Nat) (q : Int) (hi0 : R 0 15 ≤ q) (hi1 : q ≤ R 0 4) (hi2 : skp (R 3) (R 0 4) q = (skp (R 3) (R 0 4) (R 0 15))) (hn : R 0 4 - q < (n_1 : Int)) (H : Heap) (locs : List Loc) (hP : va_P D vwCl (rfW cy a (upr R 0 (ups (R 0) 15 q))) H) (hD : va_D (va_A (rfW cy a R) sz) (rfW cy a (upr R 0 (ups (R 0) 15 q)))) (hS : va_S (va_A (rfW cy a R) sz) s.heap H locs) (ls : Array Slot) (hl : lv_has ls 2 [(1, .int (iI (R 0 15))), (0, .ref (a 0))]), W p l e { frames := 1, cells := 0, slots := 0, locals := 20 } s m ([.ref (a 0)] : List Value).toArray below meth c H locs 0 0 (MQ below (kQi D (rfW cy a R) sz (fun u9 : Nat → Int → Int => rfW cy a u9) (fun r9 u9 => ((R 0 15 < (skp (R 3) (R 0 4) (R 0 15))) ∧ r9 = 1 ∧ u9 = (upr R 0 (ups (R 0) 15 (skp (R 3) (R 0 4) (R 0 15))))) ∨ (((skp (R 3) (R 0 4) (R 0 15)) = R 0 15) ∧ r9 = 0 ∧ u9 = (upr R 0 (ups (R 0) 15 (skp (R 3) (R 0 4) (R 0 15))))))) ([.ref (a 0)] : List Value).toArray s 0 0 (va_A (rfW cy a R) sz)) (F0 m 5 ls []) := by
      intro n_1
      induction n_1 with
      | zero => intro q hi0 hi1 hi2 hn H locs hP hD hS ls hl; exfalso; omega
      | succ n_1 ih5 =>
        intro q hi0 hi1 hi2 hn H locs hP hD hS ls hl
        refine lv_aload_n hx hb dX7_skips_5 rfl (lv_at hl 1 rfl) ?_
        refine k_roV (As := []) (rest := []) ⟨hx, hb, hml, hown, hts⟩ (c_X7_here l D cy a (upr R 0 (ups (R 0) 15 q)) (show 0 ≤ q ∧ q ≤ (R 0 4) by omega) (show (R 0 4) ≤ 150 by omega)) gX7_skips_X7_here rfl ⟨rfl, rfl⟩ 0 rfl (by decide +kernel) ⟨Nat.le_of_ble_eq_true rfl, Nat.le_of_ble_eq_true rfl⟩ (GG_ok D cy) ((GG_ok D cy).2.2.2 _ _ _ _ (fun _ h => h.elim) ((GG_ok D cy).1 _ _ _ _ hS.2.1 hG)) hP (va_recv hK hP (ci := 6) (q0 := 0) rfl rfl) hl.1 rfl (Nat.le_of_ble_eq_true rfl) ⟨Nat.le_of_ble_eq_true rfl, Nat.le_of_ble_eq_true rfl⟩ dX7_skips_6 (fun r_2 hr_2 => ?_)
        have hr_2 : ((q < (R 0 4)) ∧ r_2 = (R 3) (q)) ∨ (((R 0 4) ≤ q) ∧ r_2 = -1000000000) := hr_2
        rcases hr_2 with ⟨c_3, hr_2⟩ | ⟨c_3, hr_2⟩ <;> subst hr_2
        · skip
          have hT9 := hT q (by omega) (by omega)
          refine k_bipush hx hb dX7_skips_9 (by decide +kernel) ?_
          refine k_icmp_ne (tgt := 27) hx hb dX7_skips_11 (by decide) (by omega) (by omega) (fun c_4 => ?_) (fun c_4 => ?_)
          · skip
            have hex : skp (R 3) (R 0 4) q = q := skp_n (fun h9 => by omega)
            have hsk : (skp (R 3) (R 0 4) (R 0 15)) = q := by rw [← hi2]; exact hex
            refine lv_aload_n hx hb dX7_skips_27 rfl (lv_at hl 1 rfl) ?_
            refine va_get (D := D) (ci := 6) (v := .int (iI q)) (C := RX7) (T := TX7) (N := 19) hx hb hts hinX7 hown hK hP 0 rfl rfl 15 (by decide) hmw0 (fun _ h9 => h9) rfl dX7_skips_28 ?_
            refine lv_iload_n hx hb dX7_skips_31 rfl (lv_at hl 0 rfl) ?_
            refine k_icmp_le (tgt := 39) hx hb dX7_skips_32 (by decide) (by omega) (by omega) (fun c_5 => ?_) (fun c_5 => ?_)
            · skip
              refine k_iconst hx hb dX7_skips_39 ?_
              exact W.zret (v := iI 0) hx hb hr (by decide +kernel) (fun t9 ht _ => ⟨⟨iI 0, (upr R 0 (ups (R 0) 15 q)), rfl, ⟨0, rfl, (by first | exact Or.inl ⟨(by omega), (by first | rfl | omega), (by rw [show (ups (R 0) 15 q) = (ups (R 0) 15 (skp (R 3) (R 0 4) (R 0 15))) from by rw [hsk]])⟩ | exact Or.inr (⟨(by omega), (by first | rfl | omega), (by rw [show (ups (R 0) 15 q) = (ups (R 0) 15 (skp (R 3) (R 0 4) (R 0 15))) from by rw [hsk]])⟩) : ((R 0 15 < (skp (R 3) (R 0 4) (R 0 15))) ∧ (0 : Int) = 1 ∧ (upr R 0 (ups (R 0) 15 q)) = (upr R 0 (ups (R 0) 15 (skp (R 3) (R 0 4) (R 0 15))))) ∨ (((skp (R 3) (R 0 4) (R 0 15)) = R 0 15) ∧ (0 : Int) = 0 ∧ (upr R 0 (ups (R 0) 15 q)) = (upr R 0 (ups (R 0) 15 (skp (R 3) (R 0 4) (R 0 15))))))⟩, by rw [ht]; exact hP, hD⟩, hS.F ht⟩) hS.2.2 dX7_skips_40 hlocks
            · skip
              refine k_iconst hx hb dX7_skips_35 ?_
              refine lv_goto (tgt := 40) hx hb dX7_skips_36 (by decide) ?_
              exact W.zret (v := iI 1) hx hb hr (by decide +kernel) (fun t9 ht _ => ⟨⟨iI 1, (upr R 0 (ups (R 0) 15 q)), rfl, ⟨1, rfl, (by first | exact Or.inl ⟨(by omega), (by first | rfl | omega), (by rw [show (ups (R 0) 15 q) = (ups (R 0) 15 (skp (R 3) (R 0 4) (R 0 15))) from by rw [hsk]])⟩ | exact Or.inr (⟨(by omega), (by first | rfl | omega), (by rw [show (ups (R 0) 15 q) = (ups (R 0) 15 (skp (R 3) (R 0 4) (R 0 15))) from by rw [hsk]])⟩) : ((R 0 15 < (skp (R 3) (R 0 4) (R 0 15))) ∧ (1 : Int) = 1 ∧ (upr R 0 (ups (R 0) 15 q)) = (upr R 0 (ups (R 0) 15 (skp (R 3) (R 0 4) (R 0 15))))) ∨ (((skp (R 3) (R 0 4) (R 0 15)) = R 0 15) ∧ (1 : Int) = 0 ∧ (upr R 0 (ups (R 0) 15 q)) = (upr R 0 (ups (R 0) 15 (skp (R 3) (R 0 4) (R 0 15))))))⟩, by rw [ht]; exact hP, hD⟩, hS.F ht⟩) hS.2.2 dX7_skips_40 hlocks
          · skip
            refine lv_aload_n hx hb dX7_skips_14 rfl (lv_at hl 1 rfl) ?_
            refine lv_dup hx hb dX7_skips_15 rfl ?_
            refine va_get (D := D) (ci := 6) (v := .int (iI q)) (C := RX7) (T := TX7) (N := 19) hx hb hts hinX7 hown hK hP 0 rfl rfl 15 (by decide) hmw0 (fun _ h9 => h9) rfl dX7_skips_16 ?_
            refine k_iconst hx hb dX7_skips_19 ?_
            refine k_iadd hx hb dX7_skips_20 ?_
            refine va_put (D := D) (ci := 6) (v := .int (iI (q + 1))) (ty := .int) (C := RX7) (T := TX7) (N := 19) hx hb hts hinX7 tyX7 tyX7_ok nmX7 hown hK hP hD hS 0 rfl rfl 15 (by decide) hmw0 (fun _ h9 => h9) rfl (by decide +kernel) rfl rfl (Nat.le_of_ble_eq_true rfl) dX7_skips_21 (fun H locs hP hD hS => ?_)
            have hP : va_P D vwCl (rfW cy a (upr R 0 (ups (ups (R 0) 15 q) 15 (q + 1)))) H := hP
            have hD : va_D (va_A (rfW cy a R) sz) (rfW cy a (upr R 0 (ups (ups (R 0) 15 q) 15 (q + 1)))) := hD
            refine lv_goto (tgt := 5) hx hb dX7_skips_24 (by decide) ?_
            exact ih5 (q + 1)  (by omega) (by omega) ((skp_y (by omega) (by omega)).symm.trans hi2) (by omega) H locs (by rw [show (ups (R 0) 15 (q + 1)) = (ups (ups (R 0) 15 q) 15 (q + 1)) from (ups_ups _ _ _ _).symm]; exact hP) (k_addr hD rfl) hS ls (lv_sub hl [0, 1] rfl)
        · skip
          refine k_bipush hx hb dX7_skips_9 (by decide +kernel) ?_
          refine k_icmp_ne (tgt := 27) hx hb dX7_skips_11 (by decide) (by omega) (by omega) (fun c_6 => ?_) (fun c_6 => ?_)
          · skip
            have hex : skp (R 3) (R 0 4) q = q := skp_n (fun h9 => by omega)
            have hsk : (skp (R 3) (R 0 4) (R 0 15)) = q := by rw [← hi2]; exact hex
            refine lv_aload_n hx hb dX7_skips_27 rfl (lv_at hl 1 rfl) ?_
            refine va_get (D := D) (ci := 6) (v := .int (iI q)) (C := RX7) (T := TX7) (N := 19) hx hb hts hinX7 hown hK hP 0 rfl rfl 15 (by decide) hmw0 (fun _ h9 => h9) rfl dX7_skips_28 ?_
            refine lv_iload_n hx hb dX7_skips_31 rfl (lv_at hl 0 rfl) ?_
            refine k_icmp_le (tgt := 39) hx hb dX7_skips_32 (by decide) (by omega) (by omega) (fun c_7 => ?_) (fun c_7 => ?_)
            · skip
              refine k_iconst hx hb dX7_skips_39 ?_
              exact W.zret (v := iI 0) hx hb hr (by decide +kernel) (fun t9 ht _ => ⟨⟨iI 0, (upr R 0 (ups (R 0) 15 q)), rfl, ⟨0, rfl, (by first | exact Or.inl ⟨(by omega), (by first | rfl | omega), (by rw [show (ups (R 0) 15 q) = (ups (R 0) 15 (skp (R 3) (R 0 4) (R 0 15))) from by rw [hsk]])⟩ | exact Or.inr (⟨(by omega), (by first | rfl | omega), (by rw [show (ups (R 0) 15 q) = (ups (R 0) 15 (skp (R 3) (R 0 4) (R 0 15))) from by rw [hsk]])⟩) : ((R 0 15 < (skp (R 3) (R 0 4) (R 0 15))) ∧ (0 : Int) = 1 ∧ (upr R 0 (ups (R 0) 15 q)) = (upr R 0 (ups (R 0) 15 (skp (R 3) (R 0 4) (R 0 15))))) ∨ (((skp (R 3) (R 0 4) (R 0 15)) = R 0 15) ∧ (0 : Int) = 0 ∧ (upr R 0 (ups (R 0) 15 q)) = (upr R 0 (ups (R 0) 15 (skp (R 3) (R 0 4) (R 0 15))))))⟩, by rw [ht]; exact hP, hD⟩, hS.F ht⟩) hS.2.2 dX7_skips_40 hlocks
            · skip
              refine k_iconst hx hb dX7_skips_35 ?_
              refine lv_goto (tgt := 40) hx hb dX7_skips_36 (by decide) ?_
              exact W.zret (v := iI 1) hx hb hr (by decide +kernel) (fun t9 ht _ => ⟨⟨iI 1, (upr R 0 (ups (R 0) 15 q)), rfl, ⟨1, rfl, (by first | exact Or.inl ⟨(by omega), (by first | rfl | omega), (by rw [show (ups (R 0) 15 q) = (ups (R 0) 15 (skp (R 3) (R 0 4) (R 0 15))) from by rw [hsk]])⟩ | exact Or.inr (⟨(by omega), (by first | rfl | omega), (by rw [show (ups (R 0) 15 q) = (ups (R 0) 15 (skp (R 3) (R 0 4) (R 0 15))) from by rw [hsk]])⟩) : ((R 0 15 < (skp (R 3) (R 0 4) (R 0 15))) ∧ (1 : Int) = 1 ∧ (upr R 0 (ups (R 0) 15 q)) = (upr R 0 (ups (R 0) 15 (skp (R 3) (R 0 4) (R 0 15))))) ∨ (((skp (R 3) (R 0 4) (R 0 15)) = R 0 15) ∧ (1 : Int) = 0 ∧ (upr R 0 (ups (R 0) 15 q)) = (upr R 0 (ups (R 0) 15 (skp (R 3) (R 0 4) (R 0 15))))))⟩, by rw [ht]; exact hP, hD⟩, hS.F ht⟩) hS.2.2 dX7_skips_40 hlocks
          · exfalso; omega
    exact loop5 ((R 0 4 - (R 0 15) : Int) + 1).toNat (R 0 15)  (by omega) (by omega) (rfl) (by omega) H locs (by rw [show (ups (R 0) 15 (R 0 15)) = (R 0) from ups_self _ _]; exact hP) (k_addr hD rfl) hS ls (lv_sub hl [0, 1] rfl)
  exact hbody s.heap [] hP hS ls hl
set_option maxHeartbeats 4000000 in
set_option maxRecDepth 100000 in
theorem c_X7_commandOf (l : Launch) (D : va_G) (v : Int) (h : -9223372036854775808 ≤ v ∧ v ≤ 9223372036854775807) : Met l yX7_commandOf wsX7_commandOf { frames := 0, cells := 0, slots := 0, locals := 0 } (kPre kGT D [] ([.long (lI v)] : List Value)) (kRO (fun r => r = cmdN v)) 0 0 (fun _ => False) := by
  refine kRO_start (cc := cX7_commandOf) (maxL := 2) (ret := (some .int)) (by decide) rfl (Nat.le_of_ble_eq_true rfl) ?_
  intro p e s m below meth c hx hb hr hlocks hml hts hown hG hP ls hl
  have hl : lv_has ls 2 [(0, .long (lI v))] := hl
  have hmw0 := hts (.constantLong RX7 256 (10984098)) (by decide +kernel)
  have hmw1 := hts (.constantLong RX7 258 (8805260)) (by decide +kernel)
  have hmw2 := hts (.constantLong RX7 260 (388602)) (by decide +kernel)
  have hmw3 := hts (.constantLong RX7 262 (326192)) (by decide +kernel)
  have hmw4 := hts (.constantLong RX7 264 (14006)) (by decide +kernel)
  have hmw5 := hts (.constantLong RX7 266 (40187)) (by decide +kernel)
  have hmw6 := hts (.constantLong RX7 268 (275319332)) (by decide +kernel)
  have hmw7 := hts (.constant RX7 109 (-1000000000)) (by decide +kernel)
  refine lv_lload_n hx hb dX7_commandOf_0 rfl (lv_at hl 0 rfl) ?_
  refine k_ldc2 (z := 10984098) hx hb hown hmw0 (by decide +kernel) dX7_commandOf_1 ?_
  have := cmpL_spec v 10984098
  refine k_lcmp hx hb dX7_commandOf_4 (by omega) (by omega) ?_
  refine k_if_ne (tgt := 12) hx hb dX7_commandOf_5 (by decide) (by omega) (fun c_1 => ?_) (fun c_1 => ?_)
  · skip
    refine lv_lload_n hx hb dX7_commandOf_12 rfl (lv_at hl 0 rfl) ?_
    refine k_ldc2 (z := 8805260) hx hb hown hmw1 (by decide +kernel) dX7_commandOf_13 ?_
    have := cmpL_spec v 8805260
    refine k_lcmp hx hb dX7_commandOf_16 (by omega) (by omega) ?_
    refine k_if_ne (tgt := 24) hx hb dX7_commandOf_17 (by decide) (by omega) (fun c_2 => ?_) (fun c_2 => ?_)
    · skip
      refine lv_lload_n hx hb dX7_commandOf_24 rfl (lv_at hl 0 rfl) ?_
      refine k_ldc2 (z := 388602) hx hb hown hmw2 (by decide +kernel) dX7_commandOf_25 ?_
      have := cmpL_spec v 388602
      refine k_lcmp hx hb dX7_commandOf_28 (by omega) (by omega) ?_
      refine k_if_ne (tgt := 36) hx hb dX7_commandOf_29 (by decide) (by omega) (fun c_3 => ?_) (fun c_3 => ?_)
      · skip
        refine lv_lload_n hx hb dX7_commandOf_36 rfl (lv_at hl 0 rfl) ?_
        refine k_ldc2 (z := 326192) hx hb hown hmw3 (by decide +kernel) dX7_commandOf_37 ?_
        have := cmpL_spec v 326192
        refine k_lcmp hx hb dX7_commandOf_40 (by omega) (by omega) ?_
        refine k_if_ne (tgt := 48) hx hb dX7_commandOf_41 (by decide) (by omega) (fun c_4 => ?_) (fun c_4 => ?_)
        · skip
          refine lv_lload_n hx hb dX7_commandOf_48 rfl (lv_at hl 0 rfl) ?_
          refine k_ldc2 (z := 14006) hx hb hown hmw4 (by decide +kernel) dX7_commandOf_49 ?_
          have := cmpL_spec v 14006
          refine k_lcmp hx hb dX7_commandOf_52 (by omega) (by omega) ?_
          refine k_if_ne (tgt := 60) hx hb dX7_commandOf_53 (by decide) (by omega) (fun c_5 => ?_) (fun c_5 => ?_)
          · skip
            refine lv_lload_n hx hb dX7_commandOf_60 rfl (lv_at hl 0 rfl) ?_
            refine k_ldc2 (z := 40187) hx hb hown hmw5 (by decide +kernel) dX7_commandOf_61 ?_
            have := cmpL_spec v 40187
            refine k_lcmp hx hb dX7_commandOf_64 (by omega) (by omega) ?_
            refine k_if_ne (tgt := 72) hx hb dX7_commandOf_65 (by decide) (by omega) (fun c_6 => ?_) (fun c_6 => ?_)
            · skip
              refine lv_lload_n hx hb dX7_commandOf_72 rfl (lv_at hl 0 rfl) ?_
              refine k_ldc2 (z := 275319332) hx hb hown hmw6 (by decide +kernel) dX7_commandOf_73 ?_
              have := cmpL_spec v 275319332
              refine k_lcmp hx hb dX7_commandOf_76 (by omega) (by omega) ?_
              refine k_if_ne (tgt := 85) hx hb dX7_commandOf_77 (by decide) (by omega) (fun c_7 => ?_) (fun c_7 => ?_)
              · skip
                refine k_ldc (z := (-1000000000)) hx hb hown hmw7 (by decide +kernel) dX7_commandOf_85 ?_
                exact W.iret (v := iI (-1000000000)) hx hb hr (fun t9 ht _ => ⟨(-1000000000), rfl, (by unfold cmdN; (repeat' split) <;> omega : ((-1000000000) : Int) = cmdN v), ht⟩) (fun _ h => nomatch h) dX7_commandOf_87 hlocks
              · skip
                refine k_bipush hx hb dX7_commandOf_80 (by decide +kernel) ?_
                refine lv_goto (tgt := 87) hx hb dX7_commandOf_82 (by decide) ?_
                exact W.iret (v := iI 6) hx hb hr (fun t9 ht _ => ⟨6, rfl, (by unfold cmdN; (repeat' split) <;> omega : (6 : Int) = cmdN v), ht⟩) (fun _ h => nomatch h) dX7_commandOf_87 hlocks
            · skip
              refine k_iconst hx hb dX7_commandOf_68 ?_
              refine lv_goto (tgt := 87) hx hb dX7_commandOf_69 (by decide) ?_
              exact W.iret (v := iI 5) hx hb hr (fun t9 ht _ => ⟨5, rfl, (by unfold cmdN; (repeat' split) <;> omega : (5 : Int) = cmdN v), ht⟩) (fun _ h => nomatch h) dX7_commandOf_87 hlocks
          · skip
            refine k_iconst hx hb dX7_commandOf_56 ?_
            refine lv_goto (tgt := 87) hx hb dX7_commandOf_57 (by decide) ?_
            exact W.iret (v := iI 4) hx hb hr (fun t9 ht _ => ⟨4, rfl, (by unfold cmdN; (repeat' split) <;> omega : (4 : Int) = cmdN v), ht⟩) (fun _ h => nomatch h) dX7_commandOf_87 hlocks
        · skip
          refine k_iconst hx hb dX7_commandOf_44 ?_
          refine lv_goto (tgt := 87) hx hb dX7_commandOf_45 (by decide) ?_
          exact W.iret (v := iI 3) hx hb hr (fun t9 ht _ => ⟨3, rfl, (by unfold cmdN; (repeat' split) <;> omega : (3 : Int) = cmdN v), ht⟩) (fun _ h => nomatch h) dX7_commandOf_87 hlocks
      · skip
        refine k_iconst hx hb dX7_commandOf_32 ?_
        refine lv_goto (tgt := 87) hx hb dX7_commandOf_33 (by decide) ?_
        exact W.iret (v := iI 2) hx hb hr (fun t9 ht _ => ⟨2, rfl, (by unfold cmdN; (repeat' split) <;> omega : (2 : Int) = cmdN v), ht⟩) (fun _ h => nomatch h) dX7_commandOf_87 hlocks
    · skip
      refine k_iconst hx hb dX7_commandOf_20 ?_
      refine lv_goto (tgt := 87) hx hb dX7_commandOf_21 (by decide) ?_
      exact W.iret (v := iI 1) hx hb hr (fun t9 ht _ => ⟨1, rfl, (by unfold cmdN; (repeat' split) <;> omega : (1 : Int) = cmdN v), ht⟩) (fun _ h => nomatch h) dX7_commandOf_87 hlocks
  · skip
    refine k_iconst hx hb dX7_commandOf_8 ?_
    refine lv_goto (tgt := 87) hx hb dX7_commandOf_9 (by decide) ?_
    exact W.iret (v := iI 0) hx hb hr (fun t9 ht _ => ⟨0, rfl, (by unfold cmdN; (repeat' split) <;> omega : (0 : Int) = cmdN v), ht⟩) (fun _ h => nomatch h) dX7_commandOf_87 hlocks
set_option maxHeartbeats 4000000 in
set_option maxRecDepth 100000 in
theorem c_X7_readWord (l : Launch) (D : va_G) (cy : Nat → ClassId) (sz : Nat) (a : Nat → Nat) (R : Nat → Int → Int)  (hpl : 0 ≤ R 0 15 ∧ R 0 15 ≤ R 0 4) (htn : R 0 4 ≤ 150) (hT : ∀ k : Int, 0 ≤ k → k < 150 → 0 ≤ R 3 k ∧ R 3 k ≤ 127) : Met l yX7_readWord wsX7_readWord { frames := 1, cells := 0, slots := 0, locals := 22 } (mPre (GG D cy) D (rfW cy a R) sz ([.ref (a 0)] : List Value)) (kQi D (rfW cy a R) sz (fun u9 : Nat → Int → Int => rfW cy a u9) (fun r9 u9 => (∃ (kk : Int), ((kindW (R 3) (R 0 15) (wre (R 3) (R 0 4) (R 0 15))) = kk ∧ kk = -1000000000) ∧ r9 = 0 ∧ u9 = (upr R 0 (ups (ups (R 0) 16 kk) 15 (R 0 15)))) ∨ (∃ (kk : Int) (ww : Int), (kk = (kindW (R 3) (R 0 15) (wre (R 3) (R 0 4) (R 0 15))) ∧ ww = (wre (R 3) (R 0 4) (R 0 15)) ∧ 0 ≤ kk ∧ kk ≤ 6) ∧ r9 = 1 ∧ u9 = (upr R 0 (ups (ups (R 0) 16 kk) 15 ww))))) 0 0 (va_A (rfW cy a R) sz) := by
  refine kM_start (cc := cX7_readWord) (maxL := 4) (ret := (some .boolean)) (by decide) rfl (Nat.le_of_ble_eq_true rfl) ?_
  intro p e s m below meth c hx hb hr hlocks hml hts hown hsz hA hG hP hD hS hin ls hl
  have hK := hG.1
  have hl : lv_has ls 4 [(0, .ref (a 0))] := hl
  have hinX7 : ∀ w ∈ u_ws RX7 TX7 19, w ∈ wsX7_readWord := by decide +kernel
  have hmw0 := hts (.fieldLink RX7 250 "ArcPlateModel" "place" "I") (by decide +kernel)
  have hmw1 := hts (.constantLong RX7 274 (-1)) (by decide +kernel)
  have hmw2 := hts (.constantLong RX7 270 (27)) (by decide +kernel)
  have hmw3 := hts (.constantLong RX7 272 (96)) (by decide +kernel)
  have hmw4 := hts (.fieldLink RX7 280 "ArcPlateModel" "command" "I") (by decide +kernel)
  have hmw5 := hts (.constant RX7 109 (-1000000000)) (by decide +kernel)
  have hkr := kindW_rg (R 3) (R 0 15) (wre (R 3) (R 0 4) (R 0 15))
  have hbody : ∀ (H : Heap) (locs : List Loc) (hP : va_P D vwCl (rfW cy a R) H) (hS : va_S (va_A (rfW cy a R) sz) s.heap H locs) (ls : Array Slot) (hl : lv_has ls 4 [(0, .ref (a 0))]), W p l e { frames := 1, cells := 0, slots := 0, locals := 22 } s m ([.ref (a 0)] : List Value).toArray below meth c H locs 0 0 (MQ below (kQi D (rfW cy a R) sz (fun u9 : Nat → Int → Int => rfW cy a u9) (fun r9 u9 => (∃ (kk : Int), ((kindW (R 3) (R 0 15) (wre (R 3) (R 0 4) (R 0 15))) = kk ∧ kk = -1000000000) ∧ r9 = 0 ∧ u9 = (upr R 0 (ups (ups (R 0) 16 kk) 15 (R 0 15)))) ∨ (∃ (kk : Int) (ww : Int), (kk = (kindW (R 3) (R 0 15) (wre (R 3) (R 0 4) (R 0 15))) ∧ ww = (wre (R 3) (R 0 4) (R 0 15)) ∧ 0 ≤ kk ∧ kk ≤ 6) ∧ r9 = 1 ∧ u9 = (upr R 0 (ups (ups (R 0) 16 kk) 15 ww))))) ([.ref (a 0)] : List Value).toArray s 0 0 (va_A (rfW cy a R) sz)) (F0 m 0 ls []) := by
    intro H locs hP hS ls hl
    refine lv_aload_n hx hb dX7_readWord_0 rfl (lv_at hl 0 rfl) ?_
    refine va_get (D := D) (ci := 6) (v := .int (iI (R 0 15))) (C := RX7) (T := TX7) (N := 19) hx hb hts hinX7 hown hK hP 0 rfl rfl 15 (by decide) hmw0 (fun _ h9 => h9) rfl dX7_readWord_1 ?_
    refine lv_istore_n (lv' := [(1, .int (iI (R 0 15))), (0, .ref (a 0))]) hx hb dX7_readWord_4 rfl hl (by decide) rfl (fun ls hl => ?_)
    refine k_lconst (z := 0) hx hb dX7_readWord_5 (by decide +kernel) ?_
    refine lv_lstore_n (lv' := [(2, .long (lI 0)), (1, .int (iI (R 0 15))), (0, .ref (a 0))]) hx hb dX7_readWord_6 rfl hl (by decide) rfl (fun ls hl => ?_)
    have loop7 : ∀ (n_1 : Nat) (q : Int) (x2 : Int) (hi0 : R 0 15 ≤ q) (hi1 : q ≤ R 0 4) (hi2 : wre (R 3) (R 0 4) q = (wre (R 3) (R 0 4) (R 0 15))) (hi3 : ∀ k : Int, R 0 15 ≤ k → k < q → 97 ≤ R 3 k ∧ R 3 k ≤ 122) (hex2 : x2 = (wnI (R 3) (R 0 15) (q - R 0 15).toNat)) (hn : R 0 4 - q < (n_1 : Int)) (H : Heap) (locs : List Loc) (hP : va_P D vwCl (rfW cy a (upr R 0 (ups (R 0) 15 q))) H) (hD : va_D (va_A (rfW cy a R) sz) (rfW cy a (upr R 0 (ups (R 0) 15 q)))) (hS : va_S (va_A (rfW cy a R) sz) s.heap H locs) (ls : Array Slot) (hl : lv_has ls 4 [(2, .long (lI x2)), (1, .int (iI (R 0 15))), (0, .ref (a 0))]), W p l e { frames := 1, cells := 0, slots := 0, locals := 22 } s m ([.ref (a 0)] : List Value).toArray below meth c H locs 0 0 (MQ below (kQi D (rfW cy a R) sz (fun u9 : Nat → Int → Int => rfW cy a u9) (fun r9 u9 => (∃ (kk : Int), ((kindW (R 3) (R 0 15) (wre (R 3) (R 0 4) (R 0 15))) = kk ∧ kk = -1000000000) ∧ r9 = 0 ∧ u9 = (upr R 0 (ups (ups (R 0) 16 kk) 15 (R 0 15)))) ∨ (∃ (kk : Int) (ww : Int), (kk = (kindW (R 3) (R 0 15) (wre (R 3) (R 0 4) (R 0 15))) ∧ ww = (wre (R 3) (R 0 4) (R 0 15)) ∧ 0 ≤ kk ∧ kk ≤ 6) ∧ r9 = 1 ∧ u9 = (upr R 0 (ups (ups (R 0) 16 kk) 15 ww))))) ([.ref (a 0)] : List Value).toArray s 0 0 (va_A (rfW cy a R) sz)) (F0 m 7 ls []) := by
      intro n_1
      induction n_1 with
      | zero => intro q x2 hi0 hi1 hi2 hi3 hex2 hn H locs hP hD hS ls hl; exfalso; omega
      | succ n_1 ih7 =>
        intro q x2 hi0 hi1 hi2 hi3 hex2 hn H locs hP hD hS ls hl
        subst hex2
        have hwb := wn_bd hi0 hi3
        refine lv_aload_n hx hb dX7_readWord_7 rfl (lv_at hl 2 rfl) ?_
        refine k_roV (As := []) (rest := []) ⟨hx, hb, hml, hown, hts⟩ (c_X7_here l D cy a (upr R 0 (ups (R 0) 15 q)) (show 0 ≤ q ∧ q ≤ (R 0 4) by omega) (show (R 0 4) ≤ 150 by omega)) gX7_readWord_X7_here rfl ⟨rfl, rfl⟩ 0 rfl (by decide +kernel) ⟨Nat.le_of_ble_eq_true rfl, Nat.le_of_ble_eq_true rfl⟩ (GG_ok D cy) ((GG_ok D cy).2.2.2 _ _ _ _ (fun _ h => h.elim) ((GG_ok D cy).1 _ _ _ _ hS.2.1 hG)) hP (va_recv hK hP (ci := 6) (q0 := 0) rfl rfl) hl.1 rfl (Nat.le_of_ble_eq_true rfl) ⟨Nat.le_of_ble_eq_true rfl, Nat.le_of_ble_eq_true rfl⟩ dX7_readWord_8 (fun r_2 hr_2 => ?_)
        have hr_2 : ((q < (R 0 4)) ∧ r_2 = (R 3) (q)) ∨ (((R 0 4) ≤ q) ∧ r_2 = -1000000000) := hr_2
        rcases hr_2 with ⟨c_3, hr_2⟩ | ⟨c_3, hr_2⟩ <;> subst hr_2
        · skip
          have hT9 := hT q (by omega) (by omega)
          refine k_bipush hx hb dX7_readWord_11 (by decide +kernel) ?_
          refine k_bipush hx hb dX7_readWord_13 (by decide +kernel) ?_
          refine k_roS (As := [.int (iI ((R 3) (q))), .int (iI 97), .int (iI 122)]) (rest := []) ⟨hx, hb, hml, hown, hts⟩ (c_X7_in l D ((R 3) (q)) 97 122 (show -2147483648 ≤ ((R 3) (q)) ∧ ((R 3) (q)) ≤ 2147483647 by omega) (show -2147483648 ≤ 97 ∧ 97 ≤ 2147483647 by omega) (show -2147483648 ≤ 122 ∧ 122 ≤ 2147483647 by omega)) gX7_readWord_X7_in rfl ⟨rfl, rfl⟩ 3 rfl (by decide +kernel) ⟨Nat.le_of_ble_eq_true rfl, Nat.le_of_ble_eq_true rfl⟩ kGT_ok trivial (fun k q h => by simp at h) hl.1 rfl (Nat.le_of_ble_eq_true rfl) ⟨Nat.le_of_ble_eq_true rfl, Nat.le_of_ble_eq_true rfl⟩ dX7_readWord_15 (fun r_4 hr_4 => ?_)
          have hr_4 : ((97 ≤ ((R 3) (q)) ∧ ((R 3) (q)) ≤ 122) ∧ r_4 = 1) ∨ (¬ (97 ≤ ((R 3) (q)) ∧ ((R 3) (q)) ≤ 122) ∧ r_4 = 0) := hr_4
          rcases hr_4 with ⟨c_5, hr_4⟩ | ⟨c_5, hr_4⟩ <;> subst hr_4
          · skip
            refine k_if_eq (tgt := 67) hx hb dX7_readWord_18 (by decide) (by omega) (fun c_6 => ?_) (fun c_6 => ?_)
            · exfalso; omega
            · skip
              refine lv_aload_n hx hb dX7_readWord_21 rfl (lv_at hl 2 rfl) ?_
              refine va_get (D := D) (ci := 6) (v := .int (iI q)) (C := RX7) (T := TX7) (N := 19) hx hb hts hinX7 hown hK hP 0 rfl rfl 15 (by decide) hmw0 (fun _ h9 => h9) rfl dX7_readWord_22 ?_
              refine lv_iload_n hx hb dX7_readWord_25 rfl (lv_at hl 1 rfl) ?_
              refine k_isub hx hb dX7_readWord_26 ?_
              refine k_bipush hx hb dX7_readWord_27 (by decide +kernel) ?_
              refine k_icmp_ge (tgt := 50) hx hb dX7_readWord_29 (by decide) (by omega) (by omega) (fun c_7 => ?_) (fun c_7 => ?_)
              · skip
                refine k_ldc2 (z := (-1)) hx hb hown hmw1 (by decide +kernel) dX7_readWord_50 ?_
                refine lv_lstore_n (lv' := [(2, .long (lI (-1))), (1, .int (iI (R 0 15))), (0, .ref (a 0))]) hx hb dX7_readWord_53 rfl hl (by decide) rfl (fun ls hl => ?_)
                refine lv_aload_n hx hb dX7_readWord_54 rfl (lv_at hl 2 rfl) ?_
                refine lv_dup hx hb dX7_readWord_55 rfl ?_
                refine va_get (D := D) (ci := 6) (v := .int (iI q)) (C := RX7) (T := TX7) (N := 19) hx hb hts hinX7 hown hK hP 0 rfl rfl 15 (by decide) hmw0 (fun _ h9 => h9) rfl dX7_readWord_56 ?_
                refine k_iconst hx hb dX7_readWord_59 ?_
                refine k_iadd hx hb dX7_readWord_60 ?_
                refine va_put (D := D) (ci := 6) (v := .int (iI (q + 1))) (ty := .int) (C := RX7) (T := TX7) (N := 19) hx hb hts hinX7 tyX7 tyX7_ok nmX7 hown hK hP hD hS 0 rfl rfl 15 (by decide) hmw0 (fun _ h9 => h9) rfl (by decide +kernel) rfl rfl (Nat.le_of_ble_eq_true rfl) dX7_readWord_61 (fun H locs hP hD hS => ?_)
                have hP : va_P D vwCl (rfW cy a (upr R 0 (ups (ups (R 0) 15 q) 15 (q + 1)))) H := hP
                have hD : va_D (va_A (rfW cy a R) sz) (rfW cy a (upr R 0 (ups (ups (R 0) 15 q) 15 (q + 1)))) := hD
                refine lv_goto (tgt := 7) hx hb dX7_readWord_64 (by decide) ?_
                exact ih7 (q + 1) (-1) (by omega) (by omega) ((wre_y (by omega) (by omega)).symm.trans hi2) (fun k a b => by by_cases e9 : k = q; (subst e9; omega); exact hi3 k a (by omega)) (by rw [wn_y hi0]; first | (rw [if_pos (by omega)]; done) | (rw [if_neg (by omega)]; done)) (by omega) H locs (by rw [show (ups (R 0) 15 (q + 1)) = (ups (ups (R 0) 15 q) 15 (q + 1)) from (ups_ups _ _ _ _).symm]; exact hP) (k_addr hD rfl) hS ls (lv_sub hl [0, 1, 2] rfl)
              · skip
                refine lv_lload_n hx hb dX7_readWord_32 rfl (lv_at hl 0 rfl) ?_
                refine k_ldc2 (z := 27) hx hb hown hmw2 (by decide +kernel) dX7_readWord_33 ?_
                refine k_lmul hx hb dX7_readWord_36 ?_
                refine lv_aload_n hx hb dX7_readWord_37 rfl (lv_at hl 2 rfl) ?_
                refine k_roV (As := []) (rest := [.long (lI ((wnI (R 3) (R 0 15) (q - R 0 15).toNat) * 27))]) ⟨hx, hb, hml, hown, hts⟩ (c_X7_here l D cy a (upr R 0 (ups (R 0) 15 q)) (show 0 ≤ q ∧ q ≤ (R 0 4) by omega) (show (R 0 4) ≤ 150 by omega)) gX7_readWord_X7_here rfl ⟨rfl, rfl⟩ 0 rfl (by decide +kernel) ⟨Nat.le_of_ble_eq_true rfl, Nat.le_of_ble_eq_true rfl⟩ (GG_ok D cy) ((GG_ok D cy).2.2.2 _ _ _ _ (fun _ h => h.elim) ((GG_ok D cy).1 _ _ _ _ hS.2.1 hG)) hP (va_recv hK hP (ci := 6) (q0 := 0) rfl rfl) hl.1 rfl (Nat.le_of_ble_eq_true rfl) ⟨Nat.le_of_ble_eq_true rfl, Nat.le_of_ble_eq_true rfl⟩ dX7_readWord_38 (fun r_8 hr_8 => ?_)
                have hr_8 : ((q < (R 0 4)) ∧ r_8 = (R 3) (q)) ∨ (((R 0 4) ≤ q) ∧ r_8 = -1000000000) := hr_8
                rcases hr_8 with ⟨c_9, hr_8⟩ | ⟨c_9, hr_8⟩ <;> subst hr_8
                · skip
                  refine k_i2l hx hb dX7_readWord_41 (by omega) ?_
                  refine k_ladd hx hb dX7_readWord_42 ?_
                  refine k_ldc2 (z := 96) hx hb hown hmw3 (by decide +kernel) dX7_readWord_43 ?_
                  refine k_lsub hx hb dX7_readWord_46 ?_
                  refine lv_goto (tgt := 53) hx hb dX7_readWord_47 (by decide) ?_
                  refine lv_lstore_n (lv' := [(2, .long (lI ((((wnI (R 3) (R 0 15) (q - R 0 15).toNat) * 27) + ((R 3) (q))) - 96))), (1, .int (iI (R 0 15))), (0, .ref (a 0))]) hx hb dX7_readWord_53 rfl hl (by decide) rfl (fun ls hl => ?_)
                  refine lv_aload_n hx hb dX7_readWord_54 rfl (lv_at hl 2 rfl) ?_
                  refine lv_dup hx hb dX7_readWord_55 rfl ?_
                  refine va_get (D := D) (ci := 6) (v := .int (iI q)) (C := RX7) (T := TX7) (N := 19) hx hb hts hinX7 hown hK hP 0 rfl rfl 15 (by decide) hmw0 (fun _ h9 => h9) rfl dX7_readWord_56 ?_
                  refine k_iconst hx hb dX7_readWord_59 ?_
                  refine k_iadd hx hb dX7_readWord_60 ?_
                  refine va_put (D := D) (ci := 6) (v := .int (iI (q + 1))) (ty := .int) (C := RX7) (T := TX7) (N := 19) hx hb hts hinX7 tyX7 tyX7_ok nmX7 hown hK hP hD hS 0 rfl rfl 15 (by decide) hmw0 (fun _ h9 => h9) rfl (by decide +kernel) rfl rfl (Nat.le_of_ble_eq_true rfl) dX7_readWord_61 (fun H locs hP hD hS => ?_)
                  have hP : va_P D vwCl (rfW cy a (upr R 0 (ups (ups (R 0) 15 q) 15 (q + 1)))) H := hP
                  have hD : va_D (va_A (rfW cy a R) sz) (rfW cy a (upr R 0 (ups (ups (R 0) 15 q) 15 (q + 1)))) := hD
                  refine lv_goto (tgt := 7) hx hb dX7_readWord_64 (by decide) ?_
                  exact ih7 (q + 1) ((((wnI (R 3) (R 0 15) (q - R 0 15).toNat) * 27) + ((R 3) (q))) - 96) (by omega) (by omega) ((wre_y (by omega) (by omega)).symm.trans hi2) (fun k a b => by by_cases e9 : k = q; (subst e9; omega); exact hi3 k a (by omega)) (by rw [wn_y hi0]; first | (rw [if_pos (by omega)]; done) | (rw [if_neg (by omega)]; done)) (by omega) H locs (by rw [show (ups (R 0) 15 (q + 1)) = (ups (ups (R 0) 15 q) 15 (q + 1)) from (ups_ups _ _ _ _).symm]; exact hP) (k_addr hD rfl) hS ls (lv_sub hl [0, 1, 2] rfl)
                · exfalso; omega
          · skip
            refine k_if_eq (tgt := 67) hx hb dX7_readWord_18 (by decide) (by omega) (fun c_10 => ?_) (fun c_10 => ?_)
            · skip
              have hex : wre (R 3) (R 0 4) q = q := wre_n (fun h9 => by omega)
              have hw9 : (wre (R 3) (R 0 4) (R 0 15)) = q := by rw [← hi2]; exact hex
              rw [hw9] at hkr
              refine lv_aload_n hx hb dX7_readWord_67 rfl (lv_at hl 2 rfl) ?_
              refine lv_aload_n hx hb dX7_readWord_68 rfl (lv_at hl 2 rfl) ?_
              refine va_get (D := D) (ci := 6) (v := .int (iI q)) (C := RX7) (T := TX7) (N := 19) hx hb hts hinX7 hown hK hP 0 rfl rfl 15 (by decide) hmw0 (fun _ h9 => h9) rfl dX7_readWord_69 ?_
              refine lv_iload_n hx hb dX7_readWord_72 rfl (lv_at hl 1 rfl) ?_
              refine k_isub hx hb dX7_readWord_73 ?_
              refine k_bipush hx hb dX7_readWord_74 (by decide +kernel) ?_
              refine k_icmp_le (tgt := 84) hx hb dX7_readWord_76 (by decide) (by omega) (by omega) (fun c_11 => ?_) (fun c_11 => ?_)
              · skip
                have hk9 := wk_y hi0 hi3 (by omega)
                refine lv_lload_n hx hb dX7_readWord_84 rfl (lv_at hl 0 rfl) ?_
                refine k_roS (As := [.long (lI (wnI (R 3) (R 0 15) (q - R 0 15).toNat))]) (rest := [.ref (a 0)]) ⟨hx, hb, hml, hown, hts⟩ (c_X7_commandOf l D (wnI (R 3) (R 0 15) (q - R 0 15).toNat) (show -9223372036854775808 ≤ (wnI (R 3) (R 0 15) (q - R 0 15).toNat) ∧ (wnI (R 3) (R 0 15) (q - R 0 15).toNat) ≤ 9223372036854775807 by omega)) gX7_readWord_X7_commandOf rfl ⟨rfl, rfl⟩ 1 rfl (by decide +kernel) ⟨Nat.le_of_ble_eq_true rfl, Nat.le_of_ble_eq_true rfl⟩ kGT_ok trivial (fun k q h => by simp at h) hl.1 rfl (Nat.le_of_ble_eq_true rfl) ⟨Nat.le_of_ble_eq_true rfl, Nat.le_of_ble_eq_true rfl⟩ dX7_readWord_85 (fun r_12 hr_12 => ?_)
                have hr_12 : r_12 = cmdN (wnI (R 3) (R 0 15) (q - R 0 15).toNat) := hr_12
                subst hr_12
                refine k_eqI (v := cmdN (wnI (R 3) (R 0 15) (q - R 0 15).toNat)) (w := kindW (R 3) (R 0 15) q) (hk9) ?_
                refine va_put (D := D) (ci := 6) (v := .int (iI (kindW (R 3) (R 0 15) q))) (ty := .int) (C := RX7) (T := TX7) (N := 19) hx hb hts hinX7 tyX7 tyX7_ok nmX7 hown hK hP hD hS 0 rfl rfl 16 (by decide) hmw4 (fun _ h9 => h9) rfl (by decide +kernel) rfl rfl (Nat.le_of_ble_eq_true rfl) dX7_readWord_88 (fun H locs hP hD hS => ?_)
                have hP : va_P D vwCl (rfW cy a (upr R 0 (ups (ups (R 0) 15 q) 16 (kindW (R 3) (R 0 15) q)))) H := hP
                have hD : va_D (va_A (rfW cy a R) sz) (rfW cy a (upr R 0 (ups (ups (R 0) 15 q) 16 (kindW (R 3) (R 0 15) q)))) := hD
                refine lv_aload_n hx hb dX7_readWord_91 rfl (lv_at hl 2 rfl) ?_
                refine lv_aload_n hx hb dX7_readWord_92 rfl (lv_at hl 2 rfl) ?_
                refine va_get (D := D) (ci := 6) (v := .int (iI (kindW (R 3) (R 0 15) q))) (C := RX7) (T := TX7) (N := 19) hx hb hts hinX7 hown hK hP 0 rfl rfl 16 (by decide) hmw4 (fun _ h9 => h9) rfl dX7_readWord_93 ?_
                refine k_ldc (z := (-1000000000)) hx hb hown hmw5 (by decide +kernel) dX7_readWord_96 ?_
                refine k_icmp_ne (tgt := 105) hx hb dX7_readWord_98 (by decide) (by omega) (by omega) (fun c_13 => ?_) (fun c_13 => ?_)
                · skip
                  refine lv_aload_n hx hb dX7_readWord_105 rfl (lv_at hl 2 rfl) ?_
                  refine va_get (D := D) (ci := 6) (v := .int (iI q)) (C := RX7) (T := TX7) (N := 19) hx hb hts hinX7 hown hK hP 0 rfl rfl 15 (by decide) hmw0 (fun _ h9 => h9) rfl dX7_readWord_106 ?_
                  refine va_put (D := D) (ci := 6) (v := .int (iI q)) (ty := .int) (C := RX7) (T := TX7) (N := 19) hx hb hts hinX7 tyX7 tyX7_ok nmX7 hown hK hP hD hS 0 rfl rfl 15 (by decide) hmw0 (fun _ h9 => h9) rfl (by decide +kernel) rfl rfl (Nat.le_of_ble_eq_true rfl) dX7_readWord_109 (fun H locs hP hD hS => ?_)
                  have hP : va_P D vwCl (rfW cy a (upr R 0 (ups (ups (ups (R 0) 15 q) 16 (kindW (R 3) (R 0 15) q)) 15 q))) H := hP
                  have hD : va_D (va_A (rfW cy a R) sz) (rfW cy a (upr R 0 (ups (ups (ups (R 0) 15 q) 16 (kindW (R 3) (R 0 15) q)) 15 q))) := hD
                  refine lv_aload_n hx hb dX7_readWord_112 rfl (lv_at hl 2 rfl) ?_
                  refine va_get (D := D) (ci := 6) (v := .int (iI (kindW (R 3) (R 0 15) q))) (C := RX7) (T := TX7) (N := 19) hx hb hts hinX7 hown hK hP 0 rfl rfl 16 (by decide) hmw4 (fun _ h9 => h9) rfl dX7_readWord_113 ?_
                  refine k_ldc (z := (-1000000000)) hx hb hown hmw5 (by decide +kernel) dX7_readWord_116 ?_
                  refine k_icmp_eq (tgt := 125) hx hb dX7_readWord_118 (by decide) (by omega) (by omega) (fun c_14 => ?_) (fun c_14 => ?_)
                  · skip
                    refine k_iconst hx hb dX7_readWord_125 ?_
                    exact W.zret (v := iI 0) hx hb hr (by decide +kernel) (fun t9 ht _ => ⟨⟨iI 0, (upr R 0 (ups (ups (ups (R 0) 15 q) 16 (kindW (R 3) (R 0 15) q)) 15 q)), rfl, ⟨0, rfl, (by first | exact Or.inl ⟨((kindW (R 3) (R 0 15) q)), (by rw [hw9]; exact ⟨by omega, by first | rfl | omega⟩), (by first | rfl | omega), (by rw [show (ups (ups (ups (R 0) 15 q) 16 (kindW (R 3) (R 0 15) q)) 15 q) = (ups (ups (R 0) 16 (kindW (R 3) (R 0 15) q)) 15 (R 0 15)) from by first | (funext k9; unfold ups; (repeat' split) <;> first | rfl | omega | (exfalso; omega)) | (rw [hw9]; funext k9; unfold ups; (repeat' split) <;> first | rfl | omega | (exfalso; omega)) | (funext k9; unfold ups; (repeat' split) <;> first | rfl | omega | (exfalso; omega))])⟩ | exact Or.inr (⟨((kindW (R 3) (R 0 15) q)), (q), (by rw [hw9]; exact ⟨by first | rfl | omega, rfl, by omega, by omega⟩), (by first | rfl | omega), (by rw [show (ups (ups (ups (R 0) 15 q) 16 (kindW (R 3) (R 0 15) q)) 15 q) = (ups (ups (R 0) 16 (kindW (R 3) (R 0 15) q)) 15 q) from by first | (funext k9; unfold ups; (repeat' split) <;> first | rfl | omega | (exfalso; omega)) | (rw [hw9]; funext k9; unfold ups; (repeat' split) <;> first | rfl | omega | (exfalso; omega)) | (funext k9; unfold ups; (repeat' split) <;> first | rfl | omega | (exfalso; omega))])⟩) : (∃ (kk : Int), ((kindW (R 3) (R 0 15) (wre (R 3) (R 0 4) (R 0 15))) = kk ∧ kk = -1000000000) ∧ (0 : Int) = 0 ∧ (upr R 0 (ups (ups (ups (R 0) 15 q) 16 (kindW (R 3) (R 0 15) q)) 15 q)) = (upr R 0 (ups (ups (R 0) 16 kk) 15 (R 0 15)))) ∨ (∃ (kk : Int) (ww : Int), (kk = (kindW (R 3) (R 0 15) (wre (R 3) (R 0 4) (R 0 15))) ∧ ww = (wre (R 3) (R 0 4) (R 0 15)) ∧ 0 ≤ kk ∧ kk ≤ 6) ∧ (0 : Int) = 1 ∧ (upr R 0 (ups (ups (ups (R 0) 15 q) 16 (kindW (R 3) (R 0 15) q)) 15 q)) = (upr R 0 (ups (ups (R 0) 16 kk) 15 ww))))⟩, by rw [ht]; exact hP, hD⟩, hS.F ht⟩) hS.2.2 dX7_readWord_126 hlocks
                  · skip
                    refine k_iconst hx hb dX7_readWord_121 ?_
                    refine lv_goto (tgt := 126) hx hb dX7_readWord_122 (by decide) ?_
                    exact W.zret (v := iI 1) hx hb hr (by decide +kernel) (fun t9 ht _ => ⟨⟨iI 1, (upr R 0 (ups (ups (ups (R 0) 15 q) 16 (kindW (R 3) (R 0 15) q)) 15 q)), rfl, ⟨1, rfl, (by first | exact Or.inl ⟨((kindW (R 3) (R 0 15) q)), (by rw [hw9]; exact ⟨by omega, by first | rfl | omega⟩), (by first | rfl | omega), (by rw [show (ups (ups (ups (R 0) 15 q) 16 (kindW (R 3) (R 0 15) q)) 15 q) = (ups (ups (R 0) 16 (kindW (R 3) (R 0 15) q)) 15 (R 0 15)) from by first | (funext k9; unfold ups; (repeat' split) <;> first | rfl | omega | (exfalso; omega)) | (rw [hw9]; funext k9; unfold ups; (repeat' split) <;> first | rfl | omega | (exfalso; omega)) | (funext k9; unfold ups; (repeat' split) <;> first | rfl | omega | (exfalso; omega))])⟩ | exact Or.inr (⟨((kindW (R 3) (R 0 15) q)), (q), (by rw [hw9]; exact ⟨by first | rfl | omega, rfl, by omega, by omega⟩), (by first | rfl | omega), (by rw [show (ups (ups (ups (R 0) 15 q) 16 (kindW (R 3) (R 0 15) q)) 15 q) = (ups (ups (R 0) 16 (kindW (R 3) (R 0 15) q)) 15 q) from by first | (funext k9; unfold ups; (repeat' split) <;> first | rfl | omega | (exfalso; omega)) | (rw [hw9]; funext k9; unfold ups; (repeat' split) <;> first | rfl | omega | (exfalso; omega)) | (funext k9; unfold ups; (repeat' split) <;> first | rfl | omega | (exfalso; omega))])⟩) : (∃ (kk : Int), ((kindW (R 3) (R 0 15) (wre (R 3) (R 0 4) (R 0 15))) = kk ∧ kk = -1000000000) ∧ (1 : Int) = 0 ∧ (upr R 0 (ups (ups (ups (R 0) 15 q) 16 (kindW (R 3) (R 0 15) q)) 15 q)) = (upr R 0 (ups (ups (R 0) 16 kk) 15 (R 0 15)))) ∨ (∃ (kk : Int) (ww : Int), (kk = (kindW (R 3) (R 0 15) (wre (R 3) (R 0 4) (R 0 15))) ∧ ww = (wre (R 3) (R 0 4) (R 0 15)) ∧ 0 ≤ kk ∧ kk ≤ 6) ∧ (1 : Int) = 1 ∧ (upr R 0 (ups (ups (ups (R 0) 15 q) 16 (kindW (R 3) (R 0 15) q)) 15 q)) = (upr R 0 (ups (ups (R 0) 16 kk) 15 ww))))⟩, by rw [ht]; exact hP, hD⟩, hS.F ht⟩) hS.2.2 dX7_readWord_126 hlocks
                · skip
                  refine lv_iload_n hx hb dX7_readWord_101 rfl (lv_at hl 1 rfl) ?_
                  refine lv_goto (tgt := 109) hx hb dX7_readWord_102 (by decide) ?_
                  refine va_put (D := D) (ci := 6) (v := .int (iI (R 0 15))) (ty := .int) (C := RX7) (T := TX7) (N := 19) hx hb hts hinX7 tyX7 tyX7_ok nmX7 hown hK hP hD hS 0 rfl rfl 15 (by decide) hmw0 (fun _ h9 => h9) rfl (by decide +kernel) rfl rfl (Nat.le_of_ble_eq_true rfl) dX7_readWord_109 (fun H locs hP hD hS => ?_)
                  have hP : va_P D vwCl (rfW cy a (upr R 0 (ups (ups (ups (R 0) 15 q) 16 (kindW (R 3) (R 0 15) q)) 15 (R 0 15)))) H := hP
                  have hD : va_D (va_A (rfW cy a R) sz) (rfW cy a (upr R 0 (ups (ups (ups (R 0) 15 q) 16 (kindW (R 3) (R 0 15) q)) 15 (R 0 15)))) := hD
                  refine lv_aload_n hx hb dX7_readWord_112 rfl (lv_at hl 2 rfl) ?_
                  refine va_get (D := D) (ci := 6) (v := .int (iI (kindW (R 3) (R 0 15) q))) (C := RX7) (T := TX7) (N := 19) hx hb hts hinX7 hown hK hP 0 rfl rfl 16 (by decide) hmw4 (fun _ h9 => h9) rfl dX7_readWord_113 ?_
                  refine k_ldc (z := (-1000000000)) hx hb hown hmw5 (by decide +kernel) dX7_readWord_116 ?_
                  refine k_icmp_eq (tgt := 125) hx hb dX7_readWord_118 (by decide) (by omega) (by omega) (fun c_15 => ?_) (fun c_15 => ?_)
                  · skip
                    refine k_iconst hx hb dX7_readWord_125 ?_
                    exact W.zret (v := iI 0) hx hb hr (by decide +kernel) (fun t9 ht _ => ⟨⟨iI 0, (upr R 0 (ups (ups (ups (R 0) 15 q) 16 (kindW (R 3) (R 0 15) q)) 15 (R 0 15))), rfl, ⟨0, rfl, (by first | exact Or.inl ⟨((kindW (R 3) (R 0 15) q)), (by rw [hw9]; exact ⟨by omega, by first | rfl | omega⟩), (by first | rfl | omega), (by rw [show (ups (ups (ups (R 0) 15 q) 16 (kindW (R 3) (R 0 15) q)) 15 (R 0 15)) = (ups (ups (R 0) 16 (kindW (R 3) (R 0 15) q)) 15 (R 0 15)) from by first | (funext k9; unfold ups; (repeat' split) <;> first | rfl | omega | (exfalso; omega)) | (rw [hw9]; funext k9; unfold ups; (repeat' split) <;> first | rfl | omega | (exfalso; omega)) | (funext k9; unfold ups; (repeat' split) <;> first | rfl | omega | (exfalso; omega))])⟩ | exact Or.inr (⟨((kindW (R 3) (R 0 15) q)), ((R 0 15)), (by rw [hw9]; exact ⟨by first | rfl | omega, rfl, by omega, by omega⟩), (by first | rfl | omega), (by rw [show (ups (ups (ups (R 0) 15 q) 16 (kindW (R 3) (R 0 15) q)) 15 (R 0 15)) = (ups (ups (R 0) 16 (kindW (R 3) (R 0 15) q)) 15 (R 0 15)) from by first | (funext k9; unfold ups; (repeat' split) <;> first | rfl | omega | (exfalso; omega)) | (rw [hw9]; funext k9; unfold ups; (repeat' split) <;> first | rfl | omega | (exfalso; omega)) | (funext k9; unfold ups; (repeat' split) <;> first | rfl | omega | (exfalso; omega))])⟩) : (∃ (kk : Int), ((kindW (R 3) (R 0 15) (wre (R 3) (R 0 4) (R 0 15))) = kk ∧ kk = -1000000000) ∧ (0 : Int) = 0 ∧ (upr R 0 (ups (ups (ups (R 0) 15 q) 16 (kindW (R 3) (R 0 15) q)) 15 (R 0 15))) = (upr R 0 (ups (ups (R 0) 16 kk) 15 (R 0 15)))) ∨ (∃ (kk : Int) (ww : Int), (kk = (kindW (R 3) (R 0 15) (wre (R 3) (R 0 4) (R 0 15))) ∧ ww = (wre (R 3) (R 0 4) (R 0 15)) ∧ 0 ≤ kk ∧ kk ≤ 6) ∧ (0 : Int) = 1 ∧ (upr R 0 (ups (ups (ups (R 0) 15 q) 16 (kindW (R 3) (R 0 15) q)) 15 (R 0 15))) = (upr R 0 (ups (ups (R 0) 16 kk) 15 ww))))⟩, by rw [ht]; exact hP, hD⟩, hS.F ht⟩) hS.2.2 dX7_readWord_126 hlocks
                  · skip
                    refine k_iconst hx hb dX7_readWord_121 ?_
                    refine lv_goto (tgt := 126) hx hb dX7_readWord_122 (by decide) ?_
                    exact W.zret (v := iI 1) hx hb hr (by decide +kernel) (fun t9 ht _ => ⟨⟨iI 1, (upr R 0 (ups (ups (ups (R 0) 15 q) 16 (kindW (R 3) (R 0 15) q)) 15 (R 0 15))), rfl, ⟨1, rfl, (by first | exact Or.inl ⟨((kindW (R 3) (R 0 15) q)), (by rw [hw9]; exact ⟨by omega, by first | rfl | omega⟩), (by first | rfl | omega), (by rw [show (ups (ups (ups (R 0) 15 q) 16 (kindW (R 3) (R 0 15) q)) 15 (R 0 15)) = (ups (ups (R 0) 16 (kindW (R 3) (R 0 15) q)) 15 (R 0 15)) from by first | (funext k9; unfold ups; (repeat' split) <;> first | rfl | omega | (exfalso; omega)) | (rw [hw9]; funext k9; unfold ups; (repeat' split) <;> first | rfl | omega | (exfalso; omega)) | (funext k9; unfold ups; (repeat' split) <;> first | rfl | omega | (exfalso; omega))])⟩ | exact Or.inr (⟨((kindW (R 3) (R 0 15) q)), ((R 0 15)), (by rw [hw9]; exact ⟨by first | rfl | omega, rfl, by omega, by omega⟩), (by first | rfl | omega), (by rw [show (ups (ups (ups (R 0) 15 q) 16 (kindW (R 3) (R 0 15) q)) 15 (R 0 15)) = (ups (ups (R 0) 16 (kindW (R 3) (R 0 15) q)) 15 (R 0 15)) from by first | (funext k9; unfold ups; (repeat' split) <;> first | rfl | omega | (exfalso; omega)) | (rw [hw9]; funext k9; unfold ups; (repeat' split) <;> first | rfl | omega | (exfalso; omega)) | (funext k9; unfold ups; (repeat' split) <;> first | rfl | omega | (exfalso; omega))])⟩) : (∃ (kk : Int), ((kindW (R 3) (R 0 15) (wre (R 3) (R 0 4) (R 0 15))) = kk ∧ kk = -1000000000) ∧ (1 : Int) = 0 ∧ (upr R 0 (ups (ups (ups (R 0) 15 q) 16 (kindW (R 3) (R 0 15) q)) 15 (R 0 15))) = (upr R 0 (ups (ups (R 0) 16 kk) 15 (R 0 15)))) ∨ (∃ (kk : Int) (ww : Int), (kk = (kindW (R 3) (R 0 15) (wre (R 3) (R 0 4) (R 0 15))) ∧ ww = (wre (R 3) (R 0 4) (R 0 15)) ∧ 0 ≤ kk ∧ kk ≤ 6) ∧ (1 : Int) = 1 ∧ (upr R 0 (ups (ups (ups (R 0) 15 q) 16 (kindW (R 3) (R 0 15) q)) 15 (R 0 15))) = (upr R 0 (ups (ups (R 0) 16 kk) 15 ww))))⟩, by rw [ht]; exact hP, hD⟩, hS.F ht⟩) hS.2.2 dX7_readWord_126 hlocks
              · skip
                have hk9 := wk_n hi0 hi3 (by omega)
                refine k_ldc (z := (-1000000000)) hx hb hown hmw5 (by decide +kernel) dX7_readWord_79 ?_
                refine lv_goto (tgt := 88) hx hb dX7_readWord_81 (by decide) ?_
                refine va_put (D := D) (ci := 6) (v := .int (iI (-1000000000))) (ty := .int) (C := RX7) (T := TX7) (N := 19) hx hb hts hinX7 tyX7 tyX7_ok nmX7 hown hK hP hD hS 0 rfl rfl 16 (by decide) hmw4 (fun _ h9 => h9) rfl (by decide +kernel) rfl rfl (Nat.le_of_ble_eq_true rfl) dX7_readWord_88 (fun H locs hP hD hS => ?_)
                have hP : va_P D vwCl (rfW cy a (upr R 0 (ups (ups (R 0) 15 q) 16 (-1000000000)))) H := hP
                have hD : va_D (va_A (rfW cy a R) sz) (rfW cy a (upr R 0 (ups (ups (R 0) 15 q) 16 (-1000000000)))) := hD
                refine lv_aload_n hx hb dX7_readWord_91 rfl (lv_at hl 2 rfl) ?_
                refine lv_aload_n hx hb dX7_readWord_92 rfl (lv_at hl 2 rfl) ?_
                refine va_get (D := D) (ci := 6) (v := .int (iI (-1000000000))) (C := RX7) (T := TX7) (N := 19) hx hb hts hinX7 hown hK hP 0 rfl rfl 16 (by decide) hmw4 (fun _ h9 => h9) rfl dX7_readWord_93 ?_
                refine k_ldc (z := (-1000000000)) hx hb hown hmw5 (by decide +kernel) dX7_readWord_96 ?_
                refine k_icmp_ne (tgt := 105) hx hb dX7_readWord_98 (by decide) (by omega) (by omega) (fun c_16 => ?_) (fun c_16 => ?_)
                · exfalso; omega
                · skip
                  refine lv_iload_n hx hb dX7_readWord_101 rfl (lv_at hl 1 rfl) ?_
                  refine lv_goto (tgt := 109) hx hb dX7_readWord_102 (by decide) ?_
                  refine va_put (D := D) (ci := 6) (v := .int (iI (R 0 15))) (ty := .int) (C := RX7) (T := TX7) (N := 19) hx hb hts hinX7 tyX7 tyX7_ok nmX7 hown hK hP hD hS 0 rfl rfl 15 (by decide) hmw0 (fun _ h9 => h9) rfl (by decide +kernel) rfl rfl (Nat.le_of_ble_eq_true rfl) dX7_readWord_109 (fun H locs hP hD hS => ?_)
                  have hP : va_P D vwCl (rfW cy a (upr R 0 (ups (ups (ups (R 0) 15 q) 16 (-1000000000)) 15 (R 0 15)))) H := hP
                  have hD : va_D (va_A (rfW cy a R) sz) (rfW cy a (upr R 0 (ups (ups (ups (R 0) 15 q) 16 (-1000000000)) 15 (R 0 15)))) := hD
                  refine lv_aload_n hx hb dX7_readWord_112 rfl (lv_at hl 2 rfl) ?_
                  refine va_get (D := D) (ci := 6) (v := .int (iI (-1000000000))) (C := RX7) (T := TX7) (N := 19) hx hb hts hinX7 hown hK hP 0 rfl rfl 16 (by decide) hmw4 (fun _ h9 => h9) rfl dX7_readWord_113 ?_
                  refine k_ldc (z := (-1000000000)) hx hb hown hmw5 (by decide +kernel) dX7_readWord_116 ?_
                  refine k_icmp_eq (tgt := 125) hx hb dX7_readWord_118 (by decide) (by omega) (by omega) (fun c_17 => ?_) (fun c_17 => ?_)
                  · skip
                    refine k_iconst hx hb dX7_readWord_125 ?_
                    exact W.zret (v := iI 0) hx hb hr (by decide +kernel) (fun t9 ht _ => ⟨⟨iI 0, (upr R 0 (ups (ups (ups (R 0) 15 q) 16 (-1000000000)) 15 (R 0 15))), rfl, ⟨0, rfl, (by first | exact Or.inl ⟨((-1000000000)), (by rw [hw9]; exact ⟨by omega, by first | rfl | omega⟩), (by first | rfl | omega), (by rw [show (ups (ups (ups (R 0) 15 q) 16 (-1000000000)) 15 (R 0 15)) = (ups (ups (R 0) 16 (-1000000000)) 15 (R 0 15)) from by first | (funext k9; unfold ups; (repeat' split) <;> first | rfl | omega | (exfalso; omega)) | (rw [hw9]; funext k9; unfold ups; (repeat' split) <;> first | rfl | omega | (exfalso; omega)) | (funext k9; unfold ups; (repeat' split) <;> first | rfl | omega | (exfalso; omega))])⟩ | exact Or.inr (⟨((-1000000000)), ((R 0 15)), (by rw [hw9]; exact ⟨by first | rfl | omega, rfl, by omega, by omega⟩), (by first | rfl | omega), (by rw [show (ups (ups (ups (R 0) 15 q) 16 (-1000000000)) 15 (R 0 15)) = (ups (ups (R 0) 16 (-1000000000)) 15 (R 0 15)) from by first | (funext k9; unfold ups; (repeat' split) <;> first | rfl | omega | (exfalso; omega)) | (rw [hw9]; funext k9; unfold ups; (repeat' split) <;> first | rfl | omega | (exfalso; omega)) | (funext k9; unfold ups; (repeat' split) <;> first | rfl | omega | (exfalso; omega))])⟩) : (∃ (kk : Int), ((kindW (R 3) (R 0 15) (wre (R 3) (R 0 4) (R 0 15))) = kk ∧ kk = -1000000000) ∧ (0 : Int) = 0 ∧ (upr R 0 (ups (ups (ups (R 0) 15 q) 16 (-1000000000)) 15 (R 0 15))) = (upr R 0 (ups (ups (R 0) 16 kk) 15 (R 0 15)))) ∨ (∃ (kk : Int) (ww : Int), (kk = (kindW (R 3) (R 0 15) (wre (R 3) (R 0 4) (R 0 15))) ∧ ww = (wre (R 3) (R 0 4) (R 0 15)) ∧ 0 ≤ kk ∧ kk ≤ 6) ∧ (0 : Int) = 1 ∧ (upr R 0 (ups (ups (ups (R 0) 15 q) 16 (-1000000000)) 15 (R 0 15))) = (upr R 0 (ups (ups (R 0) 16 kk) 15 ww))))⟩, by rw [ht]; exact hP, hD⟩, hS.F ht⟩) hS.2.2 dX7_readWord_126 hlocks
                  · exfalso; omega
            · exfalso; omega
        · skip
          refine k_bipush hx hb dX7_readWord_11 (by decide +kernel) ?_
          refine k_bipush hx hb dX7_readWord_13 (by decide +kernel) ?_
          refine k_roS (As := [.int (iI (-1000000000)), .int (iI 97), .int (iI 122)]) (rest := []) ⟨hx, hb, hml, hown, hts⟩ (c_X7_in l D (-1000000000) 97 122 (show -2147483648 ≤ (-1000000000) ∧ (-1000000000) ≤ 2147483647 by omega) (show -2147483648 ≤ 97 ∧ 97 ≤ 2147483647 by omega) (show -2147483648 ≤ 122 ∧ 122 ≤ 2147483647 by omega)) gX7_readWord_X7_in rfl ⟨rfl, rfl⟩ 3 rfl (by decide +kernel) ⟨Nat.le_of_ble_eq_true rfl, Nat.le_of_ble_eq_true rfl⟩ kGT_ok trivial (fun k q h => by simp at h) hl.1 rfl (Nat.le_of_ble_eq_true rfl) ⟨Nat.le_of_ble_eq_true rfl, Nat.le_of_ble_eq_true rfl⟩ dX7_readWord_15 (fun r_18 hr_18 => ?_)
          have hr_18 : ((97 ≤ (-1000000000) ∧ (-1000000000) ≤ 122) ∧ r_18 = 1) ∨ (¬ (97 ≤ (-1000000000) ∧ (-1000000000) ≤ 122) ∧ r_18 = 0) := hr_18
          rcases hr_18 with ⟨c_19, hr_18⟩ | ⟨c_19, hr_18⟩ <;> subst hr_18
          · skip
            refine k_if_eq (tgt := 67) hx hb dX7_readWord_18 (by decide) (by omega) (fun c_20 => ?_) (fun c_20 => ?_)
            · exfalso; omega
            · skip
              refine lv_aload_n hx hb dX7_readWord_21 rfl (lv_at hl 2 rfl) ?_
              refine va_get (D := D) (ci := 6) (v := .int (iI q)) (C := RX7) (T := TX7) (N := 19) hx hb hts hinX7 hown hK hP 0 rfl rfl 15 (by decide) hmw0 (fun _ h9 => h9) rfl dX7_readWord_22 ?_
              refine lv_iload_n hx hb dX7_readWord_25 rfl (lv_at hl 1 rfl) ?_
              refine k_isub hx hb dX7_readWord_26 ?_
              refine k_bipush hx hb dX7_readWord_27 (by decide +kernel) ?_
              refine k_icmp_ge (tgt := 50) hx hb dX7_readWord_29 (by decide) (by omega) (by omega) (fun c_21 => ?_) (fun c_21 => ?_)
              · skip
                refine k_ldc2 (z := (-1)) hx hb hown hmw1 (by decide +kernel) dX7_readWord_50 ?_
                refine lv_lstore_n (lv' := [(2, .long (lI (-1))), (1, .int (iI (R 0 15))), (0, .ref (a 0))]) hx hb dX7_readWord_53 rfl hl (by decide) rfl (fun ls hl => ?_)
                refine lv_aload_n hx hb dX7_readWord_54 rfl (lv_at hl 2 rfl) ?_
                refine lv_dup hx hb dX7_readWord_55 rfl ?_
                refine va_get (D := D) (ci := 6) (v := .int (iI q)) (C := RX7) (T := TX7) (N := 19) hx hb hts hinX7 hown hK hP 0 rfl rfl 15 (by decide) hmw0 (fun _ h9 => h9) rfl dX7_readWord_56 ?_
                refine k_iconst hx hb dX7_readWord_59 ?_
                refine k_iadd hx hb dX7_readWord_60 ?_
                refine va_put (D := D) (ci := 6) (v := .int (iI (q + 1))) (ty := .int) (C := RX7) (T := TX7) (N := 19) hx hb hts hinX7 tyX7 tyX7_ok nmX7 hown hK hP hD hS 0 rfl rfl 15 (by decide) hmw0 (fun _ h9 => h9) rfl (by decide +kernel) rfl rfl (Nat.le_of_ble_eq_true rfl) dX7_readWord_61 (fun H locs hP hD hS => ?_)
                have hP : va_P D vwCl (rfW cy a (upr R 0 (ups (ups (R 0) 15 q) 15 (q + 1)))) H := hP
                have hD : va_D (va_A (rfW cy a R) sz) (rfW cy a (upr R 0 (ups (ups (R 0) 15 q) 15 (q + 1)))) := hD
                refine lv_goto (tgt := 7) hx hb dX7_readWord_64 (by decide) ?_
                exact ih7 (q + 1) (-1) (by omega) (by omega) ((wre_y (by omega) (by omega)).symm.trans hi2) (fun k a b => by by_cases e9 : k = q; (subst e9; omega); exact hi3 k a (by omega)) (by rw [wn_y hi0]; first | (rw [if_pos (by omega)]; done) | (rw [if_neg (by omega)]; done)) (by omega) H locs (by rw [show (ups (R 0) 15 (q + 1)) = (ups (ups (R 0) 15 q) 15 (q + 1)) from (ups_ups _ _ _ _).symm]; exact hP) (k_addr hD rfl) hS ls (lv_sub hl [0, 1, 2] rfl)
              · skip
                refine lv_lload_n hx hb dX7_readWord_32 rfl (lv_at hl 0 rfl) ?_
                refine k_ldc2 (z := 27) hx hb hown hmw2 (by decide +kernel) dX7_readWord_33 ?_
                refine k_lmul hx hb dX7_readWord_36 ?_
                refine lv_aload_n hx hb dX7_readWord_37 rfl (lv_at hl 2 rfl) ?_
                refine k_roV (As := []) (rest := [.long (lI ((wnI (R 3) (R 0 15) (q - R 0 15).toNat) * 27))]) ⟨hx, hb, hml, hown, hts⟩ (c_X7_here l D cy a (upr R 0 (ups (R 0) 15 q)) (show 0 ≤ q ∧ q ≤ (R 0 4) by omega) (show (R 0 4) ≤ 150 by omega)) gX7_readWord_X7_here rfl ⟨rfl, rfl⟩ 0 rfl (by decide +kernel) ⟨Nat.le_of_ble_eq_true rfl, Nat.le_of_ble_eq_true rfl⟩ (GG_ok D cy) ((GG_ok D cy).2.2.2 _ _ _ _ (fun _ h => h.elim) ((GG_ok D cy).1 _ _ _ _ hS.2.1 hG)) hP (va_recv hK hP (ci := 6) (q0 := 0) rfl rfl) hl.1 rfl (Nat.le_of_ble_eq_true rfl) ⟨Nat.le_of_ble_eq_true rfl, Nat.le_of_ble_eq_true rfl⟩ dX7_readWord_38 (fun r_22 hr_22 => ?_)
                have hr_22 : ((q < (R 0 4)) ∧ r_22 = (R 3) (q)) ∨ (((R 0 4) ≤ q) ∧ r_22 = -1000000000) := hr_22
                rcases hr_22 with ⟨c_23, hr_22⟩ | ⟨c_23, hr_22⟩ <;> subst hr_22
                · skip
                  refine k_i2l hx hb dX7_readWord_41 (by omega) ?_
                  refine k_ladd hx hb dX7_readWord_42 ?_
                  refine k_ldc2 (z := 96) hx hb hown hmw3 (by decide +kernel) dX7_readWord_43 ?_
                  refine k_lsub hx hb dX7_readWord_46 ?_
                  refine lv_goto (tgt := 53) hx hb dX7_readWord_47 (by decide) ?_
                  refine lv_lstore_n (lv' := [(2, .long (lI ((((wnI (R 3) (R 0 15) (q - R 0 15).toNat) * 27) + ((R 3) (q))) - 96))), (1, .int (iI (R 0 15))), (0, .ref (a 0))]) hx hb dX7_readWord_53 rfl hl (by decide) rfl (fun ls hl => ?_)
                  refine lv_aload_n hx hb dX7_readWord_54 rfl (lv_at hl 2 rfl) ?_
                  refine lv_dup hx hb dX7_readWord_55 rfl ?_
                  refine va_get (D := D) (ci := 6) (v := .int (iI q)) (C := RX7) (T := TX7) (N := 19) hx hb hts hinX7 hown hK hP 0 rfl rfl 15 (by decide) hmw0 (fun _ h9 => h9) rfl dX7_readWord_56 ?_
                  refine k_iconst hx hb dX7_readWord_59 ?_
                  refine k_iadd hx hb dX7_readWord_60 ?_
                  refine va_put (D := D) (ci := 6) (v := .int (iI (q + 1))) (ty := .int) (C := RX7) (T := TX7) (N := 19) hx hb hts hinX7 tyX7 tyX7_ok nmX7 hown hK hP hD hS 0 rfl rfl 15 (by decide) hmw0 (fun _ h9 => h9) rfl (by decide +kernel) rfl rfl (Nat.le_of_ble_eq_true rfl) dX7_readWord_61 (fun H locs hP hD hS => ?_)
                  have hP : va_P D vwCl (rfW cy a (upr R 0 (ups (ups (R 0) 15 q) 15 (q + 1)))) H := hP
                  have hD : va_D (va_A (rfW cy a R) sz) (rfW cy a (upr R 0 (ups (ups (R 0) 15 q) 15 (q + 1)))) := hD
                  refine lv_goto (tgt := 7) hx hb dX7_readWord_64 (by decide) ?_
                  exact ih7 (q + 1) ((((wnI (R 3) (R 0 15) (q - R 0 15).toNat) * 27) + ((R 3) (q))) - 96) (by omega) (by omega) ((wre_y (by omega) (by omega)).symm.trans hi2) (fun k a b => by by_cases e9 : k = q; (subst e9; omega); exact hi3 k a (by omega)) (by rw [wn_y hi0]; first | (rw [if_pos (by omega)]; done) | (rw [if_neg (by omega)]; done)) (by omega) H locs (by rw [show (ups (R 0) 15 (q + 1)) = (ups (ups (R 0) 15 q) 15 (q + 1)) from (ups_ups _ _ _ _).symm]; exact hP) (k_addr hD rfl) hS ls (lv_sub hl [0, 1, 2] rfl)
                · exfalso; omega
          · skip
            refine k_if_eq (tgt := 67) hx hb dX7_readWord_18 (by decide) (by omega) (fun c_24 => ?_) (fun c_24 => ?_)
            · skip
              have hex : wre (R 3) (R 0 4) q = q := wre_n (fun h9 => by omega)
              have hw9 : (wre (R 3) (R 0 4) (R 0 15)) = q := by rw [← hi2]; exact hex
              rw [hw9] at hkr
              refine lv_aload_n hx hb dX7_readWord_67 rfl (lv_at hl 2 rfl) ?_
              refine lv_aload_n hx hb dX7_readWord_68 rfl (lv_at hl 2 rfl) ?_
              refine va_get (D := D) (ci := 6) (v := .int (iI q)) (C := RX7) (T := TX7) (N := 19) hx hb hts hinX7 hown hK hP 0 rfl rfl 15 (by decide) hmw0 (fun _ h9 => h9) rfl dX7_readWord_69 ?_
              refine lv_iload_n hx hb dX7_readWord_72 rfl (lv_at hl 1 rfl) ?_
              refine k_isub hx hb dX7_readWord_73 ?_
              refine k_bipush hx hb dX7_readWord_74 (by decide +kernel) ?_
              refine k_icmp_le (tgt := 84) hx hb dX7_readWord_76 (by decide) (by omega) (by omega) (fun c_25 => ?_) (fun c_25 => ?_)
              · skip
                have hk9 := wk_y hi0 hi3 (by omega)
                refine lv_lload_n hx hb dX7_readWord_84 rfl (lv_at hl 0 rfl) ?_
                refine k_roS (As := [.long (lI (wnI (R 3) (R 0 15) (q - R 0 15).toNat))]) (rest := [.ref (a 0)]) ⟨hx, hb, hml, hown, hts⟩ (c_X7_commandOf l D (wnI (R 3) (R 0 15) (q - R 0 15).toNat) (show -9223372036854775808 ≤ (wnI (R 3) (R 0 15) (q - R 0 15).toNat) ∧ (wnI (R 3) (R 0 15) (q - R 0 15).toNat) ≤ 9223372036854775807 by omega)) gX7_readWord_X7_commandOf rfl ⟨rfl, rfl⟩ 1 rfl (by decide +kernel) ⟨Nat.le_of_ble_eq_true rfl, Nat.le_of_ble_eq_true rfl⟩ kGT_ok trivial (fun k q h => by simp at h) hl.1 rfl (Nat.le_of_ble_eq_true rfl) ⟨Nat.le_of_ble_eq_true rfl, Nat.le_of_ble_eq_true rfl⟩ dX7_readWord_85 (fun r_26 hr_26 => ?_)
                have hr_26 : r_26 = cmdN (wnI (R 3) (R 0 15) (q - R 0 15).toNat) := hr_26
                subst hr_26
                refine k_eqI (v := cmdN (wnI (R 3) (R 0 15) (q - R 0 15).toNat)) (w := kindW (R 3) (R 0 15) q) (hk9) ?_
                refine va_put (D := D) (ci := 6) (v := .int (iI (kindW (R 3) (R 0 15) q))) (ty := .int) (C := RX7) (T := TX7) (N := 19) hx hb hts hinX7 tyX7 tyX7_ok nmX7 hown hK hP hD hS 0 rfl rfl 16 (by decide) hmw4 (fun _ h9 => h9) rfl (by decide +kernel) rfl rfl (Nat.le_of_ble_eq_true rfl) dX7_readWord_88 (fun H locs hP hD hS => ?_)
                have hP : va_P D vwCl (rfW cy a (upr R 0 (ups (ups (R 0) 15 q) 16 (kindW (R 3) (R 0 15) q)))) H := hP
                have hD : va_D (va_A (rfW cy a R) sz) (rfW cy a (upr R 0 (ups (ups (R 0) 15 q) 16 (kindW (R 3) (R 0 15) q)))) := hD
                refine lv_aload_n hx hb dX7_readWord_91 rfl (lv_at hl 2 rfl) ?_
                refine lv_aload_n hx hb dX7_readWord_92 rfl (lv_at hl 2 rfl) ?_
                refine va_get (D := D) (ci := 6) (v := .int (iI (kindW (R 3) (R 0 15) q))) (C := RX7) (T := TX7) (N := 19) hx hb hts hinX7 hown hK hP 0 rfl rfl 16 (by decide) hmw4 (fun _ h9 => h9) rfl dX7_readWord_93 ?_
                refine k_ldc (z := (-1000000000)) hx hb hown hmw5 (by decide +kernel) dX7_readWord_96 ?_
                refine k_icmp_ne (tgt := 105) hx hb dX7_readWord_98 (by decide) (by omega) (by omega) (fun c_27 => ?_) (fun c_27 => ?_)
                · skip
                  refine lv_aload_n hx hb dX7_readWord_105 rfl (lv_at hl 2 rfl) ?_
                  refine va_get (D := D) (ci := 6) (v := .int (iI q)) (C := RX7) (T := TX7) (N := 19) hx hb hts hinX7 hown hK hP 0 rfl rfl 15 (by decide) hmw0 (fun _ h9 => h9) rfl dX7_readWord_106 ?_
                  refine va_put (D := D) (ci := 6) (v := .int (iI q)) (ty := .int) (C := RX7) (T := TX7) (N := 19) hx hb hts hinX7 tyX7 tyX7_ok nmX7 hown hK hP hD hS 0 rfl rfl 15 (by decide) hmw0 (fun _ h9 => h9) rfl (by decide +kernel) rfl rfl (Nat.le_of_ble_eq_true rfl) dX7_readWord_109 (fun H locs hP hD hS => ?_)
                  have hP : va_P D vwCl (rfW cy a (upr R 0 (ups (ups (ups (R 0) 15 q) 16 (kindW (R 3) (R 0 15) q)) 15 q))) H := hP
                  have hD : va_D (va_A (rfW cy a R) sz) (rfW cy a (upr R 0 (ups (ups (ups (R 0) 15 q) 16 (kindW (R 3) (R 0 15) q)) 15 q))) := hD
                  refine lv_aload_n hx hb dX7_readWord_112 rfl (lv_at hl 2 rfl) ?_
                  refine va_get (D := D) (ci := 6) (v := .int (iI (kindW (R 3) (R 0 15) q))) (C := RX7) (T := TX7) (N := 19) hx hb hts hinX7 hown hK hP 0 rfl rfl 16 (by decide) hmw4 (fun _ h9 => h9) rfl dX7_readWord_113 ?_
                  refine k_ldc (z := (-1000000000)) hx hb hown hmw5 (by decide +kernel) dX7_readWord_116 ?_
                  refine k_icmp_eq (tgt := 125) hx hb dX7_readWord_118 (by decide) (by omega) (by omega) (fun c_28 => ?_) (fun c_28 => ?_)
                  · skip
                    refine k_iconst hx hb dX7_readWord_125 ?_
                    exact W.zret (v := iI 0) hx hb hr (by decide +kernel) (fun t9 ht _ => ⟨⟨iI 0, (upr R 0 (ups (ups (ups (R 0) 15 q) 16 (kindW (R 3) (R 0 15) q)) 15 q)), rfl, ⟨0, rfl, (by first | exact Or.inl ⟨((kindW (R 3) (R 0 15) q)), (by rw [hw9]; exact ⟨by omega, by first | rfl | omega⟩), (by first | rfl | omega), (by rw [show (ups (ups (ups (R 0) 15 q) 16 (kindW (R 3) (R 0 15) q)) 15 q) = (ups (ups (R 0) 16 (kindW (R 3) (R 0 15) q)) 15 (R 0 15)) from by first | (funext k9; unfold ups; (repeat' split) <;> first | rfl | omega | (exfalso; omega)) | (rw [hw9]; funext k9; unfold ups; (repeat' split) <;> first | rfl | omega | (exfalso; omega)) | (funext k9; unfold ups; (repeat' split) <;> first | rfl | omega | (exfalso; omega))])⟩ | exact Or.inr (⟨((kindW (R 3) (R 0 15) q)), (q), (by rw [hw9]; exact ⟨by first | rfl | omega, rfl, by omega, by omega⟩), (by first | rfl | omega), (by rw [show (ups (ups (ups (R 0) 15 q) 16 (kindW (R 3) (R 0 15) q)) 15 q) = (ups (ups (R 0) 16 (kindW (R 3) (R 0 15) q)) 15 q) from by first | (funext k9; unfold ups; (repeat' split) <;> first | rfl | omega | (exfalso; omega)) | (rw [hw9]; funext k9; unfold ups; (repeat' split) <;> first | rfl | omega | (exfalso; omega)) | (funext k9; unfold ups; (repeat' split) <;> first | rfl | omega | (exfalso; omega))])⟩) : (∃ (kk : Int), ((kindW (R 3) (R 0 15) (wre (R 3) (R 0 4) (R 0 15))) = kk ∧ kk = -1000000000) ∧ (0 : Int) = 0 ∧ (upr R 0 (ups (ups (ups (R 0) 15 q) 16 (kindW (R 3) (R 0 15) q)) 15 q)) = (upr R 0 (ups (ups (R 0) 16 kk) 15 (R 0 15)))) ∨ (∃ (kk : Int) (ww : Int), (kk = (kindW (R 3) (R 0 15) (wre (R 3) (R 0 4) (R 0 15))) ∧ ww = (wre (R 3) (R 0 4) (R 0 15)) ∧ 0 ≤ kk ∧ kk ≤ 6) ∧ (0 : Int) = 1 ∧ (upr R 0 (ups (ups (ups (R 0) 15 q) 16 (kindW (R 3) (R 0 15) q)) 15 q)) = (upr R 0 (ups (ups (R 0) 16 kk) 15 ww))))⟩, by rw [ht]; exact hP, hD⟩, hS.F ht⟩) hS.2.2 dX7_readWord_126 hlocks
                  · skip
                    refine k_iconst hx hb dX7_readWord_121 ?_
                    refine lv_goto (tgt := 126) hx hb dX7_readWord_122 (by decide) ?_
                    exact W.zret (v := iI 1) hx hb hr (by decide +kernel) (fun t9 ht _ => ⟨⟨iI 1, (upr R 0 (ups (ups (ups (R 0) 15 q) 16 (kindW (R 3) (R 0 15) q)) 15 q)), rfl, ⟨1, rfl, (by first | exact Or.inl ⟨((kindW (R 3) (R 0 15) q)), (by rw [hw9]; exact ⟨by omega, by first | rfl | omega⟩), (by first | rfl | omega), (by rw [show (ups (ups (ups (R 0) 15 q) 16 (kindW (R 3) (R 0 15) q)) 15 q) = (ups (ups (R 0) 16 (kindW (R 3) (R 0 15) q)) 15 (R 0 15)) from by first | (funext k9; unfold ups; (repeat' split) <;> first | rfl | omega | (exfalso; omega)) | (rw [hw9]; funext k9; unfold ups; (repeat' split) <;> first | rfl | omega | (exfalso; omega)) | (funext k9; unfold ups; (repeat' split) <;> first | rfl | omega | (exfalso; omega))])⟩ | exact Or.inr (⟨((kindW (R 3) (R 0 15) q)), (q), (by rw [hw9]; exact ⟨by first | rfl | omega, rfl, by omega, by omega⟩), (by first | rfl | omega), (by rw [show (ups (ups (ups (R 0) 15 q) 16 (kindW (R 3) (R 0 15) q)) 15 q) = (ups (ups (R 0) 16 (kindW (R 3) (R 0 15) q)) 15 q) from by first | (funext k9; unfold ups; (repeat' split) <;> first | rfl | omega | (exfalso; omega)) | (rw [hw9]; funext k9; unfold ups; (repeat' split) <;> first | rfl | omega | (exfalso; omega)) | (funext k9; unfold ups; (repeat' split) <;> first | rfl | omega | (exfalso; omega))])⟩) : (∃ (kk : Int), ((kindW (R 3) (R 0 15) (wre (R 3) (R 0 4) (R 0 15))) = kk ∧ kk = -1000000000) ∧ (1 : Int) = 0 ∧ (upr R 0 (ups (ups (ups (R 0) 15 q) 16 (kindW (R 3) (R 0 15) q)) 15 q)) = (upr R 0 (ups (ups (R 0) 16 kk) 15 (R 0 15)))) ∨ (∃ (kk : Int) (ww : Int), (kk = (kindW (R 3) (R 0 15) (wre (R 3) (R 0 4) (R 0 15))) ∧ ww = (wre (R 3) (R 0 4) (R 0 15)) ∧ 0 ≤ kk ∧ kk ≤ 6) ∧ (1 : Int) = 1 ∧ (upr R 0 (ups (ups (ups (R 0) 15 q) 16 (kindW (R 3) (R 0 15) q)) 15 q)) = (upr R 0 (ups (ups (R 0) 16 kk) 15 ww))))⟩, by rw [ht]; exact hP, hD⟩, hS.F ht⟩) hS.2.2 dX7_readWord_126 hlocks
                · skip
                  refine lv_iload_n hx hb dX7_readWord_101 rfl (lv_at hl 1 rfl) ?_
                  refine lv_goto (tgt := 109) hx hb dX7_readWord_102 (by decide) ?_
                  refine va_put (D := D) (ci := 6) (v := .int (iI (R 0 15))) (ty := .int) (C := RX7) (T := TX7) (N := 19) hx hb hts hinX7 tyX7 tyX7_ok nmX7 hown hK hP hD hS 0 rfl rfl 15 (by decide) hmw0 (fun _ h9 => h9) rfl (by decide +kernel) rfl rfl (Nat.le_of_ble_eq_true rfl) dX7_readWord_109 (fun H locs hP hD hS => ?_)
                  have hP : va_P D vwCl (rfW cy a (upr R 0 (ups (ups (ups (R 0) 15 q) 16 (kindW (R 3) (R 0 15) q)) 15 (R 0 15)))) H := hP
                  have hD : va_D (va_A (rfW cy a R) sz) (rfW cy a (upr R 0 (ups (ups (ups (R 0) 15 q) 16 (kindW (R 3) (R 0 15) q)) 15 (R 0 15)))) := hD
                  refine lv_aload_n hx hb dX7_readWord_112 rfl (lv_at hl 2 rfl) ?_
                  refine va_get (D := D) (ci := 6) (v := .int (iI (kindW (R 3) (R 0 15) q))) (C := RX7) (T := TX7) (N := 19) hx hb hts hinX7 hown hK hP 0 rfl rfl 16 (by decide) hmw4 (fun _ h9 => h9) rfl dX7_readWord_113 ?_
                  refine k_ldc (z := (-1000000000)) hx hb hown hmw5 (by decide +kernel) dX7_readWord_116 ?_
                  refine k_icmp_eq (tgt := 125) hx hb dX7_readWord_118 (by decide) (by omega) (by omega) (fun c_29 => ?_) (fun c_29 => ?_)
                  · skip
                    refine k_iconst hx hb dX7_readWord_125 ?_
                    exact W.zret (v := iI 0) hx hb hr (by decide +kernel) (fun t9 ht _ => ⟨⟨iI 0, (upr R 0 (ups (ups (ups (R 0) 15 q) 16 (kindW (R 3) (R 0 15) q)) 15 (R 0 15))), rfl, ⟨0, rfl, (by first | exact Or.inl ⟨((kindW (R 3) (R 0 15) q)), (by rw [hw9]; exact ⟨by omega, by first | rfl | omega⟩), (by first | rfl | omega), (by rw [show (ups (ups (ups (R 0) 15 q) 16 (kindW (R 3) (R 0 15) q)) 15 (R 0 15)) = (ups (ups (R 0) 16 (kindW (R 3) (R 0 15) q)) 15 (R 0 15)) from by first | (funext k9; unfold ups; (repeat' split) <;> first | rfl | omega | (exfalso; omega)) | (rw [hw9]; funext k9; unfold ups; (repeat' split) <;> first | rfl | omega | (exfalso; omega)) | (funext k9; unfold ups; (repeat' split) <;> first | rfl | omega | (exfalso; omega))])⟩ | exact Or.inr (⟨((kindW (R 3) (R 0 15) q)), ((R 0 15)), (by rw [hw9]; exact ⟨by first | rfl | omega, rfl, by omega, by omega⟩), (by first | rfl | omega), (by rw [show (ups (ups (ups (R 0) 15 q) 16 (kindW (R 3) (R 0 15) q)) 15 (R 0 15)) = (ups (ups (R 0) 16 (kindW (R 3) (R 0 15) q)) 15 (R 0 15)) from by first | (funext k9; unfold ups; (repeat' split) <;> first | rfl | omega | (exfalso; omega)) | (rw [hw9]; funext k9; unfold ups; (repeat' split) <;> first | rfl | omega | (exfalso; omega)) | (funext k9; unfold ups; (repeat' split) <;> first | rfl | omega | (exfalso; omega))])⟩) : (∃ (kk : Int), ((kindW (R 3) (R 0 15) (wre (R 3) (R 0 4) (R 0 15))) = kk ∧ kk = -1000000000) ∧ (0 : Int) = 0 ∧ (upr R 0 (ups (ups (ups (R 0) 15 q) 16 (kindW (R 3) (R 0 15) q)) 15 (R 0 15))) = (upr R 0 (ups (ups (R 0) 16 kk) 15 (R 0 15)))) ∨ (∃ (kk : Int) (ww : Int), (kk = (kindW (R 3) (R 0 15) (wre (R 3) (R 0 4) (R 0 15))) ∧ ww = (wre (R 3) (R 0 4) (R 0 15)) ∧ 0 ≤ kk ∧ kk ≤ 6) ∧ (0 : Int) = 1 ∧ (upr R 0 (ups (ups (ups (R 0) 15 q) 16 (kindW (R 3) (R 0 15) q)) 15 (R 0 15))) = (upr R 0 (ups (ups (R 0) 16 kk) 15 ww))))⟩, by rw [ht]; exact hP, hD⟩, hS.F ht⟩) hS.2.2 dX7_readWord_126 hlocks
                  · skip
                    refine k_iconst hx hb dX7_readWord_121 ?_
                    refine lv_goto (tgt := 126) hx hb dX7_readWord_122 (by decide) ?_
                    exact W.zret (v := iI 1) hx hb hr (by decide +kernel) (fun t9 ht _ => ⟨⟨iI 1, (upr R 0 (ups (ups (ups (R 0) 15 q) 16 (kindW (R 3) (R 0 15) q)) 15 (R 0 15))), rfl, ⟨1, rfl, (by first | exact Or.inl ⟨((kindW (R 3) (R 0 15) q)), (by rw [hw9]; exact ⟨by omega, by first | rfl | omega⟩), (by first | rfl | omega), (by rw [show (ups (ups (ups (R 0) 15 q) 16 (kindW (R 3) (R 0 15) q)) 15 (R 0 15)) = (ups (ups (R 0) 16 (kindW (R 3) (R 0 15) q)) 15 (R 0 15)) from by first | (funext k9; unfold ups; (repeat' split) <;> first | rfl | omega | (exfalso; omega)) | (rw [hw9]; funext k9; unfold ups; (repeat' split) <;> first | rfl | omega | (exfalso; omega)) | (funext k9; unfold ups; (repeat' split) <;> first | rfl | omega | (exfalso; omega))])⟩ | exact Or.inr (⟨((kindW (R 3) (R 0 15) q)), ((R 0 15)), (by rw [hw9]; exact ⟨by first | rfl | omega, rfl, by omega, by omega⟩), (by first | rfl | omega), (by rw [show (ups (ups (ups (R 0) 15 q) 16 (kindW (R 3) (R 0 15) q)) 15 (R 0 15)) = (ups (ups (R 0) 16 (kindW (R 3) (R 0 15) q)) 15 (R 0 15)) from by first | (funext k9; unfold ups; (repeat' split) <;> first | rfl | omega | (exfalso; omega)) | (rw [hw9]; funext k9; unfold ups; (repeat' split) <;> first | rfl | omega | (exfalso; omega)) | (funext k9; unfold ups; (repeat' split) <;> first | rfl | omega | (exfalso; omega))])⟩) : (∃ (kk : Int), ((kindW (R 3) (R 0 15) (wre (R 3) (R 0 4) (R 0 15))) = kk ∧ kk = -1000000000) ∧ (1 : Int) = 0 ∧ (upr R 0 (ups (ups (ups (R 0) 15 q) 16 (kindW (R 3) (R 0 15) q)) 15 (R 0 15))) = (upr R 0 (ups (ups (R 0) 16 kk) 15 (R 0 15)))) ∨ (∃ (kk : Int) (ww : Int), (kk = (kindW (R 3) (R 0 15) (wre (R 3) (R 0 4) (R 0 15))) ∧ ww = (wre (R 3) (R 0 4) (R 0 15)) ∧ 0 ≤ kk ∧ kk ≤ 6) ∧ (1 : Int) = 1 ∧ (upr R 0 (ups (ups (ups (R 0) 15 q) 16 (kindW (R 3) (R 0 15) q)) 15 (R 0 15))) = (upr R 0 (ups (ups (R 0) 16 kk) 15 ww))))⟩, by rw [ht]; exact hP, hD⟩, hS.F ht⟩) hS.2.2 dX7_readWord_126 hlocks
              · skip
                have hk9 := wk_n hi0 hi3 (by omega)
                refine k_ldc (z := (-1000000000)) hx hb hown hmw5 (by decide +kernel) dX7_readWord_79 ?_
                refine lv_goto (tgt := 88) hx hb dX7_readWord_81 (by decide) ?_
                refine va_put (D := D) (ci := 6) (v := .int (iI (-1000000000))) (ty := .int) (C := RX7) (T := TX7) (N := 19) hx hb hts hinX7 tyX7 tyX7_ok nmX7 hown hK hP hD hS 0 rfl rfl 16 (by decide) hmw4 (fun _ h9 => h9) rfl (by decide +kernel) rfl rfl (Nat.le_of_ble_eq_true rfl) dX7_readWord_88 (fun H locs hP hD hS => ?_)
                have hP : va_P D vwCl (rfW cy a (upr R 0 (ups (ups (R 0) 15 q) 16 (-1000000000)))) H := hP
                have hD : va_D (va_A (rfW cy a R) sz) (rfW cy a (upr R 0 (ups (ups (R 0) 15 q) 16 (-1000000000)))) := hD
                refine lv_aload_n hx hb dX7_readWord_91 rfl (lv_at hl 2 rfl) ?_
                refine lv_aload_n hx hb dX7_readWord_92 rfl (lv_at hl 2 rfl) ?_
                refine va_get (D := D) (ci := 6) (v := .int (iI (-1000000000))) (C := RX7) (T := TX7) (N := 19) hx hb hts hinX7 hown hK hP 0 rfl rfl 16 (by decide) hmw4 (fun _ h9 => h9) rfl dX7_readWord_93 ?_
                refine k_ldc (z := (-1000000000)) hx hb hown hmw5 (by decide +kernel) dX7_readWord_96 ?_
                refine k_icmp_ne (tgt := 105) hx hb dX7_readWord_98 (by decide) (by omega) (by omega) (fun c_30 => ?_) (fun c_30 => ?_)
                · exfalso; omega
                · skip
                  refine lv_iload_n hx hb dX7_readWord_101 rfl (lv_at hl 1 rfl) ?_
                  refine lv_goto (tgt := 109) hx hb dX7_readWord_102 (by decide) ?_
                  refine va_put (D := D) (ci := 6) (v := .int (iI (R 0 15))) (ty := .int) (C := RX7) (T := TX7) (N := 19) hx hb hts hinX7 tyX7 tyX7_ok nmX7 hown hK hP hD hS 0 rfl rfl 15 (by decide) hmw0 (fun _ h9 => h9) rfl (by decide +kernel) rfl rfl (Nat.le_of_ble_eq_true rfl) dX7_readWord_109 (fun H locs hP hD hS => ?_)
                  have hP : va_P D vwCl (rfW cy a (upr R 0 (ups (ups (ups (R 0) 15 q) 16 (-1000000000)) 15 (R 0 15)))) H := hP
                  have hD : va_D (va_A (rfW cy a R) sz) (rfW cy a (upr R 0 (ups (ups (ups (R 0) 15 q) 16 (-1000000000)) 15 (R 0 15)))) := hD
                  refine lv_aload_n hx hb dX7_readWord_112 rfl (lv_at hl 2 rfl) ?_
                  refine va_get (D := D) (ci := 6) (v := .int (iI (-1000000000))) (C := RX7) (T := TX7) (N := 19) hx hb hts hinX7 hown hK hP 0 rfl rfl 16 (by decide) hmw4 (fun _ h9 => h9) rfl dX7_readWord_113 ?_
                  refine k_ldc (z := (-1000000000)) hx hb hown hmw5 (by decide +kernel) dX7_readWord_116 ?_
                  refine k_icmp_eq (tgt := 125) hx hb dX7_readWord_118 (by decide) (by omega) (by omega) (fun c_31 => ?_) (fun c_31 => ?_)
                  · skip
                    refine k_iconst hx hb dX7_readWord_125 ?_
                    exact W.zret (v := iI 0) hx hb hr (by decide +kernel) (fun t9 ht _ => ⟨⟨iI 0, (upr R 0 (ups (ups (ups (R 0) 15 q) 16 (-1000000000)) 15 (R 0 15))), rfl, ⟨0, rfl, (by first | exact Or.inl ⟨((-1000000000)), (by rw [hw9]; exact ⟨by omega, by first | rfl | omega⟩), (by first | rfl | omega), (by rw [show (ups (ups (ups (R 0) 15 q) 16 (-1000000000)) 15 (R 0 15)) = (ups (ups (R 0) 16 (-1000000000)) 15 (R 0 15)) from by first | (funext k9; unfold ups; (repeat' split) <;> first | rfl | omega | (exfalso; omega)) | (rw [hw9]; funext k9; unfold ups; (repeat' split) <;> first | rfl | omega | (exfalso; omega)) | (funext k9; unfold ups; (repeat' split) <;> first | rfl | omega | (exfalso; omega))])⟩ | exact Or.inr (⟨((-1000000000)), ((R 0 15)), (by rw [hw9]; exact ⟨by first | rfl | omega, rfl, by omega, by omega⟩), (by first | rfl | omega), (by rw [show (ups (ups (ups (R 0) 15 q) 16 (-1000000000)) 15 (R 0 15)) = (ups (ups (R 0) 16 (-1000000000)) 15 (R 0 15)) from by first | (funext k9; unfold ups; (repeat' split) <;> first | rfl | omega | (exfalso; omega)) | (rw [hw9]; funext k9; unfold ups; (repeat' split) <;> first | rfl | omega | (exfalso; omega)) | (funext k9; unfold ups; (repeat' split) <;> first | rfl | omega | (exfalso; omega))])⟩) : (∃ (kk : Int), ((kindW (R 3) (R 0 15) (wre (R 3) (R 0 4) (R 0 15))) = kk ∧ kk = -1000000000) ∧ (0 : Int) = 0 ∧ (upr R 0 (ups (ups (ups (R 0) 15 q) 16 (-1000000000)) 15 (R 0 15))) = (upr R 0 (ups (ups (R 0) 16 kk) 15 (R 0 15)))) ∨ (∃ (kk : Int) (ww : Int), (kk = (kindW (R 3) (R 0 15) (wre (R 3) (R 0 4) (R 0 15))) ∧ ww = (wre (R 3) (R 0 4) (R 0 15)) ∧ 0 ≤ kk ∧ kk ≤ 6) ∧ (0 : Int) = 1 ∧ (upr R 0 (ups (ups (ups (R 0) 15 q) 16 (-1000000000)) 15 (R 0 15))) = (upr R 0 (ups (ups (R 0) 16 kk) 15 ww))))⟩, by rw [ht]; exact hP, hD⟩, hS.F ht⟩) hS.2.2 dX7_readWord_126 hlocks
                  · exfalso; omega
            · exfalso; omega
    exact loop7 ((R 0 4 - (R 0 15) : Int) + 1).toNat (R 0 15) 0 (by omega) (by omega) (rfl) (fun k a b => by omega) (by rw [Int.sub_self]; rfl) (by omega) H locs (by rw [show (ups (R 0) 15 (R 0 15)) = (R 0) from ups_self _ _]; exact hP) (k_addr hD rfl) hS ls (lv_sub hl [0, 1, 2] rfl)
  exact hbody s.heap [] hP hS ls hl
set_option maxHeartbeats 4000000 in
set_option maxRecDepth 100000 in
theorem c_X7_readNumber (l : Launch) (D : va_G) (cy : Nat → ClassId) (sz : Nat) (a : Nat → Nat) (R : Nat → Int → Int) (i : Int) (hpl : 0 ≤ R 0 15 ∧ R 0 15 ≤ R 0 4) (htn : R 0 4 ≤ 150) (hT : ∀ k : Int, 0 ≤ k → k < 150 → 0 ≤ R 3 k ∧ R 3 k ≤ 127) (hi : 0 ≤ i ∧ i < 4) : Met l yX7_readNumber wsX7_readNumber { frames := 2, cells := 0, slots := 0, locals := 41 } (mPre (GG D cy) D (rfW cy a R) sz ([.ref (a 0), .int (iI i)] : List Value)) (kQi D (rfW cy a R) sz (fun u9 : Nat → Int → Int => rfW cy a u9) (fun r9 u9 => (((skp (R 3) (R 0 4) (R 0 15)) = R 0 15) ∧ r9 = 0 ∧ u9 = (upr R 0 (ups (R 0) 15 (skp (R 3) (R 0 4) (R 0 15))))) ∨ (∃ (dv : Int), (R 0 15 < (skp (R 3) (R 0 4) (R 0 15)) ∧ (dgF (R 3) (R 0 4) (skp (R 3) (R 0 4) (R 0 15))) = ((skp (R 3) (R 0 4) (R 0 15)), dv)) ∧ r9 = 0 ∧ u9 = (upr (upr R 0 (ups (R 0) 15 (skp (R 3) (R 0 4) (R 0 15)))) 7 (ups (R 7) i dv))) ∨ (∃ (dq : Int) (dv : Int), ((R 0 15 < (skp (R 3) (R 0 4) (R 0 15)) ∧ (skp (R 3) (R 0 4) (R 0 15)) < dq ∧ dq ≤ R 0 4) ∧ (dgF (R 3) (R 0 4) (skp (R 3) (R 0 4) (R 0 15))) = (dq, dv)) ∧ r9 = 1 ∧ u9 = (upr (upr R 0 (ups (R 0) 15 dq)) 7 (ups (R 7) i dv))))) 0 0 (va_A (rfW cy a R) sz) := by
  refine kM_start (cc := cX7_readNumber) (maxL := 4) (ret := (some .boolean)) (by decide) rfl (Nat.le_of_ble_eq_true rfl) ?_
  intro p e s m below meth c hx hb hr hlocks hml hts hown hsz hA hG hP hD hS hin ls hl
  have hK := hG.1
  have hl : lv_has ls 4 [(0, .ref (a 0)), (1, .int (iI i))] := hl
  have hinX7 : ∀ w ∈ u_ws RX7 TX7 19, w ∈ wsX7_readNumber := by decide +kernel
  have hmw0 := hts (.fieldLink RX7 250 "ArcPlateModel" "place" "I") (by decide +kernel)
  have hmw1 := hts (.fieldLink RX7 28 "ArcPlateModel" "numbers" "[I") (by decide +kernel)
  have hsb := skp_le (T := R 3) hpl.2
  have hbody : ∀ (H : Heap) (locs : List Loc) (hP : va_P D vwCl (rfW cy a R) H) (hS : va_S (va_A (rfW cy a R) sz) s.heap H locs) (ls : Array Slot) (hl : lv_has ls 4 [(0, .ref (a 0)), (1, .int (iI i))]), W p l e { frames := 2, cells := 0, slots := 0, locals := 41 } s m ([.ref (a 0), .int (iI i)] : List Value).toArray below meth c H locs 0 0 (MQ below (kQi D (rfW cy a R) sz (fun u9 : Nat → Int → Int => rfW cy a u9) (fun r9 u9 => (((skp (R 3) (R 0 4) (R 0 15)) = R 0 15) ∧ r9 = 0 ∧ u9 = (upr R 0 (ups (R 0) 15 (skp (R 3) (R 0 4) (R 0 15))))) ∨ (∃ (dv : Int), (R 0 15 < (skp (R 3) (R 0 4) (R 0 15)) ∧ (dgF (R 3) (R 0 4) (skp (R 3) (R 0 4) (R 0 15))) = ((skp (R 3) (R 0 4) (R 0 15)), dv)) ∧ r9 = 0 ∧ u9 = (upr (upr R 0 (ups (R 0) 15 (skp (R 3) (R 0 4) (R 0 15)))) 7 (ups (R 7) i dv))) ∨ (∃ (dq : Int) (dv : Int), ((R 0 15 < (skp (R 3) (R 0 4) (R 0 15)) ∧ (skp (R 3) (R 0 4) (R 0 15)) < dq ∧ dq ≤ R 0 4) ∧ (dgF (R 3) (R 0 4) (skp (R 3) (R 0 4) (R 0 15))) = (dq, dv)) ∧ r9 = 1 ∧ u9 = (upr (upr R 0 (ups (R 0) 15 dq)) 7 (ups (R 7) i dv))))) ([.ref (a 0), .int (iI i)] : List Value).toArray s 0 0 (va_A (rfW cy a R) sz)) (F0 m 0 ls []) := by
    intro H locs hP hS ls hl
    refine lv_aload_n hx hb dX7_readNumber_0 rfl (lv_at hl 0 rfl) ?_
    refine k_mui (k_runV (As := []) (rest := []) ⟨hx, hb, hml, hown, hts⟩ (c_X7_skips l D cy H.size a R (show 0 ≤ R 0 15 ∧ R 0 15 ≤ R 0 4 by omega) (show R 0 4 ≤ 150 by omega) (show ∀ k : Int, 0 ≤ k → k < 150 → 0 ≤ R 3 k ∧ R 3 k ≤ 127 by omega)) gX7_readNumber_X7_skips rfl ⟨rfl, rfl⟩ 0 rfl (by decide +kernel) ⟨Nat.le_of_ble_eq_true rfl, Nat.le_of_ble_eq_true rfl⟩ (GG_ok D cy) hG hS (k_free hD hS hA) hP hD (va_recv hK hP (ci := 6) (q0 := 0) rfl rfl) hl.1 rfl (Nat.le_of_ble_eq_true rfl) ⟨Nat.le_of_ble_eq_true rfl, Nat.le_of_ble_eq_true rfl⟩ dX7_readNumber_1) (k_free hD hS hA) hS (fun r_1 R_2 H1 locs1 hR_2 hP1 hD1 hS1 hk1 => ?_)
    rcases hR_2 with ⟨c_3, hr_1, hR_2⟩ | ⟨c_3, hr_1, hR_2⟩
    · skip
      have c_3 : R 0 15 < (skp (R 3) (R 0 4) (R 0 15)) := c_3
      subst hr_1
      subst hR_2
      have hDn : va_D (va_A (rfW cy a R) sz) (rfW cy a (upr R 0 (ups (R 0) 15 (skp (R 3) (R 0 4) (R 0 15))))) := k_addr hD rfl
      have hPn : va_P D vwCl (rfW cy a (upr R 0 (ups (R 0) 15 (skp (R 3) (R 0 4) (R 0 15))))) H1 := hP1
      clear hP hD hS hP1 hD1 hk1
      have hP := hPn
      have hD := hDn
      have hS := hS1
      clear hPn hDn hS1
      generalize H1 = H at hP hS ⊢
      generalize locs1 = locs at hS ⊢
      refine k_if_ne (tgt := 9) hx hb dX7_readNumber_4 (by decide) (by omega) (fun c_4 => ?_) (fun c_4 => ?_)
      · skip
        refine lv_aload_n hx hb dX7_readNumber_9 rfl (lv_at hl 0 rfl) ?_
        refine va_get (D := D) (ci := 6) (v := .int (iI (skp (R 3) (R 0 4) (R 0 15)))) (C := RX7) (T := TX7) (N := 19) hx hb hts hinX7 hown hK hP 0 rfl rfl 15 (by decide) hmw0 (fun _ h9 => h9) rfl dX7_readNumber_10 ?_
        refine lv_istore_n (lv' := [(2, .int (iI (skp (R 3) (R 0 4) (R 0 15)))), (0, .ref (a 0)), (1, .int (iI i))]) hx hb dX7_readNumber_13 rfl hl (by decide) rfl (fun ls hl => ?_)
        refine k_iconst hx hb dX7_readNumber_14 ?_
        refine lv_istore_n (lv' := [(3, .int (iI 0)), (2, .int (iI (skp (R 3) (R 0 4) (R 0 15)))), (0, .ref (a 0)), (1, .int (iI i))]) hx hb dX7_readNumber_15 rfl hl (by decide) rfl (fun ls hl => ?_)
        have loop16 : ∀ (n_5 : Nat) (q : Int) (v : Int) (hi0 : (skp (R 3) (R 0 4) (R 0 15)) ≤ q) (hi1 : q ≤ R 0 4) (hi2 : q ≤ (skp (R 3) (R 0 4) (R 0 15)) + 6) (hi3 : dgI (R 3) (R 0 4) ((skp (R 3) (R 0 4) (R 0 15)) + 6 - q).toNat q v = (dgF (R 3) (R 0 4) (skp (R 3) (R 0 4) (R 0 15)))) (hn : R 0 4 - q < (n_5 : Int)) (H : Heap) (locs : List Loc) (hP : va_P D vwCl (rfW cy a (upr R 0 (ups (R 0) 15 q))) H) (hD : va_D (va_A (rfW cy a R) sz) (rfW cy a (upr R 0 (ups (R 0) 15 q)))) (hS : va_S (va_A (rfW cy a R) sz) s.heap H locs) (ls : Array Slot) (hl : lv_has ls 4 [(3, .int (iI v)), (2, .int (iI (skp (R 3) (R 0 4) (R 0 15)))), (0, .ref (a 0)), (1, .int (iI i))]), W p l e { frames := 2, cells := 0, slots := 0, locals := 41 } s m ([.ref (a 0), .int (iI i)] : List Value).toArray below meth c H locs 0 0 (MQ below (kQi D (rfW cy a R) sz (fun u9 : Nat → Int → Int => rfW cy a u9) (fun r9 u9 => (((skp (R 3) (R 0 4) (R 0 15)) = R 0 15) ∧ r9 = 0 ∧ u9 = (upr R 0 (ups (R 0) 15 (skp (R 3) (R 0 4) (R 0 15))))) ∨ (∃ (dv : Int), (R 0 15 < (skp (R 3) (R 0 4) (R 0 15)) ∧ (dgF (R 3) (R 0 4) (skp (R 3) (R 0 4) (R 0 15))) = ((skp (R 3) (R 0 4) (R 0 15)), dv)) ∧ r9 = 0 ∧ u9 = (upr (upr R 0 (ups (R 0) 15 (skp (R 3) (R 0 4) (R 0 15)))) 7 (ups (R 7) i dv))) ∨ (∃ (dq : Int) (dv : Int), ((R 0 15 < (skp (R 3) (R 0 4) (R 0 15)) ∧ (skp (R 3) (R 0 4) (R 0 15)) < dq ∧ dq ≤ R 0 4) ∧ (dgF (R 3) (R 0 4) (skp (R 3) (R 0 4) (R 0 15))) = (dq, dv)) ∧ r9 = 1 ∧ u9 = (upr (upr R 0 (ups (R 0) 15 dq)) 7 (ups (R 7) i dv))))) ([.ref (a 0), .int (iI i)] : List Value).toArray s 0 0 (va_A (rfW cy a R) sz)) (F0 m 16 ls []) := by
          intro n_5
          induction n_5 with
          | zero => intro q v hi0 hi1 hi2 hi3 hn H locs hP hD hS ls hl; exfalso; omega
          | succ n_5 ih16 =>
            intro q v hi0 hi1 hi2 hi3 hn H locs hP hD hS ls hl
            refine lv_aload_n hx hb dX7_readNumber_16 rfl (lv_at hl 2 rfl) ?_
            refine va_get (D := D) (ci := 6) (v := .int (iI q)) (C := RX7) (T := TX7) (N := 19) hx hb hts hinX7 hown hK hP 0 rfl rfl 15 (by decide) hmw0 (fun _ h9 => h9) rfl dX7_readNumber_17 ?_
            refine lv_iload_n hx hb dX7_readNumber_20 rfl (lv_at hl 1 rfl) ?_
            refine k_bipush hx hb dX7_readNumber_21 (by decide +kernel) ?_
            refine k_iadd hx hb dX7_readNumber_23 ?_
            refine k_icmp_ge (tgt := 67) hx hb dX7_readNumber_24 (by decide) (by omega) (by omega) (fun c_6 => ?_) (fun c_6 => ?_)
            · skip
              have hex : (dgF (R 3) (R 0 4) (skp (R 3) (R 0 4) (R 0 15))) = (q, v) := hi3.symm.trans (dg_n hi2 (fun h9 => by omega))
              refine lv_aload_n hx hb dX7_readNumber_67 rfl (lv_at hl 2 rfl) ?_
              refine va_get (D := D) (ci := 6) (v := .ref (a 7)) (C := RX7) (T := TX7) (N := 19) hx hb hts hinX7 hown hK hP 0 rfl rfl 17 (by decide) hmw1 (fun _ h9 => h9) rfl dX7_readNumber_68 ?_
              refine lv_iload_n hx hb dX7_readNumber_71 rfl (lv_at hl 3 rfl) ?_
              refine lv_iload_n hx hb dX7_readNumber_72 rfl (lv_at hl 0 rfl) ?_
              refine k_iast hx hb hK hP hD hS 7 0 (f := R 7) rfl rfl (i := i) (x := v) (by omega) dX7_readNumber_73 (fun H locs hP hD hS => ?_)
              have hP : va_P D vwCl (rfW cy a (upr (upr R 0 (ups (R 0) 15 q)) 7 (ups (R 7) i v))) H := hP
              have hD : va_D (va_A (rfW cy a R) sz) (rfW cy a (upr (upr R 0 (ups (R 0) 15 q)) 7 (ups (R 7) i v))) := hD
              refine lv_aload_n hx hb dX7_readNumber_74 rfl (lv_at hl 2 rfl) ?_
              refine va_get (D := D) (ci := 6) (v := .int (iI q)) (C := RX7) (T := TX7) (N := 19) hx hb hts hinX7 hown hK hP 0 rfl rfl 15 (by decide) hmw0 (fun _ h9 => h9) rfl dX7_readNumber_75 ?_
              refine lv_iload_n hx hb dX7_readNumber_78 rfl (lv_at hl 1 rfl) ?_
              refine k_icmp_le (tgt := 86) hx hb dX7_readNumber_79 (by decide) (by omega) (by omega) (fun c_7 => ?_) (fun c_7 => ?_)
              · skip
                refine k_iconst hx hb dX7_readNumber_86 ?_
                exact W.zret (v := iI 0) hx hb hr (by decide +kernel) (fun t9 ht _ => ⟨⟨iI 0, (upr (upr R 0 (ups (R 0) 15 q)) 7 (ups (R 7) i v)), rfl, ⟨0, rfl, (by first | exact Or.inl ⟨(by omega), (by first | rfl | omega), (by rw [show (ups (R 0) 15 q) = (ups (R 0) 15 (skp (R 3) (R 0 4) (R 0 15))) from by rw [show q = (skp (R 3) (R 0 4) (R 0 15)) by omega]]; exact upr_back)⟩ | exact Or.inr (Or.inl ⟨(v), (⟨by omega, by rw [hex, show q = (skp (R 3) (R 0 4) (R 0 15)) by omega]⟩), (by first | rfl | omega), (by rw [show (ups (R 0) 15 q) = (ups (R 0) 15 (skp (R 3) (R 0 4) (R 0 15))) from by rw [show q = (skp (R 3) (R 0 4) (R 0 15)) by omega]])⟩) | exact Or.inr (Or.inr (⟨(q), (v), (⟨by omega, hex⟩), (by first | rfl | omega), rfl⟩)) : (((skp (R 3) (R 0 4) (R 0 15)) = R 0 15) ∧ (0 : Int) = 0 ∧ (upr (upr R 0 (ups (R 0) 15 q)) 7 (ups (R 7) i v)) = (upr R 0 (ups (R 0) 15 (skp (R 3) (R 0 4) (R 0 15))))) ∨ (∃ (dv : Int), (R 0 15 < (skp (R 3) (R 0 4) (R 0 15)) ∧ (dgF (R 3) (R 0 4) (skp (R 3) (R 0 4) (R 0 15))) = ((skp (R 3) (R 0 4) (R 0 15)), dv)) ∧ (0 : Int) = 0 ∧ (upr (upr R 0 (ups (R 0) 15 q)) 7 (ups (R 7) i v)) = (upr (upr R 0 (ups (R 0) 15 (skp (R 3) (R 0 4) (R 0 15)))) 7 (ups (R 7) i dv))) ∨ (∃ (dq : Int) (dv : Int), ((R 0 15 < (skp (R 3) (R 0 4) (R 0 15)) ∧ (skp (R 3) (R 0 4) (R 0 15)) < dq ∧ dq ≤ R 0 4) ∧ (dgF (R 3) (R 0 4) (skp (R 3) (R 0 4) (R 0 15))) = (dq, dv)) ∧ (0 : Int) = 1 ∧ (upr (upr R 0 (ups (R 0) 15 q)) 7 (ups (R 7) i v)) = (upr (upr R 0 (ups (R 0) 15 dq)) 7 (ups (R 7) i dv))))⟩, by rw [ht]; exact hP, hD⟩, hS.F ht⟩) hS.2.2 dX7_readNumber_87 hlocks
              · skip
                refine k_iconst hx hb dX7_readNumber_82 ?_
                refine lv_goto (tgt := 87) hx hb dX7_readNumber_83 (by decide) ?_
                exact W.zret (v := iI 1) hx hb hr (by decide +kernel) (fun t9 ht _ => ⟨⟨iI 1, (upr (upr R 0 (ups (R 0) 15 q)) 7 (ups (R 7) i v)), rfl, ⟨1, rfl, (by first | exact Or.inl ⟨(by omega), (by first | rfl | omega), (by rw [show (ups (R 0) 15 q) = (ups (R 0) 15 (skp (R 3) (R 0 4) (R 0 15))) from by rw [show q = (skp (R 3) (R 0 4) (R 0 15)) by omega]]; exact upr_back)⟩ | exact Or.inr (Or.inl ⟨(v), (⟨by omega, by rw [hex, show q = (skp (R 3) (R 0 4) (R 0 15)) by omega]⟩), (by first | rfl | omega), (by rw [show (ups (R 0) 15 q) = (ups (R 0) 15 (skp (R 3) (R 0 4) (R 0 15))) from by rw [show q = (skp (R 3) (R 0 4) (R 0 15)) by omega]])⟩) | exact Or.inr (Or.inr (⟨(q), (v), (⟨by omega, hex⟩), (by first | rfl | omega), rfl⟩)) : (((skp (R 3) (R 0 4) (R 0 15)) = R 0 15) ∧ (1 : Int) = 0 ∧ (upr (upr R 0 (ups (R 0) 15 q)) 7 (ups (R 7) i v)) = (upr R 0 (ups (R 0) 15 (skp (R 3) (R 0 4) (R 0 15))))) ∨ (∃ (dv : Int), (R 0 15 < (skp (R 3) (R 0 4) (R 0 15)) ∧ (dgF (R 3) (R 0 4) (skp (R 3) (R 0 4) (R 0 15))) = ((skp (R 3) (R 0 4) (R 0 15)), dv)) ∧ (1 : Int) = 0 ∧ (upr (upr R 0 (ups (R 0) 15 q)) 7 (ups (R 7) i v)) = (upr (upr R 0 (ups (R 0) 15 (skp (R 3) (R 0 4) (R 0 15)))) 7 (ups (R 7) i dv))) ∨ (∃ (dq : Int) (dv : Int), ((R 0 15 < (skp (R 3) (R 0 4) (R 0 15)) ∧ (skp (R 3) (R 0 4) (R 0 15)) < dq ∧ dq ≤ R 0 4) ∧ (dgF (R 3) (R 0 4) (skp (R 3) (R 0 4) (R 0 15))) = (dq, dv)) ∧ (1 : Int) = 1 ∧ (upr (upr R 0 (ups (R 0) 15 q)) 7 (ups (R 7) i v)) = (upr (upr R 0 (ups (R 0) 15 dq)) 7 (ups (R 7) i dv))))⟩, by rw [ht]; exact hP, hD⟩, hS.F ht⟩) hS.2.2 dX7_readNumber_87 hlocks
            · skip
              refine lv_aload_n hx hb dX7_readNumber_27 rfl (lv_at hl 2 rfl) ?_
              refine k_roV (As := []) (rest := []) ⟨hx, hb, hml, hown, hts⟩ (c_X7_here l D cy a (upr R 0 (ups (R 0) 15 q)) (show 0 ≤ q ∧ q ≤ (R 0 4) by omega) (show (R 0 4) ≤ 150 by omega)) gX7_readNumber_X7_here rfl ⟨rfl, rfl⟩ 0 rfl (by decide +kernel) ⟨Nat.le_of_ble_eq_true rfl, Nat.le_of_ble_eq_true rfl⟩ (GG_ok D cy) ((GG_ok D cy).2.2.2 _ _ _ _ (fun _ h => h.elim) ((GG_ok D cy).1 _ _ _ _ hS.2.1 hG)) hP (va_recv hK hP (ci := 6) (q0 := 0) rfl rfl) hl.1 rfl (Nat.le_of_ble_eq_true rfl) ⟨Nat.le_of_ble_eq_true rfl, Nat.le_of_ble_eq_true rfl⟩ dX7_readNumber_28 (fun r_8 hr_8 => ?_)
              have hr_8 : ((q < (R 0 4)) ∧ r_8 = (R 3) (q)) ∨ (((R 0 4) ≤ q) ∧ r_8 = -1000000000) := hr_8
              rcases hr_8 with ⟨c_9, hr_8⟩ | ⟨c_9, hr_8⟩ <;> subst hr_8
              · skip
                have hT9 := hT q (by omega) (by omega)
                refine k_bipush hx hb dX7_readNumber_31 (by decide +kernel) ?_
                refine k_bipush hx hb dX7_readNumber_33 (by decide +kernel) ?_
                refine k_roS (As := [.int (iI ((R 3) (q))), .int (iI 48), .int (iI 57)]) (rest := []) ⟨hx, hb, hml, hown, hts⟩ (c_X7_in l D ((R 3) (q)) 48 57 (show -2147483648 ≤ ((R 3) (q)) ∧ ((R 3) (q)) ≤ 2147483647 by omega) (show -2147483648 ≤ 48 ∧ 48 ≤ 2147483647 by omega) (show -2147483648 ≤ 57 ∧ 57 ≤ 2147483647 by omega)) gX7_readNumber_X7_in rfl ⟨rfl, rfl⟩ 3 rfl (by decide +kernel) ⟨Nat.le_of_ble_eq_true rfl, Nat.le_of_ble_eq_true rfl⟩ kGT_ok trivial (fun k q h => by simp at h) hl.1 rfl (Nat.le_of_ble_eq_true rfl) ⟨Nat.le_of_ble_eq_true rfl, Nat.le_of_ble_eq_true rfl⟩ dX7_readNumber_35 (fun r_10 hr_10 => ?_)
                have hr_10 : ((48 ≤ ((R 3) (q)) ∧ ((R 3) (q)) ≤ 57) ∧ r_10 = 1) ∨ (¬ (48 ≤ ((R 3) (q)) ∧ ((R 3) (q)) ≤ 57) ∧ r_10 = 0) := hr_10
                rcases hr_10 with ⟨c_11, hr_10⟩ | ⟨c_11, hr_10⟩ <;> subst hr_10
                · skip
                  refine k_if_eq (tgt := 67) hx hb dX7_readNumber_38 (by decide) (by omega) (fun c_12 => ?_) (fun c_12 => ?_)
                  · exfalso; omega
                  · skip
                    refine k_bipush hx hb dX7_readNumber_41 (by decide +kernel) ?_
                    refine lv_iload_n hx hb dX7_readNumber_43 rfl (lv_at hl 0 rfl) ?_
                    refine k_imul hx hb dX7_readNumber_44 ?_
                    refine lv_aload_n hx hb dX7_readNumber_45 rfl (lv_at hl 2 rfl) ?_
                    refine k_roV (As := []) (rest := [.int (iI (10 * v))]) ⟨hx, hb, hml, hown, hts⟩ (c_X7_here l D cy a (upr R 0 (ups (R 0) 15 q)) (show 0 ≤ q ∧ q ≤ (R 0 4) by omega) (show (R 0 4) ≤ 150 by omega)) gX7_readNumber_X7_here rfl ⟨rfl, rfl⟩ 0 rfl (by decide +kernel) ⟨Nat.le_of_ble_eq_true rfl, Nat.le_of_ble_eq_true rfl⟩ (GG_ok D cy) ((GG_ok D cy).2.2.2 _ _ _ _ (fun _ h => h.elim) ((GG_ok D cy).1 _ _ _ _ hS.2.1 hG)) hP (va_recv hK hP (ci := 6) (q0 := 0) rfl rfl) hl.1 rfl (Nat.le_of_ble_eq_true rfl) ⟨Nat.le_of_ble_eq_true rfl, Nat.le_of_ble_eq_true rfl⟩ dX7_readNumber_46 (fun r_13 hr_13 => ?_)
                    have hr_13 : ((q < (R 0 4)) ∧ r_13 = (R 3) (q)) ∨ (((R 0 4) ≤ q) ∧ r_13 = -1000000000) := hr_13
                    rcases hr_13 with ⟨c_14, hr_13⟩ | ⟨c_14, hr_13⟩ <;> subst hr_13
                    · skip
                      refine k_iadd hx hb dX7_readNumber_49 ?_
                      refine k_bipush hx hb dX7_readNumber_50 (by decide +kernel) ?_
                      refine k_isub hx hb dX7_readNumber_52 ?_
                      refine lv_istore_n (lv' := [(3, .int (iI (((10 * v) + ((R 3) (q))) - 48))), (2, .int (iI (skp (R 3) (R 0 4) (R 0 15)))), (0, .ref (a 0)), (1, .int (iI i))]) hx hb dX7_readNumber_53 rfl hl (by decide) rfl (fun ls hl => ?_)
                      refine lv_aload_n hx hb dX7_readNumber_54 rfl (lv_at hl 2 rfl) ?_
                      refine lv_dup hx hb dX7_readNumber_55 rfl ?_
                      refine va_get (D := D) (ci := 6) (v := .int (iI q)) (C := RX7) (T := TX7) (N := 19) hx hb hts hinX7 hown hK hP 0 rfl rfl 15 (by decide) hmw0 (fun _ h9 => h9) rfl dX7_readNumber_56 ?_
                      refine k_iconst hx hb dX7_readNumber_59 ?_
                      refine k_iadd hx hb dX7_readNumber_60 ?_
                      refine va_put (D := D) (ci := 6) (v := .int (iI (q + 1))) (ty := .int) (C := RX7) (T := TX7) (N := 19) hx hb hts hinX7 tyX7 tyX7_ok nmX7 hown hK hP hD hS 0 rfl rfl 15 (by decide) hmw0 (fun _ h9 => h9) rfl (by decide +kernel) rfl rfl (Nat.le_of_ble_eq_true rfl) dX7_readNumber_61 (fun H locs hP hD hS => ?_)
                      have hP : va_P D vwCl (rfW cy a (upr R 0 (ups (ups (R 0) 15 q) 15 (q + 1)))) H := hP
                      have hD : va_D (va_A (rfW cy a R) sz) (rfW cy a (upr R 0 (ups (ups (R 0) 15 q) 15 (q + 1)))) := hD
                      refine lv_goto (tgt := 16) hx hb dX7_readNumber_64 (by decide) ?_
                      exact ih16 (q + 1) (((10 * v) + ((R 3) (q))) - 48)  (by omega) (by omega) (by omega) ((dg_y (by omega) (by omega) (by omega)).symm.trans hi3) (by omega) H locs (by rw [show (ups (R 0) 15 (q + 1)) = (ups (ups (R 0) 15 q) 15 (q + 1)) from (ups_ups _ _ _ _).symm]; exact hP) (k_addr hD rfl) hS ls (lv_sub hl [0, 1, 2, 3] rfl)
                    · exfalso; omega
                · skip
                  refine k_if_eq (tgt := 67) hx hb dX7_readNumber_38 (by decide) (by omega) (fun c_15 => ?_) (fun c_15 => ?_)
                  · skip
                    have hex : (dgF (R 3) (R 0 4) (skp (R 3) (R 0 4) (R 0 15))) = (q, v) := hi3.symm.trans (dg_n hi2 (fun h9 => by omega))
                    refine lv_aload_n hx hb dX7_readNumber_67 rfl (lv_at hl 2 rfl) ?_
                    refine va_get (D := D) (ci := 6) (v := .ref (a 7)) (C := RX7) (T := TX7) (N := 19) hx hb hts hinX7 hown hK hP 0 rfl rfl 17 (by decide) hmw1 (fun _ h9 => h9) rfl dX7_readNumber_68 ?_
                    refine lv_iload_n hx hb dX7_readNumber_71 rfl (lv_at hl 3 rfl) ?_
                    refine lv_iload_n hx hb dX7_readNumber_72 rfl (lv_at hl 0 rfl) ?_
                    refine k_iast hx hb hK hP hD hS 7 0 (f := R 7) rfl rfl (i := i) (x := v) (by omega) dX7_readNumber_73 (fun H locs hP hD hS => ?_)
                    have hP : va_P D vwCl (rfW cy a (upr (upr R 0 (ups (R 0) 15 q)) 7 (ups (R 7) i v))) H := hP
                    have hD : va_D (va_A (rfW cy a R) sz) (rfW cy a (upr (upr R 0 (ups (R 0) 15 q)) 7 (ups (R 7) i v))) := hD
                    refine lv_aload_n hx hb dX7_readNumber_74 rfl (lv_at hl 2 rfl) ?_
                    refine va_get (D := D) (ci := 6) (v := .int (iI q)) (C := RX7) (T := TX7) (N := 19) hx hb hts hinX7 hown hK hP 0 rfl rfl 15 (by decide) hmw0 (fun _ h9 => h9) rfl dX7_readNumber_75 ?_
                    refine lv_iload_n hx hb dX7_readNumber_78 rfl (lv_at hl 1 rfl) ?_
                    refine k_icmp_le (tgt := 86) hx hb dX7_readNumber_79 (by decide) (by omega) (by omega) (fun c_16 => ?_) (fun c_16 => ?_)
                    · skip
                      refine k_iconst hx hb dX7_readNumber_86 ?_
                      exact W.zret (v := iI 0) hx hb hr (by decide +kernel) (fun t9 ht _ => ⟨⟨iI 0, (upr (upr R 0 (ups (R 0) 15 q)) 7 (ups (R 7) i v)), rfl, ⟨0, rfl, (by first | exact Or.inl ⟨(by omega), (by first | rfl | omega), (by rw [show (ups (R 0) 15 q) = (ups (R 0) 15 (skp (R 3) (R 0 4) (R 0 15))) from by rw [show q = (skp (R 3) (R 0 4) (R 0 15)) by omega]]; exact upr_back)⟩ | exact Or.inr (Or.inl ⟨(v), (⟨by omega, by rw [hex, show q = (skp (R 3) (R 0 4) (R 0 15)) by omega]⟩), (by first | rfl | omega), (by rw [show (ups (R 0) 15 q) = (ups (R 0) 15 (skp (R 3) (R 0 4) (R 0 15))) from by rw [show q = (skp (R 3) (R 0 4) (R 0 15)) by omega]])⟩) | exact Or.inr (Or.inr (⟨(q), (v), (⟨by omega, hex⟩), (by first | rfl | omega), rfl⟩)) : (((skp (R 3) (R 0 4) (R 0 15)) = R 0 15) ∧ (0 : Int) = 0 ∧ (upr (upr R 0 (ups (R 0) 15 q)) 7 (ups (R 7) i v)) = (upr R 0 (ups (R 0) 15 (skp (R 3) (R 0 4) (R 0 15))))) ∨ (∃ (dv : Int), (R 0 15 < (skp (R 3) (R 0 4) (R 0 15)) ∧ (dgF (R 3) (R 0 4) (skp (R 3) (R 0 4) (R 0 15))) = ((skp (R 3) (R 0 4) (R 0 15)), dv)) ∧ (0 : Int) = 0 ∧ (upr (upr R 0 (ups (R 0) 15 q)) 7 (ups (R 7) i v)) = (upr (upr R 0 (ups (R 0) 15 (skp (R 3) (R 0 4) (R 0 15)))) 7 (ups (R 7) i dv))) ∨ (∃ (dq : Int) (dv : Int), ((R 0 15 < (skp (R 3) (R 0 4) (R 0 15)) ∧ (skp (R 3) (R 0 4) (R 0 15)) < dq ∧ dq ≤ R 0 4) ∧ (dgF (R 3) (R 0 4) (skp (R 3) (R 0 4) (R 0 15))) = (dq, dv)) ∧ (0 : Int) = 1 ∧ (upr (upr R 0 (ups (R 0) 15 q)) 7 (ups (R 7) i v)) = (upr (upr R 0 (ups (R 0) 15 dq)) 7 (ups (R 7) i dv))))⟩, by rw [ht]; exact hP, hD⟩, hS.F ht⟩) hS.2.2 dX7_readNumber_87 hlocks
                    · skip
                      refine k_iconst hx hb dX7_readNumber_82 ?_
                      refine lv_goto (tgt := 87) hx hb dX7_readNumber_83 (by decide) ?_
                      exact W.zret (v := iI 1) hx hb hr (by decide +kernel) (fun t9 ht _ => ⟨⟨iI 1, (upr (upr R 0 (ups (R 0) 15 q)) 7 (ups (R 7) i v)), rfl, ⟨1, rfl, (by first | exact Or.inl ⟨(by omega), (by first | rfl | omega), (by rw [show (ups (R 0) 15 q) = (ups (R 0) 15 (skp (R 3) (R 0 4) (R 0 15))) from by rw [show q = (skp (R 3) (R 0 4) (R 0 15)) by omega]]; exact upr_back)⟩ | exact Or.inr (Or.inl ⟨(v), (⟨by omega, by rw [hex, show q = (skp (R 3) (R 0 4) (R 0 15)) by omega]⟩), (by first | rfl | omega), (by rw [show (ups (R 0) 15 q) = (ups (R 0) 15 (skp (R 3) (R 0 4) (R 0 15))) from by rw [show q = (skp (R 3) (R 0 4) (R 0 15)) by omega]])⟩) | exact Or.inr (Or.inr (⟨(q), (v), (⟨by omega, hex⟩), (by first | rfl | omega), rfl⟩)) : (((skp (R 3) (R 0 4) (R 0 15)) = R 0 15) ∧ (1 : Int) = 0 ∧ (upr (upr R 0 (ups (R 0) 15 q)) 7 (ups (R 7) i v)) = (upr R 0 (ups (R 0) 15 (skp (R 3) (R 0 4) (R 0 15))))) ∨ (∃ (dv : Int), (R 0 15 < (skp (R 3) (R 0 4) (R 0 15)) ∧ (dgF (R 3) (R 0 4) (skp (R 3) (R 0 4) (R 0 15))) = ((skp (R 3) (R 0 4) (R 0 15)), dv)) ∧ (1 : Int) = 0 ∧ (upr (upr R 0 (ups (R 0) 15 q)) 7 (ups (R 7) i v)) = (upr (upr R 0 (ups (R 0) 15 (skp (R 3) (R 0 4) (R 0 15)))) 7 (ups (R 7) i dv))) ∨ (∃ (dq : Int) (dv : Int), ((R 0 15 < (skp (R 3) (R 0 4) (R 0 15)) ∧ (skp (R 3) (R 0 4) (R 0 15)) < dq ∧ dq ≤ R 0 4) ∧ (dgF (R 3) (R 0 4) (skp (R 3) (R 0 4) (R 0 15))) = (dq, dv)) ∧ (1 : Int) = 1 ∧ (upr (upr R 0 (ups (R 0) 15 q)) 7 (ups (R 7) i v)) = (upr (upr R 0 (ups (R 0) 15 dq)) 7 (ups (R 7) i dv))))⟩, by rw [ht]; exact hP, hD⟩, hS.F ht⟩) hS.2.2 dX7_readNumber_87 hlocks
                  · exfalso; omega
              · skip
                refine k_bipush hx hb dX7_readNumber_31 (by decide +kernel) ?_
                refine k_bipush hx hb dX7_readNumber_33 (by decide +kernel) ?_
                refine k_roS (As := [.int (iI (-1000000000)), .int (iI 48), .int (iI 57)]) (rest := []) ⟨hx, hb, hml, hown, hts⟩ (c_X7_in l D (-1000000000) 48 57 (show -2147483648 ≤ (-1000000000) ∧ (-1000000000) ≤ 2147483647 by omega) (show -2147483648 ≤ 48 ∧ 48 ≤ 2147483647 by omega) (show -2147483648 ≤ 57 ∧ 57 ≤ 2147483647 by omega)) gX7_readNumber_X7_in rfl ⟨rfl, rfl⟩ 3 rfl (by decide +kernel) ⟨Nat.le_of_ble_eq_true rfl, Nat.le_of_ble_eq_true rfl⟩ kGT_ok trivial (fun k q h => by simp at h) hl.1 rfl (Nat.le_of_ble_eq_true rfl) ⟨Nat.le_of_ble_eq_true rfl, Nat.le_of_ble_eq_true rfl⟩ dX7_readNumber_35 (fun r_17 hr_17 => ?_)
                have hr_17 : ((48 ≤ (-1000000000) ∧ (-1000000000) ≤ 57) ∧ r_17 = 1) ∨ (¬ (48 ≤ (-1000000000) ∧ (-1000000000) ≤ 57) ∧ r_17 = 0) := hr_17
                rcases hr_17 with ⟨c_18, hr_17⟩ | ⟨c_18, hr_17⟩ <;> subst hr_17
                · skip
                  refine k_if_eq (tgt := 67) hx hb dX7_readNumber_38 (by decide) (by omega) (fun c_19 => ?_) (fun c_19 => ?_)
                  · exfalso; omega
                  · skip
                    refine k_bipush hx hb dX7_readNumber_41 (by decide +kernel) ?_
                    refine lv_iload_n hx hb dX7_readNumber_43 rfl (lv_at hl 0 rfl) ?_
                    refine k_imul hx hb dX7_readNumber_44 ?_
                    refine lv_aload_n hx hb dX7_readNumber_45 rfl (lv_at hl 2 rfl) ?_
                    refine k_roV (As := []) (rest := [.int (iI (10 * v))]) ⟨hx, hb, hml, hown, hts⟩ (c_X7_here l D cy a (upr R 0 (ups (R 0) 15 q)) (show 0 ≤ q ∧ q ≤ (R 0 4) by omega) (show (R 0 4) ≤ 150 by omega)) gX7_readNumber_X7_here rfl ⟨rfl, rfl⟩ 0 rfl (by decide +kernel) ⟨Nat.le_of_ble_eq_true rfl, Nat.le_of_ble_eq_true rfl⟩ (GG_ok D cy) ((GG_ok D cy).2.2.2 _ _ _ _ (fun _ h => h.elim) ((GG_ok D cy).1 _ _ _ _ hS.2.1 hG)) hP (va_recv hK hP (ci := 6) (q0 := 0) rfl rfl) hl.1 rfl (Nat.le_of_ble_eq_true rfl) ⟨Nat.le_of_ble_eq_true rfl, Nat.le_of_ble_eq_true rfl⟩ dX7_readNumber_46 (fun r_20 hr_20 => ?_)
                    have hr_20 : ((q < (R 0 4)) ∧ r_20 = (R 3) (q)) ∨ (((R 0 4) ≤ q) ∧ r_20 = -1000000000) := hr_20
                    rcases hr_20 with ⟨c_21, hr_20⟩ | ⟨c_21, hr_20⟩ <;> subst hr_20
                    · skip
                      refine k_iadd hx hb dX7_readNumber_49 ?_
                      refine k_bipush hx hb dX7_readNumber_50 (by decide +kernel) ?_
                      refine k_isub hx hb dX7_readNumber_52 ?_
                      refine lv_istore_n (lv' := [(3, .int (iI (((10 * v) + ((R 3) (q))) - 48))), (2, .int (iI (skp (R 3) (R 0 4) (R 0 15)))), (0, .ref (a 0)), (1, .int (iI i))]) hx hb dX7_readNumber_53 rfl hl (by decide) rfl (fun ls hl => ?_)
                      refine lv_aload_n hx hb dX7_readNumber_54 rfl (lv_at hl 2 rfl) ?_
                      refine lv_dup hx hb dX7_readNumber_55 rfl ?_
                      refine va_get (D := D) (ci := 6) (v := .int (iI q)) (C := RX7) (T := TX7) (N := 19) hx hb hts hinX7 hown hK hP 0 rfl rfl 15 (by decide) hmw0 (fun _ h9 => h9) rfl dX7_readNumber_56 ?_
                      refine k_iconst hx hb dX7_readNumber_59 ?_
                      refine k_iadd hx hb dX7_readNumber_60 ?_
                      refine va_put (D := D) (ci := 6) (v := .int (iI (q + 1))) (ty := .int) (C := RX7) (T := TX7) (N := 19) hx hb hts hinX7 tyX7 tyX7_ok nmX7 hown hK hP hD hS 0 rfl rfl 15 (by decide) hmw0 (fun _ h9 => h9) rfl (by decide +kernel) rfl rfl (Nat.le_of_ble_eq_true rfl) dX7_readNumber_61 (fun H locs hP hD hS => ?_)
                      have hP : va_P D vwCl (rfW cy a (upr R 0 (ups (ups (R 0) 15 q) 15 (q + 1)))) H := hP
                      have hD : va_D (va_A (rfW cy a R) sz) (rfW cy a (upr R 0 (ups (ups (R 0) 15 q) 15 (q + 1)))) := hD
                      refine lv_goto (tgt := 16) hx hb dX7_readNumber_64 (by decide) ?_
                      exact ih16 (q + 1) (((10 * v) + ((R 3) (q))) - 48)  (by omega) (by omega) (by omega) ((dg_y (by omega) (by omega) (by omega)).symm.trans hi3) (by omega) H locs (by rw [show (ups (R 0) 15 (q + 1)) = (ups (ups (R 0) 15 q) 15 (q + 1)) from (ups_ups _ _ _ _).symm]; exact hP) (k_addr hD rfl) hS ls (lv_sub hl [0, 1, 2, 3] rfl)
                    · exfalso; omega
                · skip
                  refine k_if_eq (tgt := 67) hx hb dX7_readNumber_38 (by decide) (by omega) (fun c_22 => ?_) (fun c_22 => ?_)
                  · skip
                    have hex : (dgF (R 3) (R 0 4) (skp (R 3) (R 0 4) (R 0 15))) = (q, v) := hi3.symm.trans (dg_n hi2 (fun h9 => by omega))
                    refine lv_aload_n hx hb dX7_readNumber_67 rfl (lv_at hl 2 rfl) ?_
                    refine va_get (D := D) (ci := 6) (v := .ref (a 7)) (C := RX7) (T := TX7) (N := 19) hx hb hts hinX7 hown hK hP 0 rfl rfl 17 (by decide) hmw1 (fun _ h9 => h9) rfl dX7_readNumber_68 ?_
                    refine lv_iload_n hx hb dX7_readNumber_71 rfl (lv_at hl 3 rfl) ?_
                    refine lv_iload_n hx hb dX7_readNumber_72 rfl (lv_at hl 0 rfl) ?_
                    refine k_iast hx hb hK hP hD hS 7 0 (f := R 7) rfl rfl (i := i) (x := v) (by omega) dX7_readNumber_73 (fun H locs hP hD hS => ?_)
                    have hP : va_P D vwCl (rfW cy a (upr (upr R 0 (ups (R 0) 15 q)) 7 (ups (R 7) i v))) H := hP
                    have hD : va_D (va_A (rfW cy a R) sz) (rfW cy a (upr (upr R 0 (ups (R 0) 15 q)) 7 (ups (R 7) i v))) := hD
                    refine lv_aload_n hx hb dX7_readNumber_74 rfl (lv_at hl 2 rfl) ?_
                    refine va_get (D := D) (ci := 6) (v := .int (iI q)) (C := RX7) (T := TX7) (N := 19) hx hb hts hinX7 hown hK hP 0 rfl rfl 15 (by decide) hmw0 (fun _ h9 => h9) rfl dX7_readNumber_75 ?_
                    refine lv_iload_n hx hb dX7_readNumber_78 rfl (lv_at hl 1 rfl) ?_
                    refine k_icmp_le (tgt := 86) hx hb dX7_readNumber_79 (by decide) (by omega) (by omega) (fun c_23 => ?_) (fun c_23 => ?_)
                    · skip
                      refine k_iconst hx hb dX7_readNumber_86 ?_
                      exact W.zret (v := iI 0) hx hb hr (by decide +kernel) (fun t9 ht _ => ⟨⟨iI 0, (upr (upr R 0 (ups (R 0) 15 q)) 7 (ups (R 7) i v)), rfl, ⟨0, rfl, (by first | exact Or.inl ⟨(by omega), (by first | rfl | omega), (by rw [show (ups (R 0) 15 q) = (ups (R 0) 15 (skp (R 3) (R 0 4) (R 0 15))) from by rw [show q = (skp (R 3) (R 0 4) (R 0 15)) by omega]]; exact upr_back)⟩ | exact Or.inr (Or.inl ⟨(v), (⟨by omega, by rw [hex, show q = (skp (R 3) (R 0 4) (R 0 15)) by omega]⟩), (by first | rfl | omega), (by rw [show (ups (R 0) 15 q) = (ups (R 0) 15 (skp (R 3) (R 0 4) (R 0 15))) from by rw [show q = (skp (R 3) (R 0 4) (R 0 15)) by omega]])⟩) | exact Or.inr (Or.inr (⟨(q), (v), (⟨by omega, hex⟩), (by first | rfl | omega), rfl⟩)) : (((skp (R 3) (R 0 4) (R 0 15)) = R 0 15) ∧ (0 : Int) = 0 ∧ (upr (upr R 0 (ups (R 0) 15 q)) 7 (ups (R 7) i v)) = (upr R 0 (ups (R 0) 15 (skp (R 3) (R 0 4) (R 0 15))))) ∨ (∃ (dv : Int), (R 0 15 < (skp (R 3) (R 0 4) (R 0 15)) ∧ (dgF (R 3) (R 0 4) (skp (R 3) (R 0 4) (R 0 15))) = ((skp (R 3) (R 0 4) (R 0 15)), dv)) ∧ (0 : Int) = 0 ∧ (upr (upr R 0 (ups (R 0) 15 q)) 7 (ups (R 7) i v)) = (upr (upr R 0 (ups (R 0) 15 (skp (R 3) (R 0 4) (R 0 15)))) 7 (ups (R 7) i dv))) ∨ (∃ (dq : Int) (dv : Int), ((R 0 15 < (skp (R 3) (R 0 4) (R 0 15)) ∧ (skp (R 3) (R 0 4) (R 0 15)) < dq ∧ dq ≤ R 0 4) ∧ (dgF (R 3) (R 0 4) (skp (R 3) (R 0 4) (R 0 15))) = (dq, dv)) ∧ (0 : Int) = 1 ∧ (upr (upr R 0 (ups (R 0) 15 q)) 7 (ups (R 7) i v)) = (upr (upr R 0 (ups (R 0) 15 dq)) 7 (ups (R 7) i dv))))⟩, by rw [ht]; exact hP, hD⟩, hS.F ht⟩) hS.2.2 dX7_readNumber_87 hlocks
                    · skip
                      refine k_iconst hx hb dX7_readNumber_82 ?_
                      refine lv_goto (tgt := 87) hx hb dX7_readNumber_83 (by decide) ?_
                      exact W.zret (v := iI 1) hx hb hr (by decide +kernel) (fun t9 ht _ => ⟨⟨iI 1, (upr (upr R 0 (ups (R 0) 15 q)) 7 (ups (R 7) i v)), rfl, ⟨1, rfl, (by first | exact Or.inl ⟨(by omega), (by first | rfl | omega), (by rw [show (ups (R 0) 15 q) = (ups (R 0) 15 (skp (R 3) (R 0 4) (R 0 15))) from by rw [show q = (skp (R 3) (R 0 4) (R 0 15)) by omega]]; exact upr_back)⟩ | exact Or.inr (Or.inl ⟨(v), (⟨by omega, by rw [hex, show q = (skp (R 3) (R 0 4) (R 0 15)) by omega]⟩), (by first | rfl | omega), (by rw [show (ups (R 0) 15 q) = (ups (R 0) 15 (skp (R 3) (R 0 4) (R 0 15))) from by rw [show q = (skp (R 3) (R 0 4) (R 0 15)) by omega]])⟩) | exact Or.inr (Or.inr (⟨(q), (v), (⟨by omega, hex⟩), (by first | rfl | omega), rfl⟩)) : (((skp (R 3) (R 0 4) (R 0 15)) = R 0 15) ∧ (1 : Int) = 0 ∧ (upr (upr R 0 (ups (R 0) 15 q)) 7 (ups (R 7) i v)) = (upr R 0 (ups (R 0) 15 (skp (R 3) (R 0 4) (R 0 15))))) ∨ (∃ (dv : Int), (R 0 15 < (skp (R 3) (R 0 4) (R 0 15)) ∧ (dgF (R 3) (R 0 4) (skp (R 3) (R 0 4) (R 0 15))) = ((skp (R 3) (R 0 4) (R 0 15)), dv)) ∧ (1 : Int) = 0 ∧ (upr (upr R 0 (ups (R 0) 15 q)) 7 (ups (R 7) i v)) = (upr (upr R 0 (ups (R 0) 15 (skp (R 3) (R 0 4) (R 0 15)))) 7 (ups (R 7) i dv))) ∨ (∃ (dq : Int) (dv : Int), ((R 0 15 < (skp (R 3) (R 0 4) (R 0 15)) ∧ (skp (R 3) (R 0 4) (R 0 15)) < dq ∧ dq ≤ R 0 4) ∧ (dgF (R 3) (R 0 4) (skp (R 3) (R 0 4) (R 0 15))) = (dq, dv)) ∧ (1 : Int) = 1 ∧ (upr (upr R 0 (ups (R 0) 15 q)) 7 (ups (R 7) i v)) = (upr (upr R 0 (ups (R 0) 15 dq)) 7 (ups (R 7) i dv))))⟩, by rw [ht]; exact hP, hD⟩, hS.F ht⟩) hS.2.2 dX7_readNumber_87 hlocks
                  · exfalso; omega
        exact loop16 ((R 0 4 - (skp (R 3) (R 0 4) (R 0 15)) : Int) + 1).toNat (skp (R 3) (R 0 4) (R 0 15)) 0  (by omega) (by omega) (by omega) (dg_0 _ _ _) (by omega) H locs (hP) (k_addr hD rfl) hS ls (lv_sub hl [0, 1, 2, 3] rfl)
      · exfalso; omega
    · skip
      have c_3 : (skp (R 3) (R 0 4) (R 0 15)) = R 0 15 := c_3
      subst hr_1
      subst hR_2
      have hDn : va_D (va_A (rfW cy a R) sz) (rfW cy a (upr R 0 (ups (R 0) 15 (skp (R 3) (R 0 4) (R 0 15))))) := k_addr hD rfl
      have hPn : va_P D vwCl (rfW cy a (upr R 0 (ups (R 0) 15 (skp (R 3) (R 0 4) (R 0 15))))) H1 := hP1
      clear hP hD hS hP1 hD1 hk1
      have hP := hPn
      have hD := hDn
      have hS := hS1
      clear hPn hDn hS1
      generalize H1 = H at hP hS ⊢
      generalize locs1 = locs at hS ⊢
      refine k_if_ne (tgt := 9) hx hb dX7_readNumber_4 (by decide) (by omega) (fun c_24 => ?_) (fun c_24 => ?_)
      · exfalso; omega
      · skip
        refine k_iconst hx hb dX7_readNumber_7 ?_
        exact W.zret (v := iI 0) hx hb hr (by decide +kernel) (fun t9 ht _ => ⟨⟨iI 0, (upr R 0 (ups (R 0) 15 (skp (R 3) (R 0 4) (R 0 15)))), rfl, ⟨0, rfl, (by first | exact Or.inl ⟨(by omega), (by first | rfl | omega), rfl⟩ : (((skp (R 3) (R 0 4) (R 0 15)) = R 0 15) ∧ (0 : Int) = 0 ∧ (upr R 0 (ups (R 0) 15 (skp (R 3) (R 0 4) (R 0 15)))) = (upr R 0 (ups (R 0) 15 (skp (R 3) (R 0 4) (R 0 15))))) ∨ (∃ (dv : Int), (R 0 15 < (skp (R 3) (R 0 4) (R 0 15)) ∧ (dgF (R 3) (R 0 4) (skp (R 3) (R 0 4) (R 0 15))) = ((skp (R 3) (R 0 4) (R 0 15)), dv)) ∧ (0 : Int) = 0 ∧ (upr R 0 (ups (R 0) 15 (skp (R 3) (R 0 4) (R 0 15)))) = (upr (upr R 0 (ups (R 0) 15 (skp (R 3) (R 0 4) (R 0 15)))) 7 (ups (R 7) i dv))) ∨ (∃ (dq : Int) (dv : Int), ((R 0 15 < (skp (R 3) (R 0 4) (R 0 15)) ∧ (skp (R 3) (R 0 4) (R 0 15)) < dq ∧ dq ≤ R 0 4) ∧ (dgF (R 3) (R 0 4) (skp (R 3) (R 0 4) (R 0 15))) = (dq, dv)) ∧ (0 : Int) = 1 ∧ (upr R 0 (ups (R 0) 15 (skp (R 3) (R 0 4) (R 0 15)))) = (upr (upr R 0 (ups (R 0) 15 dq)) 7 (ups (R 7) i dv))))⟩, by rw [ht]; exact hP, hD⟩, hS.F ht⟩) hS.2.2 dX7_readNumber_8 hlocks
  exact hbody s.heap [] hP hS ls hl
set_option maxHeartbeats 4000000 in
set_option maxRecDepth 100000 in
theorem c_X7_manyFor (l : Launch) (D : va_G) (cy : Nat → ClassId) (a : Nat → Nat) (R : Nat → Int → Int)  (hc : -2147483648 ≤ R 0 16 ∧ R 0 16 ≤ 2147483647) : Met l yX7_manyFor wsX7_manyFor { frames := 0, cells := 0, slots := 0, locals := 0 } (kPre (GG D cy) D (rfW cy a R) ([.ref (a 0)] : List Value)) (kRO (fun r => r = manyF (R 0 16))) 0 0 (fun _ => False) := by
  refine kRO_start (cc := cX7_manyFor) (maxL := 1) (ret := (some .int)) (by decide) rfl (Nat.le_of_ble_eq_true rfl) ?_
  intro p e s m below meth c hx hb hr hlocks hml hts hown hG hP ls hl
  have hK := hG.1
  have hl : lv_has ls 1 [(0, .ref (a 0))] := hl
  have hinX7 : ∀ w ∈ u_ws RX7 TX7 19, w ∈ wsX7_manyFor := by decide +kernel
  have hmw0 := hts (.fieldLink RX7 280 "ArcPlateModel" "command" "I") (by decide +kernel)
  refine lv_aload_n hx hb dX7_manyFor_0 rfl (lv_at hl 0 rfl) ?_
  refine va_get (D := D) (ci := 6) (v := .int (iI (R 0 16))) (C := RX7) (T := TX7) (N := 19) hx hb hts hinX7 hown hK hP 0 rfl rfl 16 (by decide) hmw0 (fun _ h9 => h9) rfl dX7_manyFor_1 ?_
  rcases (show (R 0 16) = 0 ∨ (R 0 16) = 1 ∨ (R 0 16) = 2 ∨ (R 0 16) = 3 ∨ (R 0 16) = 4 ∨ (R 0 16) = 5 ∨ (R 0 16) = 6 ∨ ((R 0 16) < 0 ∨ 6 < (R 0 16)) by omega) with c_1 | c_1 | c_1 | c_1 | c_1 | c_1 | c_1 | c_1
  · skip
    refine k_tin (tgt := 48) hx hb 0 c_1 (by decide) dX7_manyFor_4 (by decide) (by decide) rfl (by decide) ?_
    refine k_iconst hx hb dX7_manyFor_48 ?_
    exact W.iret (v := iI 0) hx hb hr (fun t9 ht _ => ⟨0, rfl, (by unfold manyF; (repeat' split) <;> omega : (0 : Int) = manyF (R 0 16)), ht⟩) (fun _ h => nomatch h) dX7_manyFor_49 hlocks
  · skip
    refine k_tin (tgt := 50) hx hb 1 c_1 (by decide) dX7_manyFor_4 (by decide) (by decide) rfl (by decide) ?_
    refine k_iconst hx hb dX7_manyFor_50 ?_
    exact W.iret (v := iI 4) hx hb hr (fun t9 ht _ => ⟨4, rfl, (by unfold manyF; (repeat' split) <;> omega : (4 : Int) = manyF (R 0 16)), ht⟩) (fun _ h => nomatch h) dX7_manyFor_51 hlocks
  · skip
    refine k_tin (tgt := 52) hx hb 2 c_1 (by decide) dX7_manyFor_4 (by decide) (by decide) rfl (by decide) ?_
    refine k_iconst hx hb dX7_manyFor_52 ?_
    exact W.iret (v := iI 3) hx hb hr (fun t9 ht _ => ⟨3, rfl, (by unfold manyF; (repeat' split) <;> omega : (3 : Int) = manyF (R 0 16)), ht⟩) (fun _ h => nomatch h) dX7_manyFor_53 hlocks
  · skip
    refine k_tin (tgt := 56) hx hb 3 c_1 (by decide) dX7_manyFor_4 (by decide) (by decide) rfl (by decide) ?_
    refine k_iconst hx hb dX7_manyFor_56 ?_
    exact W.iret (v := iI 2) hx hb hr (fun t9 ht _ => ⟨2, rfl, (by unfold manyF; (repeat' split) <;> omega : (2 : Int) = manyF (R 0 16)), ht⟩) (fun _ h => nomatch h) dX7_manyFor_57 hlocks
  · skip
    refine k_tin (tgt := 56) hx hb 4 c_1 (by decide) dX7_manyFor_4 (by decide) (by decide) rfl (by decide) ?_
    refine k_iconst hx hb dX7_manyFor_56 ?_
    exact W.iret (v := iI 2) hx hb hr (fun t9 ht _ => ⟨2, rfl, (by unfold manyF; (repeat' split) <;> omega : (2 : Int) = manyF (R 0 16)), ht⟩) (fun _ h => nomatch h) dX7_manyFor_57 hlocks
  · skip
    refine k_tin (tgt := 54) hx hb 5 c_1 (by decide) dX7_manyFor_4 (by decide) (by decide) rfl (by decide) ?_
    refine k_iconst hx hb dX7_manyFor_54 ?_
    exact W.iret (v := iI 1) hx hb hr (fun t9 ht _ => ⟨1, rfl, (by unfold manyF; (repeat' split) <;> omega : (1 : Int) = manyF (R 0 16)), ht⟩) (fun _ h => nomatch h) dX7_manyFor_55 hlocks
  · skip
    refine k_tin (tgt := 54) hx hb 6 c_1 (by decide) dX7_manyFor_4 (by decide) (by decide) rfl (by decide) ?_
    refine k_iconst hx hb dX7_manyFor_54 ?_
    exact W.iret (v := iI 1) hx hb hr (fun t9 ht _ => ⟨1, rfl, (by unfold manyF; (repeat' split) <;> omega : (1 : Int) = manyF (R 0 16)), ht⟩) (fun _ h => nomatch h) dX7_manyFor_55 hlocks
  · skip
    refine k_tout (tgt := 56) hx hb (by omega) dX7_manyFor_4 c_1 (by decide) ?_
    refine k_iconst hx hb dX7_manyFor_56 ?_
    exact W.iret (v := iI 2) hx hb hr (fun t9 ht _ => ⟨2, rfl, (by unfold manyF; (repeat' split) <;> omega : (2 : Int) = manyF (R 0 16)), ht⟩) (fun _ h => nomatch h) dX7_manyFor_57 hlocks
