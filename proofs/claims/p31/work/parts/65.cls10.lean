set_option maxHeartbeats 4000000 in
set_option maxRecDepth 100000 in
theorem c_X6_trail (l : Launch) (D : va_G) (cy : Nat → ClassId) (sz : Nat) (a : Nat → Nat) (P : Nat → Int → Int) (t w : Int) (hI : Inv (mO P)) (hl0 : P 100 6 = 0 ∨ P 100 6 = 1) (hl1 : P 100 6 = 1 → lkd P) (h0 : 0 ≤ t) (h1 : t < P 0 0) (hw : 0 ≤ w ∧ w ≤ 8) : Met l yX6_trail wsX6_trail { frames := 6, cells := 0, slots := 0, locals := 148 } (mPre (GG D cy) D (oblkW cy a P) sz ([.ref (a 100), .int (iI t), .int (iI w)] : List Value)) (kQi D (oblkW cy a P) sz (fun u9 : Nat → Int → Int => oblkW cy a u9) (fun r9 u9 => ∃ (zZ : Nat → Int → Int), (figOK (mO P) zZ (P 0 0) ∧ maOK (mO P) (P 8 8) (zZ 31) (zZ 32) (zZ 33) ∧ zZ 30 3 = (mat (mO P) (P 8 8)).2.2.1 ∧ zZ 30 4 = (mat (mO P) (P 8 8)).2.2.2) ∧ (r9 = trV (mO P) (mat (mO P) (P 8 8)).1 t w) ∧ (u9 = (upr (upr (upr (upr (upr (upr (upr (upr (upr (upr (upr (upr (upr (upr (upr (upr P 21 (zZ 21)) 22 (zZ 22)) 23 (zZ 23)) 24 (zZ 24)) 25 (zZ 25)) 26 (zZ 26)) 27 (zZ 27)) 28 (zZ 28)) 30 (zZ 30)) 31 (zZ 31)) 32 (zZ 32)) 33 (zZ 33)) 34 (zZ 34)) 35 (zZ 35)) 36 (zZ 36)) 100 (ups (P 100) 6 1))))) 0 0 (va_A (oblkW cy a P) sz) := by
  refine kM_start (cc := cX6_trail) (maxL := 3) (ret := (some .int)) (by decide) rfl (Nat.le_of_ble_eq_true rfl) ?_
  intro p e s m below meth c hx hb hr hlocks hml hts hown hsz hA hG hP hD hS hin ls hl
  have hK := hG.1
  have hl : lv_has ls 3 [(0, .ref (a 100)), (1, .int (iI t)), (2, .int (iI w))] := hl
  have hinX6 : ∀ w ∈ u_ws RX6 TX6 8, w ∈ wsX6_trail := by decide +kernel
  have hmw0 := hts (.fieldLink RX6 10 "ArcPlate" "plate" "LArcPlate$Plate;") (by decide +kernel)
  have hS0 := po_S hI
  have hbody : ∀ (H : Heap) (locs : List Loc) (hP : va_P D vwCl (oblkW cy a P) H) (hS : va_S (va_A (oblkW cy a P) sz) s.heap H locs) (ls : Array Slot) (hl : lv_has ls 3 [(0, .ref (a 100)), (1, .int (iI t)), (2, .int (iI w))]), W p l e { frames := 6, cells := 0, slots := 0, locals := 148 } s m ([.ref (a 100), .int (iI t), .int (iI w)] : List Value).toArray below meth c H locs 0 0 (MQ below (kQi D (oblkW cy a P) sz (fun u9 : Nat → Int → Int => oblkW cy a u9) (fun r9 u9 => ∃ (zZ : Nat → Int → Int), (figOK (mO P) zZ (P 0 0) ∧ maOK (mO P) (P 8 8) (zZ 31) (zZ 32) (zZ 33) ∧ zZ 30 3 = (mat (mO P) (P 8 8)).2.2.1 ∧ zZ 30 4 = (mat (mO P) (P 8 8)).2.2.2) ∧ (r9 = trV (mO P) (mat (mO P) (P 8 8)).1 t w) ∧ (u9 = (upr (upr (upr (upr (upr (upr (upr (upr (upr (upr (upr (upr (upr (upr (upr (upr P 21 (zZ 21)) 22 (zZ 22)) 23 (zZ 23)) 24 (zZ 24)) 25 (zZ 25)) 26 (zZ 26)) 27 (zZ 27)) 28 (zZ 28)) 30 (zZ 30)) 31 (zZ 31)) 32 (zZ 32)) 33 (zZ 33)) 34 (zZ 34)) 35 (zZ 35)) 36 (zZ 36)) 100 (ups (P 100) 6 1))))) ([.ref (a 100), .int (iI t), .int (iI w)] : List Value).toArray s 0 0 (va_A (oblkW cy a P) sz)) (F0 m 0 ls []) := by
    intro H locs hP hS ls hl
    refine lv_aload_n hx hb dX6_trail_0 rfl (lv_at hl 0 rfl) ?_
    refine va_get (D := D) (ci := 5) (v := .ref (a 0)) (C := RX6) (T := TX6) (N := 8) hx hb hts hinX6 hown hK hP 0 rfl rfl 0 (by decide) hmw0 (fun _ h9 => h9) rfl dX6_trail_1 ?_
    refine lv_iload_n hx hb dX6_trail_4 rfl (lv_at hl 1 rfl) ?_
    refine k_roV (As := [.int (iI t)]) (rest := []) ⟨hx, hb, hml, hown, hts⟩ (c_X4_hasTrail l D cy a P t hI (show -2147483648 ≤ t ∧ t ≤ 2147483647 by omega)) gX6_trail_X4_hasTrail rfl ⟨rfl, rfl⟩ 1 rfl (by decide +kernel) ⟨Nat.le_of_ble_eq_true rfl, Nat.le_of_ble_eq_true rfl⟩ (GG_ok D cy) ((GG_ok D cy).2.2.2 _ _ _ _ (fun _ h => h.elim) ((GG_ok D cy).1 _ _ _ _ hS.2.1 hG)) (hP.sub (ws' := (plW cy a P)) [1, 2, 3, 4, 5, 6, 7, 8, 9] rfl) (va_recv hK hP (ci := 3) (q0 := 1) rfl rfl) hl.1 rfl (Nat.le_of_ble_eq_true rfl) ⟨Nat.le_of_ble_eq_true rfl, Nat.le_of_ble_eq_true rfl⟩ dX6_trail_5 (fun r_1 hr_1 => ?_)
    have hr_1 : ((0 ≤ t ∧ t < P 0 0) ∧ r_1 = 1) ∨ (¬ (0 ≤ t ∧ t < P 0 0) ∧ r_1 = 0) := hr_1
    rcases hr_1 with ⟨c_2, hr_1⟩ | ⟨c_2, hr_1⟩ <;> subst hr_1
    · skip
      refine k_if_eq (tgt := 15) hx hb dX6_trail_8 (by decide) (by omega) (fun c_3 => ?_) (fun c_3 => ?_)
      · exfalso; omega
      · skip
        refine k_iconst hx hb dX6_trail_11 ?_
        refine lv_goto (tgt := 16) hx hb dX6_trail_12 (by decide) ?_
        refine k_rovS (As := [.int (iI 0)]) (rest := []) ⟨hx, hb, hml, hown, hts⟩ (c_X6_refuse l D) gX6_trail_X6_refuse rfl ⟨rfl, rfl⟩ 1 rfl (by decide +kernel) ⟨Nat.le_of_ble_eq_true rfl, Nat.le_of_ble_eq_true rfl⟩ kGT_ok trivial (fun k q h => by simp at h) hl.1 rfl (Nat.le_of_ble_eq_true rfl) ⟨Nat.le_of_ble_eq_true rfl, Nat.le_of_ble_eq_true rfl⟩ dX6_trail_16 ?_
        refine lv_iload_n hx hb dX6_trail_19 rfl (lv_at hl 2 rfl) ?_
        refine k_iconst hx hb dX6_trail_20 ?_
        refine k_bipush hx hb dX6_trail_21 (by decide +kernel) ?_
        refine k_roS (As := [.int (iI w), .int (iI 0), .int (iI 8)]) (rest := []) ⟨hx, hb, hml, hown, hts⟩ (c_X6_inRange l D w 0 8 (show -2147483648 ≤ w ∧ w ≤ 2147483647 by omega) (show -2147483648 ≤ 0 ∧ 0 ≤ 2147483647 by omega) (show -2147483648 ≤ 8 ∧ 8 ≤ 2147483647 by omega)) gX6_trail_X6_inRange rfl ⟨rfl, rfl⟩ 3 rfl (by decide +kernel) ⟨Nat.le_of_ble_eq_true rfl, Nat.le_of_ble_eq_true rfl⟩ kGT_ok trivial (fun k q h => by simp at h) hl.1 rfl (Nat.le_of_ble_eq_true rfl) ⟨Nat.le_of_ble_eq_true rfl, Nat.le_of_ble_eq_true rfl⟩ dX6_trail_23 (fun r_4 hr_4 => ?_)
        have hr_4 : ((0 ≤ w ∧ w ≤ 8) ∧ r_4 = 1) ∨ (¬ (0 ≤ w ∧ w ≤ 8) ∧ r_4 = 0) := hr_4
        rcases hr_4 with ⟨c_5, hr_4⟩ | ⟨c_5, hr_4⟩ <;> subst hr_4
        · skip
          refine k_if_eq (tgt := 33) hx hb dX6_trail_26 (by decide) (by omega) (fun c_6 => ?_) (fun c_6 => ?_)
          · exfalso; omega
          · skip
            refine k_iconst hx hb dX6_trail_29 ?_
            refine lv_goto (tgt := 34) hx hb dX6_trail_30 (by decide) ?_
            refine k_rovS (As := [.int (iI 0)]) (rest := []) ⟨hx, hb, hml, hown, hts⟩ (c_X6_refuse l D) gX6_trail_X6_refuse rfl ⟨rfl, rfl⟩ 1 rfl (by decide +kernel) ⟨Nat.le_of_ble_eq_true rfl, Nat.le_of_ble_eq_true rfl⟩ kGT_ok trivial (fun k q h => by simp at h) hl.1 rfl (Nat.le_of_ble_eq_true rfl) ⟨Nat.le_of_ble_eq_true rfl, Nat.le_of_ble_eq_true rfl⟩ dX6_trail_34 ?_
            refine lv_aload_n hx hb dX6_trail_37 rfl (lv_at hl 0 rfl) ?_
            refine k_muv (k_runV (As := []) (rest := []) ⟨hx, hb, hml, hown, hts⟩ (c_X6_look l D cy H.size a P hI (show P 100 6 = 0 ∨ P 100 6 = 1 by omega) (show P 100 6 = 1 → lkd P by omega)) gX6_trail_X6_look rfl ⟨rfl, rfl⟩ 0 rfl (by decide +kernel) ⟨Nat.le_of_ble_eq_true rfl, Nat.le_of_ble_eq_true rfl⟩ (GG_ok D cy) hG hS (k_free hD hS hA) hP hD (va_recv hK hP (ci := 5) (q0 := 0) rfl rfl) hl.1 rfl (Nat.le_of_ble_eq_true rfl) ⟨Nat.le_of_ble_eq_true rfl, Nat.le_of_ble_eq_true rfl⟩ dX6_trail_38) (k_free hD hS hA) hS (fun R_8 H1 locs1 hR_8 hP1 hD1 hS1 hk1 => ?_)
            have hR_8 : ∃ (zZ : Nat → Int → Int), (figOK (mO P) zZ (P 0 0) ∧ maOK (mO P) (P 8 8) (zZ 31) (zZ 32) (zZ 33) ∧ zZ 30 3 = (mat (mO P) (P 8 8)).2.2.1 ∧ zZ 30 4 = (mat (mO P) (P 8 8)).2.2.2) ∧ (R_8 = (upr (upr (upr (upr (upr (upr (upr (upr (upr (upr (upr (upr (upr (upr (upr (upr P 21 (zZ 21)) 22 (zZ 22)) 23 (zZ 23)) 24 (zZ 24)) 25 (zZ 25)) 26 (zZ 26)) 27 (zZ 27)) 28 (zZ 28)) 30 (zZ 30)) 31 (zZ 31)) 32 (zZ 32)) 33 (zZ 33)) 34 (zZ 34)) 35 (zZ 35)) 36 (zZ 36)) 100 (ups (P 100) 6 1))) := hR_8
            obtain ⟨zZ_9, hf_10, hR_8⟩ := hR_8
            have hf_10 : figOK (mO P) zZ_9 (P 0 0) ∧ maOK (mO P) (P 8 8) (zZ_9 31) (zZ_9 32) (zZ_9 33) ∧ zZ_9 30 3 = (mat (mO P) (P 8 8)).2.2.1 ∧ zZ_9 30 4 = (mat (mO P) (P 8 8)).2.2.2 := hf_10
            subst hR_8
            have hDn : va_D (va_A (oblkW cy a P) sz) (oblkW cy a (upr (upr (upr (upr (upr (upr (upr (upr (upr (upr (upr (upr (upr (upr (upr (upr P 21 (zZ_9 21)) 22 (zZ_9 22)) 23 (zZ_9 23)) 24 (zZ_9 24)) 25 (zZ_9 25)) 26 (zZ_9 26)) 27 (zZ_9 27)) 28 (zZ_9 28)) 30 (zZ_9 30)) 31 (zZ_9 31)) 32 (zZ_9 32)) 33 (zZ_9 33)) 34 (zZ_9 34)) 35 (zZ_9 35)) 36 (zZ_9 36)) 100 (ups (P 100) 6 1))) := k_addr hD rfl
            have hPn : va_P D vwCl (oblkW cy a (upr (upr (upr (upr (upr (upr (upr (upr (upr (upr (upr (upr (upr (upr (upr (upr P 21 (zZ_9 21)) 22 (zZ_9 22)) 23 (zZ_9 23)) 24 (zZ_9 24)) 25 (zZ_9 25)) 26 (zZ_9 26)) 27 (zZ_9 27)) 28 (zZ_9 28)) 30 (zZ_9 30)) 31 (zZ_9 31)) 32 (zZ_9 32)) 33 (zZ_9 33)) 34 (zZ_9 34)) 35 (zZ_9 35)) 36 (zZ_9 36)) 100 (ups (P 100) 6 1))) H1 := hP1
            clear hP hD hS hP1 hD1 hk1
            have hP := hPn
            have hD := hDn
            have hS := hS1
            clear hPn hDn hS1
            generalize H1 = H at hP hS ⊢
            generalize locs1 = locs at hS ⊢
            have hfk := hf_10
            refine lv_aload_n hx hb dX6_trail_41 rfl (lv_at hl 0 rfl) ?_
            refine lv_iload_n hx hb dX6_trail_42 rfl (lv_at hl 1 rfl) ?_
            refine lv_iload_n hx hb dX6_trail_43 rfl (lv_at hl 2 rfl) ?_
            refine k_roV (As := [.int (iI t), .int (iI w)]) (rest := []) ⟨hx, hb, hml, hown, hts⟩ (c_X6_trailValue l D cy a (upr (upr (upr (upr (upr (upr (upr (upr (upr (upr (upr (upr (upr (upr (upr (upr P 21 (zZ_9 21)) 22 (zZ_9 22)) 23 (zZ_9 23)) 24 (zZ_9 24)) 25 (zZ_9 25)) 26 (zZ_9 26)) 27 (zZ_9 27)) 28 (zZ_9 28)) 30 (zZ_9 30)) 31 (zZ_9 31)) 32 (zZ_9 32)) 33 (zZ_9 33)) 34 (zZ_9 34)) 35 (zZ_9 35)) 36 (zZ_9 36)) 100 (ups (P 100) 6 1)) t w hI (show lkd (upr (upr (upr (upr (upr (upr (upr (upr (upr (upr (upr (upr (upr (upr (upr (upr P 21 (zZ_9 21)) 22 (zZ_9 22)) 23 (zZ_9 23)) 24 (zZ_9 24)) 25 (zZ_9 25)) 26 (zZ_9 26)) 27 (zZ_9 27)) 28 (zZ_9 28)) 30 (zZ_9 30)) 31 (zZ_9 31)) 32 (zZ_9 32)) 33 (zZ_9 33)) 34 (zZ_9 34)) 35 (zZ_9 35)) 36 (zZ_9 36)) 100 (ups (P 100) 6 1)) from hfk) (show 0 ≤ t by omega) (show t < (P 0) 0 by omega) (show 0 ≤ w ∧ w ≤ 8 by omega)) gX6_trail_X6_trailValue rfl ⟨rfl, rfl⟩ 2 rfl (by decide +kernel) ⟨Nat.le_of_ble_eq_true rfl, Nat.le_of_ble_eq_true rfl⟩ (GG_ok D cy) ((GG_ok D cy).2.2.2 _ _ _ _ (fun _ h => h.elim) ((GG_ok D cy).1 _ _ _ _ hS.2.1 hG)) hP (va_recv hK hP (ci := 5) (q0 := 0) rfl rfl) hl.1 rfl (Nat.le_of_ble_eq_true rfl) ⟨Nat.le_of_ble_eq_true rfl, Nat.le_of_ble_eq_true rfl⟩ dX6_trail_44 (fun r_11 hr_11 => ?_)
            have hr_11 : r_11 = trV (mO P) ((zZ_9 31)) t w := hr_11
            subst hr_11
            exact W.iret (v := iI (trV (mO P) ((zZ_9 31)) t w)) hx hb hr (fun t9 ht _ => ⟨⟨iI (trV (mO P) ((zZ_9 31)) t w), (upr (upr (upr (upr (upr (upr (upr (upr (upr (upr (upr (upr (upr (upr (upr (upr P 21 (zZ_9 21)) 22 (zZ_9 22)) 23 (zZ_9 23)) 24 (zZ_9 24)) 25 (zZ_9 25)) 26 (zZ_9 26)) 27 (zZ_9 27)) 28 (zZ_9 28)) 30 (zZ_9 30)) 31 (zZ_9 31)) 32 (zZ_9 32)) 33 (zZ_9 33)) 34 (zZ_9 34)) 35 (zZ_9 35)) 36 (zZ_9 36)) 100 (ups (P 100) 6 1)), rfl, ⟨(trV (mO P) ((zZ_9 31)) t w), rfl, (⟨((upr (upr (upr (upr (upr (upr (upr (upr (upr (upr (upr (upr (upr (upr (upr (upr P 21 (zZ_9 21)) 22 (zZ_9 22)) 23 (zZ_9 23)) 24 (zZ_9 24)) 25 (zZ_9 25)) 26 (zZ_9 26)) 27 (zZ_9 27)) 28 (zZ_9 28)) 30 (zZ_9 30)) 31 (zZ_9 31)) 32 (zZ_9 32)) 33 (zZ_9 33)) 34 (zZ_9 34)) 35 (zZ_9 35)) 36 (zZ_9 36)) 100 (ups (P 100) 6 1))), (hfk), (trV_congr (hfk.2.1.1 t h0 (by omega)).1), rfl⟩ : ∃ (zZ : Nat → Int → Int), (figOK (mO P) zZ (P 0 0) ∧ maOK (mO P) (P 8 8) (zZ 31) (zZ 32) (zZ 33) ∧ zZ 30 3 = (mat (mO P) (P 8 8)).2.2.1 ∧ zZ 30 4 = (mat (mO P) (P 8 8)).2.2.2) ∧ ((trV (mO P) ((zZ_9 31)) t w : Int) = trV (mO P) (mat (mO P) (P 8 8)).1 t w) ∧ ((upr (upr (upr (upr (upr (upr (upr (upr (upr (upr (upr (upr (upr (upr (upr (upr P 21 (zZ_9 21)) 22 (zZ_9 22)) 23 (zZ_9 23)) 24 (zZ_9 24)) 25 (zZ_9 25)) 26 (zZ_9 26)) 27 (zZ_9 27)) 28 (zZ_9 28)) 30 (zZ_9 30)) 31 (zZ_9 31)) 32 (zZ_9 32)) 33 (zZ_9 33)) 34 (zZ_9 34)) 35 (zZ_9 35)) 36 (zZ_9 36)) 100 (ups (P 100) 6 1)) = (upr (upr (upr (upr (upr (upr (upr (upr (upr (upr (upr (upr (upr (upr (upr (upr P 21 (zZ 21)) 22 (zZ 22)) 23 (zZ 23)) 24 (zZ 24)) 25 (zZ 25)) 26 (zZ 26)) 27 (zZ 27)) 28 (zZ 28)) 30 (zZ 30)) 31 (zZ 31)) 32 (zZ 32)) 33 (zZ 33)) 34 (zZ 34)) 35 (zZ 35)) 36 (zZ 36)) 100 (ups (P 100) 6 1))))⟩, by rw [ht]; exact hP, hD⟩, hS.F ht⟩) hS.2.2 dX6_trail_47 hlocks
        · skip
          refine k_if_eq (tgt := 33) hx hb dX6_trail_26 (by decide) (by omega) (fun c_12 => ?_) (fun c_12 => ?_)
          · skip
            refine k_iconst hx hb dX6_trail_33 ?_
            exfalso; first | omega | omega
          · exfalso; omega
    · skip
      refine k_if_eq (tgt := 15) hx hb dX6_trail_8 (by decide) (by omega) (fun c_13 => ?_) (fun c_13 => ?_)
      · skip
        refine k_iconst hx hb dX6_trail_15 ?_
        exfalso; first | omega | omega
      · exfalso; omega
  exact hbody s.heap [] hP hS ls hl
set_option maxHeartbeats 4000000 in
set_option maxRecDepth 100000 in
theorem c_X6_trail_t1 (l : Launch) (hl9 : l.stackTraces = false) (D : va_G) (cy : Nat → ClassId) (a : Nat → Nat) (P : Nat → Int → Int) (t w : Int) (hI : Inv (mO P)) (hrt : -2147483648 ≤ t ∧ t ≤ 2147483647) (hno : ¬ (0 ≤ t ∧ t < P 0 0)) : vx_Met l yX6_trail wsX6_trail { frames := 7, cells := 1, slots := 6, locals := 110 } (kPre (GX D cy) D (obplW cy a P) ([.ref (a 100), .int (iI t), .int (iI w)] : List Value)) kNo (XK (exN 0)) 1 6 (fun _ => False) := by
  refine kTH_start (cc := cX6_trail) (maxL := 3) (ret := (some .int)) (by decide) rfl (Nat.le_of_ble_eq_true rfl) ?_
  intro p e s m below meth c hx hb hr hlocks hml hts hown ht hG hP ls hl
  have hGe := hG.2
  have hGs := hG.1
  have hJd := hGs.2.1
  have hG := hGs.1
  have hK := hG.1
  have hl : lv_has ls 3 [(0, .ref (a 100)), (1, .int (iI t)), (2, .int (iI w))] := hl
  have hinX6 : ∀ w ∈ u_ws RX6 TX6 8, w ∈ wsX6_trail := by decide +kernel
  have hmw0 := hts (.fieldLink RX6 10 "ArcPlate" "plate" "LArcPlate$Plate;") (by decide +kernel)
  have hS0 := po_S hI
  refine lv_aload_n hx hb dX6_trail_0 rfl (lv_at hl 0 rfl) ?_
  refine va_get (D := D) (ci := 5) (v := .ref (a 0)) (C := RX6) (T := TX6) (N := 8) hx hb hts hinX6 hown hK hP 0 rfl rfl 0 (by decide) hmw0 (fun _ h9 => h9) rfl dX6_trail_1 ?_
  refine lv_iload_n hx hb dX6_trail_4 rfl (lv_at hl 1 rfl) ?_
  refine k_roV (As := [.int (iI t)]) (rest := []) ⟨hx, hb, hml, hown, hts⟩ (c_X4_hasTrail l D cy a P t hI (show -2147483648 ≤ t ∧ t ≤ 2147483647 by omega)) gX6_trail_X4_hasTrail rfl ⟨rfl, rfl⟩ 1 rfl (by decide +kernel) ⟨Nat.le_of_ble_eq_true rfl, Nat.le_of_ble_eq_true rfl⟩ (GG_ok D cy) hG (hP.sub (ws' := (plW cy a P)) [1, 2, 3, 4, 5, 6, 7, 8, 9] rfl) (va_recv hK hP (ci := 3) (q0 := 1) rfl rfl) hl.1 rfl (Nat.le_of_ble_eq_true rfl) ⟨Nat.le_of_ble_eq_true rfl, Nat.le_of_ble_eq_true rfl⟩ dX6_trail_5 (fun r_1 hr_1 => ?_)
  have hr_1 : ((0 ≤ t ∧ t < P 0 0) ∧ r_1 = 1) ∨ (¬ (0 ≤ t ∧ t < P 0 0) ∧ r_1 = 0) := hr_1
  rcases hr_1 with ⟨c_2, hr_1⟩ | ⟨c_2, hr_1⟩ <;> subst hr_1
  · skip
    refine k_if_eq (tgt := 15) hx hb dX6_trail_8 (by decide) (by omega) (fun c_3 => ?_) (fun c_3 => ?_)
    · exfalso; omega
    · skip
      refine k_iconst hx hb dX6_trail_11 ?_
      refine lv_goto (tgt := 16) hx hb dX6_trail_12 (by decide) ?_
      exfalso; first | omega | omega
  · skip
    refine k_if_eq (tgt := 15) hx hb dX6_trail_8 (by decide) (by omega) (fun c_4 => ?_) (fun c_4 => ?_)
    · skip
      refine k_iconst hx hb dX6_trail_15 ?_
      exact k_thS (As := [.int (iI 1)]) (rest := []) ⟨hx, hb, hml, hown, hts⟩ (c_X6_refuse1 l hl9 D) gX6_trail_X6_refuse rfl ⟨rfl, rfl⟩ 1 rfl (by decide +kernel) ⟨Nat.le_of_ble_eq_true rfl, Nat.le_of_ble_eq_true rfl⟩ exA_ok hGe (fun k q h => by simp at h) hl.1 rfl (Nat.le_of_ble_eq_true rfl) ⟨Nat.le_of_ble_eq_true rfl, Nat.le_of_ble_eq_true rfl⟩ dX6_trail_16 ht hlocks
    · exfalso; omega
set_option maxHeartbeats 4000000 in
set_option maxRecDepth 100000 in
theorem c_X6_trail_t2 (l : Launch) (hl9 : l.stackTraces = false) (D : va_G) (cy : Nat → ClassId) (a : Nat → Nat) (P : Nat → Int → Int) (t w : Int) (hI : Inv (mO P)) (h0 : 0 ≤ t) (h1 : t < P 0 0) (hrw : -2147483648 ≤ w ∧ w ≤ 2147483647) (hno : ¬ (0 ≤ w ∧ w ≤ 8)) : vx_Met l yX6_trail wsX6_trail { frames := 7, cells := 1, slots := 6, locals := 110 } (kPre (GX D cy) D (obplW cy a P) ([.ref (a 100), .int (iI t), .int (iI w)] : List Value)) kNo (XK (exN 1)) 1 6 (fun _ => False) := by
  refine kTH_start (cc := cX6_trail) (maxL := 3) (ret := (some .int)) (by decide) rfl (Nat.le_of_ble_eq_true rfl) ?_
  intro p e s m below meth c hx hb hr hlocks hml hts hown ht hG hP ls hl
  have hGe := hG.2
  have hGs := hG.1
  have hJd := hGs.2.1
  have hG := hGs.1
  have hK := hG.1
  have hl : lv_has ls 3 [(0, .ref (a 100)), (1, .int (iI t)), (2, .int (iI w))] := hl
  have hinX6 : ∀ w ∈ u_ws RX6 TX6 8, w ∈ wsX6_trail := by decide +kernel
  have hmw0 := hts (.fieldLink RX6 10 "ArcPlate" "plate" "LArcPlate$Plate;") (by decide +kernel)
  have hS0 := po_S hI
  refine lv_aload_n hx hb dX6_trail_0 rfl (lv_at hl 0 rfl) ?_
  refine va_get (D := D) (ci := 5) (v := .ref (a 0)) (C := RX6) (T := TX6) (N := 8) hx hb hts hinX6 hown hK hP 0 rfl rfl 0 (by decide) hmw0 (fun _ h9 => h9) rfl dX6_trail_1 ?_
  refine lv_iload_n hx hb dX6_trail_4 rfl (lv_at hl 1 rfl) ?_
  refine k_roV (As := [.int (iI t)]) (rest := []) ⟨hx, hb, hml, hown, hts⟩ (c_X4_hasTrail l D cy a P t hI (show -2147483648 ≤ t ∧ t ≤ 2147483647 by omega)) gX6_trail_X4_hasTrail rfl ⟨rfl, rfl⟩ 1 rfl (by decide +kernel) ⟨Nat.le_of_ble_eq_true rfl, Nat.le_of_ble_eq_true rfl⟩ (GG_ok D cy) hG (hP.sub (ws' := (plW cy a P)) [1, 2, 3, 4, 5, 6, 7, 8, 9] rfl) (va_recv hK hP (ci := 3) (q0 := 1) rfl rfl) hl.1 rfl (Nat.le_of_ble_eq_true rfl) ⟨Nat.le_of_ble_eq_true rfl, Nat.le_of_ble_eq_true rfl⟩ dX6_trail_5 (fun r_1 hr_1 => ?_)
  have hr_1 : ((0 ≤ t ∧ t < P 0 0) ∧ r_1 = 1) ∨ (¬ (0 ≤ t ∧ t < P 0 0) ∧ r_1 = 0) := hr_1
  rcases hr_1 with ⟨c_2, hr_1⟩ | ⟨c_2, hr_1⟩ <;> subst hr_1
  · skip
    refine k_if_eq (tgt := 15) hx hb dX6_trail_8 (by decide) (by omega) (fun c_3 => ?_) (fun c_3 => ?_)
    · exfalso; omega
    · skip
      refine k_iconst hx hb dX6_trail_11 ?_
      refine lv_goto (tgt := 16) hx hb dX6_trail_12 (by decide) ?_
      refine k_rovS (As := [.int (iI 0)]) (rest := []) ⟨hx, hb, hml, hown, hts⟩ (c_X6_refuse l D) gX6_trail_X6_refuse rfl ⟨rfl, rfl⟩ 1 rfl (by decide +kernel) ⟨Nat.le_of_ble_eq_true rfl, Nat.le_of_ble_eq_true rfl⟩ kGT_ok trivial (fun k q h => by simp at h) hl.1 rfl (Nat.le_of_ble_eq_true rfl) ⟨Nat.le_of_ble_eq_true rfl, Nat.le_of_ble_eq_true rfl⟩ dX6_trail_16 ?_
      refine lv_iload_n hx hb dX6_trail_19 rfl (lv_at hl 2 rfl) ?_
      refine k_iconst hx hb dX6_trail_20 ?_
      refine k_bipush hx hb dX6_trail_21 (by decide +kernel) ?_
      refine k_roS (As := [.int (iI w), .int (iI 0), .int (iI 8)]) (rest := []) ⟨hx, hb, hml, hown, hts⟩ (c_X6_inRange l D w 0 8 (show -2147483648 ≤ w ∧ w ≤ 2147483647 by omega) (show -2147483648 ≤ 0 ∧ 0 ≤ 2147483647 by omega) (show -2147483648 ≤ 8 ∧ 8 ≤ 2147483647 by omega)) gX6_trail_X6_inRange rfl ⟨rfl, rfl⟩ 3 rfl (by decide +kernel) ⟨Nat.le_of_ble_eq_true rfl, Nat.le_of_ble_eq_true rfl⟩ kGT_ok trivial (fun k q h => by simp at h) hl.1 rfl (Nat.le_of_ble_eq_true rfl) ⟨Nat.le_of_ble_eq_true rfl, Nat.le_of_ble_eq_true rfl⟩ dX6_trail_23 (fun r_4 hr_4 => ?_)
      have hr_4 : ((0 ≤ w ∧ w ≤ 8) ∧ r_4 = 1) ∨ (¬ (0 ≤ w ∧ w ≤ 8) ∧ r_4 = 0) := hr_4
      rcases hr_4 with ⟨c_5, hr_4⟩ | ⟨c_5, hr_4⟩ <;> subst hr_4
      · skip
        refine k_if_eq (tgt := 33) hx hb dX6_trail_26 (by decide) (by omega) (fun c_6 => ?_) (fun c_6 => ?_)
        · exfalso; omega
        · skip
          refine k_iconst hx hb dX6_trail_29 ?_
          refine lv_goto (tgt := 34) hx hb dX6_trail_30 (by decide) ?_
          exfalso; first | omega | omega
      · skip
        refine k_if_eq (tgt := 33) hx hb dX6_trail_26 (by decide) (by omega) (fun c_7 => ?_) (fun c_7 => ?_)
        · skip
          refine k_iconst hx hb dX6_trail_33 ?_
          exact k_thS (As := [.int (iI 2)]) (rest := []) ⟨hx, hb, hml, hown, hts⟩ (c_X6_refuse2 l hl9 D) gX6_trail_X6_refuse rfl ⟨rfl, rfl⟩ 1 rfl (by decide +kernel) ⟨Nat.le_of_ble_eq_true rfl, Nat.le_of_ble_eq_true rfl⟩ exA_ok hGe (fun k q h => by simp at h) hl.1 rfl (Nat.le_of_ble_eq_true rfl) ⟨Nat.le_of_ble_eq_true rfl, Nat.le_of_ble_eq_true rfl⟩ dX6_trail_34 ht hlocks
        · exfalso; omega
  · skip
    refine k_if_eq (tgt := 15) hx hb dX6_trail_8 (by decide) (by omega) (fun c_8 => ?_) (fun c_8 => ?_)
    · skip
      refine k_iconst hx hb dX6_trail_15 ?_
      exfalso; first | omega | omega
    · exfalso; omega
set_option maxHeartbeats 4000000 in
set_option maxRecDepth 100000 in
theorem c_X6_star (l : Launch) (D : va_G) (cy : Nat → ClassId) (sz : Nat) (a : Nat → Nat) (P : Nat → Int → Int) (u w : Int) (hI : Inv (mO P)) (hl0 : P 100 6 = 0 ∨ P 100 6 = 1) (hl1 : P 100 6 = 1 → lkd P) (h0u : 0 ≤ u) (h1u : u < P 0 1) (hw : 0 ≤ w ∧ w ≤ 6) : Met l yX6_star wsX6_star { frames := 6, cells := 0, slots := 0, locals := 148 } (mPre (GG D cy) D (oblkW cy a P) sz ([.ref (a 100), .int (iI u), .int (iI w)] : List Value)) (kQi D (oblkW cy a P) sz (fun u9 : Nat → Int → Int => oblkW cy a u9) (fun r9 u9 => ∃ (zZ : Nat → Int → Int), (figOK (mO P) zZ (P 0 0) ∧ maOK (mO P) (P 8 8) (zZ 31) (zZ 32) (zZ 33) ∧ zZ 30 3 = (mat (mO P) (P 8 8)).2.2.1 ∧ zZ 30 4 = (mat (mO P) (P 8 8)).2.2.2) ∧ (r9 = stW (mO P) u w) ∧ (u9 = (upr (upr (upr (upr (upr (upr (upr (upr (upr (upr (upr (upr (upr (upr (upr (upr P 21 (zZ 21)) 22 (zZ 22)) 23 (zZ 23)) 24 (zZ 24)) 25 (zZ 25)) 26 (zZ 26)) 27 (zZ 27)) 28 (zZ 28)) 30 (zZ 30)) 31 (zZ 31)) 32 (zZ 32)) 33 (zZ 33)) 34 (zZ 34)) 35 (zZ 35)) 36 (zZ 36)) 100 (ups (P 100) 6 1))))) 0 0 (va_A (oblkW cy a P) sz) := by
  refine kM_start (cc := cX6_star) (maxL := 3) (ret := (some .int)) (by decide) rfl (Nat.le_of_ble_eq_true rfl) ?_
  intro p e s m below meth c hx hb hr hlocks hml hts hown hsz hA hG hP hD hS hin ls hl
  have hK := hG.1
  have hl : lv_has ls 3 [(0, .ref (a 100)), (1, .int (iI u)), (2, .int (iI w))] := hl
  have hinX6 : ∀ w ∈ u_ws RX6 TX6 8, w ∈ wsX6_star := by decide +kernel
  have hmw0 := hts (.fieldLink RX6 10 "ArcPlate" "plate" "LArcPlate$Plate;") (by decide +kernel)
  have hS0 := po_S hI
  have hbody : ∀ (H : Heap) (locs : List Loc) (hP : va_P D vwCl (oblkW cy a P) H) (hS : va_S (va_A (oblkW cy a P) sz) s.heap H locs) (ls : Array Slot) (hl : lv_has ls 3 [(0, .ref (a 100)), (1, .int (iI u)), (2, .int (iI w))]), W p l e { frames := 6, cells := 0, slots := 0, locals := 148 } s m ([.ref (a 100), .int (iI u), .int (iI w)] : List Value).toArray below meth c H locs 0 0 (MQ below (kQi D (oblkW cy a P) sz (fun u9 : Nat → Int → Int => oblkW cy a u9) (fun r9 u9 => ∃ (zZ : Nat → Int → Int), (figOK (mO P) zZ (P 0 0) ∧ maOK (mO P) (P 8 8) (zZ 31) (zZ 32) (zZ 33) ∧ zZ 30 3 = (mat (mO P) (P 8 8)).2.2.1 ∧ zZ 30 4 = (mat (mO P) (P 8 8)).2.2.2) ∧ (r9 = stW (mO P) u w) ∧ (u9 = (upr (upr (upr (upr (upr (upr (upr (upr (upr (upr (upr (upr (upr (upr (upr (upr P 21 (zZ 21)) 22 (zZ 22)) 23 (zZ 23)) 24 (zZ 24)) 25 (zZ 25)) 26 (zZ 26)) 27 (zZ 27)) 28 (zZ 28)) 30 (zZ 30)) 31 (zZ 31)) 32 (zZ 32)) 33 (zZ 33)) 34 (zZ 34)) 35 (zZ 35)) 36 (zZ 36)) 100 (ups (P 100) 6 1))))) ([.ref (a 100), .int (iI u), .int (iI w)] : List Value).toArray s 0 0 (va_A (oblkW cy a P) sz)) (F0 m 0 ls []) := by
    intro H locs hP hS ls hl
    refine lv_aload_n hx hb dX6_star_0 rfl (lv_at hl 0 rfl) ?_
    refine va_get (D := D) (ci := 5) (v := .ref (a 0)) (C := RX6) (T := TX6) (N := 8) hx hb hts hinX6 hown hK hP 0 rfl rfl 0 (by decide) hmw0 (fun _ h9 => h9) rfl dX6_star_1 ?_
    refine lv_iload_n hx hb dX6_star_4 rfl (lv_at hl 1 rfl) ?_
    refine k_roV (As := [.int (iI u)]) (rest := []) ⟨hx, hb, hml, hown, hts⟩ (c_X4_hasStar l D cy a P u hI (show -2147483648 ≤ u ∧ u ≤ 2147483647 by omega)) gX6_star_X4_hasStar rfl ⟨rfl, rfl⟩ 1 rfl (by decide +kernel) ⟨Nat.le_of_ble_eq_true rfl, Nat.le_of_ble_eq_true rfl⟩ (GG_ok D cy) ((GG_ok D cy).2.2.2 _ _ _ _ (fun _ h => h.elim) ((GG_ok D cy).1 _ _ _ _ hS.2.1 hG)) (hP.sub (ws' := (plW cy a P)) [1, 2, 3, 4, 5, 6, 7, 8, 9] rfl) (va_recv hK hP (ci := 3) (q0 := 1) rfl rfl) hl.1 rfl (Nat.le_of_ble_eq_true rfl) ⟨Nat.le_of_ble_eq_true rfl, Nat.le_of_ble_eq_true rfl⟩ dX6_star_5 (fun r_1 hr_1 => ?_)
    have hr_1 : ((0 ≤ u ∧ u < P 0 1) ∧ r_1 = 1) ∨ (¬ (0 ≤ u ∧ u < P 0 1) ∧ r_1 = 0) := hr_1
    rcases hr_1 with ⟨c_2, hr_1⟩ | ⟨c_2, hr_1⟩ <;> subst hr_1
    · skip
      refine k_if_eq (tgt := 15) hx hb dX6_star_8 (by decide) (by omega) (fun c_3 => ?_) (fun c_3 => ?_)
      · exfalso; omega
      · skip
        refine k_iconst hx hb dX6_star_11 ?_
        refine lv_goto (tgt := 16) hx hb dX6_star_12 (by decide) ?_
        refine k_rovS (As := [.int (iI 0)]) (rest := []) ⟨hx, hb, hml, hown, hts⟩ (c_X6_refuse l D) gX6_star_X6_refuse rfl ⟨rfl, rfl⟩ 1 rfl (by decide +kernel) ⟨Nat.le_of_ble_eq_true rfl, Nat.le_of_ble_eq_true rfl⟩ kGT_ok trivial (fun k q h => by simp at h) hl.1 rfl (Nat.le_of_ble_eq_true rfl) ⟨Nat.le_of_ble_eq_true rfl, Nat.le_of_ble_eq_true rfl⟩ dX6_star_16 ?_
        refine lv_iload_n hx hb dX6_star_19 rfl (lv_at hl 2 rfl) ?_
        refine k_iconst hx hb dX6_star_20 ?_
        refine k_bipush hx hb dX6_star_21 (by decide +kernel) ?_
        refine k_roS (As := [.int (iI w), .int (iI 0), .int (iI 6)]) (rest := []) ⟨hx, hb, hml, hown, hts⟩ (c_X6_inRange l D w 0 6 (show -2147483648 ≤ w ∧ w ≤ 2147483647 by omega) (show -2147483648 ≤ 0 ∧ 0 ≤ 2147483647 by omega) (show -2147483648 ≤ 6 ∧ 6 ≤ 2147483647 by omega)) gX6_star_X6_inRange rfl ⟨rfl, rfl⟩ 3 rfl (by decide +kernel) ⟨Nat.le_of_ble_eq_true rfl, Nat.le_of_ble_eq_true rfl⟩ kGT_ok trivial (fun k q h => by simp at h) hl.1 rfl (Nat.le_of_ble_eq_true rfl) ⟨Nat.le_of_ble_eq_true rfl, Nat.le_of_ble_eq_true rfl⟩ dX6_star_23 (fun r_4 hr_4 => ?_)
        have hr_4 : ((0 ≤ w ∧ w ≤ 6) ∧ r_4 = 1) ∨ (¬ (0 ≤ w ∧ w ≤ 6) ∧ r_4 = 0) := hr_4
        rcases hr_4 with ⟨c_5, hr_4⟩ | ⟨c_5, hr_4⟩ <;> subst hr_4
        · skip
          refine k_if_eq (tgt := 33) hx hb dX6_star_26 (by decide) (by omega) (fun c_6 => ?_) (fun c_6 => ?_)
          · exfalso; omega
          · skip
            refine k_iconst hx hb dX6_star_29 ?_
            refine lv_goto (tgt := 34) hx hb dX6_star_30 (by decide) ?_
            refine k_rovS (As := [.int (iI 0)]) (rest := []) ⟨hx, hb, hml, hown, hts⟩ (c_X6_refuse l D) gX6_star_X6_refuse rfl ⟨rfl, rfl⟩ 1 rfl (by decide +kernel) ⟨Nat.le_of_ble_eq_true rfl, Nat.le_of_ble_eq_true rfl⟩ kGT_ok trivial (fun k q h => by simp at h) hl.1 rfl (Nat.le_of_ble_eq_true rfl) ⟨Nat.le_of_ble_eq_true rfl, Nat.le_of_ble_eq_true rfl⟩ dX6_star_34 ?_
            refine lv_aload_n hx hb dX6_star_37 rfl (lv_at hl 0 rfl) ?_
            refine k_muv (k_runV (As := []) (rest := []) ⟨hx, hb, hml, hown, hts⟩ (c_X6_look l D cy H.size a P hI (show P 100 6 = 0 ∨ P 100 6 = 1 by omega) (show P 100 6 = 1 → lkd P by omega)) gX6_star_X6_look rfl ⟨rfl, rfl⟩ 0 rfl (by decide +kernel) ⟨Nat.le_of_ble_eq_true rfl, Nat.le_of_ble_eq_true rfl⟩ (GG_ok D cy) hG hS (k_free hD hS hA) hP hD (va_recv hK hP (ci := 5) (q0 := 0) rfl rfl) hl.1 rfl (Nat.le_of_ble_eq_true rfl) ⟨Nat.le_of_ble_eq_true rfl, Nat.le_of_ble_eq_true rfl⟩ dX6_star_38) (k_free hD hS hA) hS (fun R_8 H1 locs1 hR_8 hP1 hD1 hS1 hk1 => ?_)
            have hR_8 : ∃ (zZ : Nat → Int → Int), (figOK (mO P) zZ (P 0 0) ∧ maOK (mO P) (P 8 8) (zZ 31) (zZ 32) (zZ 33) ∧ zZ 30 3 = (mat (mO P) (P 8 8)).2.2.1 ∧ zZ 30 4 = (mat (mO P) (P 8 8)).2.2.2) ∧ (R_8 = (upr (upr (upr (upr (upr (upr (upr (upr (upr (upr (upr (upr (upr (upr (upr (upr P 21 (zZ 21)) 22 (zZ 22)) 23 (zZ 23)) 24 (zZ 24)) 25 (zZ 25)) 26 (zZ 26)) 27 (zZ 27)) 28 (zZ 28)) 30 (zZ 30)) 31 (zZ 31)) 32 (zZ 32)) 33 (zZ 33)) 34 (zZ 34)) 35 (zZ 35)) 36 (zZ 36)) 100 (ups (P 100) 6 1))) := hR_8
            obtain ⟨zZ_9, hf_10, hR_8⟩ := hR_8
            have hf_10 : figOK (mO P) zZ_9 (P 0 0) ∧ maOK (mO P) (P 8 8) (zZ_9 31) (zZ_9 32) (zZ_9 33) ∧ zZ_9 30 3 = (mat (mO P) (P 8 8)).2.2.1 ∧ zZ_9 30 4 = (mat (mO P) (P 8 8)).2.2.2 := hf_10
            subst hR_8
            have hDn : va_D (va_A (oblkW cy a P) sz) (oblkW cy a (upr (upr (upr (upr (upr (upr (upr (upr (upr (upr (upr (upr (upr (upr (upr (upr P 21 (zZ_9 21)) 22 (zZ_9 22)) 23 (zZ_9 23)) 24 (zZ_9 24)) 25 (zZ_9 25)) 26 (zZ_9 26)) 27 (zZ_9 27)) 28 (zZ_9 28)) 30 (zZ_9 30)) 31 (zZ_9 31)) 32 (zZ_9 32)) 33 (zZ_9 33)) 34 (zZ_9 34)) 35 (zZ_9 35)) 36 (zZ_9 36)) 100 (ups (P 100) 6 1))) := k_addr hD rfl
            have hPn : va_P D vwCl (oblkW cy a (upr (upr (upr (upr (upr (upr (upr (upr (upr (upr (upr (upr (upr (upr (upr (upr P 21 (zZ_9 21)) 22 (zZ_9 22)) 23 (zZ_9 23)) 24 (zZ_9 24)) 25 (zZ_9 25)) 26 (zZ_9 26)) 27 (zZ_9 27)) 28 (zZ_9 28)) 30 (zZ_9 30)) 31 (zZ_9 31)) 32 (zZ_9 32)) 33 (zZ_9 33)) 34 (zZ_9 34)) 35 (zZ_9 35)) 36 (zZ_9 36)) 100 (ups (P 100) 6 1))) H1 := hP1
            clear hP hD hS hP1 hD1 hk1
            have hP := hPn
            have hD := hDn
            have hS := hS1
            clear hPn hDn hS1
            generalize H1 = H at hP hS ⊢
            generalize locs1 = locs at hS ⊢
            have hfk := hf_10
            refine lv_aload_n hx hb dX6_star_41 rfl (lv_at hl 0 rfl) ?_
            refine lv_iload_n hx hb dX6_star_42 rfl (lv_at hl 1 rfl) ?_
            refine lv_iload_n hx hb dX6_star_43 rfl (lv_at hl 2 rfl) ?_
            refine k_roV (As := [.int (iI u), .int (iI w)]) (rest := []) ⟨hx, hb, hml, hown, hts⟩ (c_X6_starValue l D cy a (upr (upr (upr (upr (upr (upr (upr (upr (upr (upr (upr (upr (upr (upr (upr (upr P 21 (zZ_9 21)) 22 (zZ_9 22)) 23 (zZ_9 23)) 24 (zZ_9 24)) 25 (zZ_9 25)) 26 (zZ_9 26)) 27 (zZ_9 27)) 28 (zZ_9 28)) 30 (zZ_9 30)) 31 (zZ_9 31)) 32 (zZ_9 32)) 33 (zZ_9 33)) 34 (zZ_9 34)) 35 (zZ_9 35)) 36 (zZ_9 36)) 100 (ups (P 100) 6 1)) u w hI (show lkd (upr (upr (upr (upr (upr (upr (upr (upr (upr (upr (upr (upr (upr (upr (upr (upr P 21 (zZ_9 21)) 22 (zZ_9 22)) 23 (zZ_9 23)) 24 (zZ_9 24)) 25 (zZ_9 25)) 26 (zZ_9 26)) 27 (zZ_9 27)) 28 (zZ_9 28)) 30 (zZ_9 30)) 31 (zZ_9 31)) 32 (zZ_9 32)) 33 (zZ_9 33)) 34 (zZ_9 34)) 35 (zZ_9 35)) 36 (zZ_9 36)) 100 (ups (P 100) 6 1)) from hfk) (show 0 ≤ u by omega) (show u < (P 0) 1 by omega) (show 0 ≤ w ∧ w ≤ 6 by omega)) gX6_star_X6_starValue rfl ⟨rfl, rfl⟩ 2 rfl (by decide +kernel) ⟨Nat.le_of_ble_eq_true rfl, Nat.le_of_ble_eq_true rfl⟩ (GG_ok D cy) ((GG_ok D cy).2.2.2 _ _ _ _ (fun _ h => h.elim) ((GG_ok D cy).1 _ _ _ _ hS.2.1 hG)) hP (va_recv hK hP (ci := 5) (q0 := 0) rfl rfl) hl.1 rfl (Nat.le_of_ble_eq_true rfl) ⟨Nat.le_of_ble_eq_true rfl, Nat.le_of_ble_eq_true rfl⟩ dX6_star_44 (fun r_11 hr_11 => ?_)
            have hr_11 : r_11 = stW (mO P) u w := hr_11
            subst hr_11
            exact W.iret (v := iI (stW (mO P) u w)) hx hb hr (fun t9 ht _ => ⟨⟨iI (stW (mO P) u w), (upr (upr (upr (upr (upr (upr (upr (upr (upr (upr (upr (upr (upr (upr (upr (upr P 21 (zZ_9 21)) 22 (zZ_9 22)) 23 (zZ_9 23)) 24 (zZ_9 24)) 25 (zZ_9 25)) 26 (zZ_9 26)) 27 (zZ_9 27)) 28 (zZ_9 28)) 30 (zZ_9 30)) 31 (zZ_9 31)) 32 (zZ_9 32)) 33 (zZ_9 33)) 34 (zZ_9 34)) 35 (zZ_9 35)) 36 (zZ_9 36)) 100 (ups (P 100) 6 1)), rfl, ⟨(stW (mO P) u w), rfl, (⟨((upr (upr (upr (upr (upr (upr (upr (upr (upr (upr (upr (upr (upr (upr (upr (upr P 21 (zZ_9 21)) 22 (zZ_9 22)) 23 (zZ_9 23)) 24 (zZ_9 24)) 25 (zZ_9 25)) 26 (zZ_9 26)) 27 (zZ_9 27)) 28 (zZ_9 28)) 30 (zZ_9 30)) 31 (zZ_9 31)) 32 (zZ_9 32)) 33 (zZ_9 33)) 34 (zZ_9 34)) 35 (zZ_9 35)) 36 (zZ_9 36)) 100 (ups (P 100) 6 1))), (hfk), (rfl), rfl⟩ : ∃ (zZ : Nat → Int → Int), (figOK (mO P) zZ (P 0 0) ∧ maOK (mO P) (P 8 8) (zZ 31) (zZ 32) (zZ 33) ∧ zZ 30 3 = (mat (mO P) (P 8 8)).2.2.1 ∧ zZ 30 4 = (mat (mO P) (P 8 8)).2.2.2) ∧ ((stW (mO P) u w : Int) = stW (mO P) u w) ∧ ((upr (upr (upr (upr (upr (upr (upr (upr (upr (upr (upr (upr (upr (upr (upr (upr P 21 (zZ_9 21)) 22 (zZ_9 22)) 23 (zZ_9 23)) 24 (zZ_9 24)) 25 (zZ_9 25)) 26 (zZ_9 26)) 27 (zZ_9 27)) 28 (zZ_9 28)) 30 (zZ_9 30)) 31 (zZ_9 31)) 32 (zZ_9 32)) 33 (zZ_9 33)) 34 (zZ_9 34)) 35 (zZ_9 35)) 36 (zZ_9 36)) 100 (ups (P 100) 6 1)) = (upr (upr (upr (upr (upr (upr (upr (upr (upr (upr (upr (upr (upr (upr (upr (upr P 21 (zZ 21)) 22 (zZ 22)) 23 (zZ 23)) 24 (zZ 24)) 25 (zZ 25)) 26 (zZ 26)) 27 (zZ 27)) 28 (zZ 28)) 30 (zZ 30)) 31 (zZ 31)) 32 (zZ 32)) 33 (zZ 33)) 34 (zZ 34)) 35 (zZ 35)) 36 (zZ 36)) 100 (ups (P 100) 6 1))))⟩, by rw [ht]; exact hP, hD⟩, hS.F ht⟩) hS.2.2 dX6_star_47 hlocks
        · skip
          refine k_if_eq (tgt := 33) hx hb dX6_star_26 (by decide) (by omega) (fun c_12 => ?_) (fun c_12 => ?_)
          · skip
            refine k_iconst hx hb dX6_star_33 ?_
            exfalso; first | omega | omega
          · exfalso; omega
    · skip
      refine k_if_eq (tgt := 15) hx hb dX6_star_8 (by decide) (by omega) (fun c_13 => ?_) (fun c_13 => ?_)
      · skip
        refine k_iconst hx hb dX6_star_15 ?_
        exfalso; first | omega | omega
      · exfalso; omega
  exact hbody s.heap [] hP hS ls hl
set_option maxHeartbeats 4000000 in
set_option maxRecDepth 100000 in
theorem c_X6_star_t1 (l : Launch) (hl9 : l.stackTraces = false) (D : va_G) (cy : Nat → ClassId) (a : Nat → Nat) (P : Nat → Int → Int) (u w : Int) (hI : Inv (mO P)) (hru : -2147483648 ≤ u ∧ u ≤ 2147483647) (hno : ¬ (0 ≤ u ∧ u < P 0 1)) : vx_Met l yX6_star wsX6_star { frames := 7, cells := 1, slots := 6, locals := 110 } (kPre (GX D cy) D (obplW cy a P) ([.ref (a 100), .int (iI u), .int (iI w)] : List Value)) kNo (XK (exN 0)) 1 6 (fun _ => False) := by
  refine kTH_start (cc := cX6_star) (maxL := 3) (ret := (some .int)) (by decide) rfl (Nat.le_of_ble_eq_true rfl) ?_
  intro p e s m below meth c hx hb hr hlocks hml hts hown ht hG hP ls hl
  have hGe := hG.2
  have hGs := hG.1
  have hJd := hGs.2.1
  have hG := hGs.1
  have hK := hG.1
  have hl : lv_has ls 3 [(0, .ref (a 100)), (1, .int (iI u)), (2, .int (iI w))] := hl
  have hinX6 : ∀ w ∈ u_ws RX6 TX6 8, w ∈ wsX6_star := by decide +kernel
  have hmw0 := hts (.fieldLink RX6 10 "ArcPlate" "plate" "LArcPlate$Plate;") (by decide +kernel)
  have hS0 := po_S hI
  refine lv_aload_n hx hb dX6_star_0 rfl (lv_at hl 0 rfl) ?_
  refine va_get (D := D) (ci := 5) (v := .ref (a 0)) (C := RX6) (T := TX6) (N := 8) hx hb hts hinX6 hown hK hP 0 rfl rfl 0 (by decide) hmw0 (fun _ h9 => h9) rfl dX6_star_1 ?_
  refine lv_iload_n hx hb dX6_star_4 rfl (lv_at hl 1 rfl) ?_
  refine k_roV (As := [.int (iI u)]) (rest := []) ⟨hx, hb, hml, hown, hts⟩ (c_X4_hasStar l D cy a P u hI (show -2147483648 ≤ u ∧ u ≤ 2147483647 by omega)) gX6_star_X4_hasStar rfl ⟨rfl, rfl⟩ 1 rfl (by decide +kernel) ⟨Nat.le_of_ble_eq_true rfl, Nat.le_of_ble_eq_true rfl⟩ (GG_ok D cy) hG (hP.sub (ws' := (plW cy a P)) [1, 2, 3, 4, 5, 6, 7, 8, 9] rfl) (va_recv hK hP (ci := 3) (q0 := 1) rfl rfl) hl.1 rfl (Nat.le_of_ble_eq_true rfl) ⟨Nat.le_of_ble_eq_true rfl, Nat.le_of_ble_eq_true rfl⟩ dX6_star_5 (fun r_1 hr_1 => ?_)
  have hr_1 : ((0 ≤ u ∧ u < P 0 1) ∧ r_1 = 1) ∨ (¬ (0 ≤ u ∧ u < P 0 1) ∧ r_1 = 0) := hr_1
  rcases hr_1 with ⟨c_2, hr_1⟩ | ⟨c_2, hr_1⟩ <;> subst hr_1
  · skip
    refine k_if_eq (tgt := 15) hx hb dX6_star_8 (by decide) (by omega) (fun c_3 => ?_) (fun c_3 => ?_)
    · exfalso; omega
    · skip
      refine k_iconst hx hb dX6_star_11 ?_
      refine lv_goto (tgt := 16) hx hb dX6_star_12 (by decide) ?_
      exfalso; first | omega | omega
  · skip
    refine k_if_eq (tgt := 15) hx hb dX6_star_8 (by decide) (by omega) (fun c_4 => ?_) (fun c_4 => ?_)
    · skip
      refine k_iconst hx hb dX6_star_15 ?_
      exact k_thS (As := [.int (iI 1)]) (rest := []) ⟨hx, hb, hml, hown, hts⟩ (c_X6_refuse1 l hl9 D) gX6_star_X6_refuse rfl ⟨rfl, rfl⟩ 1 rfl (by decide +kernel) ⟨Nat.le_of_ble_eq_true rfl, Nat.le_of_ble_eq_true rfl⟩ exA_ok hGe (fun k q h => by simp at h) hl.1 rfl (Nat.le_of_ble_eq_true rfl) ⟨Nat.le_of_ble_eq_true rfl, Nat.le_of_ble_eq_true rfl⟩ dX6_star_16 ht hlocks
    · exfalso; omega
set_option maxHeartbeats 4000000 in
set_option maxRecDepth 100000 in
theorem c_X6_star_t2 (l : Launch) (hl9 : l.stackTraces = false) (D : va_G) (cy : Nat → ClassId) (a : Nat → Nat) (P : Nat → Int → Int) (u w : Int) (hI : Inv (mO P)) (h0u : 0 ≤ u) (h1u : u < P 0 1) (hrw : -2147483648 ≤ w ∧ w ≤ 2147483647) (hno : ¬ (0 ≤ w ∧ w ≤ 6)) : vx_Met l yX6_star wsX6_star { frames := 7, cells := 1, slots := 6, locals := 110 } (kPre (GX D cy) D (obplW cy a P) ([.ref (a 100), .int (iI u), .int (iI w)] : List Value)) kNo (XK (exN 1)) 1 6 (fun _ => False) := by
  refine kTH_start (cc := cX6_star) (maxL := 3) (ret := (some .int)) (by decide) rfl (Nat.le_of_ble_eq_true rfl) ?_
  intro p e s m below meth c hx hb hr hlocks hml hts hown ht hG hP ls hl
  have hGe := hG.2
  have hGs := hG.1
  have hJd := hGs.2.1
  have hG := hGs.1
  have hK := hG.1
  have hl : lv_has ls 3 [(0, .ref (a 100)), (1, .int (iI u)), (2, .int (iI w))] := hl
  have hinX6 : ∀ w ∈ u_ws RX6 TX6 8, w ∈ wsX6_star := by decide +kernel
  have hmw0 := hts (.fieldLink RX6 10 "ArcPlate" "plate" "LArcPlate$Plate;") (by decide +kernel)
  have hS0 := po_S hI
  refine lv_aload_n hx hb dX6_star_0 rfl (lv_at hl 0 rfl) ?_
  refine va_get (D := D) (ci := 5) (v := .ref (a 0)) (C := RX6) (T := TX6) (N := 8) hx hb hts hinX6 hown hK hP 0 rfl rfl 0 (by decide) hmw0 (fun _ h9 => h9) rfl dX6_star_1 ?_
  refine lv_iload_n hx hb dX6_star_4 rfl (lv_at hl 1 rfl) ?_
  refine k_roV (As := [.int (iI u)]) (rest := []) ⟨hx, hb, hml, hown, hts⟩ (c_X4_hasStar l D cy a P u hI (show -2147483648 ≤ u ∧ u ≤ 2147483647 by omega)) gX6_star_X4_hasStar rfl ⟨rfl, rfl⟩ 1 rfl (by decide +kernel) ⟨Nat.le_of_ble_eq_true rfl, Nat.le_of_ble_eq_true rfl⟩ (GG_ok D cy) hG (hP.sub (ws' := (plW cy a P)) [1, 2, 3, 4, 5, 6, 7, 8, 9] rfl) (va_recv hK hP (ci := 3) (q0 := 1) rfl rfl) hl.1 rfl (Nat.le_of_ble_eq_true rfl) ⟨Nat.le_of_ble_eq_true rfl, Nat.le_of_ble_eq_true rfl⟩ dX6_star_5 (fun r_1 hr_1 => ?_)
  have hr_1 : ((0 ≤ u ∧ u < P 0 1) ∧ r_1 = 1) ∨ (¬ (0 ≤ u ∧ u < P 0 1) ∧ r_1 = 0) := hr_1
  rcases hr_1 with ⟨c_2, hr_1⟩ | ⟨c_2, hr_1⟩ <;> subst hr_1
  · skip
    refine k_if_eq (tgt := 15) hx hb dX6_star_8 (by decide) (by omega) (fun c_3 => ?_) (fun c_3 => ?_)
    · exfalso; omega
    · skip
      refine k_iconst hx hb dX6_star_11 ?_
      refine lv_goto (tgt := 16) hx hb dX6_star_12 (by decide) ?_
      refine k_rovS (As := [.int (iI 0)]) (rest := []) ⟨hx, hb, hml, hown, hts⟩ (c_X6_refuse l D) gX6_star_X6_refuse rfl ⟨rfl, rfl⟩ 1 rfl (by decide +kernel) ⟨Nat.le_of_ble_eq_true rfl, Nat.le_of_ble_eq_true rfl⟩ kGT_ok trivial (fun k q h => by simp at h) hl.1 rfl (Nat.le_of_ble_eq_true rfl) ⟨Nat.le_of_ble_eq_true rfl, Nat.le_of_ble_eq_true rfl⟩ dX6_star_16 ?_
      refine lv_iload_n hx hb dX6_star_19 rfl (lv_at hl 2 rfl) ?_
      refine k_iconst hx hb dX6_star_20 ?_
      refine k_bipush hx hb dX6_star_21 (by decide +kernel) ?_
      refine k_roS (As := [.int (iI w), .int (iI 0), .int (iI 6)]) (rest := []) ⟨hx, hb, hml, hown, hts⟩ (c_X6_inRange l D w 0 6 (show -2147483648 ≤ w ∧ w ≤ 2147483647 by omega) (show -2147483648 ≤ 0 ∧ 0 ≤ 2147483647 by omega) (show -2147483648 ≤ 6 ∧ 6 ≤ 2147483647 by omega)) gX6_star_X6_inRange rfl ⟨rfl, rfl⟩ 3 rfl (by decide +kernel) ⟨Nat.le_of_ble_eq_true rfl, Nat.le_of_ble_eq_true rfl⟩ kGT_ok trivial (fun k q h => by simp at h) hl.1 rfl (Nat.le_of_ble_eq_true rfl) ⟨Nat.le_of_ble_eq_true rfl, Nat.le_of_ble_eq_true rfl⟩ dX6_star_23 (fun r_4 hr_4 => ?_)
      have hr_4 : ((0 ≤ w ∧ w ≤ 6) ∧ r_4 = 1) ∨ (¬ (0 ≤ w ∧ w ≤ 6) ∧ r_4 = 0) := hr_4
      rcases hr_4 with ⟨c_5, hr_4⟩ | ⟨c_5, hr_4⟩ <;> subst hr_4
      · skip
        refine k_if_eq (tgt := 33) hx hb dX6_star_26 (by decide) (by omega) (fun c_6 => ?_) (fun c_6 => ?_)
        · exfalso; omega
        · skip
          refine k_iconst hx hb dX6_star_29 ?_
          refine lv_goto (tgt := 34) hx hb dX6_star_30 (by decide) ?_
          exfalso; first | omega | omega
      · skip
        refine k_if_eq (tgt := 33) hx hb dX6_star_26 (by decide) (by omega) (fun c_7 => ?_) (fun c_7 => ?_)
        · skip
          refine k_iconst hx hb dX6_star_33 ?_
          exact k_thS (As := [.int (iI 2)]) (rest := []) ⟨hx, hb, hml, hown, hts⟩ (c_X6_refuse2 l hl9 D) gX6_star_X6_refuse rfl ⟨rfl, rfl⟩ 1 rfl (by decide +kernel) ⟨Nat.le_of_ble_eq_true rfl, Nat.le_of_ble_eq_true rfl⟩ exA_ok hGe (fun k q h => by simp at h) hl.1 rfl (Nat.le_of_ble_eq_true rfl) ⟨Nat.le_of_ble_eq_true rfl, Nat.le_of_ble_eq_true rfl⟩ dX6_star_34 ht hlocks
        · exfalso; omega
  · skip
    refine k_if_eq (tgt := 15) hx hb dX6_star_8 (by decide) (by omega) (fun c_8 => ?_) (fun c_8 => ?_)
    · skip
      refine k_iconst hx hb dX6_star_15 ?_
      exfalso; first | omega | omega
    · exfalso; omega
set_option maxHeartbeats 4000000 in
set_option maxRecDepth 100000 in
theorem c_X6_whole (l : Launch) (D : va_G) (cy : Nat → ClassId) (sz : Nat) (a : Nat → Nat) (P : Nat → Int → Int) (w : Int) (hI : Inv (mO P)) (hl0 : P 100 6 = 0 ∨ P 100 6 = 1) (hl1 : P 100 6 = 1 → lkd P) (hw : 0 ≤ w ∧ w ≤ 10) : Met l yX6_whole wsX6_whole { frames := 6, cells := 0, slots := 0, locals := 148 } (mPre (GG D cy) D (oblkW cy a P) sz ([.ref (a 100), .int (iI w)] : List Value)) (kQi D (oblkW cy a P) sz (fun u9 : Nat → Int → Int => oblkW cy a u9) (fun r9 u9 => ∃ (zZ : Nat → Int → Int), (figOK (mO P) zZ (P 0 0) ∧ maOK (mO P) (P 8 8) (zZ 31) (zZ 32) (zZ 33) ∧ zZ 30 3 = (mat (mO P) (P 8 8)).2.2.1 ∧ zZ 30 4 = (mat (mO P) (P 8 8)).2.2.2) ∧ (r9 = whW (mO P) w) ∧ (u9 = (upr (upr (upr (upr (upr (upr (upr (upr (upr (upr (upr (upr (upr (upr (upr (upr P 21 (zZ 21)) 22 (zZ 22)) 23 (zZ 23)) 24 (zZ 24)) 25 (zZ 25)) 26 (zZ 26)) 27 (zZ 27)) 28 (zZ 28)) 30 (zZ 30)) 31 (zZ 31)) 32 (zZ 32)) 33 (zZ 33)) 34 (zZ 34)) 35 (zZ 35)) 36 (zZ 36)) 100 (ups (P 100) 6 1))))) 0 0 (va_A (oblkW cy a P) sz) := by
  refine kM_start (cc := cX6_whole) (maxL := 2) (ret := (some .int)) (by decide) rfl (Nat.le_of_ble_eq_true rfl) ?_
  intro p e s m below meth c hx hb hr hlocks hml hts hown hsz hA hG hP hD hS hin ls hl
  have hK := hG.1
  have hl : lv_has ls 2 [(0, .ref (a 100)), (1, .int (iI w))] := hl
  have hbody : ∀ (H : Heap) (locs : List Loc) (hP : va_P D vwCl (oblkW cy a P) H) (hS : va_S (va_A (oblkW cy a P) sz) s.heap H locs) (ls : Array Slot) (hl : lv_has ls 2 [(0, .ref (a 100)), (1, .int (iI w))]), W p l e { frames := 6, cells := 0, slots := 0, locals := 148 } s m ([.ref (a 100), .int (iI w)] : List Value).toArray below meth c H locs 0 0 (MQ below (kQi D (oblkW cy a P) sz (fun u9 : Nat → Int → Int => oblkW cy a u9) (fun r9 u9 => ∃ (zZ : Nat → Int → Int), (figOK (mO P) zZ (P 0 0) ∧ maOK (mO P) (P 8 8) (zZ 31) (zZ 32) (zZ 33) ∧ zZ 30 3 = (mat (mO P) (P 8 8)).2.2.1 ∧ zZ 30 4 = (mat (mO P) (P 8 8)).2.2.2) ∧ (r9 = whW (mO P) w) ∧ (u9 = (upr (upr (upr (upr (upr (upr (upr (upr (upr (upr (upr (upr (upr (upr (upr (upr P 21 (zZ 21)) 22 (zZ 22)) 23 (zZ 23)) 24 (zZ 24)) 25 (zZ 25)) 26 (zZ 26)) 27 (zZ 27)) 28 (zZ 28)) 30 (zZ 30)) 31 (zZ 31)) 32 (zZ 32)) 33 (zZ 33)) 34 (zZ 34)) 35 (zZ 35)) 36 (zZ 36)) 100 (ups (P 100) 6 1))))) ([.ref (a 100), .int (iI w)] : List Value).toArray s 0 0 (va_A (oblkW cy a P) sz)) (F0 m 0 ls []) := by
    intro H locs hP hS ls hl
    refine lv_iload_n hx hb dX6_whole_0 rfl (lv_at hl 1 rfl) ?_
    refine k_iconst hx hb dX6_whole_1 ?_
    refine k_bipush hx hb dX6_whole_2 (by decide +kernel) ?_
    refine k_roS (As := [.int (iI w), .int (iI 0), .int (iI 10)]) (rest := []) ⟨hx, hb, hml, hown, hts⟩ (c_X6_inRange l D w 0 10 (show -2147483648 ≤ w ∧ w ≤ 2147483647 by omega) (show -2147483648 ≤ 0 ∧ 0 ≤ 2147483647 by omega) (show -2147483648 ≤ 10 ∧ 10 ≤ 2147483647 by omega)) gX6_whole_X6_inRange rfl ⟨rfl, rfl⟩ 3 rfl (by decide +kernel) ⟨Nat.le_of_ble_eq_true rfl, Nat.le_of_ble_eq_true rfl⟩ kGT_ok trivial (fun k q h => by simp at h) hl.1 rfl (Nat.le_of_ble_eq_true rfl) ⟨Nat.le_of_ble_eq_true rfl, Nat.le_of_ble_eq_true rfl⟩ dX6_whole_4 (fun r_1 hr_1 => ?_)
    have hr_1 : ((0 ≤ w ∧ w ≤ 10) ∧ r_1 = 1) ∨ (¬ (0 ≤ w ∧ w ≤ 10) ∧ r_1 = 0) := hr_1
    rcases hr_1 with ⟨c_2, hr_1⟩ | ⟨c_2, hr_1⟩ <;> subst hr_1
    · skip
      refine k_if_eq (tgt := 14) hx hb dX6_whole_7 (by decide) (by omega) (fun c_3 => ?_) (fun c_3 => ?_)
      · exfalso; omega
      · skip
        refine k_iconst hx hb dX6_whole_10 ?_
        refine lv_goto (tgt := 15) hx hb dX6_whole_11 (by decide) ?_
        refine k_rovS (As := [.int (iI 0)]) (rest := []) ⟨hx, hb, hml, hown, hts⟩ (c_X6_refuse l D) gX6_whole_X6_refuse rfl ⟨rfl, rfl⟩ 1 rfl (by decide +kernel) ⟨Nat.le_of_ble_eq_true rfl, Nat.le_of_ble_eq_true rfl⟩ kGT_ok trivial (fun k q h => by simp at h) hl.1 rfl (Nat.le_of_ble_eq_true rfl) ⟨Nat.le_of_ble_eq_true rfl, Nat.le_of_ble_eq_true rfl⟩ dX6_whole_15 ?_
        refine lv_aload_n hx hb dX6_whole_18 rfl (lv_at hl 0 rfl) ?_
        refine k_muv (k_runV (As := []) (rest := []) ⟨hx, hb, hml, hown, hts⟩ (c_X6_look l D cy H.size a P hI (show P 100 6 = 0 ∨ P 100 6 = 1 by omega) (show P 100 6 = 1 → lkd P by omega)) gX6_whole_X6_look rfl ⟨rfl, rfl⟩ 0 rfl (by decide +kernel) ⟨Nat.le_of_ble_eq_true rfl, Nat.le_of_ble_eq_true rfl⟩ (GG_ok D cy) hG hS (k_free hD hS hA) hP hD (va_recv hK hP (ci := 5) (q0 := 0) rfl rfl) hl.1 rfl (Nat.le_of_ble_eq_true rfl) ⟨Nat.le_of_ble_eq_true rfl, Nat.le_of_ble_eq_true rfl⟩ dX6_whole_19) (k_free hD hS hA) hS (fun R_5 H1 locs1 hR_5 hP1 hD1 hS1 hk1 => ?_)
        have hR_5 : ∃ (zZ : Nat → Int → Int), (figOK (mO P) zZ (P 0 0) ∧ maOK (mO P) (P 8 8) (zZ 31) (zZ 32) (zZ 33) ∧ zZ 30 3 = (mat (mO P) (P 8 8)).2.2.1 ∧ zZ 30 4 = (mat (mO P) (P 8 8)).2.2.2) ∧ (R_5 = (upr (upr (upr (upr (upr (upr (upr (upr (upr (upr (upr (upr (upr (upr (upr (upr P 21 (zZ 21)) 22 (zZ 22)) 23 (zZ 23)) 24 (zZ 24)) 25 (zZ 25)) 26 (zZ 26)) 27 (zZ 27)) 28 (zZ 28)) 30 (zZ 30)) 31 (zZ 31)) 32 (zZ 32)) 33 (zZ 33)) 34 (zZ 34)) 35 (zZ 35)) 36 (zZ 36)) 100 (ups (P 100) 6 1))) := hR_5
        obtain ⟨zZ_6, hf_7, hR_5⟩ := hR_5
        have hf_7 : figOK (mO P) zZ_6 (P 0 0) ∧ maOK (mO P) (P 8 8) (zZ_6 31) (zZ_6 32) (zZ_6 33) ∧ zZ_6 30 3 = (mat (mO P) (P 8 8)).2.2.1 ∧ zZ_6 30 4 = (mat (mO P) (P 8 8)).2.2.2 := hf_7
        subst hR_5
        have hDn : va_D (va_A (oblkW cy a P) sz) (oblkW cy a (upr (upr (upr (upr (upr (upr (upr (upr (upr (upr (upr (upr (upr (upr (upr (upr P 21 (zZ_6 21)) 22 (zZ_6 22)) 23 (zZ_6 23)) 24 (zZ_6 24)) 25 (zZ_6 25)) 26 (zZ_6 26)) 27 (zZ_6 27)) 28 (zZ_6 28)) 30 (zZ_6 30)) 31 (zZ_6 31)) 32 (zZ_6 32)) 33 (zZ_6 33)) 34 (zZ_6 34)) 35 (zZ_6 35)) 36 (zZ_6 36)) 100 (ups (P 100) 6 1))) := k_addr hD rfl
        have hPn : va_P D vwCl (oblkW cy a (upr (upr (upr (upr (upr (upr (upr (upr (upr (upr (upr (upr (upr (upr (upr (upr P 21 (zZ_6 21)) 22 (zZ_6 22)) 23 (zZ_6 23)) 24 (zZ_6 24)) 25 (zZ_6 25)) 26 (zZ_6 26)) 27 (zZ_6 27)) 28 (zZ_6 28)) 30 (zZ_6 30)) 31 (zZ_6 31)) 32 (zZ_6 32)) 33 (zZ_6 33)) 34 (zZ_6 34)) 35 (zZ_6 35)) 36 (zZ_6 36)) 100 (ups (P 100) 6 1))) H1 := hP1
        clear hP hD hS hP1 hD1 hk1
        have hP := hPn
        have hD := hDn
        have hS := hS1
        clear hPn hDn hS1
        generalize H1 = H at hP hS ⊢
        generalize locs1 = locs at hS ⊢
        have hfk := hf_7
        refine lv_aload_n hx hb dX6_whole_22 rfl (lv_at hl 0 rfl) ?_
        refine lv_iload_n hx hb dX6_whole_23 rfl (lv_at hl 1 rfl) ?_
        refine k_roV (As := [.int (iI w)]) (rest := []) ⟨hx, hb, hml, hown, hts⟩ (c_X6_wholeValue l D cy a (upr (upr (upr (upr (upr (upr (upr (upr (upr (upr (upr (upr (upr (upr (upr (upr P 21 (zZ_6 21)) 22 (zZ_6 22)) 23 (zZ_6 23)) 24 (zZ_6 24)) 25 (zZ_6 25)) 26 (zZ_6 26)) 27 (zZ_6 27)) 28 (zZ_6 28)) 30 (zZ_6 30)) 31 (zZ_6 31)) 32 (zZ_6 32)) 33 (zZ_6 33)) 34 (zZ_6 34)) 35 (zZ_6 35)) 36 (zZ_6 36)) 100 (ups (P 100) 6 1)) w hI (show lkd (upr (upr (upr (upr (upr (upr (upr (upr (upr (upr (upr (upr (upr (upr (upr (upr P 21 (zZ_6 21)) 22 (zZ_6 22)) 23 (zZ_6 23)) 24 (zZ_6 24)) 25 (zZ_6 25)) 26 (zZ_6 26)) 27 (zZ_6 27)) 28 (zZ_6 28)) 30 (zZ_6 30)) 31 (zZ_6 31)) 32 (zZ_6 32)) 33 (zZ_6 33)) 34 (zZ_6 34)) 35 (zZ_6 35)) 36 (zZ_6 36)) 100 (ups (P 100) 6 1)) from hfk) (show 0 ≤ w ∧ w ≤ 10 by omega)) gX6_whole_X6_wholeValue rfl ⟨rfl, rfl⟩ 1 rfl (by decide +kernel) ⟨Nat.le_of_ble_eq_true rfl, Nat.le_of_ble_eq_true rfl⟩ (GG_ok D cy) ((GG_ok D cy).2.2.2 _ _ _ _ (fun _ h => h.elim) ((GG_ok D cy).1 _ _ _ _ hS.2.1 hG)) hP (va_recv hK hP (ci := 5) (q0 := 0) rfl rfl) hl.1 rfl (Nat.le_of_ble_eq_true rfl) ⟨Nat.le_of_ble_eq_true rfl, Nat.le_of_ble_eq_true rfl⟩ dX6_whole_24 (fun r_8 hr_8 => ?_)
        have hr_8 : r_8 = whW (mO P) w := hr_8
        subst hr_8
        exact W.iret (v := iI (whW (mO P) w)) hx hb hr (fun t9 ht _ => ⟨⟨iI (whW (mO P) w), (upr (upr (upr (upr (upr (upr (upr (upr (upr (upr (upr (upr (upr (upr (upr (upr P 21 (zZ_6 21)) 22 (zZ_6 22)) 23 (zZ_6 23)) 24 (zZ_6 24)) 25 (zZ_6 25)) 26 (zZ_6 26)) 27 (zZ_6 27)) 28 (zZ_6 28)) 30 (zZ_6 30)) 31 (zZ_6 31)) 32 (zZ_6 32)) 33 (zZ_6 33)) 34 (zZ_6 34)) 35 (zZ_6 35)) 36 (zZ_6 36)) 100 (ups (P 100) 6 1)), rfl, ⟨(whW (mO P) w), rfl, (⟨((upr (upr (upr (upr (upr (upr (upr (upr (upr (upr (upr (upr (upr (upr (upr (upr P 21 (zZ_6 21)) 22 (zZ_6 22)) 23 (zZ_6 23)) 24 (zZ_6 24)) 25 (zZ_6 25)) 26 (zZ_6 26)) 27 (zZ_6 27)) 28 (zZ_6 28)) 30 (zZ_6 30)) 31 (zZ_6 31)) 32 (zZ_6 32)) 33 (zZ_6 33)) 34 (zZ_6 34)) 35 (zZ_6 35)) 36 (zZ_6 36)) 100 (ups (P 100) 6 1))), (hfk), (rfl), rfl⟩ : ∃ (zZ : Nat → Int → Int), (figOK (mO P) zZ (P 0 0) ∧ maOK (mO P) (P 8 8) (zZ 31) (zZ 32) (zZ 33) ∧ zZ 30 3 = (mat (mO P) (P 8 8)).2.2.1 ∧ zZ 30 4 = (mat (mO P) (P 8 8)).2.2.2) ∧ ((whW (mO P) w : Int) = whW (mO P) w) ∧ ((upr (upr (upr (upr (upr (upr (upr (upr (upr (upr (upr (upr (upr (upr (upr (upr P 21 (zZ_6 21)) 22 (zZ_6 22)) 23 (zZ_6 23)) 24 (zZ_6 24)) 25 (zZ_6 25)) 26 (zZ_6 26)) 27 (zZ_6 27)) 28 (zZ_6 28)) 30 (zZ_6 30)) 31 (zZ_6 31)) 32 (zZ_6 32)) 33 (zZ_6 33)) 34 (zZ_6 34)) 35 (zZ_6 35)) 36 (zZ_6 36)) 100 (ups (P 100) 6 1)) = (upr (upr (upr (upr (upr (upr (upr (upr (upr (upr (upr (upr (upr (upr (upr (upr P 21 (zZ 21)) 22 (zZ 22)) 23 (zZ 23)) 24 (zZ 24)) 25 (zZ 25)) 26 (zZ 26)) 27 (zZ 27)) 28 (zZ 28)) 30 (zZ 30)) 31 (zZ 31)) 32 (zZ 32)) 33 (zZ 33)) 34 (zZ 34)) 35 (zZ 35)) 36 (zZ 36)) 100 (ups (P 100) 6 1))))⟩, by rw [ht]; exact hP, hD⟩, hS.F ht⟩) hS.2.2 dX6_whole_27 hlocks
    · skip
      refine k_if_eq (tgt := 14) hx hb dX6_whole_7 (by decide) (by omega) (fun c_9 => ?_) (fun c_9 => ?_)
      · skip
        refine k_iconst hx hb dX6_whole_14 ?_
        exfalso; first | omega | omega
      · exfalso; omega
  exact hbody s.heap [] hP hS ls hl
set_option maxHeartbeats 4000000 in
set_option maxRecDepth 100000 in
theorem c_X6_whole_t2 (l : Launch) (hl9 : l.stackTraces = false) (D : va_G) (cy : Nat → ClassId) (a : Nat → Nat) (P : Nat → Int → Int) (w : Int) (hrw : -2147483648 ≤ w ∧ w ≤ 2147483647) (hno : ¬ (0 ≤ w ∧ w ≤ 10)) : vx_Met l yX6_whole wsX6_whole { frames := 7, cells := 1, slots := 6, locals := 110 } (kPre (GX D cy) D (obplW cy a P) ([.ref (a 100), .int (iI w)] : List Value)) kNo (XK (exN 1)) 1 6 (fun _ => False) := by
  refine kTH_start (cc := cX6_whole) (maxL := 2) (ret := (some .int)) (by decide) rfl (Nat.le_of_ble_eq_true rfl) ?_
  intro p e s m below meth c hx hb hr hlocks hml hts hown ht hG hP ls hl
  have hGe := hG.2
  have hGs := hG.1
  have hJd := hGs.2.1
  have hG := hGs.1
  have hK := hG.1
  have hl : lv_has ls 2 [(0, .ref (a 100)), (1, .int (iI w))] := hl
  refine lv_iload_n hx hb dX6_whole_0 rfl (lv_at hl 1 rfl) ?_
  refine k_iconst hx hb dX6_whole_1 ?_
  refine k_bipush hx hb dX6_whole_2 (by decide +kernel) ?_
  refine k_roS (As := [.int (iI w), .int (iI 0), .int (iI 10)]) (rest := []) ⟨hx, hb, hml, hown, hts⟩ (c_X6_inRange l D w 0 10 (show -2147483648 ≤ w ∧ w ≤ 2147483647 by omega) (show -2147483648 ≤ 0 ∧ 0 ≤ 2147483647 by omega) (show -2147483648 ≤ 10 ∧ 10 ≤ 2147483647 by omega)) gX6_whole_X6_inRange rfl ⟨rfl, rfl⟩ 3 rfl (by decide +kernel) ⟨Nat.le_of_ble_eq_true rfl, Nat.le_of_ble_eq_true rfl⟩ kGT_ok trivial (fun k q h => by simp at h) hl.1 rfl (Nat.le_of_ble_eq_true rfl) ⟨Nat.le_of_ble_eq_true rfl, Nat.le_of_ble_eq_true rfl⟩ dX6_whole_4 (fun r_1 hr_1 => ?_)
  have hr_1 : ((0 ≤ w ∧ w ≤ 10) ∧ r_1 = 1) ∨ (¬ (0 ≤ w ∧ w ≤ 10) ∧ r_1 = 0) := hr_1
  rcases hr_1 with ⟨c_2, hr_1⟩ | ⟨c_2, hr_1⟩ <;> subst hr_1
  · skip
    refine k_if_eq (tgt := 14) hx hb dX6_whole_7 (by decide) (by omega) (fun c_3 => ?_) (fun c_3 => ?_)
    · exfalso; omega
    · skip
      refine k_iconst hx hb dX6_whole_10 ?_
      refine lv_goto (tgt := 15) hx hb dX6_whole_11 (by decide) ?_
      exfalso; first | omega | omega
  · skip
    refine k_if_eq (tgt := 14) hx hb dX6_whole_7 (by decide) (by omega) (fun c_4 => ?_) (fun c_4 => ?_)
    · skip
      refine k_iconst hx hb dX6_whole_14 ?_
      exact k_thS (As := [.int (iI 2)]) (rest := []) ⟨hx, hb, hml, hown, hts⟩ (c_X6_refuse2 l hl9 D) gX6_whole_X6_refuse rfl ⟨rfl, rfl⟩ 1 rfl (by decide +kernel) ⟨Nat.le_of_ble_eq_true rfl, Nat.le_of_ble_eq_true rfl⟩ exA_ok hGe (fun k q h => by simp at h) hl.1 rfl (Nat.le_of_ble_eq_true rfl) ⟨Nat.le_of_ble_eq_true rfl, Nat.le_of_ble_eq_true rfl⟩ dX6_whole_15 ht hlocks
    · exfalso; omega
set_option maxHeartbeats 4000000 in
set_option maxRecDepth 100000 in
theorem c_X6_cost (l : Launch) (D : va_G) (cy : Nat → ClassId) (sz : Nat) (a : Nat → Nat) (P : Nat → Int → Int) (t u : Int) (hI : Inv (mO P)) (hl0 : P 100 6 = 0 ∨ P 100 6 = 1) (hl1 : P 100 6 = 1 → lkd P) (h0 : 0 ≤ t) (h1 : t < P 0 0) (hp0 : 0 < P 1 t) (h0u : 0 ≤ u) (h1u : u < P 0 1) : Met l yX6_cost wsX6_cost { frames := 6, cells := 0, slots := 0, locals := 148 } (mPre (GG D cy) D (oblkW cy a P) sz ([.ref (a 100), .int (iI t), .int (iI u)] : List Value)) (kQi D (oblkW cy a P) sz (fun u9 : Nat → Int → Int => oblkW cy a u9) (fun r9 u9 => ∃ (zZ : Nat → Int → Int), (figOK (mO P) zZ (P 0 0) ∧ maOK (mO P) (P 8 8) (zZ 31) (zZ 32) (zZ 33) ∧ zZ 30 3 = (mat (mO P) (P 8 8)).2.2.1 ∧ zZ 30 4 = (mat (mO P) (P 8 8)).2.2.2) ∧ (r9 = cstZ (mO P) (P 8 8) t u) ∧ (u9 = (upr (upr (upr (upr (upr (upr (upr (upr (upr (upr (upr (upr (upr (upr (upr (upr P 21 (zZ 21)) 22 (zZ 22)) 23 (zZ 23)) 24 (zZ 24)) 25 (zZ 25)) 26 (zZ 26)) 27 (zZ 27)) 28 (zZ 28)) 30 (zZ 30)) 31 (zZ 31)) 32 (zZ 32)) 33 (zZ 33)) 34 (zZ 34)) 35 (zZ 35)) 36 (zZ 36)) 100 (ups (P 100) 6 1))))) 0 0 (va_A (oblkW cy a P) sz) := by
  refine kM_start (cc := cX6_cost) (maxL := 3) (ret := (some .int)) (by decide) rfl (Nat.le_of_ble_eq_true rfl) ?_
  intro p e s m below meth c hx hb hr hlocks hml hts hown hsz hA hG hP hD hS hin ls hl
  have hK := hG.1
  have hl : lv_has ls 3 [(0, .ref (a 100)), (1, .int (iI t)), (2, .int (iI u))] := hl
  have hinX4 : ∀ w ∈ u_ws RX4 TX4 12, w ∈ wsX6_cost := by decide +kernel
  have hinX6 : ∀ w ∈ u_ws RX6 TX6 8, w ∈ wsX6_cost := by decide +kernel
  have hmw0 := hts (.fieldLink RX6 10 "ArcPlate" "plate" "LArcPlate$Plate;") (by decide +kernel)
  have hmw1 := hts (.fieldLink RX6 150 "ArcPlate$Plate" "points" "[I") (by decide +kernel)
  have hmw2 := hts (.fieldLink RX6 33 "ArcPlate" "figures" "LArcPlate$Figures;") (by decide +kernel)
  have hmw3 := hts (.fieldLink RX6 143 "ArcPlate$Plate" "settings" "[I") (by decide +kernel)
  have hS0 := po_S hI
  have hset := po_set hI
  have hp := po_pts hI h0 h1
  have hepts := mO_pts P (t := t) h0 (by omega)
  have hbody : ∀ (H : Heap) (locs : List Loc) (hP : va_P D vwCl (oblkW cy a P) H) (hS : va_S (va_A (oblkW cy a P) sz) s.heap H locs) (ls : Array Slot) (hl : lv_has ls 3 [(0, .ref (a 100)), (1, .int (iI t)), (2, .int (iI u))]), W p l e { frames := 6, cells := 0, slots := 0, locals := 148 } s m ([.ref (a 100), .int (iI t), .int (iI u)] : List Value).toArray below meth c H locs 0 0 (MQ below (kQi D (oblkW cy a P) sz (fun u9 : Nat → Int → Int => oblkW cy a u9) (fun r9 u9 => ∃ (zZ : Nat → Int → Int), (figOK (mO P) zZ (P 0 0) ∧ maOK (mO P) (P 8 8) (zZ 31) (zZ 32) (zZ 33) ∧ zZ 30 3 = (mat (mO P) (P 8 8)).2.2.1 ∧ zZ 30 4 = (mat (mO P) (P 8 8)).2.2.2) ∧ (r9 = cstZ (mO P) (P 8 8) t u) ∧ (u9 = (upr (upr (upr (upr (upr (upr (upr (upr (upr (upr (upr (upr (upr (upr (upr (upr P 21 (zZ 21)) 22 (zZ 22)) 23 (zZ 23)) 24 (zZ 24)) 25 (zZ 25)) 26 (zZ 26)) 27 (zZ 27)) 28 (zZ 28)) 30 (zZ 30)) 31 (zZ 31)) 32 (zZ 32)) 33 (zZ 33)) 34 (zZ 34)) 35 (zZ 35)) 36 (zZ 36)) 100 (ups (P 100) 6 1))))) ([.ref (a 100), .int (iI t), .int (iI u)] : List Value).toArray s 0 0 (va_A (oblkW cy a P) sz)) (F0 m 0 ls []) := by
    intro H locs hP hS ls hl
    refine lv_aload_n hx hb dX6_cost_0 rfl (lv_at hl 0 rfl) ?_
    refine va_get (D := D) (ci := 5) (v := .ref (a 0)) (C := RX6) (T := TX6) (N := 8) hx hb hts hinX6 hown hK hP 0 rfl rfl 0 (by decide) hmw0 (fun _ h9 => h9) rfl dX6_cost_1 ?_
    refine lv_iload_n hx hb dX6_cost_4 rfl (lv_at hl 1 rfl) ?_
    refine k_roV (As := [.int (iI t)]) (rest := []) ⟨hx, hb, hml, hown, hts⟩ (c_X4_hasTrail l D cy a P t hI (show -2147483648 ≤ t ∧ t ≤ 2147483647 by omega)) gX6_cost_X4_hasTrail rfl ⟨rfl, rfl⟩ 1 rfl (by decide +kernel) ⟨Nat.le_of_ble_eq_true rfl, Nat.le_of_ble_eq_true rfl⟩ (GG_ok D cy) ((GG_ok D cy).2.2.2 _ _ _ _ (fun _ h => h.elim) ((GG_ok D cy).1 _ _ _ _ hS.2.1 hG)) (hP.sub (ws' := (plW cy a P)) [1, 2, 3, 4, 5, 6, 7, 8, 9] rfl) (va_recv hK hP (ci := 3) (q0 := 1) rfl rfl) hl.1 rfl (Nat.le_of_ble_eq_true rfl) ⟨Nat.le_of_ble_eq_true rfl, Nat.le_of_ble_eq_true rfl⟩ dX6_cost_5 (fun r_1 hr_1 => ?_)
    have hr_1 : ((0 ≤ t ∧ t < P 0 0) ∧ r_1 = 1) ∨ (¬ (0 ≤ t ∧ t < P 0 0) ∧ r_1 = 0) := hr_1
    rcases hr_1 with ⟨c_2, hr_1⟩ | ⟨c_2, hr_1⟩ <;> subst hr_1
    · skip
      refine k_if_eq (tgt := 26) hx hb dX6_cost_8 (by decide) (by omega) (fun c_3 => ?_) (fun c_3 => ?_)
      · exfalso; omega
      · skip
        refine lv_aload_n hx hb dX6_cost_11 rfl (lv_at hl 0 rfl) ?_
        refine va_get (D := D) (ci := 5) (v := .ref (a 0)) (C := RX6) (T := TX6) (N := 8) hx hb hts hinX6 hown hK hP 0 rfl rfl 0 (by decide) hmw0 (fun _ h9 => h9) rfl dX6_cost_12 ?_
        refine lv_iload_n hx hb dX6_cost_15 rfl (lv_at hl 2 rfl) ?_
        refine k_roV (As := [.int (iI u)]) (rest := []) ⟨hx, hb, hml, hown, hts⟩ (c_X4_hasStar l D cy a P u hI (show -2147483648 ≤ u ∧ u ≤ 2147483647 by omega)) gX6_cost_X4_hasStar rfl ⟨rfl, rfl⟩ 1 rfl (by decide +kernel) ⟨Nat.le_of_ble_eq_true rfl, Nat.le_of_ble_eq_true rfl⟩ (GG_ok D cy) ((GG_ok D cy).2.2.2 _ _ _ _ (fun _ h => h.elim) ((GG_ok D cy).1 _ _ _ _ hS.2.1 hG)) (hP.sub (ws' := (plW cy a P)) [1, 2, 3, 4, 5, 6, 7, 8, 9] rfl) (va_recv hK hP (ci := 3) (q0 := 1) rfl rfl) hl.1 rfl (Nat.le_of_ble_eq_true rfl) ⟨Nat.le_of_ble_eq_true rfl, Nat.le_of_ble_eq_true rfl⟩ dX6_cost_16 (fun r_4 hr_4 => ?_)
        have hr_4 : ((0 ≤ u ∧ u < P 0 1) ∧ r_4 = 1) ∨ (¬ (0 ≤ u ∧ u < P 0 1) ∧ r_4 = 0) := hr_4
        rcases hr_4 with ⟨c_5, hr_4⟩ | ⟨c_5, hr_4⟩ <;> subst hr_4
        · skip
          refine k_if_eq (tgt := 26) hx hb dX6_cost_19 (by decide) (by omega) (fun c_6 => ?_) (fun c_6 => ?_)
          · exfalso; omega
          · skip
            refine k_iconst hx hb dX6_cost_22 ?_
            refine lv_goto (tgt := 27) hx hb dX6_cost_23 (by decide) ?_
            refine k_rovS (As := [.int (iI 0)]) (rest := []) ⟨hx, hb, hml, hown, hts⟩ (c_X6_refuse l D) gX6_cost_X6_refuse rfl ⟨rfl, rfl⟩ 1 rfl (by decide +kernel) ⟨Nat.le_of_ble_eq_true rfl, Nat.le_of_ble_eq_true rfl⟩ kGT_ok trivial (fun k q h => by simp at h) hl.1 rfl (Nat.le_of_ble_eq_true rfl) ⟨Nat.le_of_ble_eq_true rfl, Nat.le_of_ble_eq_true rfl⟩ dX6_cost_27 ?_
            refine lv_aload_n hx hb dX6_cost_30 rfl (lv_at hl 0 rfl) ?_
            refine va_get (D := D) (ci := 5) (v := .ref (a 0)) (C := RX6) (T := TX6) (N := 8) hx hb hts hinX6 hown hK hP 0 rfl rfl 0 (by decide) hmw0 (fun _ h9 => h9) rfl dX6_cost_31 ?_
            refine va_get (D := D) (ci := 3) (v := .ref (a 1)) (C := RX4) (T := TX4) (N := 12) hx hb hts hinX4 hown hK hP 1 rfl rfl 4 (by decide) hmw1 (fun _ h9 => h9) rfl dX6_cost_34 ?_
            refine lv_iload_n hx hb dX6_cost_37 rfl (lv_at hl 1 rfl) ?_
            refine k_iald hx hb hK hP 2 0 (f := P 1) rfl rfl (i := t) (by omega) dX6_cost_38 ?_
            refine k_if_ne (tgt := 45) hx hb dX6_cost_39 (by decide) (by omega) (fun c_7 => ?_) (fun c_7 => ?_)
            · skip
              refine lv_aload_n hx hb dX6_cost_45 rfl (lv_at hl 0 rfl) ?_
              refine k_muv (k_runV (As := []) (rest := []) ⟨hx, hb, hml, hown, hts⟩ (c_X6_look l D cy H.size a P hI (show P 100 6 = 0 ∨ P 100 6 = 1 by omega) (show P 100 6 = 1 → lkd P by omega)) gX6_cost_X6_look rfl ⟨rfl, rfl⟩ 0 rfl (by decide +kernel) ⟨Nat.le_of_ble_eq_true rfl, Nat.le_of_ble_eq_true rfl⟩ (GG_ok D cy) hG hS (k_free hD hS hA) hP hD (va_recv hK hP (ci := 5) (q0 := 0) rfl rfl) hl.1 rfl (Nat.le_of_ble_eq_true rfl) ⟨Nat.le_of_ble_eq_true rfl, Nat.le_of_ble_eq_true rfl⟩ dX6_cost_46) (k_free hD hS hA) hS (fun R_9 H1 locs1 hR_9 hP1 hD1 hS1 hk1 => ?_)
              have hR_9 : ∃ (zZ : Nat → Int → Int), (figOK (mO P) zZ (P 0 0) ∧ maOK (mO P) (P 8 8) (zZ 31) (zZ 32) (zZ 33) ∧ zZ 30 3 = (mat (mO P) (P 8 8)).2.2.1 ∧ zZ 30 4 = (mat (mO P) (P 8 8)).2.2.2) ∧ (R_9 = (upr (upr (upr (upr (upr (upr (upr (upr (upr (upr (upr (upr (upr (upr (upr (upr P 21 (zZ 21)) 22 (zZ 22)) 23 (zZ 23)) 24 (zZ 24)) 25 (zZ 25)) 26 (zZ 26)) 27 (zZ 27)) 28 (zZ 28)) 30 (zZ 30)) 31 (zZ 31)) 32 (zZ 32)) 33 (zZ 33)) 34 (zZ 34)) 35 (zZ 35)) 36 (zZ 36)) 100 (ups (P 100) 6 1))) := hR_9
              obtain ⟨zZ_10, hf_11, hR_9⟩ := hR_9
              have hf_11 : figOK (mO P) zZ_10 (P 0 0) ∧ maOK (mO P) (P 8 8) (zZ_10 31) (zZ_10 32) (zZ_10 33) ∧ zZ_10 30 3 = (mat (mO P) (P 8 8)).2.2.1 ∧ zZ_10 30 4 = (mat (mO P) (P 8 8)).2.2.2 := hf_11
              subst hR_9
              have hDn : va_D (va_A (oblkW cy a P) sz) (oblkW cy a (upr (upr (upr (upr (upr (upr (upr (upr (upr (upr (upr (upr (upr (upr (upr (upr P 21 (zZ_10 21)) 22 (zZ_10 22)) 23 (zZ_10 23)) 24 (zZ_10 24)) 25 (zZ_10 25)) 26 (zZ_10 26)) 27 (zZ_10 27)) 28 (zZ_10 28)) 30 (zZ_10 30)) 31 (zZ_10 31)) 32 (zZ_10 32)) 33 (zZ_10 33)) 34 (zZ_10 34)) 35 (zZ_10 35)) 36 (zZ_10 36)) 100 (ups (P 100) 6 1))) := k_addr hD rfl
              have hPn : va_P D vwCl (oblkW cy a (upr (upr (upr (upr (upr (upr (upr (upr (upr (upr (upr (upr (upr (upr (upr (upr P 21 (zZ_10 21)) 22 (zZ_10 22)) 23 (zZ_10 23)) 24 (zZ_10 24)) 25 (zZ_10 25)) 26 (zZ_10 26)) 27 (zZ_10 27)) 28 (zZ_10 28)) 30 (zZ_10 30)) 31 (zZ_10 31)) 32 (zZ_10 32)) 33 (zZ_10 33)) 34 (zZ_10 34)) 35 (zZ_10 35)) 36 (zZ_10 36)) 100 (ups (P 100) 6 1))) H1 := hP1
              clear hP hD hS hP1 hD1 hk1
              have hP := hPn
              have hD := hDn
              have hS := hS1
              clear hPn hDn hS1
              generalize H1 = H at hP hS ⊢
              generalize locs1 = locs at hS ⊢
              have hfk := hf_11
              have hfa9 := (hfk.1 t h0 h1).1 (by omega)
              refine lv_aload_n hx hb dX6_cost_49 rfl (lv_at hl 0 rfl) ?_
              refine va_get (D := D) (ci := 5) (v := .ref (a 0)) (C := RX6) (T := TX6) (N := 8) hx hb hts hinX6 hown hK hP 0 rfl rfl 0 (by decide) hmw0 (fun _ h9 => h9) rfl dX6_cost_50 ?_
              refine lv_aload_n hx hb dX6_cost_53 rfl (lv_at hl 0 rfl) ?_
              refine va_get (D := D) (ci := 5) (v := .ref (a 20)) (C := RX6) (T := TX6) (N := 8) hx hb hts hinX6 hown hK hP 0 rfl rfl 3 (by decide) hmw2 (fun _ h9 => h9) rfl dX6_cost_54 ?_
              refine lv_iload_n hx hb dX6_cost_57 rfl (lv_at hl 1 rfl) ?_
              refine lv_iload_n hx hb dX6_cost_58 rfl (lv_at hl 2 rfl) ?_
              refine lv_aload_n hx hb dX6_cost_59 rfl (lv_at hl 0 rfl) ?_
              refine va_get (D := D) (ci := 5) (v := .ref (a 0)) (C := RX6) (T := TX6) (N := 8) hx hb hts hinX6 hown hK hP 0 rfl rfl 0 (by decide) hmw0 (fun _ h9 => h9) rfl dX6_cost_60 ?_
              refine va_get (D := D) (ci := 3) (v := .ref (a 8)) (C := RX4) (T := TX4) (N := 12) hx hb hts hinX4 hown hK hP 1 rfl rfl 11 (by decide) hmw3 (fun _ h9 => h9) rfl dX6_cost_63 ?_
              refine k_bipush hx hb dX6_cost_66 (by decide +kernel) ?_
              refine k_iald hx hb hK hP 9 0 (f := P 8) rfl rfl (i := 8) (by omega) dX6_cost_68 ?_
              refine k_roS (As := [.ref (a 0), .ref (a 20), .int (iI t), .int (iI u), .int (iI (P 8 8))]) (rest := []) ⟨hx, hb, hml, hown, hts⟩ (c_X3_pairCost l D cy a (upr (upr (upr (upr (upr (upr (upr (upr (upr (upr (upr (upr (upr (upr (upr (upr P 21 (zZ_10 21)) 22 (zZ_10 22)) 23 (zZ_10 23)) 24 (zZ_10 24)) 25 (zZ_10 25)) 26 (zZ_10 26)) 27 (zZ_10 27)) 28 (zZ_10 28)) 30 (zZ_10 30)) 31 (zZ_10 31)) 32 (zZ_10 32)) 33 (zZ_10 33)) 34 (zZ_10 34)) 35 (zZ_10 35)) 36 (zZ_10 36)) 100 (ups (P 100) 6 1)) t u (P 8 8) hI (show 0 ≤ t by omega) (show t < (P 0) 0 by omega) (show 0 < (P 1) t by omega) (show 0 ≤ u by omega) (show u < (P 0) 1 by omega) (show 0 ≤ (P 8 8) ∧ (P 8 8) ≤ 359999 by omega) (show (zZ_10 21) t = rdT (mO P) t from hfa9.1.1) (show (zZ_10 27) t = angOf (mO P) t 0 from hfa9.2.2.2.1)) gX6_cost_X3_pairCost rfl ⟨rfl, rfl⟩ 5 rfl (by decide +kernel) ⟨Nat.le_of_ble_eq_true rfl, Nat.le_of_ble_eq_true rfl⟩ (GG_ok D cy) ((GG_ok D cy).2.2.2 _ _ _ _ (fun _ h => h.elim) ((GG_ok D cy).1 _ _ _ _ hS.2.1 hG)) (hP.sub (ws' := (fgplW cy a (upr (upr (upr (upr (upr (upr (upr (upr (upr (upr (upr (upr (upr (upr (upr (upr P 21 (zZ_10 21)) 22 (zZ_10 22)) 23 (zZ_10 23)) 24 (zZ_10 24)) 25 (zZ_10 25)) 26 (zZ_10 26)) 27 (zZ_10 27)) 28 (zZ_10 28)) 30 (zZ_10 30)) 31 (zZ_10 31)) 32 (zZ_10 32)) 33 (zZ_10 33)) 34 (zZ_10 34)) 35 (zZ_10 35)) 36 (zZ_10 36)) 100 (ups (P 100) 6 1)))) [10, 11, 12, 13, 14, 15, 16, 17, 18, 1, 2, 3, 4, 5, 6, 7, 8, 9] rfl) hl.1 rfl (Nat.le_of_ble_eq_true rfl) ⟨Nat.le_of_ble_eq_true rfl, Nat.le_of_ble_eq_true rfl⟩ dX6_cost_69 (fun r_12 hr_12 => ?_)
              have hr_12 : r_12 = cstZ (mO P) (P 8 8) t u := hr_12
              subst hr_12
              exact W.iret (v := iI (cstZ (mO P) (P 8 8) t u)) hx hb hr (fun t9 ht _ => ⟨⟨iI (cstZ (mO P) (P 8 8) t u), (upr (upr (upr (upr (upr (upr (upr (upr (upr (upr (upr (upr (upr (upr (upr (upr P 21 (zZ_10 21)) 22 (zZ_10 22)) 23 (zZ_10 23)) 24 (zZ_10 24)) 25 (zZ_10 25)) 26 (zZ_10 26)) 27 (zZ_10 27)) 28 (zZ_10 28)) 30 (zZ_10 30)) 31 (zZ_10 31)) 32 (zZ_10 32)) 33 (zZ_10 33)) 34 (zZ_10 34)) 35 (zZ_10 35)) 36 (zZ_10 36)) 100 (ups (P 100) 6 1)), rfl, ⟨(cstZ (mO P) (P 8 8) t u), rfl, (⟨((upr (upr (upr (upr (upr (upr (upr (upr (upr (upr (upr (upr (upr (upr (upr (upr P 21 (zZ_10 21)) 22 (zZ_10 22)) 23 (zZ_10 23)) 24 (zZ_10 24)) 25 (zZ_10 25)) 26 (zZ_10 26)) 27 (zZ_10 27)) 28 (zZ_10 28)) 30 (zZ_10 30)) 31 (zZ_10 31)) 32 (zZ_10 32)) 33 (zZ_10 33)) 34 (zZ_10 34)) 35 (zZ_10 35)) 36 (zZ_10 36)) 100 (ups (P 100) 6 1))), (hfk), (rfl), rfl⟩ : ∃ (zZ : Nat → Int → Int), (figOK (mO P) zZ (P 0 0) ∧ maOK (mO P) (P 8 8) (zZ 31) (zZ 32) (zZ 33) ∧ zZ 30 3 = (mat (mO P) (P 8 8)).2.2.1 ∧ zZ 30 4 = (mat (mO P) (P 8 8)).2.2.2) ∧ ((cstZ (mO P) (P 8 8) t u : Int) = cstZ (mO P) (P 8 8) t u) ∧ ((upr (upr (upr (upr (upr (upr (upr (upr (upr (upr (upr (upr (upr (upr (upr (upr P 21 (zZ_10 21)) 22 (zZ_10 22)) 23 (zZ_10 23)) 24 (zZ_10 24)) 25 (zZ_10 25)) 26 (zZ_10 26)) 27 (zZ_10 27)) 28 (zZ_10 28)) 30 (zZ_10 30)) 31 (zZ_10 31)) 32 (zZ_10 32)) 33 (zZ_10 33)) 34 (zZ_10 34)) 35 (zZ_10 35)) 36 (zZ_10 36)) 100 (ups (P 100) 6 1)) = (upr (upr (upr (upr (upr (upr (upr (upr (upr (upr (upr (upr (upr (upr (upr (upr P 21 (zZ 21)) 22 (zZ 22)) 23 (zZ 23)) 24 (zZ 24)) 25 (zZ 25)) 26 (zZ 26)) 27 (zZ 27)) 28 (zZ 28)) 30 (zZ 30)) 31 (zZ 31)) 32 (zZ 32)) 33 (zZ 33)) 34 (zZ 34)) 35 (zZ 35)) 36 (zZ 36)) 100 (ups (P 100) 6 1))))⟩, by rw [ht]; exact hP, hD⟩, hS.F ht⟩) hS.2.2 dX6_cost_72 hlocks
            · exfalso; omega
        · skip
          refine k_if_eq (tgt := 26) hx hb dX6_cost_19 (by decide) (by omega) (fun c_13 => ?_) (fun c_13 => ?_)
          · skip
            refine k_iconst hx hb dX6_cost_26 ?_
            exfalso; first | omega | omega
          · exfalso; omega
    · skip
      refine k_if_eq (tgt := 26) hx hb dX6_cost_8 (by decide) (by omega) (fun c_14 => ?_) (fun c_14 => ?_)
      · skip
        refine k_iconst hx hb dX6_cost_26 ?_
        exfalso; first | omega | omega
      · exfalso; omega
  exact hbody s.heap [] hP hS ls hl
set_option maxHeartbeats 4000000 in
set_option maxRecDepth 100000 in
theorem c_X6_cost_z (l : Launch) (D : va_G) (cy : Nat → ClassId) (a : Nat → Nat) (P : Nat → Int → Int) (t u : Int) (hI : Inv (mO P)) (h0 : 0 ≤ t) (h1 : t < P 0 0) (h0u : 0 ≤ u) (h1u : u < P 0 1) (hz : P 1 t = 0) : Met l yX6_cost wsX6_cost { frames := 1, cells := 0, slots := 0, locals := 21 } (kPre (GG D cy) D (obplW cy a P) ([.ref (a 100), .int (iI t), .int (iI u)] : List Value)) (kRO (fun r => r = -1000000000)) 0 0 (fun _ => False) := by
  refine kRO_start (cc := cX6_cost) (maxL := 3) (ret := (some .int)) (by decide) rfl (Nat.le_of_ble_eq_true rfl) ?_
  intro p e s m below meth c hx hb hr hlocks hml hts hown hG hP ls hl
  have hK := hG.1
  have hl : lv_has ls 3 [(0, .ref (a 100)), (1, .int (iI t)), (2, .int (iI u))] := hl
  have hinX4 : ∀ w ∈ u_ws RX4 TX4 12, w ∈ wsX6_cost := by decide +kernel
  have hinX6 : ∀ w ∈ u_ws RX6 TX6 8, w ∈ wsX6_cost := by decide +kernel
  have hmw0 := hts (.fieldLink RX6 10 "ArcPlate" "plate" "LArcPlate$Plate;") (by decide +kernel)
  have hmw1 := hts (.fieldLink RX6 150 "ArcPlate$Plate" "points" "[I") (by decide +kernel)
  have hmw2 := hts (.constant RX6 153 (-1000000000)) (by decide +kernel)
  have hS0 := po_S hI
  refine lv_aload_n hx hb dX6_cost_0 rfl (lv_at hl 0 rfl) ?_
  refine va_get (D := D) (ci := 5) (v := .ref (a 0)) (C := RX6) (T := TX6) (N := 8) hx hb hts hinX6 hown hK hP 0 rfl rfl 0 (by decide) hmw0 (fun _ h9 => h9) rfl dX6_cost_1 ?_
  refine lv_iload_n hx hb dX6_cost_4 rfl (lv_at hl 1 rfl) ?_
  refine k_roV (As := [.int (iI t)]) (rest := []) ⟨hx, hb, hml, hown, hts⟩ (c_X4_hasTrail l D cy a P t hI (show -2147483648 ≤ t ∧ t ≤ 2147483647 by omega)) gX6_cost_X4_hasTrail rfl ⟨rfl, rfl⟩ 1 rfl (by decide +kernel) ⟨Nat.le_of_ble_eq_true rfl, Nat.le_of_ble_eq_true rfl⟩ (GG_ok D cy) hG (hP.sub (ws' := (plW cy a P)) [1, 2, 3, 4, 5, 6, 7, 8, 9] rfl) (va_recv hK hP (ci := 3) (q0 := 1) rfl rfl) hl.1 rfl (Nat.le_of_ble_eq_true rfl) ⟨Nat.le_of_ble_eq_true rfl, Nat.le_of_ble_eq_true rfl⟩ dX6_cost_5 (fun r_1 hr_1 => ?_)
  have hr_1 : ((0 ≤ t ∧ t < P 0 0) ∧ r_1 = 1) ∨ (¬ (0 ≤ t ∧ t < P 0 0) ∧ r_1 = 0) := hr_1
  rcases hr_1 with ⟨c_2, hr_1⟩ | ⟨c_2, hr_1⟩ <;> subst hr_1
  · skip
    refine k_if_eq (tgt := 26) hx hb dX6_cost_8 (by decide) (by omega) (fun c_3 => ?_) (fun c_3 => ?_)
    · exfalso; omega
    · skip
      refine lv_aload_n hx hb dX6_cost_11 rfl (lv_at hl 0 rfl) ?_
      refine va_get (D := D) (ci := 5) (v := .ref (a 0)) (C := RX6) (T := TX6) (N := 8) hx hb hts hinX6 hown hK hP 0 rfl rfl 0 (by decide) hmw0 (fun _ h9 => h9) rfl dX6_cost_12 ?_
      refine lv_iload_n hx hb dX6_cost_15 rfl (lv_at hl 2 rfl) ?_
      refine k_roV (As := [.int (iI u)]) (rest := []) ⟨hx, hb, hml, hown, hts⟩ (c_X4_hasStar l D cy a P u hI (show -2147483648 ≤ u ∧ u ≤ 2147483647 by omega)) gX6_cost_X4_hasStar rfl ⟨rfl, rfl⟩ 1 rfl (by decide +kernel) ⟨Nat.le_of_ble_eq_true rfl, Nat.le_of_ble_eq_true rfl⟩ (GG_ok D cy) hG (hP.sub (ws' := (plW cy a P)) [1, 2, 3, 4, 5, 6, 7, 8, 9] rfl) (va_recv hK hP (ci := 3) (q0 := 1) rfl rfl) hl.1 rfl (Nat.le_of_ble_eq_true rfl) ⟨Nat.le_of_ble_eq_true rfl, Nat.le_of_ble_eq_true rfl⟩ dX6_cost_16 (fun r_4 hr_4 => ?_)
      have hr_4 : ((0 ≤ u ∧ u < P 0 1) ∧ r_4 = 1) ∨ (¬ (0 ≤ u ∧ u < P 0 1) ∧ r_4 = 0) := hr_4
      rcases hr_4 with ⟨c_5, hr_4⟩ | ⟨c_5, hr_4⟩ <;> subst hr_4
      · skip
        refine k_if_eq (tgt := 26) hx hb dX6_cost_19 (by decide) (by omega) (fun c_6 => ?_) (fun c_6 => ?_)
        · exfalso; omega
        · skip
          refine k_iconst hx hb dX6_cost_22 ?_
          refine lv_goto (tgt := 27) hx hb dX6_cost_23 (by decide) ?_
          refine k_rovS (As := [.int (iI 0)]) (rest := []) ⟨hx, hb, hml, hown, hts⟩ (c_X6_refuse l D) gX6_cost_X6_refuse rfl ⟨rfl, rfl⟩ 1 rfl (by decide +kernel) ⟨Nat.le_of_ble_eq_true rfl, Nat.le_of_ble_eq_true rfl⟩ kGT_ok trivial (fun k q h => by simp at h) hl.1 rfl (Nat.le_of_ble_eq_true rfl) ⟨Nat.le_of_ble_eq_true rfl, Nat.le_of_ble_eq_true rfl⟩ dX6_cost_27 ?_
          refine lv_aload_n hx hb dX6_cost_30 rfl (lv_at hl 0 rfl) ?_
          refine va_get (D := D) (ci := 5) (v := .ref (a 0)) (C := RX6) (T := TX6) (N := 8) hx hb hts hinX6 hown hK hP 0 rfl rfl 0 (by decide) hmw0 (fun _ h9 => h9) rfl dX6_cost_31 ?_
          refine va_get (D := D) (ci := 3) (v := .ref (a 1)) (C := RX4) (T := TX4) (N := 12) hx hb hts hinX4 hown hK hP 1 rfl rfl 4 (by decide) hmw1 (fun _ h9 => h9) rfl dX6_cost_34 ?_
          refine lv_iload_n hx hb dX6_cost_37 rfl (lv_at hl 1 rfl) ?_
          refine k_iald hx hb hK hP 2 0 (f := P 1) rfl rfl (i := t) (by omega) dX6_cost_38 ?_
          refine k_if_ne (tgt := 45) hx hb dX6_cost_39 (by decide) (by omega) (fun c_7 => ?_) (fun c_7 => ?_)
          · exfalso; omega
          · skip
            refine k_ldc (z := (-1000000000)) hx hb hown hmw2 (by decide +kernel) dX6_cost_42 ?_
            exact W.iret (v := iI (-1000000000)) hx hb hr (fun t9 ht _ => ⟨(-1000000000), rfl, (by first | rfl | omega : ((-1000000000) : Int) = -1000000000), ht⟩) (fun _ h => nomatch h) dX6_cost_44 hlocks
      · skip
        refine k_if_eq (tgt := 26) hx hb dX6_cost_19 (by decide) (by omega) (fun c_8 => ?_) (fun c_8 => ?_)
        · skip
          refine k_iconst hx hb dX6_cost_26 ?_
          exfalso; first | omega | omega
        · exfalso; omega
  · skip
    refine k_if_eq (tgt := 26) hx hb dX6_cost_8 (by decide) (by omega) (fun c_9 => ?_) (fun c_9 => ?_)
    · skip
      refine k_iconst hx hb dX6_cost_26 ?_
      exfalso; first | omega | omega
    · exfalso; omega
set_option maxHeartbeats 4000000 in
set_option maxRecDepth 100000 in
theorem c_X6_cost_t1 (l : Launch) (hl9 : l.stackTraces = false) (D : va_G) (cy : Nat → ClassId) (a : Nat → Nat) (P : Nat → Int → Int) (t u : Int) (hI : Inv (mO P)) (hrt : -2147483648 ≤ t ∧ t ≤ 2147483647) (hru : -2147483648 ≤ u ∧ u ≤ 2147483647) (hno : ¬ ((0 ≤ t ∧ t < P 0 0) ∧ 0 ≤ u ∧ u < P 0 1)) : vx_Met l yX6_cost wsX6_cost { frames := 7, cells := 1, slots := 6, locals := 110 } (kPre (GX D cy) D (obplW cy a P) ([.ref (a 100), .int (iI t), .int (iI u)] : List Value)) kNo (XK (exN 0)) 1 6 (fun _ => False) := by
  refine kTH_start (cc := cX6_cost) (maxL := 3) (ret := (some .int)) (by decide) rfl (Nat.le_of_ble_eq_true rfl) ?_
  intro p e s m below meth c hx hb hr hlocks hml hts hown ht hG hP ls hl
  have hGe := hG.2
  have hGs := hG.1
  have hJd := hGs.2.1
  have hG := hGs.1
  have hK := hG.1
  have hl : lv_has ls 3 [(0, .ref (a 100)), (1, .int (iI t)), (2, .int (iI u))] := hl
  have hinX6 : ∀ w ∈ u_ws RX6 TX6 8, w ∈ wsX6_cost := by decide +kernel
  have hmw0 := hts (.fieldLink RX6 10 "ArcPlate" "plate" "LArcPlate$Plate;") (by decide +kernel)
  have hS0 := po_S hI
  refine lv_aload_n hx hb dX6_cost_0 rfl (lv_at hl 0 rfl) ?_
  refine va_get (D := D) (ci := 5) (v := .ref (a 0)) (C := RX6) (T := TX6) (N := 8) hx hb hts hinX6 hown hK hP 0 rfl rfl 0 (by decide) hmw0 (fun _ h9 => h9) rfl dX6_cost_1 ?_
  refine lv_iload_n hx hb dX6_cost_4 rfl (lv_at hl 1 rfl) ?_
  refine k_roV (As := [.int (iI t)]) (rest := []) ⟨hx, hb, hml, hown, hts⟩ (c_X4_hasTrail l D cy a P t hI (show -2147483648 ≤ t ∧ t ≤ 2147483647 by omega)) gX6_cost_X4_hasTrail rfl ⟨rfl, rfl⟩ 1 rfl (by decide +kernel) ⟨Nat.le_of_ble_eq_true rfl, Nat.le_of_ble_eq_true rfl⟩ (GG_ok D cy) hG (hP.sub (ws' := (plW cy a P)) [1, 2, 3, 4, 5, 6, 7, 8, 9] rfl) (va_recv hK hP (ci := 3) (q0 := 1) rfl rfl) hl.1 rfl (Nat.le_of_ble_eq_true rfl) ⟨Nat.le_of_ble_eq_true rfl, Nat.le_of_ble_eq_true rfl⟩ dX6_cost_5 (fun r_1 hr_1 => ?_)
  have hr_1 : ((0 ≤ t ∧ t < P 0 0) ∧ r_1 = 1) ∨ (¬ (0 ≤ t ∧ t < P 0 0) ∧ r_1 = 0) := hr_1
  rcases hr_1 with ⟨c_2, hr_1⟩ | ⟨c_2, hr_1⟩ <;> subst hr_1
  · skip
    refine k_if_eq (tgt := 26) hx hb dX6_cost_8 (by decide) (by omega) (fun c_3 => ?_) (fun c_3 => ?_)
    · exfalso; omega
    · skip
      refine lv_aload_n hx hb dX6_cost_11 rfl (lv_at hl 0 rfl) ?_
      refine va_get (D := D) (ci := 5) (v := .ref (a 0)) (C := RX6) (T := TX6) (N := 8) hx hb hts hinX6 hown hK hP 0 rfl rfl 0 (by decide) hmw0 (fun _ h9 => h9) rfl dX6_cost_12 ?_
      refine lv_iload_n hx hb dX6_cost_15 rfl (lv_at hl 2 rfl) ?_
      refine k_roV (As := [.int (iI u)]) (rest := []) ⟨hx, hb, hml, hown, hts⟩ (c_X4_hasStar l D cy a P u hI (show -2147483648 ≤ u ∧ u ≤ 2147483647 by omega)) gX6_cost_X4_hasStar rfl ⟨rfl, rfl⟩ 1 rfl (by decide +kernel) ⟨Nat.le_of_ble_eq_true rfl, Nat.le_of_ble_eq_true rfl⟩ (GG_ok D cy) hG (hP.sub (ws' := (plW cy a P)) [1, 2, 3, 4, 5, 6, 7, 8, 9] rfl) (va_recv hK hP (ci := 3) (q0 := 1) rfl rfl) hl.1 rfl (Nat.le_of_ble_eq_true rfl) ⟨Nat.le_of_ble_eq_true rfl, Nat.le_of_ble_eq_true rfl⟩ dX6_cost_16 (fun r_4 hr_4 => ?_)
      have hr_4 : ((0 ≤ u ∧ u < P 0 1) ∧ r_4 = 1) ∨ (¬ (0 ≤ u ∧ u < P 0 1) ∧ r_4 = 0) := hr_4
      rcases hr_4 with ⟨c_5, hr_4⟩ | ⟨c_5, hr_4⟩ <;> subst hr_4
      · skip
        refine k_if_eq (tgt := 26) hx hb dX6_cost_19 (by decide) (by omega) (fun c_6 => ?_) (fun c_6 => ?_)
        · exfalso; omega
        · skip
          refine k_iconst hx hb dX6_cost_22 ?_
          refine lv_goto (tgt := 27) hx hb dX6_cost_23 (by decide) ?_
          exfalso; first | omega | omega
      · skip
        refine k_if_eq (tgt := 26) hx hb dX6_cost_19 (by decide) (by omega) (fun c_7 => ?_) (fun c_7 => ?_)
        · skip
          refine k_iconst hx hb dX6_cost_26 ?_
          exact k_thS (As := [.int (iI 1)]) (rest := []) ⟨hx, hb, hml, hown, hts⟩ (c_X6_refuse1 l hl9 D) gX6_cost_X6_refuse rfl ⟨rfl, rfl⟩ 1 rfl (by decide +kernel) ⟨Nat.le_of_ble_eq_true rfl, Nat.le_of_ble_eq_true rfl⟩ exA_ok hGe (fun k q h => by simp at h) hl.1 rfl (Nat.le_of_ble_eq_true rfl) ⟨Nat.le_of_ble_eq_true rfl, Nat.le_of_ble_eq_true rfl⟩ dX6_cost_27 ht hlocks
        · exfalso; omega
  · skip
    refine k_if_eq (tgt := 26) hx hb dX6_cost_8 (by decide) (by omega) (fun c_8 => ?_) (fun c_8 => ?_)
    · skip
      refine k_iconst hx hb dX6_cost_26 ?_
      exact k_thS (As := [.int (iI 1)]) (rest := []) ⟨hx, hb, hml, hown, hts⟩ (c_X6_refuse1 l hl9 D) gX6_cost_X6_refuse rfl ⟨rfl, rfl⟩ 1 rfl (by decide +kernel) ⟨Nat.le_of_ble_eq_true rfl, Nat.le_of_ble_eq_true rfl⟩ exA_ok hGe (fun k q h => by simp at h) hl.1 rfl (Nat.le_of_ble_eq_true rfl) ⟨Nat.le_of_ble_eq_true rfl, Nat.le_of_ble_eq_true rfl⟩ dX6_cost_27 ht hlocks
    · exfalso; omega
set_option maxHeartbeats 4000000 in
set_option maxRecDepth 100000 in
theorem c_X6_missing (l : Launch) (D : va_G) (cy : Nat → ClassId) (sz : Nat) (a : Nat → Nat) (P : Nat → Int → Int) (i : Int) (hI : Inv (mO P)) (hl0 : P 100 6 = 0 ∨ P 100 6 = 1) (hl1 : P 100 6 = 1 → lkd P) (hi : 0 ≤ i ∧ i ≤ 2147483647) : Met l yX6_missing wsX6_missing { frames := 6, cells := 0, slots := 0, locals := 148 } (mPre (GG D cy) D (oblkW cy a P) sz ([.ref (a 100), .int (iI i)] : List Value)) (kQi D (oblkW cy a P) sz (fun u9 : Nat → Int → Int => oblkW cy a u9) (fun r9 u9 => ∃ (zZ : Nat → Int → Int), (figOK (mO P) zZ (P 0 0) ∧ maOK (mO P) (P 8 8) (zZ 31) (zZ 32) (zZ 33) ∧ zZ 30 3 = (mat (mO P) (P 8 8)).2.2.1 ∧ zZ 30 4 = (mat (mO P) (P 8 8)).2.2.2) ∧ (r9 = misF (mO P) i) ∧ (u9 = (upr (upr (upr (upr (upr (upr (upr (upr (upr (upr (upr (upr (upr (upr (upr (upr P 21 (zZ 21)) 22 (zZ 22)) 23 (zZ 23)) 24 (zZ 24)) 25 (zZ 25)) 26 (zZ 26)) 27 (zZ 27)) 28 (zZ 28)) 30 (zZ 30)) 31 (zZ 31)) 32 (zZ 32)) 33 (zZ 33)) 34 (zZ 34)) 35 (zZ 35)) 36 (zZ 36)) 100 (ups (P 100) 6 1))))) 0 0 (va_A (oblkW cy a P) sz) := by
  refine kM_start (cc := cX6_missing) (maxL := 4) (ret := (some .int)) (by decide) rfl (Nat.le_of_ble_eq_true rfl) ?_
  intro p e s m below meth c hx hb hr hlocks hml hts hown hsz hA hG hP hD hS hin ls hl
  have hK := hG.1
  have hl : lv_has ls 4 [(0, .ref (a 100)), (1, .int (iI i))] := hl
  have hinX4 : ∀ w ∈ u_ws RX4 TX4 12, w ∈ wsX6_missing := by decide +kernel
  have hinX6 : ∀ w ∈ u_ws RX6 TX6 8, w ∈ wsX6_missing := by decide +kernel
  have hmw0 := hts (.fieldLink RX6 10 "ArcPlate" "plate" "LArcPlate$Plate;") (by decide +kernel)
  have hmw1 := hts (.fieldLink RX6 158 "ArcPlate$Plate" "stars" "I") (by decide +kernel)
  have hmw2 := hts (.constant RX6 153 (-1000000000)) (by decide +kernel)
  have hS0 := po_S hI
  have h8e : mO P 8 = P 8 8 := mO_set P (by decide)
  have hbody : ∀ (H : Heap) (locs : List Loc) (hP : va_P D vwCl (oblkW cy a P) H) (hS : va_S (va_A (oblkW cy a P) sz) s.heap H locs) (ls : Array Slot) (hl : lv_has ls 4 [(0, .ref (a 100)), (1, .int (iI i))]), W p l e { frames := 6, cells := 0, slots := 0, locals := 148 } s m ([.ref (a 100), .int (iI i)] : List Value).toArray below meth c H locs 0 0 (MQ below (kQi D (oblkW cy a P) sz (fun u9 : Nat → Int → Int => oblkW cy a u9) (fun r9 u9 => ∃ (zZ : Nat → Int → Int), (figOK (mO P) zZ (P 0 0) ∧ maOK (mO P) (P 8 8) (zZ 31) (zZ 32) (zZ 33) ∧ zZ 30 3 = (mat (mO P) (P 8 8)).2.2.1 ∧ zZ 30 4 = (mat (mO P) (P 8 8)).2.2.2) ∧ (r9 = misF (mO P) i) ∧ (u9 = (upr (upr (upr (upr (upr (upr (upr (upr (upr (upr (upr (upr (upr (upr (upr (upr P 21 (zZ 21)) 22 (zZ 22)) 23 (zZ 23)) 24 (zZ 24)) 25 (zZ 25)) 26 (zZ 26)) 27 (zZ 27)) 28 (zZ 28)) 30 (zZ 30)) 31 (zZ 31)) 32 (zZ 32)) 33 (zZ 33)) 34 (zZ 34)) 35 (zZ 35)) 36 (zZ 36)) 100 (ups (P 100) 6 1))))) ([.ref (a 100), .int (iI i)] : List Value).toArray s 0 0 (va_A (oblkW cy a P) sz)) (F0 m 0 ls []) := by
    intro H locs hP hS ls hl
    refine lv_iload_n hx hb dX6_missing_0 rfl (lv_at hl 1 rfl) ?_
    refine k_if_lt (tgt := 8) hx hb dX6_missing_1 (by decide) (by omega) (fun c_1 => ?_) (fun c_1 => ?_)
    · skip
      refine k_iconst hx hb dX6_missing_8 ?_
      exfalso; first | omega | omega
    · skip
      refine k_iconst hx hb dX6_missing_4 ?_
      refine lv_goto (tgt := 9) hx hb dX6_missing_5 (by decide) ?_
      refine k_rovS (As := [.int (iI 0)]) (rest := []) ⟨hx, hb, hml, hown, hts⟩ (c_X6_refuse l D) gX6_missing_X6_refuse rfl ⟨rfl, rfl⟩ 1 rfl (by decide +kernel) ⟨Nat.le_of_ble_eq_true rfl, Nat.le_of_ble_eq_true rfl⟩ kGT_ok trivial (fun k q h => by simp at h) hl.1 rfl (Nat.le_of_ble_eq_true rfl) ⟨Nat.le_of_ble_eq_true rfl, Nat.le_of_ble_eq_true rfl⟩ dX6_missing_9 ?_
      refine lv_aload_n hx hb dX6_missing_12 rfl (lv_at hl 0 rfl) ?_
      refine k_muv (k_runV (As := []) (rest := []) ⟨hx, hb, hml, hown, hts⟩ (c_X6_look l D cy H.size a P hI (show P 100 6 = 0 ∨ P 100 6 = 1 by omega) (show P 100 6 = 1 → lkd P by omega)) gX6_missing_X6_look rfl ⟨rfl, rfl⟩ 0 rfl (by decide +kernel) ⟨Nat.le_of_ble_eq_true rfl, Nat.le_of_ble_eq_true rfl⟩ (GG_ok D cy) hG hS (k_free hD hS hA) hP hD (va_recv hK hP (ci := 5) (q0 := 0) rfl rfl) hl.1 rfl (Nat.le_of_ble_eq_true rfl) ⟨Nat.le_of_ble_eq_true rfl, Nat.le_of_ble_eq_true rfl⟩ dX6_missing_13) (k_free hD hS hA) hS (fun R_3 H1 locs1 hR_3 hP1 hD1 hS1 hk1 => ?_)
      have hR_3 : ∃ (zZ : Nat → Int → Int), (figOK (mO P) zZ (P 0 0) ∧ maOK (mO P) (P 8 8) (zZ 31) (zZ 32) (zZ 33) ∧ zZ 30 3 = (mat (mO P) (P 8 8)).2.2.1 ∧ zZ 30 4 = (mat (mO P) (P 8 8)).2.2.2) ∧ (R_3 = (upr (upr (upr (upr (upr (upr (upr (upr (upr (upr (upr (upr (upr (upr (upr (upr P 21 (zZ 21)) 22 (zZ 22)) 23 (zZ 23)) 24 (zZ 24)) 25 (zZ 25)) 26 (zZ 26)) 27 (zZ 27)) 28 (zZ 28)) 30 (zZ 30)) 31 (zZ 31)) 32 (zZ 32)) 33 (zZ 33)) 34 (zZ 34)) 35 (zZ 35)) 36 (zZ 36)) 100 (ups (P 100) 6 1))) := hR_3
      obtain ⟨zZ_4, hf_5, hR_3⟩ := hR_3
      have hf_5 : figOK (mO P) zZ_4 (P 0 0) ∧ maOK (mO P) (P 8 8) (zZ_4 31) (zZ_4 32) (zZ_4 33) ∧ zZ_4 30 3 = (mat (mO P) (P 8 8)).2.2.1 ∧ zZ_4 30 4 = (mat (mO P) (P 8 8)).2.2.2 := hf_5
      subst hR_3
      have hDn : va_D (va_A (oblkW cy a P) sz) (oblkW cy a (upr (upr (upr (upr (upr (upr (upr (upr (upr (upr (upr (upr (upr (upr (upr (upr P 21 (zZ_4 21)) 22 (zZ_4 22)) 23 (zZ_4 23)) 24 (zZ_4 24)) 25 (zZ_4 25)) 26 (zZ_4 26)) 27 (zZ_4 27)) 28 (zZ_4 28)) 30 (zZ_4 30)) 31 (zZ_4 31)) 32 (zZ_4 32)) 33 (zZ_4 33)) 34 (zZ_4 34)) 35 (zZ_4 35)) 36 (zZ_4 36)) 100 (ups (P 100) 6 1))) := k_addr hD rfl
      have hPn : va_P D vwCl (oblkW cy a (upr (upr (upr (upr (upr (upr (upr (upr (upr (upr (upr (upr (upr (upr (upr (upr P 21 (zZ_4 21)) 22 (zZ_4 22)) 23 (zZ_4 23)) 24 (zZ_4 24)) 25 (zZ_4 25)) 26 (zZ_4 26)) 27 (zZ_4 27)) 28 (zZ_4 28)) 30 (zZ_4 30)) 31 (zZ_4 31)) 32 (zZ_4 32)) 33 (zZ_4 33)) 34 (zZ_4 34)) 35 (zZ_4 35)) 36 (zZ_4 36)) 100 (ups (P 100) 6 1))) H1 := hP1
      clear hP hD hS hP1 hD1 hk1
      have hP := hPn
      have hD := hDn
      have hS := hS1
      clear hPn hDn hS1
      generalize H1 = H at hP hS ⊢
      generalize locs1 = locs at hS ⊢
      have hfk := hf_5
      refine k_iconst hx hb dX6_missing_16 ?_
      refine lv_istore_n (lv' := [(2, .int (iI 0)), (0, .ref (a 100)), (1, .int (iI i))]) hx hb dX6_missing_17 rfl hl (by decide) rfl (fun ls hl => ?_)
      refine k_iconst hx hb dX6_missing_18 ?_
      refine lv_istore_n (lv' := [(3, .int (iI 0)), (2, .int (iI 0)), (0, .ref (a 100)), (1, .int (iI i))]) hx hb dX6_missing_19 rfl hl (by decide) rfl (fun ls hl => ?_)
      have loop20 : ∀ (n_6 : Nat) (n9 : Int) (u : Int) (hi0 : 0 ≤ u) (hi1 : u ≤ P 0 1) (hi2 : 0 ≤ n9 ∧ n9 ≤ i) (hi3 : msI (missN (mO P) (mat (mO P) (P 8 8)).2.1) (P 0 1 - u).toNat u (i - n9) = misF (mO P) i) (hn : P 0 1 - u < (n_6 : Int)) (ls : Array Slot) (hl : lv_has ls 4 [(3, .int (iI u)), (2, .int (iI n9)), (0, .ref (a 100)), (1, .int (iI i))]), W p l e { frames := 6, cells := 0, slots := 0, locals := 148 } s m ([.ref (a 100), .int (iI i)] : List Value).toArray below meth c H locs 0 0 (MQ below (kQi D (oblkW cy a P) sz (fun u9 : Nat → Int → Int => oblkW cy a u9) (fun r9 u9 => ∃ (zZ : Nat → Int → Int), (figOK (mO P) zZ (P 0 0) ∧ maOK (mO P) (P 8 8) (zZ 31) (zZ 32) (zZ 33) ∧ zZ 30 3 = (mat (mO P) (P 8 8)).2.2.1 ∧ zZ 30 4 = (mat (mO P) (P 8 8)).2.2.2) ∧ (r9 = misF (mO P) i) ∧ (u9 = (upr (upr (upr (upr (upr (upr (upr (upr (upr (upr (upr (upr (upr (upr (upr (upr P 21 (zZ 21)) 22 (zZ 22)) 23 (zZ 23)) 24 (zZ 24)) 25 (zZ 25)) 26 (zZ 26)) 27 (zZ 27)) 28 (zZ 28)) 30 (zZ 30)) 31 (zZ 31)) 32 (zZ 32)) 33 (zZ 33)) 34 (zZ 34)) 35 (zZ 35)) 36 (zZ 36)) 100 (ups (P 100) 6 1))))) ([.ref (a 100), .int (iI i)] : List Value).toArray s 0 0 (va_A (oblkW cy a P) sz)) (F0 m 20 ls []) := by
        intro n_6
        induction n_6 with
        | zero => intro n9 u hi0 hi1 hi2 hi3 hn ls hl; exfalso; omega
        | succ n_6 ih20 =>
          intro n9 u hi0 hi1 hi2 hi3 hn ls hl
          refine lv_iload_n hx hb dX6_missing_20 rfl (lv_at hl 0 rfl) ?_
          refine lv_aload_n hx hb dX6_missing_21 rfl (lv_at hl 2 rfl) ?_
          refine va_get (D := D) (ci := 5) (v := .ref (a 0)) (C := RX6) (T := TX6) (N := 8) hx hb hts hinX6 hown hK hP 0 rfl rfl 0 (by decide) hmw0 (fun _ h9 => h9) rfl dX6_missing_22 ?_
          refine va_get (D := D) (ci := 3) (v := .int (iI (P 0 1))) (C := RX4) (T := TX4) (N := 12) hx hb hts hinX4 hown hK hP 1 rfl rfl 1 (by decide) hmw1 (fun _ h9 => h9) rfl dX6_missing_25 ?_
          refine k_icmp_ge (tgt := 55) hx hb dX6_missing_28 (by decide) (by omega) (by omega) (fun c_7 => ?_) (fun c_7 => ?_)
          · skip
            refine k_ldc (z := (-1000000000)) hx hb hown hmw2 (by decide +kernel) dX6_missing_55 ?_
            exact W.iret (v := iI (-1000000000)) hx hb hr (fun t9 ht _ => ⟨⟨iI (-1000000000), (upr (upr (upr (upr (upr (upr (upr (upr (upr (upr (upr (upr (upr (upr (upr (upr P 21 (zZ_4 21)) 22 (zZ_4 22)) 23 (zZ_4 23)) 24 (zZ_4 24)) 25 (zZ_4 25)) 26 (zZ_4 26)) 27 (zZ_4 27)) 28 (zZ_4 28)) 30 (zZ_4 30)) 31 (zZ_4 31)) 32 (zZ_4 32)) 33 (zZ_4 33)) 34 (zZ_4 34)) 35 (zZ_4 35)) 36 (zZ_4 36)) 100 (ups (P 100) 6 1)), rfl, ⟨(-1000000000), rfl, (⟨((upr (upr (upr (upr (upr (upr (upr (upr (upr (upr (upr (upr (upr (upr (upr (upr P 21 (zZ_4 21)) 22 (zZ_4 22)) 23 (zZ_4 23)) 24 (zZ_4 24)) 25 (zZ_4 25)) 26 (zZ_4 26)) 27 (zZ_4 27)) 28 (zZ_4 28)) 30 (zZ_4 30)) 31 (zZ_4 31)) 32 (zZ_4 32)) 33 (zZ_4 33)) 34 (zZ_4 34)) 35 (zZ_4 35)) 36 (zZ_4 36)) 100 (ups (P 100) 6 1))), (hfk), (by rw [← hi3, msI_0 (by omega)]), rfl⟩ : ∃ (zZ : Nat → Int → Int), (figOK (mO P) zZ (P 0 0) ∧ maOK (mO P) (P 8 8) (zZ 31) (zZ 32) (zZ 33) ∧ zZ 30 3 = (mat (mO P) (P 8 8)).2.2.1 ∧ zZ 30 4 = (mat (mO P) (P 8 8)).2.2.2) ∧ (((-1000000000) : Int) = misF (mO P) i) ∧ ((upr (upr (upr (upr (upr (upr (upr (upr (upr (upr (upr (upr (upr (upr (upr (upr P 21 (zZ_4 21)) 22 (zZ_4 22)) 23 (zZ_4 23)) 24 (zZ_4 24)) 25 (zZ_4 25)) 26 (zZ_4 26)) 27 (zZ_4 27)) 28 (zZ_4 28)) 30 (zZ_4 30)) 31 (zZ_4 31)) 32 (zZ_4 32)) 33 (zZ_4 33)) 34 (zZ_4 34)) 35 (zZ_4 35)) 36 (zZ_4 36)) 100 (ups (P 100) 6 1)) = (upr (upr (upr (upr (upr (upr (upr (upr (upr (upr (upr (upr (upr (upr (upr (upr P 21 (zZ 21)) 22 (zZ 22)) 23 (zZ 23)) 24 (zZ 24)) 25 (zZ 25)) 26 (zZ 26)) 27 (zZ 27)) 28 (zZ 28)) 30 (zZ 30)) 31 (zZ 31)) 32 (zZ 32)) 33 (zZ 33)) 34 (zZ 34)) 35 (zZ 35)) 36 (zZ 36)) 100 (ups (P 100) 6 1))))⟩, by rw [ht]; exact hP, hD⟩, hS.F ht⟩) hS.2.2 dX6_missing_57 hlocks
          · skip
            refine lv_aload_n hx hb dX6_missing_31 rfl (lv_at hl 2 rfl) ?_
            refine lv_iload_n hx hb dX6_missing_32 rfl (lv_at hl 0 rfl) ?_
            refine k_roV (As := [.int (iI u)]) (rest := []) ⟨hx, hb, hml, hown, hts⟩ (c_X6_isMissing l D cy a (upr (upr (upr (upr (upr (upr (upr (upr (upr (upr (upr (upr (upr (upr (upr (upr P 21 (zZ_4 21)) 22 (zZ_4 22)) 23 (zZ_4 23)) 24 (zZ_4 24)) 25 (zZ_4 25)) 26 (zZ_4 26)) 27 (zZ_4 27)) 28 (zZ_4 28)) 30 (zZ_4 30)) 31 (zZ_4 31)) 32 (zZ_4 32)) 33 (zZ_4 33)) 34 (zZ_4 34)) 35 (zZ_4 35)) 36 (zZ_4 36)) 100 (ups (P 100) 6 1)) u hI (show lkd (upr (upr (upr (upr (upr (upr (upr (upr (upr (upr (upr (upr (upr (upr (upr (upr P 21 (zZ_4 21)) 22 (zZ_4 22)) 23 (zZ_4 23)) 24 (zZ_4 24)) 25 (zZ_4 25)) 26 (zZ_4 26)) 27 (zZ_4 27)) 28 (zZ_4 28)) 30 (zZ_4 30)) 31 (zZ_4 31)) 32 (zZ_4 32)) 33 (zZ_4 33)) 34 (zZ_4 34)) 35 (zZ_4 35)) 36 (zZ_4 36)) 100 (ups (P 100) 6 1)) from hfk) (show 0 ≤ u by omega) (show u < (P 0) 1 by omega)) gX6_missing_X6_isMissing rfl ⟨rfl, rfl⟩ 1 rfl (by decide +kernel) ⟨Nat.le_of_ble_eq_true rfl, Nat.le_of_ble_eq_true rfl⟩ (GG_ok D cy) ((GG_ok D cy).2.2.2 _ _ _ _ (fun _ h => h.elim) ((GG_ok D cy).1 _ _ _ _ hS.2.1 hG)) hP (va_recv hK hP (ci := 5) (q0 := 0) rfl rfl) hl.1 rfl (Nat.le_of_ble_eq_true rfl) ⟨Nat.le_of_ble_eq_true rfl, Nat.le_of_ble_eq_true rfl⟩ dX6_missing_33 (fun r_8 hr_8 => ?_)
            have hr_8 : ((missP (mO P) ((zZ_4 32)) u) ∧ r_8 = 1) ∨ (¬ (missP (mO P) ((zZ_4 32)) u) ∧ r_8 = 0) := hr_8
            rcases hr_8 with ⟨c_9, hr_8⟩ | ⟨c_9, hr_8⟩ <;> subst hr_8
            · skip
              have hms1 : missN (mO P) (mat (mO P) (P 8 8)).2.1 u = 1 := (missN_congr (hfk.2.1.1 u hi0 (by omega)).2.symm).trans (missN_1 c_9)
              refine k_if_eq (tgt := 49) hx hb dX6_missing_36 (by decide) (by omega) (fun c_10 => ?_) (fun c_10 => ?_)
              · exfalso; omega
              · skip
                refine lv_iload_n hx hb dX6_missing_39 rfl (lv_at hl 1 rfl) ?_
                refine lv_iload_n hx hb dX6_missing_40 rfl (lv_at hl 3 rfl) ?_
                refine k_icmp_ne (tgt := 46) hx hb dX6_missing_41 (by decide) (by omega) (by omega) (fun c_11 => ?_) (fun c_11 => ?_)
                · skip
                  refine lv_iinc (v := iI (n9 + 1)) (lv' := [(2, .int (iI (n9 + 1))), (3, .int (iI u)), (0, .ref (a 100)), (1, .int (iI i))]) hx hb dX6_missing_46 hl (k := 1) rfl (iI_add _ _) (by decide) rfl (fun ls hl => ?_)
                  refine lv_iinc (v := iI (u + 1)) (lv' := [(3, .int (iI (u + 1))), (2, .int (iI (n9 + 1))), (0, .ref (a 100)), (1, .int (iI i))]) hx hb dX6_missing_49 hl (k := 1) rfl (iI_add _ _) (by decide) rfl (fun ls hl => ?_)
                  refine lv_goto (tgt := 20) hx hb dX6_missing_52 (by decide) ?_
                  exact ih20 (n9 + 1) (u + 1)  (by omega) (by omega) (by omega) (by first | exact (ms_no (by omega) hms0).symm.trans hi3 | (rw [← hi3, ms_yes (by omega) hms1 (by omega)]; congr 1; omega)) (by omega) ls (lv_sub hl [0, 1, 2, 3] rfl)
                · skip
                  refine lv_iload_n hx hb dX6_missing_44 rfl (lv_at hl 0 rfl) ?_
                  exact W.iret (v := iI u) hx hb hr (fun t9 ht _ => ⟨⟨iI u, (upr (upr (upr (upr (upr (upr (upr (upr (upr (upr (upr (upr (upr (upr (upr (upr P 21 (zZ_4 21)) 22 (zZ_4 22)) 23 (zZ_4 23)) 24 (zZ_4 24)) 25 (zZ_4 25)) 26 (zZ_4 26)) 27 (zZ_4 27)) 28 (zZ_4 28)) 30 (zZ_4 30)) 31 (zZ_4 31)) 32 (zZ_4 32)) 33 (zZ_4 33)) 34 (zZ_4 34)) 35 (zZ_4 35)) 36 (zZ_4 36)) 100 (ups (P 100) 6 1)), rfl, ⟨u, rfl, (⟨((upr (upr (upr (upr (upr (upr (upr (upr (upr (upr (upr (upr (upr (upr (upr (upr P 21 (zZ_4 21)) 22 (zZ_4 22)) 23 (zZ_4 23)) 24 (zZ_4 24)) 25 (zZ_4 25)) 26 (zZ_4 26)) 27 (zZ_4 27)) 28 (zZ_4 28)) 30 (zZ_4 30)) 31 (zZ_4 31)) 32 (zZ_4 32)) 33 (zZ_4 33)) 34 (zZ_4 34)) 35 (zZ_4 35)) 36 (zZ_4 36)) 100 (ups (P 100) 6 1))), (hfk), (by rw [← hi3, ms_hit (by omega) hms1 (by omega)]), rfl⟩ : ∃ (zZ : Nat → Int → Int), (figOK (mO P) zZ (P 0 0) ∧ maOK (mO P) (P 8 8) (zZ 31) (zZ 32) (zZ 33) ∧ zZ 30 3 = (mat (mO P) (P 8 8)).2.2.1 ∧ zZ 30 4 = (mat (mO P) (P 8 8)).2.2.2) ∧ ((u : Int) = misF (mO P) i) ∧ ((upr (upr (upr (upr (upr (upr (upr (upr (upr (upr (upr (upr (upr (upr (upr (upr P 21 (zZ_4 21)) 22 (zZ_4 22)) 23 (zZ_4 23)) 24 (zZ_4 24)) 25 (zZ_4 25)) 26 (zZ_4 26)) 27 (zZ_4 27)) 28 (zZ_4 28)) 30 (zZ_4 30)) 31 (zZ_4 31)) 32 (zZ_4 32)) 33 (zZ_4 33)) 34 (zZ_4 34)) 35 (zZ_4 35)) 36 (zZ_4 36)) 100 (ups (P 100) 6 1)) = (upr (upr (upr (upr (upr (upr (upr (upr (upr (upr (upr (upr (upr (upr (upr (upr P 21 (zZ 21)) 22 (zZ 22)) 23 (zZ 23)) 24 (zZ 24)) 25 (zZ 25)) 26 (zZ 26)) 27 (zZ 27)) 28 (zZ 28)) 30 (zZ 30)) 31 (zZ 31)) 32 (zZ 32)) 33 (zZ 33)) 34 (zZ 34)) 35 (zZ 35)) 36 (zZ 36)) 100 (ups (P 100) 6 1))))⟩, by rw [ht]; exact hP, hD⟩, hS.F ht⟩) hS.2.2 dX6_missing_45 hlocks
            · skip
              have hms0 : missN (mO P) (mat (mO P) (P 8 8)).2.1 u = 0 := (missN_congr (hfk.2.1.1 u hi0 (by omega)).2.symm).trans (missN_0 c_9)
              refine k_if_eq (tgt := 49) hx hb dX6_missing_36 (by decide) (by omega) (fun c_12 => ?_) (fun c_12 => ?_)
              · skip
                refine lv_iinc (v := iI (u + 1)) (lv' := [(3, .int (iI (u + 1))), (2, .int (iI n9)), (0, .ref (a 100)), (1, .int (iI i))]) hx hb dX6_missing_49 hl (k := 0) rfl (iI_add _ _) (by decide) rfl (fun ls hl => ?_)
                refine lv_goto (tgt := 20) hx hb dX6_missing_52 (by decide) ?_
                exact ih20 n9 (u + 1)  (by omega) (by omega) (by omega) (by first | exact (ms_no (by omega) hms0).symm.trans hi3 | (rw [← hi3, ms_yes (by omega) hms1 (by omega)]; congr 1; omega)) (by omega) ls (lv_sub hl [0, 1, 2, 3] rfl)
              · exfalso; omega
      exact loop20 ((P 0 1 - 0 : Int) + 1).toNat 0 0  (by omega) (by omega) (by omega) (by unfold misF; rw [mO_13, h8e, Int.sub_zero, Int.sub_zero]) (by omega) ls (lv_sub hl [0, 1, 2, 3] rfl)
  exact hbody s.heap [] hP hS ls hl
set_option maxHeartbeats 4000000 in
set_option maxRecDepth 100000 in
theorem c_X6_missing_t2 (l : Launch) (hl9 : l.stackTraces = false) (D : va_G) (cy : Nat → ClassId) (a : Nat → Nat) (P : Nat → Int → Int) (i : Int) (hri : -2147483648 ≤ i ∧ i ≤ 2147483647) (hno : i < 0) : vx_Met l yX6_missing wsX6_missing { frames := 7, cells := 1, slots := 6, locals := 110 } (kPre (GX D cy) D (obplW cy a P) ([.ref (a 100), .int (iI i)] : List Value)) kNo (XK (exN 1)) 1 6 (fun _ => False) := by
  refine kTH_start (cc := cX6_missing) (maxL := 4) (ret := (some .int)) (by decide) rfl (Nat.le_of_ble_eq_true rfl) ?_
  intro p e s m below meth c hx hb hr hlocks hml hts hown ht hG hP ls hl
  have hGe := hG.2
  have hGs := hG.1
  have hJd := hGs.2.1
  have hG := hGs.1
  have hK := hG.1
  have hl : lv_has ls 4 [(0, .ref (a 100)), (1, .int (iI i))] := hl
  refine lv_iload_n hx hb dX6_missing_0 rfl (lv_at hl 1 rfl) ?_
  refine k_if_lt (tgt := 8) hx hb dX6_missing_1 (by decide) (by omega) (fun c_1 => ?_) (fun c_1 => ?_)
  · skip
    refine k_iconst hx hb dX6_missing_8 ?_
    exact k_thS (As := [.int (iI 2)]) (rest := []) ⟨hx, hb, hml, hown, hts⟩ (c_X6_refuse2 l hl9 D) gX6_missing_X6_refuse rfl ⟨rfl, rfl⟩ 1 rfl (by decide +kernel) ⟨Nat.le_of_ble_eq_true rfl, Nat.le_of_ble_eq_true rfl⟩ exA_ok hGe (fun k q h => by simp at h) hl.1 rfl (Nat.le_of_ble_eq_true rfl) ⟨Nat.le_of_ble_eq_true rfl, Nat.le_of_ble_eq_true rfl⟩ dX6_missing_9 ht hlocks
  · skip
    refine k_iconst hx hb dX6_missing_4 ?_
    refine lv_goto (tgt := 9) hx hb dX6_missing_5 (by decide) ?_
    exfalso; first | omega | omega
set_option maxHeartbeats 4000000 in
set_option maxRecDepth 100000 in
theorem c_X6_meanRate (l : Launch) (D : va_G) (cy : Nat → ClassId) (sz : Nat) (a : Nat → Nat) (P : Nat → Int → Int)  (hI : Inv (mO P)) (hl0 : P 100 6 = 0 ∨ P 100 6 = 1) (hl1 : P 100 6 = 1 → lkd P) : Met l yX6_meanRate wsX6_meanRate { frames := 6, cells := 0, slots := 0, locals := 148 } (mPre (GG D cy) D (oblkW cy a P) sz ([.ref (a 100)] : List Value)) (kQi D (oblkW cy a P) sz (fun u9 : Nat → Int → Int => oblkW cy a u9) (fun r9 u9 => ∃ (zZ : Nat → Int → Int), (figOK (mO P) zZ (P 0 0) ∧ maOK (mO P) (P 8 8) (zZ 31) (zZ 32) (zZ 33) ∧ zZ 30 3 = (mat (mO P) (P 8 8)).2.2.1 ∧ zZ 30 4 = (mat (mO P) (P 8 8)).2.2.2) ∧ (r9 = mrt (mO P)) ∧ (u9 = (upr (upr (upr (upr (upr (upr (upr (upr (upr (upr (upr (upr (upr (upr (upr (upr P 21 (zZ 21)) 22 (zZ 22)) 23 (zZ 23)) 24 (zZ 24)) 25 (zZ 25)) 26 (zZ 26)) 27 (zZ 27)) 28 (zZ 28)) 30 (zZ 30)) 31 (zZ 31)) 32 (zZ 32)) 33 (zZ 33)) 34 (zZ 34)) 35 (zZ 35)) 36 (zZ 36)) 100 (ups (P 100) 6 1))))) 0 0 (va_A (oblkW cy a P) sz) := by
  refine kM_start (cc := cX6_meanRate) (maxL := 4) (ret := (some .int)) (by decide) rfl (Nat.le_of_ble_eq_true rfl) ?_
  intro p e s m below meth c hx hb hr hlocks hml hts hown hsz hA hG hP hD hS hin ls hl
  have hK := hG.1
  have hl : lv_has ls 4 [(0, .ref (a 100))] := hl
  have hinX1 : ∀ w ∈ u_ws RX1 TX1 8, w ∈ wsX6_meanRate := by decide +kernel
  have hinX4 : ∀ w ∈ u_ws RX4 TX4 12, w ∈ wsX6_meanRate := by decide +kernel
  have hinX6 : ∀ w ∈ u_ws RX6 TX6 8, w ∈ wsX6_meanRate := by decide +kernel
  have hmw0 := hts (.fieldLink RX6 10 "ArcPlate" "plate" "LArcPlate$Plate;") (by decide +kernel)
  have hmw1 := hts (.fieldLink RX6 167 "ArcPlate$Plate" "trails" "I") (by decide +kernel)
  have hmw2 := hts (.constant RX6 153 (-1000000000)) (by decide +kernel)
  have hmw3 := hts (.fieldLink RX6 33 "ArcPlate" "figures" "LArcPlate$Figures;") (by decide +kernel)
  have hmw4 := hts (.fieldLink RX6 170 "ArcPlate$Figures" "good" "[Z") (by decide +kernel)
  have hmw5 := hts (.fieldLink RX6 174 "ArcPlate$Figures" "sweep" "[I") (by decide +kernel)
  have hS0 := po_S hI
  have hbody : ∀ (H : Heap) (locs : List Loc) (hP : va_P D vwCl (oblkW cy a P) H) (hS : va_S (va_A (oblkW cy a P) sz) s.heap H locs) (ls : Array Slot) (hl : lv_has ls 4 [(0, .ref (a 100))]), W p l e { frames := 6, cells := 0, slots := 0, locals := 148 } s m ([.ref (a 100)] : List Value).toArray below meth c H locs 0 0 (MQ below (kQi D (oblkW cy a P) sz (fun u9 : Nat → Int → Int => oblkW cy a u9) (fun r9 u9 => ∃ (zZ : Nat → Int → Int), (figOK (mO P) zZ (P 0 0) ∧ maOK (mO P) (P 8 8) (zZ 31) (zZ 32) (zZ 33) ∧ zZ 30 3 = (mat (mO P) (P 8 8)).2.2.1 ∧ zZ 30 4 = (mat (mO P) (P 8 8)).2.2.2) ∧ (r9 = mrt (mO P)) ∧ (u9 = (upr (upr (upr (upr (upr (upr (upr (upr (upr (upr (upr (upr (upr (upr (upr (upr P 21 (zZ 21)) 22 (zZ 22)) 23 (zZ 23)) 24 (zZ 24)) 25 (zZ 25)) 26 (zZ 26)) 27 (zZ 27)) 28 (zZ 28)) 30 (zZ 30)) 31 (zZ 31)) 32 (zZ 32)) 33 (zZ 33)) 34 (zZ 34)) 35 (zZ 35)) 36 (zZ 36)) 100 (ups (P 100) 6 1))))) ([.ref (a 100)] : List Value).toArray s 0 0 (va_A (oblkW cy a P) sz)) (F0 m 0 ls []) := by
    intro H locs hP hS ls hl
    refine lv_aload_n hx hb dX6_meanRate_0 rfl (lv_at hl 0 rfl) ?_
    refine k_muv (k_runV (As := []) (rest := []) ⟨hx, hb, hml, hown, hts⟩ (c_X6_look l D cy H.size a P hI (show P 100 6 = 0 ∨ P 100 6 = 1 by omega) (show P 100 6 = 1 → lkd P by omega)) gX6_meanRate_X6_look rfl ⟨rfl, rfl⟩ 0 rfl (by decide +kernel) ⟨Nat.le_of_ble_eq_true rfl, Nat.le_of_ble_eq_true rfl⟩ (GG_ok D cy) hG hS (k_free hD hS hA) hP hD (va_recv hK hP (ci := 5) (q0 := 0) rfl rfl) hl.1 rfl (Nat.le_of_ble_eq_true rfl) ⟨Nat.le_of_ble_eq_true rfl, Nat.le_of_ble_eq_true rfl⟩ dX6_meanRate_1) (k_free hD hS hA) hS (fun R_2 H1 locs1 hR_2 hP1 hD1 hS1 hk1 => ?_)
    have hR_2 : ∃ (zZ : Nat → Int → Int), (figOK (mO P) zZ (P 0 0) ∧ maOK (mO P) (P 8 8) (zZ 31) (zZ 32) (zZ 33) ∧ zZ 30 3 = (mat (mO P) (P 8 8)).2.2.1 ∧ zZ 30 4 = (mat (mO P) (P 8 8)).2.2.2) ∧ (R_2 = (upr (upr (upr (upr (upr (upr (upr (upr (upr (upr (upr (upr (upr (upr (upr (upr P 21 (zZ 21)) 22 (zZ 22)) 23 (zZ 23)) 24 (zZ 24)) 25 (zZ 25)) 26 (zZ 26)) 27 (zZ 27)) 28 (zZ 28)) 30 (zZ 30)) 31 (zZ 31)) 32 (zZ 32)) 33 (zZ 33)) 34 (zZ 34)) 35 (zZ 35)) 36 (zZ 36)) 100 (ups (P 100) 6 1))) := hR_2
    obtain ⟨zZ_3, hf_4, hR_2⟩ := hR_2
    have hf_4 : figOK (mO P) zZ_3 (P 0 0) ∧ maOK (mO P) (P 8 8) (zZ_3 31) (zZ_3 32) (zZ_3 33) ∧ zZ_3 30 3 = (mat (mO P) (P 8 8)).2.2.1 ∧ zZ_3 30 4 = (mat (mO P) (P 8 8)).2.2.2 := hf_4
    subst hR_2
    have hDn : va_D (va_A (oblkW cy a P) sz) (oblkW cy a (upr (upr (upr (upr (upr (upr (upr (upr (upr (upr (upr (upr (upr (upr (upr (upr P 21 (zZ_3 21)) 22 (zZ_3 22)) 23 (zZ_3 23)) 24 (zZ_3 24)) 25 (zZ_3 25)) 26 (zZ_3 26)) 27 (zZ_3 27)) 28 (zZ_3 28)) 30 (zZ_3 30)) 31 (zZ_3 31)) 32 (zZ_3 32)) 33 (zZ_3 33)) 34 (zZ_3 34)) 35 (zZ_3 35)) 36 (zZ_3 36)) 100 (ups (P 100) 6 1))) := k_addr hD rfl
    have hPn : va_P D vwCl (oblkW cy a (upr (upr (upr (upr (upr (upr (upr (upr (upr (upr (upr (upr (upr (upr (upr (upr P 21 (zZ_3 21)) 22 (zZ_3 22)) 23 (zZ_3 23)) 24 (zZ_3 24)) 25 (zZ_3 25)) 26 (zZ_3 26)) 27 (zZ_3 27)) 28 (zZ_3 28)) 30 (zZ_3 30)) 31 (zZ_3 31)) 32 (zZ_3 32)) 33 (zZ_3 33)) 34 (zZ_3 34)) 35 (zZ_3 35)) 36 (zZ_3 36)) 100 (ups (P 100) 6 1))) H1 := hP1
    clear hP hD hS hP1 hD1 hk1
    have hP := hPn
    have hD := hDn
    have hS := hS1
    clear hPn hDn hS1
    generalize H1 = H at hP hS ⊢
    generalize locs1 = locs at hS ⊢
    have hfk := hf_4
    refine k_iconst hx hb dX6_meanRate_4 ?_
    refine lv_istore_n (lv' := [(1, .int (iI 0)), (0, .ref (a 100))]) hx hb dX6_meanRate_5 rfl hl (by decide) rfl (fun ls hl => ?_)
    refine k_iconst hx hb dX6_meanRate_6 ?_
    refine lv_istore_n (lv' := [(2, .int (iI 0)), (1, .int (iI 0)), (0, .ref (a 100))]) hx hb dX6_meanRate_7 rfl hl (by decide) rfl (fun ls hl => ?_)
    refine k_iconst hx hb dX6_meanRate_8 ?_
    refine lv_istore_n (lv' := [(3, .int (iI 0)), (2, .int (iI 0)), (1, .int (iI 0)), (0, .ref (a 100))]) hx hb dX6_meanRate_9 rfl hl (by decide) rfl (fun ls hl => ?_)
    have loop10 : ∀ (n_5 : Nat) (t : Int) (x2 : Int) (x1 : Int) (hi0 : 0 ≤ t) (hi1 : t ≤ P 0 0) (hex2 : x2 = mrB (mO P) t) (hex1 : x1 = mrS (mO P) t) (hn : P 0 0 - t < (n_5 : Int)) (ls : Array Slot) (hl : lv_has ls 4 [(3, .int (iI t)), (2, .int (iI x2)), (1, .int (iI x1)), (0, .ref (a 100))]), W p l e { frames := 6, cells := 0, slots := 0, locals := 148 } s m ([.ref (a 100)] : List Value).toArray below meth c H locs 0 0 (MQ below (kQi D (oblkW cy a P) sz (fun u9 : Nat → Int → Int => oblkW cy a u9) (fun r9 u9 => ∃ (zZ : Nat → Int → Int), (figOK (mO P) zZ (P 0 0) ∧ maOK (mO P) (P 8 8) (zZ 31) (zZ 32) (zZ 33) ∧ zZ 30 3 = (mat (mO P) (P 8 8)).2.2.1 ∧ zZ 30 4 = (mat (mO P) (P 8 8)).2.2.2) ∧ (r9 = mrt (mO P)) ∧ (u9 = (upr (upr (upr (upr (upr (upr (upr (upr (upr (upr (upr (upr (upr (upr (upr (upr P 21 (zZ 21)) 22 (zZ 22)) 23 (zZ 23)) 24 (zZ 24)) 25 (zZ 25)) 26 (zZ 26)) 27 (zZ 27)) 28 (zZ 28)) 30 (zZ 30)) 31 (zZ 31)) 32 (zZ 32)) 33 (zZ 33)) 34 (zZ 34)) 35 (zZ 35)) 36 (zZ 36)) 100 (ups (P 100) 6 1))))) ([.ref (a 100)] : List Value).toArray s 0 0 (va_A (oblkW cy a P) sz)) (F0 m 10 ls []) := by
      intro n_5
      induction n_5 with
      | zero => intro t x2 x1 hi0 hi1 hex2 hex1 hn ls hl; exfalso; omega
      | succ n_5 ih10 =>
        intro t x2 x1 hi0 hi1 hex2 hex1 hn ls hl
        subst hex2
        subst hex1
        have hmb := mr_bd hI hi0 (show t ≤ mO P 12 by rw [mO_12]; exact hi1)
        refine lv_iload_n hx hb dX6_meanRate_10 rfl (lv_at hl 0 rfl) ?_
        refine lv_aload_n hx hb dX6_meanRate_11 rfl (lv_at hl 3 rfl) ?_
        refine va_get (D := D) (ci := 5) (v := .ref (a 0)) (C := RX6) (T := TX6) (N := 8) hx hb hts hinX6 hown hK hP 0 rfl rfl 0 (by decide) hmw0 (fun _ h9 => h9) rfl dX6_meanRate_12 ?_
        refine va_get (D := D) (ci := 3) (v := .int (iI (P 0 0))) (C := RX4) (T := TX4) (N := 12) hx hb hts hinX4 hown hK hP 1 rfl rfl 0 (by decide) hmw1 (fun _ h9 => h9) rfl dX6_meanRate_15 ?_
        refine k_icmp_ge (tgt := 62) hx hb dX6_meanRate_18 (by decide) (by omega) (by omega) (fun c_6 => ?_) (fun c_6 => ?_)
        · skip
          have e9 : t = mO P 12 := by rw [mO_12]; omega
          refine lv_iload_n hx hb dX6_meanRate_62 rfl (lv_at hl 1 rfl) ?_
          refine k_if_le (tgt := 74) hx hb dX6_meanRate_63 (by decide) (by omega) (fun c_7 => ?_) (fun c_7 => ?_)
          · skip
            refine k_ldc (z := (-1000000000)) hx hb hown hmw2 (by decide +kernel) dX6_meanRate_74 ?_
            exact W.iret (v := iI (-1000000000)) hx hb hr (fun t9 ht _ => ⟨⟨iI (-1000000000), (upr (upr (upr (upr (upr (upr (upr (upr (upr (upr (upr (upr (upr (upr (upr (upr P 21 (zZ_3 21)) 22 (zZ_3 22)) 23 (zZ_3 23)) 24 (zZ_3 24)) 25 (zZ_3 25)) 26 (zZ_3 26)) 27 (zZ_3 27)) 28 (zZ_3 28)) 30 (zZ_3 30)) 31 (zZ_3 31)) 32 (zZ_3 32)) 33 (zZ_3 33)) 34 (zZ_3 34)) 35 (zZ_3 35)) 36 (zZ_3 36)) 100 (ups (P 100) 6 1)), rfl, ⟨(-1000000000), rfl, (⟨((upr (upr (upr (upr (upr (upr (upr (upr (upr (upr (upr (upr (upr (upr (upr (upr P 21 (zZ_3 21)) 22 (zZ_3 22)) 23 (zZ_3 23)) 24 (zZ_3 24)) 25 (zZ_3 25)) 26 (zZ_3 26)) 27 (zZ_3 27)) 28 (zZ_3 28)) 30 (zZ_3 30)) 31 (zZ_3 31)) 32 (zZ_3 32)) 33 (zZ_3 33)) 34 (zZ_3 34)) 35 (zZ_3 35)) 36 (zZ_3 36)) 100 (ups (P 100) 6 1))), (hfk), (by unfold mrt; rw [← e9]; first | (rw [if_neg (by omega)]; done) | (rw [if_pos (by omega)]; done)), rfl⟩ : ∃ (zZ : Nat → Int → Int), (figOK (mO P) zZ (P 0 0) ∧ maOK (mO P) (P 8 8) (zZ 31) (zZ 32) (zZ 33) ∧ zZ 30 3 = (mat (mO P) (P 8 8)).2.2.1 ∧ zZ 30 4 = (mat (mO P) (P 8 8)).2.2.2) ∧ (((-1000000000) : Int) = mrt (mO P)) ∧ ((upr (upr (upr (upr (upr (upr (upr (upr (upr (upr (upr (upr (upr (upr (upr (upr P 21 (zZ_3 21)) 22 (zZ_3 22)) 23 (zZ_3 23)) 24 (zZ_3 24)) 25 (zZ_3 25)) 26 (zZ_3 26)) 27 (zZ_3 27)) 28 (zZ_3 28)) 30 (zZ_3 30)) 31 (zZ_3 31)) 32 (zZ_3 32)) 33 (zZ_3 33)) 34 (zZ_3 34)) 35 (zZ_3 35)) 36 (zZ_3 36)) 100 (ups (P 100) 6 1)) = (upr (upr (upr (upr (upr (upr (upr (upr (upr (upr (upr (upr (upr (upr (upr (upr P 21 (zZ 21)) 22 (zZ 22)) 23 (zZ 23)) 24 (zZ 24)) 25 (zZ 25)) 26 (zZ 26)) 27 (zZ 27)) 28 (zZ 28)) 30 (zZ 30)) 31 (zZ 31)) 32 (zZ 32)) 33 (zZ 33)) 34 (zZ 34)) 35 (zZ 35)) 36 (zZ 36)) 100 (ups (P 100) 6 1))))⟩, by rw [ht]; exact hP, hD⟩, hS.F ht⟩) hS.2.2 dX6_meanRate_76 hlocks
          · skip
            refine lv_iload_n hx hb dX6_meanRate_66 rfl (lv_at hl 2 rfl) ?_
            refine lv_iload_n hx hb dX6_meanRate_67 rfl (lv_at hl 1 rfl) ?_
            refine k_roS (As := [.int (iI (mrS (mO P) t)), .int (iI (mrB (mO P) t))]) (rest := []) ⟨hx, hb, hml, hown, hts⟩ (c_J9_floorDiv_7cf53 l D (mrS (mO P) t) (mrB (mO P) t) (show -2147483648 ≤ (mrS (mO P) t) ∧ (mrS (mO P) t) ≤ 2147483647 by omega) (show 0 < (mrB (mO P) t) ∧ (mrB (mO P) t) ≤ 2147483647 by omega)) gX6_meanRate_J9_floorDiv_7cf53 rfl ⟨rfl, rfl⟩ 2 rfl (by decide +kernel) ⟨Nat.le_of_ble_eq_true rfl, Nat.le_of_ble_eq_true rfl⟩ kGT_ok trivial (fun k q h => by simp at h) hl.1 rfl (Nat.le_of_ble_eq_true rfl) ⟨Nat.le_of_ble_eq_true rfl, Nat.le_of_ble_eq_true rfl⟩ dX6_meanRate_68 (fun r_8 hr_8 => ?_)
            have hr_8 : r_8 = (mrS (mO P) t) / (mrB (mO P) t) := hr_8
            subst hr_8
            refine lv_goto (tgt := 76) hx hb dX6_meanRate_71 (by decide) ?_
            exact W.iret (v := iI ((mrS (mO P) t) / (mrB (mO P) t))) hx hb hr (fun t9 ht _ => ⟨⟨iI ((mrS (mO P) t) / (mrB (mO P) t)), (upr (upr (upr (upr (upr (upr (upr (upr (upr (upr (upr (upr (upr (upr (upr (upr P 21 (zZ_3 21)) 22 (zZ_3 22)) 23 (zZ_3 23)) 24 (zZ_3 24)) 25 (zZ_3 25)) 26 (zZ_3 26)) 27 (zZ_3 27)) 28 (zZ_3 28)) 30 (zZ_3 30)) 31 (zZ_3 31)) 32 (zZ_3 32)) 33 (zZ_3 33)) 34 (zZ_3 34)) 35 (zZ_3 35)) 36 (zZ_3 36)) 100 (ups (P 100) 6 1)), rfl, ⟨((mrS (mO P) t) / (mrB (mO P) t)), rfl, (⟨((upr (upr (upr (upr (upr (upr (upr (upr (upr (upr (upr (upr (upr (upr (upr (upr P 21 (zZ_3 21)) 22 (zZ_3 22)) 23 (zZ_3 23)) 24 (zZ_3 24)) 25 (zZ_3 25)) 26 (zZ_3 26)) 27 (zZ_3 27)) 28 (zZ_3 28)) 30 (zZ_3 30)) 31 (zZ_3 31)) 32 (zZ_3 32)) 33 (zZ_3 33)) 34 (zZ_3 34)) 35 (zZ_3 35)) 36 (zZ_3 36)) 100 (ups (P 100) 6 1))), (hfk), (by unfold mrt; rw [← e9]; first | (rw [if_neg (by omega)]; done) | (rw [if_pos (by omega)]; done)), rfl⟩ : ∃ (zZ : Nat → Int → Int), (figOK (mO P) zZ (P 0 0) ∧ maOK (mO P) (P 8 8) (zZ 31) (zZ 32) (zZ 33) ∧ zZ 30 3 = (mat (mO P) (P 8 8)).2.2.1 ∧ zZ 30 4 = (mat (mO P) (P 8 8)).2.2.2) ∧ (((mrS (mO P) t) / (mrB (mO P) t) : Int) = mrt (mO P)) ∧ ((upr (upr (upr (upr (upr (upr (upr (upr (upr (upr (upr (upr (upr (upr (upr (upr P 21 (zZ_3 21)) 22 (zZ_3 22)) 23 (zZ_3 23)) 24 (zZ_3 24)) 25 (zZ_3 25)) 26 (zZ_3 26)) 27 (zZ_3 27)) 28 (zZ_3 28)) 30 (zZ_3 30)) 31 (zZ_3 31)) 32 (zZ_3 32)) 33 (zZ_3 33)) 34 (zZ_3 34)) 35 (zZ_3 35)) 36 (zZ_3 36)) 100 (ups (P 100) 6 1)) = (upr (upr (upr (upr (upr (upr (upr (upr (upr (upr (upr (upr (upr (upr (upr (upr P 21 (zZ 21)) 22 (zZ 22)) 23 (zZ 23)) 24 (zZ 24)) 25 (zZ 25)) 26 (zZ 26)) 27 (zZ 27)) 28 (zZ 28)) 30 (zZ 30)) 31 (zZ 31)) 32 (zZ 32)) 33 (zZ 33)) 34 (zZ 34)) 35 (zZ 35)) 36 (zZ 36)) 100 (ups (P 100) 6 1))))⟩, by rw [ht]; exact hP, hD⟩, hS.F ht⟩) hS.2.2 dX6_meanRate_76 hlocks
        · skip
          have hp := po_pts hI hi0 (show t < P 0 0 by omega)
          have hepts := mO_pts P (t := t) hi0 (by omega)
          have hfa := hfk.1 t hi0 (by omega)
          have hgd := (fig_good hfa (by omega)).1
          have hg1 : goodN (mO P) t = 0 ∨ goodN (mO P) t = 1 := by unfold goodN; split <;> omega
          refine lv_aload_n hx hb dX6_meanRate_21 rfl (lv_at hl 3 rfl) ?_
          refine va_get (D := D) (ci := 5) (v := .ref (a 20)) (C := RX6) (T := TX6) (N := 8) hx hb hts hinX6 hown hK hP 0 rfl rfl 3 (by decide) hmw3 (fun _ h9 => h9) rfl dX6_meanRate_22 ?_
          refine va_get (D := D) (ci := 0) (v := .ref (a 28)) (C := RX1) (T := TX1) (N := 8) hx hb hts hinX1 hown hK hP 10 rfl rfl 7 (by decide) hmw4 (fun _ h9 => h9) rfl dX6_meanRate_25 ?_
          refine lv_iload_n hx hb dX6_meanRate_28 rfl (lv_at hl 0 rfl) ?_
          refine k_zald hx hb hK hP 18 2 (f := zZ_3 28) rfl rfl (i := t) (by omega) dX6_meanRate_29 ?_
          refine k_if_eq (tgt := 56) hx hb dX6_meanRate_30 (by decide) (by omega) (fun c_9 => ?_) (fun c_9 => ?_)
          · skip
            have hng : ¬ isGoodP (mO P) t := goodN_q (by omega)
            refine lv_iinc (v := iI (t + 1)) (lv' := [(3, .int (iI (t + 1))), (2, .int (iI (mrB (mO P) t))), (1, .int (iI (mrS (mO P) t))), (0, .ref (a 100))]) hx hb dX6_meanRate_56 hl (k := 0) rfl (iI_add _ _) (by decide) rfl (fun ls hl => ?_)
            refine lv_goto (tgt := 10) hx hb dX6_meanRate_59 (by decide) ?_
            exact ih10 (t + 1) (mrB (mO P) t) (mrS (mO P) t) (by omega) (by omega) (by unfold mrB; rw [sumZ_s _ hi0]; (try dsimp only); first | rw [if_pos hgp] | (rw [if_neg hng]; omega)) (by unfold mrS; rw [sumZ_s _ hi0]; (try dsimp only); first | rw [if_pos hgp] | (rw [if_neg hng]; omega)) (by omega) ls (lv_sub hl [0, 1, 2, 3] rfl)
          · skip
            have hgp : isGoodP (mO P) t := goodN_p (by omega)
            have hpp : 0 < P 1 t := by have h9 := hgp.1; omega
            have hsw := (hfa.1 (by omega)).1.2.2.1
            refine lv_iload_n hx hb dX6_meanRate_33 rfl (lv_at hl 2 rfl) ?_
            refine lv_aload_n hx hb dX6_meanRate_34 rfl (lv_at hl 3 rfl) ?_
            refine va_get (D := D) (ci := 5) (v := .ref (a 20)) (C := RX6) (T := TX6) (N := 8) hx hb hts hinX6 hown hK hP 0 rfl rfl 3 (by decide) hmw3 (fun _ h9 => h9) rfl dX6_meanRate_35 ?_
            refine va_get (D := D) (ci := 0) (v := .ref (a 23)) (C := RX1) (T := TX1) (N := 8) hx hb hts hinX1 hown hK hP 10 rfl rfl 2 (by decide) hmw5 (fun _ h9 => h9) rfl dX6_meanRate_38 ?_
            refine lv_iload_n hx hb dX6_meanRate_41 rfl (lv_at hl 0 rfl) ?_
            refine k_iald hx hb hK hP 13 0 (f := zZ_3 23) rfl rfl (i := t) (by omega) dX6_meanRate_42 ?_
            refine k_eqI (v := zZ_3 23 t) (w := swp (mO P) t) (hsw) ?_
            refine k_iadd hx hb dX6_meanRate_43 ?_
            refine lv_istore_n (lv' := [(1, .int (iI ((mrS (mO P) t) + (swp (mO P) t)))), (3, .int (iI t)), (2, .int (iI (mrB (mO P) t))), (0, .ref (a 100))]) hx hb dX6_meanRate_44 rfl hl (by decide) rfl (fun ls hl => ?_)
            refine lv_iload_n hx hb dX6_meanRate_45 rfl (lv_at hl 2 rfl) ?_
            refine lv_aload_n hx hb dX6_meanRate_46 rfl (lv_at hl 3 rfl) ?_
            refine va_get (D := D) (ci := 5) (v := .ref (a 0)) (C := RX6) (T := TX6) (N := 8) hx hb hts hinX6 hown hK hP 0 rfl rfl 0 (by decide) hmw0 (fun _ h9 => h9) rfl dX6_meanRate_47 ?_
            refine lv_iload_n hx hb dX6_meanRate_50 rfl (lv_at hl 1 rfl) ?_
            refine k_roV (As := [.int (iI t)]) (rest := [.int (iI (mrB (mO P) t))]) ⟨hx, hb, hml, hown, hts⟩ (c_X4_frameSpan l D cy a (upr (upr (upr (upr (upr (upr (upr (upr (upr (upr (upr (upr (upr (upr (upr (upr P 21 (zZ_3 21)) 22 (zZ_3 22)) 23 (zZ_3 23)) 24 (zZ_3 24)) 25 (zZ_3 25)) 26 (zZ_3 26)) 27 (zZ_3 27)) 28 (zZ_3 28)) 30 (zZ_3 30)) 31 (zZ_3 31)) 32 (zZ_3 32)) 33 (zZ_3 33)) 34 (zZ_3 34)) 35 (zZ_3 35)) 36 (zZ_3 36)) 100 (ups (P 100) 6 1)) t hI (show 0 ≤ t by omega) (show t < (P 0) 0 by omega) (show 0 < (P 1) t by omega)) gX6_meanRate_X4_frameSpan rfl ⟨rfl, rfl⟩ 1 rfl (by decide +kernel) ⟨Nat.le_of_ble_eq_true rfl, Nat.le_of_ble_eq_true rfl⟩ (GG_ok D cy) ((GG_ok D cy).2.2.2 _ _ _ _ (fun _ h => h.elim) ((GG_ok D cy).1 _ _ _ _ hS.2.1 hG)) (hP.sub (ws' := (plW cy a (upr (upr (upr (upr (upr (upr (upr (upr (upr (upr (upr (upr (upr (upr (upr (upr P 21 (zZ_3 21)) 22 (zZ_3 22)) 23 (zZ_3 23)) 24 (zZ_3 24)) 25 (zZ_3 25)) 26 (zZ_3 26)) 27 (zZ_3 27)) 28 (zZ_3 28)) 30 (zZ_3 30)) 31 (zZ_3 31)) 32 (zZ_3 32)) 33 (zZ_3 33)) 34 (zZ_3 34)) 35 (zZ_3 35)) 36 (zZ_3 36)) 100 (ups (P 100) 6 1)))) [1, 2, 3, 4, 5, 6, 7, 8, 9] rfl) (va_recv hK hP (ci := 3) (q0 := 1) rfl rfl) hl.1 rfl (Nat.le_of_ble_eq_true rfl) ⟨Nat.le_of_ble_eq_true rfl, Nat.le_of_ble_eq_true rfl⟩ dX6_meanRate_51 (fun r_10 hr_10 => ?_)
            have hr_10 : r_10 = fspan (mO P) t := hr_10
            subst hr_10
            refine k_iadd hx hb dX6_meanRate_54 ?_
            refine lv_istore_n (lv' := [(2, .int (iI ((mrB (mO P) t) + (fspan (mO P) t)))), (1, .int (iI ((mrS (mO P) t) + (swp (mO P) t)))), (3, .int (iI t)), (0, .ref (a 100))]) hx hb dX6_meanRate_55 rfl hl (by decide) rfl (fun ls hl => ?_)
            refine lv_iinc (v := iI (t + 1)) (lv' := [(3, .int (iI (t + 1))), (2, .int (iI ((mrB (mO P) t) + (fspan (mO P) t)))), (1, .int (iI ((mrS (mO P) t) + (swp (mO P) t)))), (0, .ref (a 100))]) hx hb dX6_meanRate_56 hl (k := 2) rfl (iI_add _ _) (by decide) rfl (fun ls hl => ?_)
            refine lv_goto (tgt := 10) hx hb dX6_meanRate_59 (by decide) ?_
            exact ih10 (t + 1) ((mrB (mO P) t) + (fspan (mO P) t)) ((mrS (mO P) t) + (swp (mO P) t)) (by omega) (by omega) (by unfold mrB; rw [sumZ_s _ hi0]; (try dsimp only); first | rw [if_pos hgp] | (rw [if_neg hng]; omega)) (by unfold mrS; rw [sumZ_s _ hi0]; (try dsimp only); first | rw [if_pos hgp] | (rw [if_neg hng]; omega)) (by omega) ls (lv_sub hl [0, 1, 2, 3] rfl)
    exact loop10 ((P 0 0 - 0 : Int) + 1).toNat 0 0 0 (by omega) (by omega) (rfl) (rfl) (by omega) ls (lv_sub hl [0, 1, 2, 3] rfl)
  exact hbody s.heap [] hP hS ls hl
set_option maxHeartbeats 4000000 in
set_option maxRecDepth 100000 in
theorem c_X6_meanScale (l : Launch) (D : va_G) (cy : Nat → ClassId) (sz : Nat) (a : Nat → Nat) (P : Nat → Int → Int)  (hI : Inv (mO P)) (hl0 : P 100 6 = 0 ∨ P 100 6 = 1) (hl1 : P 100 6 = 1 → lkd P) : Met l yX6_meanScale wsX6_meanScale { frames := 6, cells := 0, slots := 0, locals := 148 } (mPre (GG D cy) D (oblkW cy a P) sz ([.ref (a 100)] : List Value)) (kQi D (oblkW cy a P) sz (fun u9 : Nat → Int → Int => oblkW cy a u9) (fun r9 u9 => ∃ (zZ : Nat → Int → Int), (figOK (mO P) zZ (P 0 0) ∧ maOK (mO P) (P 8 8) (zZ 31) (zZ 32) (zZ 33) ∧ zZ 30 3 = (mat (mO P) (P 8 8)).2.2.1 ∧ zZ 30 4 = (mat (mO P) (P 8 8)).2.2.2) ∧ (r9 = msc (mO P)) ∧ (u9 = (upr (upr (upr (upr (upr (upr (upr (upr (upr (upr (upr (upr (upr (upr (upr (upr P 21 (zZ 21)) 22 (zZ 22)) 23 (zZ 23)) 24 (zZ 24)) 25 (zZ 25)) 26 (zZ 26)) 27 (zZ 27)) 28 (zZ 28)) 30 (zZ 30)) 31 (zZ 31)) 32 (zZ 32)) 33 (zZ 33)) 34 (zZ 34)) 35 (zZ 35)) 36 (zZ 36)) 100 (ups (P 100) 6 1))))) 0 0 (va_A (oblkW cy a P) sz) := by
  refine kM_start (cc := cX6_meanScale) (maxL := 5) (ret := (some .int)) (by decide) rfl (Nat.le_of_ble_eq_true rfl) ?_
  intro p e s m below meth c hx hb hr hlocks hml hts hown hsz hA hG hP hD hS hin ls hl
  have hK := hG.1
  have hl : lv_has ls 5 [(0, .ref (a 100))] := hl
  have hinX1 : ∀ w ∈ u_ws RX1 TX1 8, w ∈ wsX6_meanScale := by decide +kernel
  have hinX3 : ∀ w ∈ u_ws RX3 TX3 9, w ∈ wsX6_meanScale := by decide +kernel
  have hinX4 : ∀ w ∈ u_ws RX4 TX4 12, w ∈ wsX6_meanScale := by decide +kernel
  have hinX6 : ∀ w ∈ u_ws RX6 TX6 8, w ∈ wsX6_meanScale := by decide +kernel
  have hmw0 := hts (.fieldLink RX6 10 "ArcPlate" "plate" "LArcPlate$Plate;") (by decide +kernel)
  have hmw1 := hts (.fieldLink RX6 158 "ArcPlate$Plate" "stars" "I") (by decide +kernel)
  have hmw2 := hts (.constant RX6 153 (-1000000000)) (by decide +kernel)
  have hmw3 := hts (.fieldLink RX6 40 "ArcPlate" "matching" "LArcPlate$Matching;") (by decide +kernel)
  have hmw4 := hts (.fieldLink RX6 185 "ArcPlate$Matching" "trailOf" "[I") (by decide +kernel)
  have hmw5 := hts (.fieldLink RX6 33 "ArcPlate" "figures" "LArcPlate$Figures;") (by decide +kernel)
  have hmw6 := hts (.fieldLink RX6 188 "ArcPlate$Figures" "radius" "[I") (by decide +kernel)
  have hmw7 := hts (.fieldLink RX6 191 "ArcPlate$Plate" "radii" "[I") (by decide +kernel)
  have hS0 := po_S hI
  have h8e : mO P 8 = P 8 8 := mO_set P (by decide)
  have hW := mat_ok (P 8 8) hI
  have hsc := sc_C hI
  rw [h8e, mO_13] at hsc
  have hbody : ∀ (H : Heap) (locs : List Loc) (hP : va_P D vwCl (oblkW cy a P) H) (hS : va_S (va_A (oblkW cy a P) sz) s.heap H locs) (ls : Array Slot) (hl : lv_has ls 5 [(0, .ref (a 100))]), W p l e { frames := 6, cells := 0, slots := 0, locals := 148 } s m ([.ref (a 100)] : List Value).toArray below meth c H locs 0 0 (MQ below (kQi D (oblkW cy a P) sz (fun u9 : Nat → Int → Int => oblkW cy a u9) (fun r9 u9 => ∃ (zZ : Nat → Int → Int), (figOK (mO P) zZ (P 0 0) ∧ maOK (mO P) (P 8 8) (zZ 31) (zZ 32) (zZ 33) ∧ zZ 30 3 = (mat (mO P) (P 8 8)).2.2.1 ∧ zZ 30 4 = (mat (mO P) (P 8 8)).2.2.2) ∧ (r9 = msc (mO P)) ∧ (u9 = (upr (upr (upr (upr (upr (upr (upr (upr (upr (upr (upr (upr (upr (upr (upr (upr P 21 (zZ 21)) 22 (zZ 22)) 23 (zZ 23)) 24 (zZ 24)) 25 (zZ 25)) 26 (zZ 26)) 27 (zZ 27)) 28 (zZ 28)) 30 (zZ 30)) 31 (zZ 31)) 32 (zZ 32)) 33 (zZ 33)) 34 (zZ 34)) 35 (zZ 35)) 36 (zZ 36)) 100 (ups (P 100) 6 1))))) ([.ref (a 100)] : List Value).toArray s 0 0 (va_A (oblkW cy a P) sz)) (F0 m 0 ls []) := by
    intro H locs hP hS ls hl
    refine lv_aload_n hx hb dX6_meanScale_0 rfl (lv_at hl 0 rfl) ?_
    refine k_muv (k_runV (As := []) (rest := []) ⟨hx, hb, hml, hown, hts⟩ (c_X6_look l D cy H.size a P hI (show P 100 6 = 0 ∨ P 100 6 = 1 by omega) (show P 100 6 = 1 → lkd P by omega)) gX6_meanScale_X6_look rfl ⟨rfl, rfl⟩ 0 rfl (by decide +kernel) ⟨Nat.le_of_ble_eq_true rfl, Nat.le_of_ble_eq_true rfl⟩ (GG_ok D cy) hG hS (k_free hD hS hA) hP hD (va_recv hK hP (ci := 5) (q0 := 0) rfl rfl) hl.1 rfl (Nat.le_of_ble_eq_true rfl) ⟨Nat.le_of_ble_eq_true rfl, Nat.le_of_ble_eq_true rfl⟩ dX6_meanScale_1) (k_free hD hS hA) hS (fun R_2 H1 locs1 hR_2 hP1 hD1 hS1 hk1 => ?_)
    have hR_2 : ∃ (zZ : Nat → Int → Int), (figOK (mO P) zZ (P 0 0) ∧ maOK (mO P) (P 8 8) (zZ 31) (zZ 32) (zZ 33) ∧ zZ 30 3 = (mat (mO P) (P 8 8)).2.2.1 ∧ zZ 30 4 = (mat (mO P) (P 8 8)).2.2.2) ∧ (R_2 = (upr (upr (upr (upr (upr (upr (upr (upr (upr (upr (upr (upr (upr (upr (upr (upr P 21 (zZ 21)) 22 (zZ 22)) 23 (zZ 23)) 24 (zZ 24)) 25 (zZ 25)) 26 (zZ 26)) 27 (zZ 27)) 28 (zZ 28)) 30 (zZ 30)) 31 (zZ 31)) 32 (zZ 32)) 33 (zZ 33)) 34 (zZ 34)) 35 (zZ 35)) 36 (zZ 36)) 100 (ups (P 100) 6 1))) := hR_2
    obtain ⟨zZ_3, hf_4, hR_2⟩ := hR_2
    have hf_4 : figOK (mO P) zZ_3 (P 0 0) ∧ maOK (mO P) (P 8 8) (zZ_3 31) (zZ_3 32) (zZ_3 33) ∧ zZ_3 30 3 = (mat (mO P) (P 8 8)).2.2.1 ∧ zZ_3 30 4 = (mat (mO P) (P 8 8)).2.2.2 := hf_4
    subst hR_2
    have hDn : va_D (va_A (oblkW cy a P) sz) (oblkW cy a (upr (upr (upr (upr (upr (upr (upr (upr (upr (upr (upr (upr (upr (upr (upr (upr P 21 (zZ_3 21)) 22 (zZ_3 22)) 23 (zZ_3 23)) 24 (zZ_3 24)) 25 (zZ_3 25)) 26 (zZ_3 26)) 27 (zZ_3 27)) 28 (zZ_3 28)) 30 (zZ_3 30)) 31 (zZ_3 31)) 32 (zZ_3 32)) 33 (zZ_3 33)) 34 (zZ_3 34)) 35 (zZ_3 35)) 36 (zZ_3 36)) 100 (ups (P 100) 6 1))) := k_addr hD rfl
    have hPn : va_P D vwCl (oblkW cy a (upr (upr (upr (upr (upr (upr (upr (upr (upr (upr (upr (upr (upr (upr (upr (upr P 21 (zZ_3 21)) 22 (zZ_3 22)) 23 (zZ_3 23)) 24 (zZ_3 24)) 25 (zZ_3 25)) 26 (zZ_3 26)) 27 (zZ_3 27)) 28 (zZ_3 28)) 30 (zZ_3 30)) 31 (zZ_3 31)) 32 (zZ_3 32)) 33 (zZ_3 33)) 34 (zZ_3 34)) 35 (zZ_3 35)) 36 (zZ_3 36)) 100 (ups (P 100) 6 1))) H1 := hP1
    clear hP hD hS hP1 hD1 hk1
    have hP := hPn
    have hD := hDn
    have hS := hS1
    clear hPn hDn hS1
    generalize H1 = H at hP hS ⊢
    generalize locs1 = locs at hS ⊢
    have hfk := hf_4
    refine k_iconst hx hb dX6_meanScale_4 ?_
    refine lv_istore_n (lv' := [(1, .int (iI 0)), (0, .ref (a 100))]) hx hb dX6_meanScale_5 rfl hl (by decide) rfl (fun ls hl => ?_)
    refine k_iconst hx hb dX6_meanScale_6 ?_
    refine lv_istore_n (lv' := [(2, .int (iI 0)), (1, .int (iI 0)), (0, .ref (a 100))]) hx hb dX6_meanScale_7 rfl hl (by decide) rfl (fun ls hl => ?_)
    refine k_iconst hx hb dX6_meanScale_8 ?_
    refine lv_istore_n (lv' := [(3, .int (iI 0)), (2, .int (iI 0)), (1, .int (iI 0)), (0, .ref (a 100))]) hx hb dX6_meanScale_9 rfl hl (by decide) rfl (fun ls hl => ?_)
    have loop10 : ∀ (n_5 : Nat) (u : Int) (x2 : Int) (x1 : Int) (hi0 : 0 ≤ u) (hi1 : u ≤ P 0 1) (hex2 : x2 = sumZ (fun u9 => if (mat (mO P) (P 8 8)).2.1 u9 = -1000000000 then 0 else mO P (458 + 3 * u9)) u) (hex1 : x1 = sumZ (fun u9 => if (mat (mO P) (P 8 8)).2.1 u9 = -1000000000 then 0 else rdT (mO P) ((mat (mO P) (P 8 8)).2.1 u9)) u) (hn : P 0 1 - u < (n_5 : Int)) (ls : Array Slot) (hl : lv_has ls 5 [(3, .int (iI u)), (2, .int (iI x2)), (1, .int (iI x1)), (0, .ref (a 100))]), W p l e { frames := 6, cells := 0, slots := 0, locals := 148 } s m ([.ref (a 100)] : List Value).toArray below meth c H locs 0 0 (MQ below (kQi D (oblkW cy a P) sz (fun u9 : Nat → Int → Int => oblkW cy a u9) (fun r9 u9 => ∃ (zZ : Nat → Int → Int), (figOK (mO P) zZ (P 0 0) ∧ maOK (mO P) (P 8 8) (zZ 31) (zZ 32) (zZ 33) ∧ zZ 30 3 = (mat (mO P) (P 8 8)).2.2.1 ∧ zZ 30 4 = (mat (mO P) (P 8 8)).2.2.2) ∧ (r9 = msc (mO P)) ∧ (u9 = (upr (upr (upr (upr (upr (upr (upr (upr (upr (upr (upr (upr (upr (upr (upr (upr P 21 (zZ 21)) 22 (zZ 22)) 23 (zZ 23)) 24 (zZ 24)) 25 (zZ 25)) 26 (zZ 26)) 27 (zZ 27)) 28 (zZ 28)) 30 (zZ 30)) 31 (zZ 31)) 32 (zZ 32)) 33 (zZ 33)) 34 (zZ 34)) 35 (zZ 35)) 36 (zZ 36)) 100 (ups (P 100) 6 1))))) ([.ref (a 100)] : List Value).toArray s 0 0 (va_A (oblkW cy a P) sz)) (F0 m 10 ls []) := by
      intro n_5
      induction n_5 with
      | zero => intro u x2 x1 hi0 hi1 hex2 hex1 hn ls hl; exfalso; omega
      | succ n_5 ih10 =>
        intro u x2 x1 hi0 hi1 hex2 hex1 hn ls hl
        subst hex2
        subst hex1
        refine lv_iload_n hx hb dX6_meanScale_10 rfl (lv_at hl 0 rfl) ?_
        refine lv_aload_n hx hb dX6_meanScale_11 rfl (lv_at hl 3 rfl) ?_
        refine va_get (D := D) (ci := 5) (v := .ref (a 0)) (C := RX6) (T := TX6) (N := 8) hx hb hts hinX6 hown hK hP 0 rfl rfl 0 (by decide) hmw0 (fun _ h9 => h9) rfl dX6_meanScale_12 ?_
        refine va_get (D := D) (ci := 3) (v := .int (iI (P 0 1))) (C := RX4) (T := TX4) (N := 12) hx hb hts hinX4 hown hK hP 1 rfl rfl 1 (by decide) hmw1 (fun _ h9 => h9) rfl dX6_meanScale_15 ?_
        refine k_icmp_ge (tgt := 75) hx hb dX6_meanScale_18 (by decide) (by omega) (by omega) (fun c_6 => ?_) (fun c_6 => ?_)
        · skip
          have e9 : u = P 0 1 := by omega
          have hsb := sc_bd hI (inv_S12 hI).1.1 (Int.le_refl _)
          rw [← e9] at hsc
          rw [hsc.1, hsc.2] at hsb
          refine lv_iload_n hx hb dX6_meanScale_75 rfl (lv_at hl 1 rfl) ?_
          refine k_if_le (tgt := 91) hx hb dX6_meanScale_76 (by decide) (by omega) (fun c_7 => ?_) (fun c_7 => ?_)
          · skip
            refine k_ldc (z := (-1000000000)) hx hb hown hmw2 (by decide +kernel) dX6_meanScale_91 ?_
            exact W.iret (v := iI (-1000000000)) hx hb hr (fun t9 ht _ => ⟨⟨iI (-1000000000), (upr (upr (upr (upr (upr (upr (upr (upr (upr (upr (upr (upr (upr (upr (upr (upr P 21 (zZ_3 21)) 22 (zZ_3 22)) 23 (zZ_3 23)) 24 (zZ_3 24)) 25 (zZ_3 25)) 26 (zZ_3 26)) 27 (zZ_3 27)) 28 (zZ_3 28)) 30 (zZ_3 30)) 31 (zZ_3 31)) 32 (zZ_3 32)) 33 (zZ_3 33)) 34 (zZ_3 34)) 35 (zZ_3 35)) 36 (zZ_3 36)) 100 (ups (P 100) 6 1)), rfl, ⟨(-1000000000), rfl, (⟨((upr (upr (upr (upr (upr (upr (upr (upr (upr (upr (upr (upr (upr (upr (upr (upr P 21 (zZ_3 21)) 22 (zZ_3 22)) 23 (zZ_3 23)) 24 (zZ_3 24)) 25 (zZ_3 25)) 26 (zZ_3 26)) 27 (zZ_3 27)) 28 (zZ_3 28)) 30 (zZ_3 30)) 31 (zZ_3 31)) 32 (zZ_3 32)) 33 (zZ_3 33)) 34 (zZ_3 34)) 35 (zZ_3 35)) 36 (zZ_3 36)) 100 (ups (P 100) 6 1))), (hfk), (by unfold msc; rw [hsc.1, hsc.2]; first | (rw [if_neg (by omega)]; done) | (rw [if_pos (by omega)]; done)), rfl⟩ : ∃ (zZ : Nat → Int → Int), (figOK (mO P) zZ (P 0 0) ∧ maOK (mO P) (P 8 8) (zZ 31) (zZ 32) (zZ 33) ∧ zZ 30 3 = (mat (mO P) (P 8 8)).2.2.1 ∧ zZ 30 4 = (mat (mO P) (P 8 8)).2.2.2) ∧ (((-1000000000) : Int) = msc (mO P)) ∧ ((upr (upr (upr (upr (upr (upr (upr (upr (upr (upr (upr (upr (upr (upr (upr (upr P 21 (zZ_3 21)) 22 (zZ_3 22)) 23 (zZ_3 23)) 24 (zZ_3 24)) 25 (zZ_3 25)) 26 (zZ_3 26)) 27 (zZ_3 27)) 28 (zZ_3 28)) 30 (zZ_3 30)) 31 (zZ_3 31)) 32 (zZ_3 32)) 33 (zZ_3 33)) 34 (zZ_3 34)) 35 (zZ_3 35)) 36 (zZ_3 36)) 100 (ups (P 100) 6 1)) = (upr (upr (upr (upr (upr (upr (upr (upr (upr (upr (upr (upr (upr (upr (upr (upr P 21 (zZ 21)) 22 (zZ 22)) 23 (zZ 23)) 24 (zZ 24)) 25 (zZ 25)) 26 (zZ 26)) 27 (zZ 27)) 28 (zZ 28)) 30 (zZ 30)) 31 (zZ 31)) 32 (zZ 32)) 33 (zZ 33)) 34 (zZ 34)) 35 (zZ 35)) 36 (zZ 36)) 100 (ups (P 100) 6 1))))⟩, by rw [ht]; exact hP, hD⟩, hS.F ht⟩) hS.2.2 dX6_meanScale_93 hlocks
          · skip
            refine k_sipush hx hb dX6_meanScale_79 (by decide +kernel) ?_
            refine lv_iload_n hx hb dX6_meanScale_82 rfl (lv_at hl 2 rfl) ?_
            refine k_imul hx hb dX6_meanScale_83 ?_
            refine lv_iload_n hx hb dX6_meanScale_84 rfl (lv_at hl 1 rfl) ?_
            refine k_roS (As := [.int (iI (1000 * (sumZ (fun u9 => if (mat (mO P) (P 8 8)).2.1 u9 = -1000000000 then 0 else rdT (mO P) ((mat (mO P) (P 8 8)).2.1 u9)) u))), .int (iI (sumZ (fun u9 => if (mat (mO P) (P 8 8)).2.1 u9 = -1000000000 then 0 else mO P (458 + 3 * u9)) u))]) (rest := []) ⟨hx, hb, hml, hown, hts⟩ (c_J9_floorDiv_7cf53 l D (1000 * (sumZ (fun u9 => if (mat (mO P) (P 8 8)).2.1 u9 = -1000000000 then 0 else rdT (mO P) ((mat (mO P) (P 8 8)).2.1 u9)) u)) (sumZ (fun u9 => if (mat (mO P) (P 8 8)).2.1 u9 = -1000000000 then 0 else mO P (458 + 3 * u9)) u) (show -2147483648 ≤ (1000 * (sumZ (fun u9 => if (mat (mO P) (P 8 8)).2.1 u9 = -1000000000 then 0 else rdT (mO P) ((mat (mO P) (P 8 8)).2.1 u9)) u)) ∧ (1000 * (sumZ (fun u9 => if (mat (mO P) (P 8 8)).2.1 u9 = -1000000000 then 0 else rdT (mO P) ((mat (mO P) (P 8 8)).2.1 u9)) u)) ≤ 2147483647 by omega) (show 0 < (sumZ (fun u9 => if (mat (mO P) (P 8 8)).2.1 u9 = -1000000000 then 0 else mO P (458 + 3 * u9)) u) ∧ (sumZ (fun u9 => if (mat (mO P) (P 8 8)).2.1 u9 = -1000000000 then 0 else mO P (458 + 3 * u9)) u) ≤ 2147483647 by omega)) gX6_meanScale_J9_floorDiv_7cf53 rfl ⟨rfl, rfl⟩ 2 rfl (by decide +kernel) ⟨Nat.le_of_ble_eq_true rfl, Nat.le_of_ble_eq_true rfl⟩ kGT_ok trivial (fun k q h => by simp at h) hl.1 rfl (Nat.le_of_ble_eq_true rfl) ⟨Nat.le_of_ble_eq_true rfl, Nat.le_of_ble_eq_true rfl⟩ dX6_meanScale_85 (fun r_8 hr_8 => ?_)
            have hr_8 : r_8 = (1000 * (sumZ (fun u9 => if (mat (mO P) (P 8 8)).2.1 u9 = -1000000000 then 0 else rdT (mO P) ((mat (mO P) (P 8 8)).2.1 u9)) u)) / (sumZ (fun u9 => if (mat (mO P) (P 8 8)).2.1 u9 = -1000000000 then 0 else mO P (458 + 3 * u9)) u) := hr_8
            subst hr_8
            refine lv_goto (tgt := 93) hx hb dX6_meanScale_88 (by decide) ?_
            exact W.iret (v := iI ((1000 * (sumZ (fun u9 => if (mat (mO P) (P 8 8)).2.1 u9 = -1000000000 then 0 else rdT (mO P) ((mat (mO P) (P 8 8)).2.1 u9)) u)) / (sumZ (fun u9 => if (mat (mO P) (P 8 8)).2.1 u9 = -1000000000 then 0 else mO P (458 + 3 * u9)) u))) hx hb hr (fun t9 ht _ => ⟨⟨iI ((1000 * (sumZ (fun u9 => if (mat (mO P) (P 8 8)).2.1 u9 = -1000000000 then 0 else rdT (mO P) ((mat (mO P) (P 8 8)).2.1 u9)) u)) / (sumZ (fun u9 => if (mat (mO P) (P 8 8)).2.1 u9 = -1000000000 then 0 else mO P (458 + 3 * u9)) u)), (upr (upr (upr (upr (upr (upr (upr (upr (upr (upr (upr (upr (upr (upr (upr (upr P 21 (zZ_3 21)) 22 (zZ_3 22)) 23 (zZ_3 23)) 24 (zZ_3 24)) 25 (zZ_3 25)) 26 (zZ_3 26)) 27 (zZ_3 27)) 28 (zZ_3 28)) 30 (zZ_3 30)) 31 (zZ_3 31)) 32 (zZ_3 32)) 33 (zZ_3 33)) 34 (zZ_3 34)) 35 (zZ_3 35)) 36 (zZ_3 36)) 100 (ups (P 100) 6 1)), rfl, ⟨((1000 * (sumZ (fun u9 => if (mat (mO P) (P 8 8)).2.1 u9 = -1000000000 then 0 else rdT (mO P) ((mat (mO P) (P 8 8)).2.1 u9)) u)) / (sumZ (fun u9 => if (mat (mO P) (P 8 8)).2.1 u9 = -1000000000 then 0 else mO P (458 + 3 * u9)) u)), rfl, (⟨((upr (upr (upr (upr (upr (upr (upr (upr (upr (upr (upr (upr (upr (upr (upr (upr P 21 (zZ_3 21)) 22 (zZ_3 22)) 23 (zZ_3 23)) 24 (zZ_3 24)) 25 (zZ_3 25)) 26 (zZ_3 26)) 27 (zZ_3 27)) 28 (zZ_3 28)) 30 (zZ_3 30)) 31 (zZ_3 31)) 32 (zZ_3 32)) 33 (zZ_3 33)) 34 (zZ_3 34)) 35 (zZ_3 35)) 36 (zZ_3 36)) 100 (ups (P 100) 6 1))), (hfk), (by unfold msc; rw [hsc.1, hsc.2]; first | (rw [if_neg (by omega)]; done) | (rw [if_pos (by omega)]; done)), rfl⟩ : ∃ (zZ : Nat → Int → Int), (figOK (mO P) zZ (P 0 0) ∧ maOK (mO P) (P 8 8) (zZ 31) (zZ 32) (zZ 33) ∧ zZ 30 3 = (mat (mO P) (P 8 8)).2.2.1 ∧ zZ 30 4 = (mat (mO P) (P 8 8)).2.2.2) ∧ (((1000 * (sumZ (fun u9 => if (mat (mO P) (P 8 8)).2.1 u9 = -1000000000 then 0 else rdT (mO P) ((mat (mO P) (P 8 8)).2.1 u9)) u)) / (sumZ (fun u9 => if (mat (mO P) (P 8 8)).2.1 u9 = -1000000000 then 0 else mO P (458 + 3 * u9)) u) : Int) = msc (mO P)) ∧ ((upr (upr (upr (upr (upr (upr (upr (upr (upr (upr (upr (upr (upr (upr (upr (upr P 21 (zZ_3 21)) 22 (zZ_3 22)) 23 (zZ_3 23)) 24 (zZ_3 24)) 25 (zZ_3 25)) 26 (zZ_3 26)) 27 (zZ_3 27)) 28 (zZ_3 28)) 30 (zZ_3 30)) 31 (zZ_3 31)) 32 (zZ_3 32)) 33 (zZ_3 33)) 34 (zZ_3 34)) 35 (zZ_3 35)) 36 (zZ_3 36)) 100 (ups (P 100) 6 1)) = (upr (upr (upr (upr (upr (upr (upr (upr (upr (upr (upr (upr (upr (upr (upr (upr P 21 (zZ 21)) 22 (zZ 22)) 23 (zZ 23)) 24 (zZ 24)) 25 (zZ 25)) 26 (zZ 26)) 27 (zZ 27)) 28 (zZ 28)) 30 (zZ 30)) 31 (zZ 31)) 32 (zZ 32)) 33 (zZ 33)) 34 (zZ 34)) 35 (zZ 35)) 36 (zZ 36)) 100 (ups (P 100) 6 1))))⟩, by rw [ht]; exact hP, hD⟩, hS.F ht⟩) hS.2.2 dX6_meanScale_93 hlocks
        · skip
          have hwu := hW.2.1 u hi0 (show u < 12 by omega)
          rw [mO_12] at hwu
          refine lv_aload_n hx hb dX6_meanScale_21 rfl (lv_at hl 3 rfl) ?_
          refine va_get (D := D) (ci := 5) (v := .ref (a 30)) (C := RX6) (T := TX6) (N := 8) hx hb hts hinX6 hown hK hP 0 rfl rfl 4 (by decide) hmw3 (fun _ h9 => h9) rfl dX6_meanScale_22 ?_
          refine va_get (D := D) (ci := 2) (v := .ref (a 32)) (C := RX3) (T := TX3) (N := 9) hx hb hts hinX3 hown hK hP 19 rfl rfl 1 (by decide) hmw4 (fun _ h9 => h9) rfl dX6_meanScale_25 ?_
          refine lv_iload_n hx hb dX6_meanScale_28 rfl (lv_at hl 0 rfl) ?_
          refine k_iald hx hb hK hP 21 0 (f := zZ_3 32) rfl rfl (i := u) (by omega) dX6_meanScale_29 ?_
          refine k_eqI (v := zZ_3 32 u) (w := (mat (mO P) (P 8 8)).2.1 u) ((hfk.2.1.1 u hi0 (by omega)).2) ?_
          refine lv_istore (lv' := [(4, .int (iI ((mat (mO P) (P 8 8)).2.1 u))), (3, .int (iI u)), (2, .int (iI (sumZ (fun u9 => if (mat (mO P) (P 8 8)).2.1 u9 = -1000000000 then 0 else mO P (458 + 3 * u9)) u))), (1, .int (iI (sumZ (fun u9 => if (mat (mO P) (P 8 8)).2.1 u9 = -1000000000 then 0 else rdT (mO P) ((mat (mO P) (P 8 8)).2.1 u9)) u))), (0, .ref (a 100))]) hx hb dX6_meanScale_30 hl (by decide) rfl (fun ls hl => ?_)
          refine lv_aload_n hx hb dX6_meanScale_32 rfl (lv_at hl 4 rfl) ?_
          refine va_get (D := D) (ci := 5) (v := .ref (a 0)) (C := RX6) (T := TX6) (N := 8) hx hb hts hinX6 hown hK hP 0 rfl rfl 0 (by decide) hmw0 (fun _ h9 => h9) rfl dX6_meanScale_33 ?_
          refine lv_iload hx hb dX6_meanScale_36 (lv_at hl 0 rfl) ?_
          refine k_roV (As := [.int (iI ((mat (mO P) (P 8 8)).2.1 u))]) (rest := []) ⟨hx, hb, hml, hown, hts⟩ (c_X4_hasTrail l D cy a (upr (upr (upr (upr (upr (upr (upr (upr (upr (upr (upr (upr (upr (upr (upr (upr P 21 (zZ_3 21)) 22 (zZ_3 22)) 23 (zZ_3 23)) 24 (zZ_3 24)) 25 (zZ_3 25)) 26 (zZ_3 26)) 27 (zZ_3 27)) 28 (zZ_3 28)) 30 (zZ_3 30)) 31 (zZ_3 31)) 32 (zZ_3 32)) 33 (zZ_3 33)) 34 (zZ_3 34)) 35 (zZ_3 35)) 36 (zZ_3 36)) 100 (ups (P 100) 6 1)) ((mat (mO P) (P 8 8)).2.1 u) hI (show -2147483648 ≤ ((mat (mO P) (P 8 8)).2.1 u) ∧ ((mat (mO P) (P 8 8)).2.1 u) ≤ 2147483647 by omega)) gX6_meanScale_X4_hasTrail rfl ⟨rfl, rfl⟩ 1 rfl (by decide +kernel) ⟨Nat.le_of_ble_eq_true rfl, Nat.le_of_ble_eq_true rfl⟩ (GG_ok D cy) ((GG_ok D cy).2.2.2 _ _ _ _ (fun _ h => h.elim) ((GG_ok D cy).1 _ _ _ _ hS.2.1 hG)) (hP.sub (ws' := (plW cy a (upr (upr (upr (upr (upr (upr (upr (upr (upr (upr (upr (upr (upr (upr (upr (upr P 21 (zZ_3 21)) 22 (zZ_3 22)) 23 (zZ_3 23)) 24 (zZ_3 24)) 25 (zZ_3 25)) 26 (zZ_3 26)) 27 (zZ_3 27)) 28 (zZ_3 28)) 30 (zZ_3 30)) 31 (zZ_3 31)) 32 (zZ_3 32)) 33 (zZ_3 33)) 34 (zZ_3 34)) 35 (zZ_3 35)) 36 (zZ_3 36)) 100 (ups (P 100) 6 1)))) [1, 2, 3, 4, 5, 6, 7, 8, 9] rfl) (va_recv hK hP (ci := 3) (q0 := 1) rfl rfl) hl.1 rfl (Nat.le_of_ble_eq_true rfl) ⟨Nat.le_of_ble_eq_true rfl, Nat.le_of_ble_eq_true rfl⟩ dX6_meanScale_38 (fun r_9 hr_9 => ?_)
          have hr_9 : ((0 ≤ ((mat (mO P) (P 8 8)).2.1 u) ∧ ((mat (mO P) (P 8 8)).2.1 u) < (P 0) 0) ∧ r_9 = 1) ∨ (¬ (0 ≤ ((mat (mO P) (P 8 8)).2.1 u) ∧ ((mat (mO P) (P 8 8)).2.1 u) < (P 0) 0) ∧ r_9 = 0) := hr_9
          rcases hr_9 with ⟨c_10, hr_9⟩ | ⟨c_10, hr_9⟩ <;> subst hr_9
          · skip
            have hwt := c_10
            have hfa9 := (hfk.1 _ c_10.1 c_10.2).1 (by omega)
            refine k_if_eq (tgt := 69) hx hb dX6_meanScale_41 (by decide) (by omega) (fun c_11 => ?_) (fun c_11 => ?_)
            · exfalso; omega
            · skip
              refine lv_iload_n hx hb dX6_meanScale_44 rfl (lv_at hl 3 rfl) ?_
              refine lv_aload_n hx hb dX6_meanScale_45 rfl (lv_at hl 4 rfl) ?_
              refine va_get (D := D) (ci := 5) (v := .ref (a 20)) (C := RX6) (T := TX6) (N := 8) hx hb hts hinX6 hown hK hP 0 rfl rfl 3 (by decide) hmw5 (fun _ h9 => h9) rfl dX6_meanScale_46 ?_
              refine va_get (D := D) (ci := 0) (v := .ref (a 21)) (C := RX1) (T := TX1) (N := 8) hx hb hts hinX1 hown hK hP 10 rfl rfl 0 (by decide) hmw6 (fun _ h9 => h9) rfl dX6_meanScale_49 ?_
              refine lv_iload hx hb dX6_meanScale_52 (lv_at hl 0 rfl) ?_
              refine k_iald hx hb hK hP 11 0 (f := zZ_3 21) rfl rfl (i := (mat (mO P) (P 8 8)).2.1 u) (by omega) dX6_meanScale_54 ?_
              refine k_eqI (v := zZ_3 21 ((mat (mO P) (P 8 8)).2.1 u)) (w := rdT (mO P) ((mat (mO P) (P 8 8)).2.1 u)) (hfa9.1.1) ?_
              refine k_iadd hx hb dX6_meanScale_55 ?_
              refine lv_istore_n (lv' := [(1, .int (iI ((sumZ (fun u9 => if (mat (mO P) (P 8 8)).2.1 u9 = -1000000000 then 0 else rdT (mO P) ((mat (mO P) (P 8 8)).2.1 u9)) u) + (rdT (mO P) ((mat (mO P) (P 8 8)).2.1 u))))), (4, .int (iI ((mat (mO P) (P 8 8)).2.1 u))), (3, .int (iI u)), (2, .int (iI (sumZ (fun u9 => if (mat (mO P) (P 8 8)).2.1 u9 = -1000000000 then 0 else mO P (458 + 3 * u9)) u))), (0, .ref (a 100))]) hx hb dX6_meanScale_56 rfl hl (by decide) rfl (fun ls hl => ?_)
              refine lv_iload_n hx hb dX6_meanScale_57 rfl (lv_at hl 3 rfl) ?_
              refine lv_aload_n hx hb dX6_meanScale_58 rfl (lv_at hl 4 rfl) ?_
              refine va_get (D := D) (ci := 5) (v := .ref (a 0)) (C := RX6) (T := TX6) (N := 8) hx hb hts hinX6 hown hK hP 0 rfl rfl 0 (by decide) hmw0 (fun _ h9 => h9) rfl dX6_meanScale_59 ?_
              refine va_get (D := D) (ci := 3) (v := .ref (a 5)) (C := RX4) (T := TX4) (N := 12) hx hb hts hinX4 hown hK hP 1 rfl rfl 8 (by decide) hmw7 (fun _ h9 => h9) rfl dX6_meanScale_62 ?_
              refine lv_iload_n hx hb dX6_meanScale_65 rfl (lv_at hl 2 rfl) ?_
              refine k_iald hx hb hK hP 6 0 (f := P 5) rfl rfl (i := u) (by omega) dX6_meanScale_66 ?_
              refine k_iadd hx hb dX6_meanScale_67 ?_
              refine lv_istore_n (lv' := [(2, .int (iI ((sumZ (fun u9 => if (mat (mO P) (P 8 8)).2.1 u9 = -1000000000 then 0 else mO P (458 + 3 * u9)) u) + (P 5 u)))), (1, .int (iI ((sumZ (fun u9 => if (mat (mO P) (P 8 8)).2.1 u9 = -1000000000 then 0 else rdT (mO P) ((mat (mO P) (P 8 8)).2.1 u9)) u) + (rdT (mO P) ((mat (mO P) (P 8 8)).2.1 u))))), (4, .int (iI ((mat (mO P) (P 8 8)).2.1 u))), (3, .int (iI u)), (0, .ref (a 100))]) hx hb dX6_meanScale_68 rfl hl (by decide) rfl (fun ls hl => ?_)
              refine lv_iinc (v := iI (u + 1)) (lv' := [(3, .int (iI (u + 1))), (2, .int (iI ((sumZ (fun u9 => if (mat (mO P) (P 8 8)).2.1 u9 = -1000000000 then 0 else mO P (458 + 3 * u9)) u) + (P 5 u)))), (1, .int (iI ((sumZ (fun u9 => if (mat (mO P) (P 8 8)).2.1 u9 = -1000000000 then 0 else rdT (mO P) ((mat (mO P) (P 8 8)).2.1 u9)) u) + (rdT (mO P) ((mat (mO P) (P 8 8)).2.1 u))))), (4, .int (iI ((mat (mO P) (P 8 8)).2.1 u))), (0, .ref (a 100))]) hx hb dX6_meanScale_69 hl (k := 3) rfl (iI_add _ _) (by decide) rfl (fun ls hl => ?_)
              refine lv_goto (tgt := 10) hx hb dX6_meanScale_72 (by decide) ?_
              exact ih10 (u + 1) ((sumZ (fun u9 => if (mat (mO P) (P 8 8)).2.1 u9 = -1000000000 then 0 else mO P (458 + 3 * u9)) u) + (P 5 u)) ((sumZ (fun u9 => if (mat (mO P) (P 8 8)).2.1 u9 = -1000000000 then 0 else rdT (mO P) ((mat (mO P) (P 8 8)).2.1 u9)) u) + (rdT (mO P) ((mat (mO P) (P 8 8)).2.1 u))) (by omega) (by omega) (by rw [sumZ_s _ hi0]; (try dsimp only); first | (rw [if_neg (by omega), mO_sr P hi0]; done) | (rw [if_pos (by omega)]; omega)) (by rw [sumZ_s _ hi0]; (try dsimp only); first | (rw [if_neg (by omega)]; done) | (rw [if_pos (by omega)]; omega)) (by omega) ls (lv_sub hl [0, 1, 2, 4] rfl)
          · skip
            refine k_if_eq (tgt := 69) hx hb dX6_meanScale_41 (by decide) (by omega) (fun c_12 => ?_) (fun c_12 => ?_)
            · skip
              refine lv_iinc (v := iI (u + 1)) (lv' := [(3, .int (iI (u + 1))), (4, .int (iI ((mat (mO P) (P 8 8)).2.1 u))), (2, .int (iI (sumZ (fun u9 => if (mat (mO P) (P 8 8)).2.1 u9 = -1000000000 then 0 else mO P (458 + 3 * u9)) u))), (1, .int (iI (sumZ (fun u9 => if (mat (mO P) (P 8 8)).2.1 u9 = -1000000000 then 0 else rdT (mO P) ((mat (mO P) (P 8 8)).2.1 u9)) u))), (0, .ref (a 100))]) hx hb dX6_meanScale_69 hl (k := 1) rfl (iI_add _ _) (by decide) rfl (fun ls hl => ?_)
              refine lv_goto (tgt := 10) hx hb dX6_meanScale_72 (by decide) ?_
              exact ih10 (u + 1) (sumZ (fun u9 => if (mat (mO P) (P 8 8)).2.1 u9 = -1000000000 then 0 else mO P (458 + 3 * u9)) u) (sumZ (fun u9 => if (mat (mO P) (P 8 8)).2.1 u9 = -1000000000 then 0 else rdT (mO P) ((mat (mO P) (P 8 8)).2.1 u9)) u) (by omega) (by omega) (by rw [sumZ_s _ hi0]; (try dsimp only); first | (rw [if_neg (by omega), mO_sr P hi0]; done) | (rw [if_pos (by omega)]; omega)) (by rw [sumZ_s _ hi0]; (try dsimp only); first | (rw [if_neg (by omega)]; done) | (rw [if_pos (by omega)]; omega)) (by omega) ls (lv_sub hl [0, 2, 3, 4] rfl)
            · exfalso; omega
    exact loop10 ((P 0 1 - 0 : Int) + 1).toNat 0 0 0 (by omega) (by omega) (rfl) (rfl) (by omega) ls (lv_sub hl [0, 1, 2, 3] rfl)
  exact hbody s.heap [] hP hS ls hl
