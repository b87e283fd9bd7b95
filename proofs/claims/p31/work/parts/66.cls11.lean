set_option maxHeartbeats 4000000 in
set_option maxRecDepth 100000 in
theorem c_X6_bestZero (l : Launch) (D : va_G) (cy : Nat → ClassId) (sz : Nat) (a : Nat → Nat) (P : Nat → Int → Int)  (hI : Inv (mO P)) (hl0 : P 100 6 = 0 ∨ P 100 6 = 1) (hl1 : P 100 6 = 1 → lkd P) : Met l yX6_bestZero wsX6_bestZero { frames := 6, cells := 0, slots := 0, locals := 148 } (mPre (GG D cy) D (obzW cy a P) sz ([.ref (a 100)] : List Value)) (kQi D (obzW cy a P) sz (fun u9 : Nat → Int → Int => obzW cy a u9) (fun r9 u9 => ∃ (zZ : Nat → Int → Int), (figOK (mO P) zZ (P 0 0) ∧ maOK (mO P) (P 8 8) (zZ 31) (zZ 32) (zZ 33) ∧ zZ 30 3 = (mat (mO P) (P 8 8)).2.2.1 ∧ zZ 30 4 = (mat (mO P) (P 8 8)).2.2.2) ∧ (r9 = bzF (mO P)) ∧ (u9 = (upr (upr (upr (upr (upr (upr (upr (upr (upr (upr (upr (upr (upr (upr (upr (upr (upr (upr (upr (upr (upr (upr (upr P 21 (zZ 21)) 22 (zZ 22)) 23 (zZ 23)) 24 (zZ 24)) 25 (zZ 25)) 26 (zZ 26)) 27 (zZ 27)) 28 (zZ 28)) 30 (zZ 30)) 31 (zZ 31)) 32 (zZ 32)) 33 (zZ 33)) 34 (zZ 34)) 35 (zZ 35)) 36 (zZ 36)) 40 (zZ 40)) 41 (zZ 41)) 42 (zZ 42)) 43 (zZ 43)) 44 (zZ 44)) 45 (zZ 45)) 46 (zZ 46)) 100 (ups (P 100) 6 1))))) 0 0 (va_A (obzW cy a P) sz) := by
  refine kM_start (cc := cX6_bestZero) (maxL := 8) (ret := (some .int)) (by decide) rfl (Nat.le_of_ble_eq_true rfl) ?_
  intro p e s m below meth c hx hb hr hlocks hml hts hown hsz hA hG hP hD hS hin ls hl
  have hK := hG.1
  have hl : lv_has ls 8 [(0, .ref (a 100))] := hl
  have hinX3 : ∀ w ∈ u_ws RX3 TX3 9, w ∈ wsX6_bestZero := by decide +kernel
  have hinX4 : ∀ w ∈ u_ws RX4 TX4 12, w ∈ wsX6_bestZero := by decide +kernel
  have hinX6 : ∀ w ∈ u_ws RX6 TX6 8, w ∈ wsX6_bestZero := by decide +kernel
  have hmw0 := hts (.constant RX6 153 (-1000000000)) (by decide +kernel)
  have hmw1 := hts (.fieldLink RX6 10 "ArcPlate" "plate" "LArcPlate$Plate;") (by decide +kernel)
  have hmw2 := hts (.fieldLink RX6 167 "ArcPlate$Plate" "trails" "I") (by decide +kernel)
  have hmw3 := hts (.fieldLink RX6 44 "ArcPlate" "trial" "LArcPlate$Matching;") (by decide +kernel)
  have hmw4 := hts (.fieldLink RX6 33 "ArcPlate" "figures" "LArcPlate$Figures;") (by decide +kernel)
  have hmw5 := hts (.fieldLink RX6 201 "ArcPlate$Matching" "matches" "I") (by decide +kernel)
  have hmw6 := hts (.fieldLink RX6 204 "ArcPlate$Matching" "sum" "I") (by decide +kernel)
  have hmw7 := hts (.fieldLink RX6 150 "ArcPlate$Plate" "points" "[I") (by decide +kernel)
  have hmw8 := hts (.fieldLink RX6 158 "ArcPlate$Plate" "stars" "I") (by decide +kernel)
  have hS0 := po_S hI
  have hset := po_set hI
  have hmm12 := mO_12 P
  have hmm13 := mO_13 P
  have hbody : ∀ (H : Heap) (locs : List Loc) (hP : va_P D vwCl (obzW cy a P) H) (hS : va_S (va_A (obzW cy a P) sz) s.heap H locs) (ls : Array Slot) (hl : lv_has ls 8 [(0, .ref (a 100))]), W p l e { frames := 6, cells := 0, slots := 0, locals := 148 } s m ([.ref (a 100)] : List Value).toArray below meth c H locs 0 0 (MQ below (kQi D (obzW cy a P) sz (fun u9 : Nat → Int → Int => obzW cy a u9) (fun r9 u9 => ∃ (zZ : Nat → Int → Int), (figOK (mO P) zZ (P 0 0) ∧ maOK (mO P) (P 8 8) (zZ 31) (zZ 32) (zZ 33) ∧ zZ 30 3 = (mat (mO P) (P 8 8)).2.2.1 ∧ zZ 30 4 = (mat (mO P) (P 8 8)).2.2.2) ∧ (r9 = bzF (mO P)) ∧ (u9 = (upr (upr (upr (upr (upr (upr (upr (upr (upr (upr (upr (upr (upr (upr (upr (upr (upr (upr (upr (upr (upr (upr (upr P 21 (zZ 21)) 22 (zZ 22)) 23 (zZ 23)) 24 (zZ 24)) 25 (zZ 25)) 26 (zZ 26)) 27 (zZ 27)) 28 (zZ 28)) 30 (zZ 30)) 31 (zZ 31)) 32 (zZ 32)) 33 (zZ 33)) 34 (zZ 34)) 35 (zZ 35)) 36 (zZ 36)) 40 (zZ 40)) 41 (zZ 41)) 42 (zZ 42)) 43 (zZ 43)) 44 (zZ 44)) 45 (zZ 45)) 46 (zZ 46)) 100 (ups (P 100) 6 1))))) ([.ref (a 100)] : List Value).toArray s 0 0 (va_A (obzW cy a P) sz)) (F0 m 0 ls []) := by
    intro H locs hP hS ls hl
    refine lv_aload_n hx hb dX6_bestZero_0 rfl (lv_at hl 0 rfl) ?_
    have hPc := hP.sub (ws' := (oblkW cy a P)) [0, 1, 2, 3, 4, 5, 6, 7, 8, 9, 10, 11, 12, 13, 14, 15, 16, 17, 18, 19, 20, 21, 22, 23, 24, 25] rfl
    have hDc := hD.sub (ws' := (oblkW cy a P)) [0, 1, 2, 3, 4, 5, 6, 7, 8, 9, 10, 11, 12, 13, 14, 15, 16, 17, 18, 19, 20, 21, 22, 23, 24, 25] (by decide) rfl
    have hFc := va_free (wc := (oblkW cy a P)) hD hS hA [0, 1, 2, 3, 4, 5, 6, 7, 8, 9, 10, 11, 12, 13, 14, 15, 16, 17, 18, 19, 20, 21, 22, 23, 24, 25] rfl
    refine k_muv (k_runV (As := []) (rest := []) ⟨hx, hb, hml, hown, hts⟩ (c_X6_look l D cy H.size a P hI (show P 100 6 = 0 ∨ P 100 6 = 1 by omega) (show P 100 6 = 1 → lkd P by omega)) gX6_bestZero_X6_look rfl ⟨rfl, rfl⟩ 0 rfl (by decide +kernel) ⟨Nat.le_of_ble_eq_true rfl, Nat.le_of_ble_eq_true rfl⟩ (GG_ok D cy) hG hS hFc hPc hDc (va_recv hK hP (ci := 5) (q0 := 0) rfl rfl) hl.1 rfl (Nat.le_of_ble_eq_true rfl) ⟨Nat.le_of_ble_eq_true rfl, Nat.le_of_ble_eq_true rfl⟩ dX6_bestZero_1) hFc hS (fun R_2 H1 locs1 hR_2 hP1 hD1 hS1 hk1 => ?_)
    have hR_2 : ∃ (zZ : Nat → Int → Int), (figOK (mO P) zZ (P 0 0) ∧ maOK (mO P) (P 8 8) (zZ 31) (zZ 32) (zZ 33) ∧ zZ 30 3 = (mat (mO P) (P 8 8)).2.2.1 ∧ zZ 30 4 = (mat (mO P) (P 8 8)).2.2.2) ∧ (R_2 = (upr (upr (upr (upr (upr (upr (upr (upr (upr (upr (upr (upr (upr (upr (upr (upr P 21 (zZ 21)) 22 (zZ 22)) 23 (zZ 23)) 24 (zZ 24)) 25 (zZ 25)) 26 (zZ 26)) 27 (zZ 27)) 28 (zZ 28)) 30 (zZ 30)) 31 (zZ 31)) 32 (zZ 32)) 33 (zZ 33)) 34 (zZ 34)) 35 (zZ 35)) 36 (zZ 36)) 100 (ups (P 100) 6 1))) := hR_2
    obtain ⟨zZ_3, hf_4, hR_2⟩ := hR_2
    have hf_4 : figOK (mO P) zZ_3 (P 0 0) ∧ maOK (mO P) (P 8 8) (zZ_3 31) (zZ_3 32) (zZ_3 33) ∧ zZ_3 30 3 = (mat (mO P) (P 8 8)).2.2.1 ∧ zZ_3 30 4 = (mat (mO P) (P 8 8)).2.2.2 := hf_4
    subst hR_2
    have hDn : va_D (va_A (obzW cy a P) sz) (obzW cy a (upr (upr (upr (upr (upr (upr (upr (upr (upr (upr (upr (upr (upr (upr (upr (upr P 21 (zZ_3 21)) 22 (zZ_3 22)) 23 (zZ_3 23)) 24 (zZ_3 24)) 25 (zZ_3 25)) 26 (zZ_3 26)) 27 (zZ_3 27)) 28 (zZ_3 28)) 30 (zZ_3 30)) 31 (zZ_3 31)) 32 (zZ_3 32)) 33 (zZ_3 33)) 34 (zZ_3 34)) 35 (zZ_3 35)) 36 (zZ_3 36)) 100 (ups (P 100) 6 1))) := k_addr hD rfl
    have hPn := k_join (ws' := (obzW cy a (upr (upr (upr (upr (upr (upr (upr (upr (upr (upr (upr (upr (upr (upr (upr (upr P 21 (zZ_3 21)) 22 (zZ_3 22)) 23 (zZ_3 23)) 24 (zZ_3 24)) 25 (zZ_3 25)) 26 (zZ_3 26)) 27 (zZ_3 27)) 28 (zZ_3 28)) 30 (zZ_3 30)) 31 (zZ_3 31)) 32 (zZ_3 32)) 33 (zZ_3 33)) 34 (zZ_3 34)) 35 (zZ_3 35)) 36 (zZ_3 36)) 100 (ups (P 100) 6 1)))) hP hD [0, 1, 2, 3, 4, 5, 6, 7, 8, 9, 10, 11, 12, 13, 14, 15, 16, 17, 18, 19, 20, 21, 22, 23, 24, 25] [some 0, some 1, some 2, some 3, some 4, some 5, some 6, some 7, some 8, some 9, some 10, some 11, some 12, some 13, some 14, some 15, some 16, some 17, some 18, some 19, some 20, some 21, some 22, some 23, some 24, some 25, none, none, none, none, none, none, none] rfl hk1 hP1 rfl rfl
    clear hP hD hS hP1 hD1 hk1
    have hP := hPn
    have hD := hDn
    have hS := hS1
    clear hPn hDn hS1
    generalize H1 = H at hP hS ⊢
    generalize locs1 = locs at hS ⊢
    have hfk := hf_4
    refine k_ldc (z := (-1000000000)) hx hb hown hmw0 (by decide +kernel) dX6_bestZero_4 ?_
    refine lv_istore_n (lv' := [(1, .int (iI (-1000000000))), (0, .ref (a 100))]) hx hb dX6_bestZero_6 rfl hl (by decide) rfl (fun ls hl => ?_)
    refine k_iconst hx hb dX6_bestZero_7 ?_
    refine lv_istore_n (lv' := [(2, .int (iI 0)), (1, .int (iI (-1000000000))), (0, .ref (a 100))]) hx hb dX6_bestZero_8 rfl hl (by decide) rfl (fun ls hl => ?_)
    refine k_iconst hx hb dX6_bestZero_9 ?_
    refine lv_istore_n (lv' := [(3, .int (iI 0)), (2, .int (iI 0)), (1, .int (iI (-1000000000))), (0, .ref (a 100))]) hx hb dX6_bestZero_10 rfl hl (by decide) rfl (fun ls hl => ?_)
    refine k_iconst hx hb dX6_bestZero_11 ?_
    refine lv_istore (lv' := [(4, .int (iI 0)), (3, .int (iI 0)), (2, .int (iI 0)), (1, .int (iI (-1000000000))), (0, .ref (a 100))]) hx hb dX6_bestZero_12 hl (by decide) rfl (fun ls hl => ?_)
    have loop14 : ∀ (n_5 : Nat) (t : Int) (b9 : Int) (m9 : Int) (k9 : Int) (T0 : Int → Int) (T1 : Int → Int) (T2 : Int → Int) (T3 : Int → Int) (T4 : Int → Int) (T5 : Int → Int) (T6 : Int → Int) (hi0 : 0 ≤ t) (hi1 : t ≤ P 0 0) (hi2 : bzI (mO P) (t * mO P 13).toNat = (b9, m9, k9)) (hi3 : (b9 = -1000000000 ∨ (0 ≤ b9 ∧ b9 ≤ 359999)) ∧ (0 ≤ m9 ∧ m9 ≤ 12) ∧ (0 ≤ k9 ∧ k9 ≤ 121200000)) (hn : P 0 0 - t < (n_5 : Int)) (H : Heap) (locs : List Loc) (hP : va_P D vwCl (obzW cy a (upr (upr (upr (upr (upr (upr (upr (upr (upr (upr (upr (upr (upr (upr (upr (upr (upr (upr (upr (upr (upr (upr (upr P 21 (zZ_3 21)) 22 (zZ_3 22)) 23 (zZ_3 23)) 24 (zZ_3 24)) 25 (zZ_3 25)) 26 (zZ_3 26)) 27 (zZ_3 27)) 28 (zZ_3 28)) 30 (zZ_3 30)) 31 (zZ_3 31)) 32 (zZ_3 32)) 33 (zZ_3 33)) 34 (zZ_3 34)) 35 (zZ_3 35)) 36 (zZ_3 36)) 40 (T0)) 41 (T1)) 42 (T2)) 43 (T3)) 44 (T4)) 45 (T5)) 46 (T6)) 100 (ups (P 100) 6 1))) H) (hD : va_D (va_A (obzW cy a P) sz) (obzW cy a (upr (upr (upr (upr (upr (upr (upr (upr (upr (upr (upr (upr (upr (upr (upr (upr (upr (upr (upr (upr (upr (upr (upr P 21 (zZ_3 21)) 22 (zZ_3 22)) 23 (zZ_3 23)) 24 (zZ_3 24)) 25 (zZ_3 25)) 26 (zZ_3 26)) 27 (zZ_3 27)) 28 (zZ_3 28)) 30 (zZ_3 30)) 31 (zZ_3 31)) 32 (zZ_3 32)) 33 (zZ_3 33)) 34 (zZ_3 34)) 35 (zZ_3 35)) 36 (zZ_3 36)) 40 (T0)) 41 (T1)) 42 (T2)) 43 (T3)) 44 (T4)) 45 (T5)) 46 (T6)) 100 (ups (P 100) 6 1)))) (hS : va_S (va_A (obzW cy a P) sz) s.heap H locs) (ls : Array Slot) (hl : lv_has ls 8 [(4, .int (iI t)), (3, .int (iI k9)), (2, .int (iI m9)), (1, .int (iI b9)), (0, .ref (a 100))]), W p l e { frames := 6, cells := 0, slots := 0, locals := 148 } s m ([.ref (a 100)] : List Value).toArray below meth c H locs 0 0 (MQ below (kQi D (obzW cy a P) sz (fun u9 : Nat → Int → Int => obzW cy a u9) (fun r9 u9 => ∃ (zZ : Nat → Int → Int), (figOK (mO P) zZ (P 0 0) ∧ maOK (mO P) (P 8 8) (zZ 31) (zZ 32) (zZ 33) ∧ zZ 30 3 = (mat (mO P) (P 8 8)).2.2.1 ∧ zZ 30 4 = (mat (mO P) (P 8 8)).2.2.2) ∧ (r9 = bzF (mO P)) ∧ (u9 = (upr (upr (upr (upr (upr (upr (upr (upr (upr (upr (upr (upr (upr (upr (upr (upr (upr (upr (upr (upr (upr (upr (upr P 21 (zZ 21)) 22 (zZ 22)) 23 (zZ 23)) 24 (zZ 24)) 25 (zZ 25)) 26 (zZ 26)) 27 (zZ 27)) 28 (zZ 28)) 30 (zZ 30)) 31 (zZ 31)) 32 (zZ 32)) 33 (zZ 33)) 34 (zZ 34)) 35 (zZ 35)) 36 (zZ 36)) 40 (zZ 40)) 41 (zZ 41)) 42 (zZ 42)) 43 (zZ 43)) 44 (zZ 44)) 45 (zZ 45)) 46 (zZ 46)) 100 (ups (P 100) 6 1))))) ([.ref (a 100)] : List Value).toArray s 0 0 (va_A (obzW cy a P) sz)) (F0 m 14 ls []) := by
      intro n_5
      induction n_5 with
      | zero => intro t b9 m9 k9 T0 T1 T2 T3 T4 T5 T6 hi0 hi1 hi2 hi3 hn H locs hP hD hS ls hl; exfalso; omega
      | succ n_5 ih14 =>
        intro t b9 m9 k9 T0 T1 T2 T3 T4 T5 T6 hi0 hi1 hi2 hi3 hn H locs hP hD hS ls hl
        refine lv_iload hx hb dX6_bestZero_14 (lv_at hl 0 rfl) ?_
        refine lv_aload_n hx hb dX6_bestZero_16 rfl (lv_at hl 4 rfl) ?_
        refine va_get (D := D) (ci := 5) (v := .ref (a 0)) (C := RX6) (T := TX6) (N := 8) hx hb hts hinX6 hown hK hP 0 rfl rfl 0 (by decide) hmw1 (fun _ h9 => h9) rfl dX6_bestZero_17 ?_
        refine va_get (D := D) (ci := 3) (v := .int (iI (P 0 0))) (C := RX4) (T := TX4) (N := 12) hx hb hts hinX4 hown hK hP 1 rfl rfl 0 (by decide) hmw2 (fun _ h9 => h9) rfl dX6_bestZero_20 ?_
        refine k_icmp_ge (tgt := 176) hx hb dX6_bestZero_23 (by decide) (by omega) (by omega) (fun c_6 => ?_) (fun c_6 => ?_)
        · skip
          have e9 : t = P 0 0 := by omega
          refine lv_iload_n hx hb dX6_bestZero_176 rfl (lv_at hl 3 rfl) ?_
          exact W.iret (v := iI b9) hx hb hr (fun t9 ht _ => ⟨⟨iI b9, (upr (upr (upr (upr (upr (upr (upr (upr (upr (upr (upr (upr (upr (upr (upr (upr (upr (upr (upr (upr (upr (upr (upr P 21 (zZ_3 21)) 22 (zZ_3 22)) 23 (zZ_3 23)) 24 (zZ_3 24)) 25 (zZ_3 25)) 26 (zZ_3 26)) 27 (zZ_3 27)) 28 (zZ_3 28)) 30 (zZ_3 30)) 31 (zZ_3 31)) 32 (zZ_3 32)) 33 (zZ_3 33)) 34 (zZ_3 34)) 35 (zZ_3 35)) 36 (zZ_3 36)) 40 (T0)) 41 (T1)) 42 (T2)) 43 (T3)) 44 (T4)) 45 (T5)) 46 (T6)) 100 (ups (P 100) 6 1)), rfl, ⟨b9, rfl, (⟨((upr (upr (upr (upr (upr (upr (upr (upr (upr (upr (upr (upr (upr (upr (upr (upr (upr (upr (upr (upr (upr (upr (upr P 21 (zZ_3 21)) 22 (zZ_3 22)) 23 (zZ_3 23)) 24 (zZ_3 24)) 25 (zZ_3 25)) 26 (zZ_3 26)) 27 (zZ_3 27)) 28 (zZ_3 28)) 30 (zZ_3 30)) 31 (zZ_3 31)) 32 (zZ_3 32)) 33 (zZ_3 33)) 34 (zZ_3 34)) 35 (zZ_3 35)) 36 (zZ_3 36)) 40 (T0)) 41 (T1)) 42 (T2)) 43 (T3)) 44 (T4)) 45 (T5)) 46 (T6)) 100 (ups (P 100) 6 1))), (hfk), (by unfold bzF; rw [Int.mul_comm, hmm12, ← e9, hi2]), rfl⟩ : ∃ (zZ : Nat → Int → Int), (figOK (mO P) zZ (P 0 0) ∧ maOK (mO P) (P 8 8) (zZ 31) (zZ 32) (zZ 33) ∧ zZ 30 3 = (mat (mO P) (P 8 8)).2.2.1 ∧ zZ 30 4 = (mat (mO P) (P 8 8)).2.2.2) ∧ ((b9 : Int) = bzF (mO P)) ∧ ((upr (upr (upr (upr (upr (upr (upr (upr (upr (upr (upr (upr (upr (upr (upr (upr (upr (upr (upr (upr (upr (upr (upr P 21 (zZ_3 21)) 22 (zZ_3 22)) 23 (zZ_3 23)) 24 (zZ_3 24)) 25 (zZ_3 25)) 26 (zZ_3 26)) 27 (zZ_3 27)) 28 (zZ_3 28)) 30 (zZ_3 30)) 31 (zZ_3 31)) 32 (zZ_3 32)) 33 (zZ_3 33)) 34 (zZ_3 34)) 35 (zZ_3 35)) 36 (zZ_3 36)) 40 (T0)) 41 (T1)) 42 (T2)) 43 (T3)) 44 (T4)) 45 (T5)) 46 (T6)) 100 (ups (P 100) 6 1)) = (upr (upr (upr (upr (upr (upr (upr (upr (upr (upr (upr (upr (upr (upr (upr (upr (upr (upr (upr (upr (upr (upr (upr P 21 (zZ 21)) 22 (zZ 22)) 23 (zZ 23)) 24 (zZ 24)) 25 (zZ 25)) 26 (zZ 26)) 27 (zZ 27)) 28 (zZ 28)) 30 (zZ 30)) 31 (zZ 31)) 32 (zZ 32)) 33 (zZ 33)) 34 (zZ 34)) 35 (zZ 35)) 36 (zZ 36)) 40 (zZ 40)) 41 (zZ 41)) 42 (zZ 42)) 43 (zZ 43)) 44 (zZ 44)) 45 (zZ 45)) 46 (zZ 46)) 100 (ups (P 100) 6 1))))⟩, by rw [ht]; exact hP, hD⟩, hS.F ht⟩) hS.2.2 dX6_bestZero_177 hlocks
        · skip
          have hp := po_pts hI hi0 (show t < P 0 0 by omega)
          have hepts := mO_pts P (t := t) hi0 (by omega)
          have hti0 := hi0
          have htlt : t < P 0 0 := by omega
          have join52 : ∀ (y5 : Int) (jey5 : y5 = (if 0 < P 1 t then P 0 1 else 0)) (ls : Array Slot) (hl : lv_has ls 8 [(4, .int (iI t)), (3, .int (iI k9)), (2, .int (iI m9)), (1, .int (iI b9)), (0, .ref (a 100)), (5, .int (iI y5))]), W p l e { frames := 6, cells := 0, slots := 0, locals := 148 } s m ([.ref (a 100)] : List Value).toArray below meth c H locs 0 0 (MQ below (kQi D (obzW cy a P) sz (fun u9 : Nat → Int → Int => obzW cy a u9) (fun r9 u9 => ∃ (zZ : Nat → Int → Int), (figOK (mO P) zZ (P 0 0) ∧ maOK (mO P) (P 8 8) (zZ 31) (zZ 32) (zZ 33) ∧ zZ 30 3 = (mat (mO P) (P 8 8)).2.2.1 ∧ zZ 30 4 = (mat (mO P) (P 8 8)).2.2.2) ∧ (r9 = bzF (mO P)) ∧ (u9 = (upr (upr (upr (upr (upr (upr (upr (upr (upr (upr (upr (upr (upr (upr (upr (upr (upr (upr (upr (upr (upr (upr (upr P 21 (zZ 21)) 22 (zZ 22)) 23 (zZ 23)) 24 (zZ 24)) 25 (zZ 25)) 26 (zZ 26)) 27 (zZ 27)) 28 (zZ 28)) 30 (zZ 30)) 31 (zZ 31)) 32 (zZ 32)) 33 (zZ 33)) 34 (zZ 34)) 35 (zZ 35)) 36 (zZ 36)) 40 (zZ 40)) 41 (zZ 41)) 42 (zZ 42)) 43 (zZ 43)) 44 (zZ 44)) 45 (zZ 45)) 46 (zZ 46)) 100 (ups (P 100) 6 1))))) ([.ref (a 100)] : List Value).toArray s 0 0 (va_A (obzW cy a P) sz)) (F0 m 52 ls []) := by
            intro y5 jey5 ls hl
            subst jey5
            refine k_iconst hx hb dX6_bestZero_52 ?_
            refine lv_istore (lv' := [(6, .int (iI 0)), (4, .int (iI t)), (3, .int (iI k9)), (2, .int (iI m9)), (1, .int (iI b9)), (0, .ref (a 100)), (5, .int (iI (if 0 < P 1 t then P 0 1 else 0)))]) hx hb dX6_bestZero_53 hl (by decide) rfl (fun ls hl => ?_)
            have loop55 : ∀ (n_7 : Nat) (u : Int) (b8 : Int) (m8 : Int) (k8 : Int) (V0 : Int → Int) (V1 : Int → Int) (V2 : Int → Int) (V3 : Int → Int) (V4 : Int → Int) (V5 : Int → Int) (V6 : Int → Int) (hi0 : 0 ≤ u) (hi1 : u ≤ (if 0 < P 1 t then P 0 1 else 0)) (hi2 : bzI (mO P) (t * mO P 13 + u).toNat = (b8, m8, k8)) (hi3 : (b8 = -1000000000 ∨ (0 ≤ b8 ∧ b8 ≤ 359999)) ∧ (0 ≤ m8 ∧ m8 ≤ 12) ∧ (0 ≤ k8 ∧ k8 ≤ 121200000)) (hn : P 0 1 - u < (n_7 : Int)) (H : Heap) (locs : List Loc) (hP : va_P D vwCl (obzW cy a (upr (upr (upr (upr (upr (upr (upr (upr (upr (upr (upr (upr (upr (upr (upr (upr (upr (upr (upr (upr (upr (upr (upr P 21 (zZ_3 21)) 22 (zZ_3 22)) 23 (zZ_3 23)) 24 (zZ_3 24)) 25 (zZ_3 25)) 26 (zZ_3 26)) 27 (zZ_3 27)) 28 (zZ_3 28)) 30 (zZ_3 30)) 31 (zZ_3 31)) 32 (zZ_3 32)) 33 (zZ_3 33)) 34 (zZ_3 34)) 35 (zZ_3 35)) 36 (zZ_3 36)) 40 (V0)) 41 (V1)) 42 (V2)) 43 (V3)) 44 (V4)) 45 (V5)) 46 (V6)) 100 (ups (P 100) 6 1))) H) (hD : va_D (va_A (obzW cy a P) sz) (obzW cy a (upr (upr (upr (upr (upr (upr (upr (upr (upr (upr (upr (upr (upr (upr (upr (upr (upr (upr (upr (upr (upr (upr (upr P 21 (zZ_3 21)) 22 (zZ_3 22)) 23 (zZ_3 23)) 24 (zZ_3 24)) 25 (zZ_3 25)) 26 (zZ_3 26)) 27 (zZ_3 27)) 28 (zZ_3 28)) 30 (zZ_3 30)) 31 (zZ_3 31)) 32 (zZ_3 32)) 33 (zZ_3 33)) 34 (zZ_3 34)) 35 (zZ_3 35)) 36 (zZ_3 36)) 40 (V0)) 41 (V1)) 42 (V2)) 43 (V3)) 44 (V4)) 45 (V5)) 46 (V6)) 100 (ups (P 100) 6 1)))) (hS : va_S (va_A (obzW cy a P) sz) s.heap H locs) (ls : Array Slot) (hl : lv_has ls 8 [(6, .int (iI u)), (4, .int (iI t)), (3, .int (iI k8)), (2, .int (iI m8)), (1, .int (iI b8)), (0, .ref (a 100)), (5, .int (iI (if 0 < P 1 t then P 0 1 else 0)))]), W p l e { frames := 6, cells := 0, slots := 0, locals := 148 } s m ([.ref (a 100)] : List Value).toArray below meth c H locs 0 0 (MQ below (kQi D (obzW cy a P) sz (fun u9 : Nat → Int → Int => obzW cy a u9) (fun r9 u9 => ∃ (zZ : Nat → Int → Int), (figOK (mO P) zZ (P 0 0) ∧ maOK (mO P) (P 8 8) (zZ 31) (zZ 32) (zZ 33) ∧ zZ 30 3 = (mat (mO P) (P 8 8)).2.2.1 ∧ zZ 30 4 = (mat (mO P) (P 8 8)).2.2.2) ∧ (r9 = bzF (mO P)) ∧ (u9 = (upr (upr (upr (upr (upr (upr (upr (upr (upr (upr (upr (upr (upr (upr (upr (upr (upr (upr (upr (upr (upr (upr (upr P 21 (zZ 21)) 22 (zZ 22)) 23 (zZ 23)) 24 (zZ 24)) 25 (zZ 25)) 26 (zZ 26)) 27 (zZ 27)) 28 (zZ 28)) 30 (zZ 30)) 31 (zZ 31)) 32 (zZ 32)) 33 (zZ 33)) 34 (zZ 34)) 35 (zZ 35)) 36 (zZ 36)) 40 (zZ 40)) 41 (zZ 41)) 42 (zZ 42)) 43 (zZ 43)) 44 (zZ 44)) 45 (zZ 45)) 46 (zZ 46)) 100 (ups (P 100) 6 1))))) ([.ref (a 100)] : List Value).toArray s 0 0 (va_A (obzW cy a P) sz)) (F0 m 55 ls []) := by
              intro n_7
              induction n_7 with
              | zero => intro u b8 m8 k8 V0 V1 V2 V3 V4 V5 V6 hi0 hi1 hi2 hi3 hn H locs hP hD hS ls hl; exfalso; omega
              | succ n_7 ih55 =>
                intro u b8 m8 k8 V0 V1 V2 V3 V4 V5 V6 hi0 hi1 hi2 hi3 hn H locs hP hD hS ls hl
                refine lv_iload hx hb dX6_bestZero_55 (lv_at hl 0 rfl) ?_
                refine lv_iload hx hb dX6_bestZero_57 (lv_at hl 6 rfl) ?_
                refine k_icmp_ge (tgt := 170) hx hb dX6_bestZero_59 (by decide) (by first | omega | (split <;> omega)) (by first | omega | (split <;> omega)) (fun c_8 => ?_) (fun c_8 => ?_)
                · skip
                  have hul : u = (if 0 < P 1 t then P 0 1 else 0) := by omega
                  refine lv_iinc (v := iI (t + 1)) (lv' := [(4, .int (iI (t + 1))), (6, .int (iI u)), (3, .int (iI k8)), (2, .int (iI m8)), (1, .int (iI b8)), (0, .ref (a 100)), (5, .int (iI (if 0 < P 1 t then P 0 1 else 0)))]) hx hb dX6_bestZero_170 hl (k := 1) rfl (iI_add _ _) (by decide) rfl (fun ls hl => ?_)
                  refine lv_goto (tgt := 14) hx hb dX6_bestZero_173 (by decide) ?_
                  exact ih14 (t + 1) b8 m8 k8 V0 V1 V2 V3 V4 V5 V6  (by omega) (by omega) (bz_end hti0 (by omega) hul hmm13.symm hepts (by omega) hi2) (by omega) (by omega) H locs (hP) (k_addr hD rfl) hS ls (lv_sub hl [0, 2, 3, 4, 5] rfl)
                · skip
                  have hpz : 0 < P 1 t := by rcases Int.lt_or_le 0 (P 1 t) with h9 | h9; exact h9; (rw [if_neg (by omega)] at c_8; omega)
                  rw [if_pos hpz] at c_8
                  have hzb := zfor_bd (mO P) t u
                  have hmb := mat_bd (zfor (mO P) t u) hI
                  have hgo := bz_go (z := zfor (mO P) t u) hti0 ⟨hi0, by omega⟩ (by omega) rfl hi2
                  refine lv_aload_n hx hb dX6_bestZero_62 rfl (lv_at hl 5 rfl) ?_
                  refine lv_iload hx hb dX6_bestZero_63 (lv_at hl 0 rfl) ?_
                  refine lv_iload hx hb dX6_bestZero_65 (lv_at hl 1 rfl) ?_
                  refine k_roV (As := [.int (iI u), .int (iI t)]) (rest := []) ⟨hx, hb, hml, hown, hts⟩ (c_X6_zeroThatBrings l D cy a (upr (upr (upr (upr (upr (upr (upr (upr (upr (upr (upr (upr (upr (upr (upr (upr (upr (upr (upr (upr (upr (upr (upr P 21 (zZ_3 21)) 22 (zZ_3 22)) 23 (zZ_3 23)) 24 (zZ_3 24)) 25 (zZ_3 25)) 26 (zZ_3 26)) 27 (zZ_3 27)) 28 (zZ_3 28)) 30 (zZ_3 30)) 31 (zZ_3 31)) 32 (zZ_3 32)) 33 (zZ_3 33)) 34 (zZ_3 34)) 35 (zZ_3 35)) 36 (zZ_3 36)) 40 (V0)) 41 (V1)) 42 (V2)) 43 (V3)) 44 (V4)) 45 (V5)) 46 (V6)) 100 (ups (P 100) 6 1)) u t hI (show lkd (upr (upr (upr (upr (upr (upr (upr (upr (upr (upr (upr (upr (upr (upr (upr (upr (upr (upr (upr (upr (upr (upr (upr P 21 (zZ_3 21)) 22 (zZ_3 22)) 23 (zZ_3 23)) 24 (zZ_3 24)) 25 (zZ_3 25)) 26 (zZ_3 26)) 27 (zZ_3 27)) 28 (zZ_3 28)) 30 (zZ_3 30)) 31 (zZ_3 31)) 32 (zZ_3 32)) 33 (zZ_3 33)) 34 (zZ_3 34)) 35 (zZ_3 35)) 36 (zZ_3 36)) 40 (V0)) 41 (V1)) 42 (V2)) 43 (V3)) 44 (V4)) 45 (V5)) 46 (V6)) 100 (ups (P 100) 6 1)) from hfk) (show 0 ≤ t by omega) (show t < (P 0) 0 by omega) (show 0 < (P 1) t by omega) (show 0 ≤ u by omega) (show u < (P 0) 1 by omega)) gX6_bestZero_X6_zeroThatBrings rfl ⟨rfl, rfl⟩ 2 rfl (by decide +kernel) ⟨Nat.le_of_ble_eq_true rfl, Nat.le_of_ble_eq_true rfl⟩ (GG_ok D cy) ((GG_ok D cy).2.2.2 _ _ _ _ (fun _ h => h.elim) ((GG_ok D cy).1 _ _ _ _ hS.2.1 hG)) (hP.sub (ws' := (oblkW cy a (upr (upr (upr (upr (upr (upr (upr (upr (upr (upr (upr (upr (upr (upr (upr (upr (upr (upr (upr (upr (upr (upr (upr P 21 (zZ_3 21)) 22 (zZ_3 22)) 23 (zZ_3 23)) 24 (zZ_3 24)) 25 (zZ_3 25)) 26 (zZ_3 26)) 27 (zZ_3 27)) 28 (zZ_3 28)) 30 (zZ_3 30)) 31 (zZ_3 31)) 32 (zZ_3 32)) 33 (zZ_3 33)) 34 (zZ_3 34)) 35 (zZ_3 35)) 36 (zZ_3 36)) 40 (V0)) 41 (V1)) 42 (V2)) 43 (V3)) 44 (V4)) 45 (V5)) 46 (V6)) 100 (ups (P 100) 6 1)))) [0, 1, 2, 3, 4, 5, 6, 7, 8, 9, 10, 11, 12, 13, 14, 15, 16, 17, 18, 19, 20, 21, 22, 23, 24, 25] rfl) (va_recv hK hP (ci := 5) (q0 := 0) rfl rfl) hl.1 rfl (Nat.le_of_ble_eq_true rfl) ⟨Nat.le_of_ble_eq_true rfl, Nat.le_of_ble_eq_true rfl⟩ dX6_bestZero_67 (fun r_9 hr_9 => ?_)
                  have hr_9 : r_9 = zfor (mO P) t u := hr_9
                  subst hr_9
                  refine lv_istore (lv' := [(7, .int (iI (zfor (mO P) t u))), (6, .int (iI u)), (4, .int (iI t)), (3, .int (iI k8)), (2, .int (iI m8)), (1, .int (iI b8)), (0, .ref (a 100)), (5, .int (iI (if 0 < P 1 t then P 0 1 else 0)))]) hx hb dX6_bestZero_70 hl (by decide) rfl (fun ls hl => ?_)
                  refine lv_aload_n hx hb dX6_bestZero_72 rfl (lv_at hl 6 rfl) ?_
                  refine va_get (D := D) (ci := 5) (v := .ref (a 40)) (C := RX6) (T := TX6) (N := 8) hx hb hts hinX6 hown hK hP 0 rfl rfl 5 (by decide) hmw3 (fun _ h9 => h9) rfl dX6_bestZero_73 ?_
                  refine lv_aload_n hx hb dX6_bestZero_76 rfl (lv_at hl 6 rfl) ?_
                  refine va_get (D := D) (ci := 5) (v := .ref (a 0)) (C := RX6) (T := TX6) (N := 8) hx hb hts hinX6 hown hK hP 0 rfl rfl 0 (by decide) hmw1 (fun _ h9 => h9) rfl dX6_bestZero_77 ?_
                  refine lv_aload_n hx hb dX6_bestZero_80 rfl (lv_at hl 6 rfl) ?_
                  refine va_get (D := D) (ci := 5) (v := .ref (a 20)) (C := RX6) (T := TX6) (N := 8) hx hb hts hinX6 hown hK hP 0 rfl rfl 3 (by decide) hmw4 (fun _ h9 => h9) rfl dX6_bestZero_81 ?_
                  refine lv_iload hx hb dX6_bestZero_84 (lv_at hl 0 rfl) ?_
                  have hPc := hP.sub (ws' := (mafgplW cy (fun i => a (cond (Nat.ble 30 i) (i + 10) (cond (Nat.ble 20 i) i i))) (fun i => (upr (upr (upr (upr (upr (upr (upr (upr (upr (upr (upr (upr (upr (upr (upr (upr (upr (upr (upr (upr (upr (upr (upr P 21 (zZ_3 21)) 22 (zZ_3 22)) 23 (zZ_3 23)) 24 (zZ_3 24)) 25 (zZ_3 25)) 26 (zZ_3 26)) 27 (zZ_3 27)) 28 (zZ_3 28)) 30 (zZ_3 30)) 31 (zZ_3 31)) 32 (zZ_3 32)) 33 (zZ_3 33)) 34 (zZ_3 34)) 35 (zZ_3 35)) 36 (zZ_3 36)) 40 (V0)) 41 (V1)) 42 (V2)) 43 (V3)) 44 (V4)) 45 (V5)) 46 (V6)) 100 (ups (P 100) 6 1)) (cond (Nat.ble 30 i) (i + 10) (cond (Nat.ble 20 i) i i))))) [26, 27, 28, 29, 30, 31, 32, 10, 11, 12, 13, 14, 15, 16, 17, 18, 1, 2, 3, 4, 5, 6, 7, 8, 9] rfl
                  have hDc := hD.sub (ws' := (mafgplW cy (fun i => a (cond (Nat.ble 30 i) (i + 10) (cond (Nat.ble 20 i) i i))) (fun i => (upr (upr (upr (upr (upr (upr (upr (upr (upr (upr (upr (upr (upr (upr (upr (upr (upr (upr (upr (upr (upr (upr (upr P 21 (zZ_3 21)) 22 (zZ_3 22)) 23 (zZ_3 23)) 24 (zZ_3 24)) 25 (zZ_3 25)) 26 (zZ_3 26)) 27 (zZ_3 27)) 28 (zZ_3 28)) 30 (zZ_3 30)) 31 (zZ_3 31)) 32 (zZ_3 32)) 33 (zZ_3 33)) 34 (zZ_3 34)) 35 (zZ_3 35)) 36 (zZ_3 36)) 40 (V0)) 41 (V1)) 42 (V2)) 43 (V3)) 44 (V4)) 45 (V5)) 46 (V6)) 100 (ups (P 100) 6 1)) (cond (Nat.ble 30 i) (i + 10) (cond (Nat.ble 20 i) i i))))) [26, 27, 28, 29, 30, 31, 32, 10, 11, 12, 13, 14, 15, 16, 17, 18, 1, 2, 3, 4, 5, 6, 7, 8, 9] (by decide) rfl
                  have hFc := va_free (wc := (mafgplW cy (fun i => a (cond (Nat.ble 30 i) (i + 10) (cond (Nat.ble 20 i) i i))) (fun i => (upr (upr (upr (upr (upr (upr (upr (upr (upr (upr (upr (upr (upr (upr (upr (upr (upr (upr (upr (upr (upr (upr (upr P 21 (zZ_3 21)) 22 (zZ_3 22)) 23 (zZ_3 23)) 24 (zZ_3 24)) 25 (zZ_3 25)) 26 (zZ_3 26)) 27 (zZ_3 27)) 28 (zZ_3 28)) 30 (zZ_3 30)) 31 (zZ_3 31)) 32 (zZ_3 32)) 33 (zZ_3 33)) 34 (zZ_3 34)) 35 (zZ_3 35)) 36 (zZ_3 36)) 40 (V0)) 41 (V1)) 42 (V2)) 43 (V3)) 44 (V4)) 45 (V5)) 46 (V6)) 100 (ups (P 100) 6 1)) (cond (Nat.ble 30 i) (i + 10) (cond (Nat.ble 20 i) i i))))) hD hS hA [26, 27, 28, 29, 30, 31, 32, 10, 11, 12, 13, 14, 15, 16, 17, 18, 1, 2, 3, 4, 5, 6, 7, 8, 9] rfl
                  refine k_muv (k_runV (As := [.ref (a 0), .ref (a 20), .int (iI (zfor (mO P) t u))]) (rest := []) ⟨hx, hb, hml, hown, hts⟩ (c_X3_pairUp l D cy H.size (fun i => a (cond (Nat.ble 30 i) (i + 10) (cond (Nat.ble 20 i) i i))) (fun i => (upr (upr (upr (upr (upr (upr (upr (upr (upr (upr (upr (upr (upr (upr (upr (upr (upr (upr (upr (upr (upr (upr (upr P 21 (zZ_3 21)) 22 (zZ_3 22)) 23 (zZ_3 23)) 24 (zZ_3 24)) 25 (zZ_3 25)) 26 (zZ_3 26)) 27 (zZ_3 27)) 28 (zZ_3 28)) 30 (zZ_3 30)) 31 (zZ_3 31)) 32 (zZ_3 32)) 33 (zZ_3 33)) 34 (zZ_3 34)) 35 (zZ_3 35)) 36 (zZ_3 36)) 40 (V0)) 41 (V1)) 42 (V2)) 43 (V3)) 44 (V4)) 45 (V5)) 46 (V6)) 100 (ups (P 100) 6 1)) (cond (Nat.ble 30 i) (i + 10) (cond (Nat.ble 20 i) i i))) (zfor (mO P) t u) hI (show 0 ≤ (zfor (mO P) t u) ∧ (zfor (mO P) t u) ≤ 359999 by omega) (show figOK (mO P) (fun i => (upr (upr (upr (upr (upr (upr (upr (upr (upr (upr (upr (upr (upr (upr (upr (upr (upr (upr (upr (upr (upr (upr (upr P 21 (zZ_3 21)) 22 (zZ_3 22)) 23 (zZ_3 23)) 24 (zZ_3 24)) 25 (zZ_3 25)) 26 (zZ_3 26)) 27 (zZ_3 27)) 28 (zZ_3 28)) 30 (zZ_3 30)) 31 (zZ_3 31)) 32 (zZ_3 32)) 33 (zZ_3 33)) 34 (zZ_3 34)) 35 (zZ_3 35)) 36 (zZ_3 36)) 40 (V0)) 41 (V1)) 42 (V2)) 43 (V3)) 44 (V4)) 45 (V5)) 46 (V6)) 100 (ups (P 100) 6 1)) (cond (Nat.ble 30 i) (i + 10) (cond (Nat.ble 20 i) i i))) ((P 0) 0) from hfk.1)) gX6_bestZero_X3_pairUp rfl ⟨rfl, rfl⟩ 3 rfl (by decide +kernel) ⟨Nat.le_of_ble_eq_true rfl, Nat.le_of_ble_eq_true rfl⟩ (GG_ok D cy) hG hS hFc hPc hDc (va_recv hK hP (ci := 2) (q0 := 26) rfl rfl) hl.1 rfl (Nat.le_of_ble_eq_true rfl) ⟨Nat.le_of_ble_eq_true rfl, Nat.le_of_ble_eq_true rfl⟩ dX6_bestZero_86) hFc hS (fun R_11 H1 locs1 hR_11 hP1 hD1 hS1 hk1 => ?_)
                  have hR_11 : ∃ (zn : Int) (zs : Int → Int) (zt : Int → Int) (zc : Int → Int) (zp : Int → Int) (zq : Int → Int) (zr : Int → Int), (maOK (mO P) (zfor (mO P) t u) zs zt zc) ∧ (R_11 = (upr (upr (upr (upr (upr (upr (upr (fun i => (upr (upr (upr (upr (upr (upr (upr (upr (upr (upr (upr (upr (upr (upr (upr (upr (upr (upr (upr (upr (upr (upr (upr P 21 (zZ_3 21)) 22 (zZ_3 22)) 23 (zZ_3 23)) 24 (zZ_3 24)) 25 (zZ_3 25)) 26 (zZ_3 26)) 27 (zZ_3 27)) 28 (zZ_3 28)) 30 (zZ_3 30)) 31 (zZ_3 31)) 32 (zZ_3 32)) 33 (zZ_3 33)) 34 (zZ_3 34)) 35 (zZ_3 35)) 36 (zZ_3 36)) 40 (V0)) 41 (V1)) 42 (V2)) 43 (V3)) 44 (V4)) 45 (V5)) 46 (V6)) 100 (ups (P 100) 6 1)) (cond (Nat.ble 30 i) (i + 10) (cond (Nat.ble 20 i) i i))) 30 (ups (ups (ups (V0) 8 zn) 3 (mat (mO P) (zfor (mO P) t u)).2.2.1) 4 (mat (mO P) (zfor (mO P) t u)).2.2.2)) 31 (zs)) 32 (zt)) 33 (zc)) 34 (zp)) 35 (zq)) 36 (zr))) := hR_11
                  obtain ⟨zn_12, zs_13, zt_14, zc_15, zp_16, zq_17, zr_18, hf_19, hR_11⟩ := hR_11
                  have hf_19 : maOK (mO P) (zfor (mO P) t u) zs_13 zt_14 zc_15 := hf_19
                  subst hR_11
                  have hDn : va_D (va_A (obzW cy a P) sz) (obzW cy a (upr (upr (upr (upr (upr (upr (upr (upr (upr (upr (upr (upr (upr (upr (upr (upr (upr (upr (upr (upr (upr (upr (upr P 21 (zZ_3 21)) 22 (zZ_3 22)) 23 (zZ_3 23)) 24 (zZ_3 24)) 25 (zZ_3 25)) 26 (zZ_3 26)) 27 (zZ_3 27)) 28 (zZ_3 28)) 30 (zZ_3 30)) 31 (zZ_3 31)) 32 (zZ_3 32)) 33 (zZ_3 33)) 34 (zZ_3 34)) 35 (zZ_3 35)) 36 (zZ_3 36)) 40 (ups (ups (ups (V0) 8 zn_12) 3 (mat (mO P) (zfor (mO P) t u)).2.2.1) 4 (mat (mO P) (zfor (mO P) t u)).2.2.2)) 41 (zs_13)) 42 (zt_14)) 43 (zc_15)) 44 (zp_16)) 45 (zq_17)) 46 (zr_18)) 100 (ups (P 100) 6 1))) := k_addr hD rfl
                  have hPn := k_join (ws' := (obzW cy a (upr (upr (upr (upr (upr (upr (upr (upr (upr (upr (upr (upr (upr (upr (upr (upr (upr (upr (upr (upr (upr (upr (upr P 21 (zZ_3 21)) 22 (zZ_3 22)) 23 (zZ_3 23)) 24 (zZ_3 24)) 25 (zZ_3 25)) 26 (zZ_3 26)) 27 (zZ_3 27)) 28 (zZ_3 28)) 30 (zZ_3 30)) 31 (zZ_3 31)) 32 (zZ_3 32)) 33 (zZ_3 33)) 34 (zZ_3 34)) 35 (zZ_3 35)) 36 (zZ_3 36)) 40 (ups (ups (ups (V0) 8 zn_12) 3 (mat (mO P) (zfor (mO P) t u)).2.2.1) 4 (mat (mO P) (zfor (mO P) t u)).2.2.2)) 41 (zs_13)) 42 (zt_14)) 43 (zc_15)) 44 (zp_16)) 45 (zq_17)) 46 (zr_18)) 100 (ups (P 100) 6 1)))) hP hD [26, 27, 28, 29, 30, 31, 32, 10, 11, 12, 13, 14, 15, 16, 17, 18, 1, 2, 3, 4, 5, 6, 7, 8, 9] [none, some 16, some 17, some 18, some 19, some 20, some 21, some 22, some 23, some 24, some 7, some 8, some 9, some 10, some 11, some 12, some 13, some 14, some 15, none, none, none, none, none, none, none, some 0, some 1, some 2, some 3, some 4, some 5, some 6] rfl hk1 hP1 rfl rfl
                  clear hP hD hS hP1 hD1 hk1
                  have hP := hPn
                  have hD := hDn
                  have hS := hS1
                  clear hPn hDn hS1
                  generalize H1 = H at hP hS ⊢
                  generalize locs1 = locs at hS ⊢
                  refine lv_iload_n hx hb dX6_bestZero_89 rfl (lv_at hl 5 rfl) ?_
                  refine k_ldc (z := (-1000000000)) hx hb hown hmw0 (by decide +kernel) dX6_bestZero_90 ?_
                  refine k_icmp_eq (tgt := 145) hx hb dX6_bestZero_92 (by decide) (by omega) (by omega) (fun c_20 => ?_) (fun c_20 => ?_)
                  · skip
                    refine lv_iload hx hb dX6_bestZero_145 (lv_at hl 0 rfl) ?_
                    refine lv_istore_n (lv' := [(1, .int (iI (zfor (mO P) t u))), (7, .int (iI (zfor (mO P) t u))), (6, .int (iI u)), (4, .int (iI t)), (3, .int (iI k8)), (2, .int (iI m8)), (0, .ref (a 100)), (5, .int (iI (if 0 < P 1 t then P 0 1 else 0)))]) hx hb dX6_bestZero_147 rfl hl (by decide) rfl (fun ls hl => ?_)
                    refine lv_aload_n hx hb dX6_bestZero_148 rfl (lv_at hl 6 rfl) ?_
                    refine va_get (D := D) (ci := 5) (v := .ref (a 40)) (C := RX6) (T := TX6) (N := 8) hx hb hts hinX6 hown hK hP 0 rfl rfl 5 (by decide) hmw3 (fun _ h9 => h9) rfl dX6_bestZero_149 ?_
                    refine va_get (D := D) (ci := 2) (v := .int (iI ((mat (mO P) (zfor (mO P) t u)).2.2.1))) (C := RX3) (T := TX3) (N := 9) hx hb hts hinX3 hown hK hP 26 rfl rfl 3 (by decide) hmw5 (fun _ h9 => h9) rfl dX6_bestZero_152 ?_
                    refine lv_istore_n (lv' := [(2, .int (iI ((mat (mO P) (zfor (mO P) t u)).2.2.1))), (1, .int (iI (zfor (mO P) t u))), (7, .int (iI (zfor (mO P) t u))), (6, .int (iI u)), (4, .int (iI t)), (3, .int (iI k8)), (0, .ref (a 100)), (5, .int (iI (if 0 < P 1 t then P 0 1 else 0)))]) hx hb dX6_bestZero_155 rfl hl (by decide) rfl (fun ls hl => ?_)
                    refine lv_aload_n hx hb dX6_bestZero_156 rfl (lv_at hl 6 rfl) ?_
                    refine va_get (D := D) (ci := 5) (v := .ref (a 40)) (C := RX6) (T := TX6) (N := 8) hx hb hts hinX6 hown hK hP 0 rfl rfl 5 (by decide) hmw3 (fun _ h9 => h9) rfl dX6_bestZero_157 ?_
                    refine va_get (D := D) (ci := 2) (v := .int (iI ((mat (mO P) (zfor (mO P) t u)).2.2.2))) (C := RX3) (T := TX3) (N := 9) hx hb hts hinX3 hown hK hP 26 rfl rfl 4 (by decide) hmw6 (fun _ h9 => h9) rfl dX6_bestZero_160 ?_
                    refine lv_istore_n (lv' := [(3, .int (iI ((mat (mO P) (zfor (mO P) t u)).2.2.2))), (2, .int (iI ((mat (mO P) (zfor (mO P) t u)).2.2.1))), (1, .int (iI (zfor (mO P) t u))), (7, .int (iI (zfor (mO P) t u))), (6, .int (iI u)), (4, .int (iI t)), (0, .ref (a 100)), (5, .int (iI (if 0 < P 1 t then P 0 1 else 0)))]) hx hb dX6_bestZero_163 rfl hl (by decide) rfl (fun ls hl => ?_)
                    refine lv_iinc (v := iI (u + 1)) (lv' := [(6, .int (iI (u + 1))), (3, .int (iI ((mat (mO P) (zfor (mO P) t u)).2.2.2))), (2, .int (iI ((mat (mO P) (zfor (mO P) t u)).2.2.1))), (1, .int (iI (zfor (mO P) t u))), (7, .int (iI (zfor (mO P) t u))), (4, .int (iI t)), (0, .ref (a 100)), (5, .int (iI (if 0 < P 1 t then P 0 1 else 0)))]) hx hb dX6_bestZero_164 hl (k := 4) rfl (iI_add _ _) (by decide) rfl (fun ls hl => ?_)
                    refine lv_goto (tgt := 55) hx hb dX6_bestZero_167 (by decide) ?_
                    exact ih55 (u + 1) (zfor (mO P) t u) ((mat (mO P) (zfor (mO P) t u)).2.2.1) ((mat (mO P) (zfor (mO P) t u)).2.2.2) (ups (ups (ups (V0) 8 zn_12) 3 (mat (mO P) (zfor (mO P) t u)).2.2.1) 4 (mat (mO P) (zfor (mO P) t u)).2.2.2) zs_13 zt_14 zc_15 zp_16 zq_17 zr_18  (by omega) (by rw [if_pos hpz]; omega) (by first | exact hgo.trans (bzN_y rfl rfl (by omega)) | exact hgo.trans (bzN_n rfl rfl (by omega))) (by omega) (by omega) H locs (by rw [show (ups (ups (ups (V0) 8 zn_12) 3 (mat (mO P) (zfor (mO P) t u)).2.2.1) 4 (mat (mO P) (zfor (mO P) t u)).2.2.2) = (ups (ups (ups (V0) 8 zn_12) 3 (mat (mO P) (zfor (mO P) t u)).2.2.1) 4 (mat (mO P) (zfor (mO P) t u)).2.2.2) from by first | rfl | exact (ups_ups _ _ _ _).symm]; exact hP) (k_addr hD rfl) hS ls (lv_sub hl [0, 5, 1, 2, 3, 6, 7] rfl)
                  · skip
                    refine lv_aload_n hx hb dX6_bestZero_95 rfl (lv_at hl 6 rfl) ?_
                    refine va_get (D := D) (ci := 5) (v := .ref (a 40)) (C := RX6) (T := TX6) (N := 8) hx hb hts hinX6 hown hK hP 0 rfl rfl 5 (by decide) hmw3 (fun _ h9 => h9) rfl dX6_bestZero_96 ?_
                    refine va_get (D := D) (ci := 2) (v := .int (iI ((mat (mO P) (zfor (mO P) t u)).2.2.1))) (C := RX3) (T := TX3) (N := 9) hx hb hts hinX3 hown hK hP 26 rfl rfl 3 (by decide) hmw5 (fun _ h9 => h9) rfl dX6_bestZero_99 ?_
                    refine lv_iload_n hx hb dX6_bestZero_102 rfl (lv_at hl 4 rfl) ?_
                    refine k_icmp_gt (tgt := 145) hx hb dX6_bestZero_103 (by decide) (by omega) (by omega) (fun c_21 => ?_) (fun c_21 => ?_)
                    · skip
                      refine lv_iload hx hb dX6_bestZero_145 (lv_at hl 0 rfl) ?_
                      refine lv_istore_n (lv' := [(1, .int (iI (zfor (mO P) t u))), (7, .int (iI (zfor (mO P) t u))), (6, .int (iI u)), (4, .int (iI t)), (3, .int (iI k8)), (2, .int (iI m8)), (0, .ref (a 100)), (5, .int (iI (if 0 < P 1 t then P 0 1 else 0)))]) hx hb dX6_bestZero_147 rfl hl (by decide) rfl (fun ls hl => ?_)
                      refine lv_aload_n hx hb dX6_bestZero_148 rfl (lv_at hl 6 rfl) ?_
                      refine va_get (D := D) (ci := 5) (v := .ref (a 40)) (C := RX6) (T := TX6) (N := 8) hx hb hts hinX6 hown hK hP 0 rfl rfl 5 (by decide) hmw3 (fun _ h9 => h9) rfl dX6_bestZero_149 ?_
                      refine va_get (D := D) (ci := 2) (v := .int (iI ((mat (mO P) (zfor (mO P) t u)).2.2.1))) (C := RX3) (T := TX3) (N := 9) hx hb hts hinX3 hown hK hP 26 rfl rfl 3 (by decide) hmw5 (fun _ h9 => h9) rfl dX6_bestZero_152 ?_
                      refine lv_istore_n (lv' := [(2, .int (iI ((mat (mO P) (zfor (mO P) t u)).2.2.1))), (1, .int (iI (zfor (mO P) t u))), (7, .int (iI (zfor (mO P) t u))), (6, .int (iI u)), (4, .int (iI t)), (3, .int (iI k8)), (0, .ref (a 100)), (5, .int (iI (if 0 < P 1 t then P 0 1 else 0)))]) hx hb dX6_bestZero_155 rfl hl (by decide) rfl (fun ls hl => ?_)
                      refine lv_aload_n hx hb dX6_bestZero_156 rfl (lv_at hl 6 rfl) ?_
                      refine va_get (D := D) (ci := 5) (v := .ref (a 40)) (C := RX6) (T := TX6) (N := 8) hx hb hts hinX6 hown hK hP 0 rfl rfl 5 (by decide) hmw3 (fun _ h9 => h9) rfl dX6_bestZero_157 ?_
                      refine va_get (D := D) (ci := 2) (v := .int (iI ((mat (mO P) (zfor (mO P) t u)).2.2.2))) (C := RX3) (T := TX3) (N := 9) hx hb hts hinX3 hown hK hP 26 rfl rfl 4 (by decide) hmw6 (fun _ h9 => h9) rfl dX6_bestZero_160 ?_
                      refine lv_istore_n (lv' := [(3, .int (iI ((mat (mO P) (zfor (mO P) t u)).2.2.2))), (2, .int (iI ((mat (mO P) (zfor (mO P) t u)).2.2.1))), (1, .int (iI (zfor (mO P) t u))), (7, .int (iI (zfor (mO P) t u))), (6, .int (iI u)), (4, .int (iI t)), (0, .ref (a 100)), (5, .int (iI (if 0 < P 1 t then P 0 1 else 0)))]) hx hb dX6_bestZero_163 rfl hl (by decide) rfl (fun ls hl => ?_)
                      refine lv_iinc (v := iI (u + 1)) (lv' := [(6, .int (iI (u + 1))), (3, .int (iI ((mat (mO P) (zfor (mO P) t u)).2.2.2))), (2, .int (iI ((mat (mO P) (zfor (mO P) t u)).2.2.1))), (1, .int (iI (zfor (mO P) t u))), (7, .int (iI (zfor (mO P) t u))), (4, .int (iI t)), (0, .ref (a 100)), (5, .int (iI (if 0 < P 1 t then P 0 1 else 0)))]) hx hb dX6_bestZero_164 hl (k := 4) rfl (iI_add _ _) (by decide) rfl (fun ls hl => ?_)
                      refine lv_goto (tgt := 55) hx hb dX6_bestZero_167 (by decide) ?_
                      exact ih55 (u + 1) (zfor (mO P) t u) ((mat (mO P) (zfor (mO P) t u)).2.2.1) ((mat (mO P) (zfor (mO P) t u)).2.2.2) (ups (ups (ups (V0) 8 zn_12) 3 (mat (mO P) (zfor (mO P) t u)).2.2.1) 4 (mat (mO P) (zfor (mO P) t u)).2.2.2) zs_13 zt_14 zc_15 zp_16 zq_17 zr_18  (by omega) (by rw [if_pos hpz]; omega) (by first | exact hgo.trans (bzN_y rfl rfl (by omega)) | exact hgo.trans (bzN_n rfl rfl (by omega))) (by omega) (by omega) H locs (by rw [show (ups (ups (ups (V0) 8 zn_12) 3 (mat (mO P) (zfor (mO P) t u)).2.2.1) 4 (mat (mO P) (zfor (mO P) t u)).2.2.2) = (ups (ups (ups (V0) 8 zn_12) 3 (mat (mO P) (zfor (mO P) t u)).2.2.1) 4 (mat (mO P) (zfor (mO P) t u)).2.2.2) from by first | rfl | exact (ups_ups _ _ _ _).symm]; exact hP) (k_addr hD rfl) hS ls (lv_sub hl [0, 5, 1, 2, 3, 6, 7] rfl)
                    · skip
                      refine lv_aload_n hx hb dX6_bestZero_106 rfl (lv_at hl 6 rfl) ?_
                      refine va_get (D := D) (ci := 5) (v := .ref (a 40)) (C := RX6) (T := TX6) (N := 8) hx hb hts hinX6 hown hK hP 0 rfl rfl 5 (by decide) hmw3 (fun _ h9 => h9) rfl dX6_bestZero_107 ?_
                      refine va_get (D := D) (ci := 2) (v := .int (iI ((mat (mO P) (zfor (mO P) t u)).2.2.1))) (C := RX3) (T := TX3) (N := 9) hx hb hts hinX3 hown hK hP 26 rfl rfl 3 (by decide) hmw5 (fun _ h9 => h9) rfl dX6_bestZero_110 ?_
                      refine lv_iload_n hx hb dX6_bestZero_113 rfl (lv_at hl 4 rfl) ?_
                      refine k_icmp_ne (tgt := 164) hx hb dX6_bestZero_114 (by decide) (by omega) (by omega) (fun c_22 => ?_) (fun c_22 => ?_)
                      · skip
                        refine lv_iinc (v := iI (u + 1)) (lv' := [(6, .int (iI (u + 1))), (7, .int (iI (zfor (mO P) t u))), (4, .int (iI t)), (3, .int (iI k8)), (2, .int (iI m8)), (1, .int (iI b8)), (0, .ref (a 100)), (5, .int (iI (if 0 < P 1 t then P 0 1 else 0)))]) hx hb dX6_bestZero_164 hl (k := 1) rfl (iI_add _ _) (by decide) rfl (fun ls hl => ?_)
                        refine lv_goto (tgt := 55) hx hb dX6_bestZero_167 (by decide) ?_
                        exact ih55 (u + 1) b8 m8 k8 (ups (ups (ups (V0) 8 zn_12) 3 (mat (mO P) (zfor (mO P) t u)).2.2.1) 4 (mat (mO P) (zfor (mO P) t u)).2.2.2) zs_13 zt_14 zc_15 zp_16 zq_17 zr_18  (by omega) (by rw [if_pos hpz]; omega) (by first | exact hgo.trans (bzN_y rfl rfl (by omega)) | exact hgo.trans (bzN_n rfl rfl (by omega))) (by omega) (by omega) H locs (by rw [show (ups (ups (ups (V0) 8 zn_12) 3 (mat (mO P) (zfor (mO P) t u)).2.2.1) 4 (mat (mO P) (zfor (mO P) t u)).2.2.2) = (ups (ups (ups (V0) 8 zn_12) 3 (mat (mO P) (zfor (mO P) t u)).2.2.1) 4 (mat (mO P) (zfor (mO P) t u)).2.2.2) from by first | rfl | exact (ups_ups _ _ _ _).symm]; exact hP) (k_addr hD rfl) hS ls (lv_sub hl [0, 2, 3, 4, 5, 6, 7] rfl)
                      · skip
                        refine lv_aload_n hx hb dX6_bestZero_117 rfl (lv_at hl 6 rfl) ?_
                        refine va_get (D := D) (ci := 5) (v := .ref (a 40)) (C := RX6) (T := TX6) (N := 8) hx hb hts hinX6 hown hK hP 0 rfl rfl 5 (by decide) hmw3 (fun _ h9 => h9) rfl dX6_bestZero_118 ?_
                        refine va_get (D := D) (ci := 2) (v := .int (iI ((mat (mO P) (zfor (mO P) t u)).2.2.2))) (C := RX3) (T := TX3) (N := 9) hx hb hts hinX3 hown hK hP 26 rfl rfl 4 (by decide) hmw6 (fun _ h9 => h9) rfl dX6_bestZero_121 ?_
                        refine lv_iload_n hx hb dX6_bestZero_124 rfl (lv_at hl 3 rfl) ?_
                        refine k_icmp_lt (tgt := 145) hx hb dX6_bestZero_125 (by decide) (by omega) (by omega) (fun c_23 => ?_) (fun c_23 => ?_)
                        · skip
                          refine lv_iload hx hb dX6_bestZero_145 (lv_at hl 0 rfl) ?_
                          refine lv_istore_n (lv' := [(1, .int (iI (zfor (mO P) t u))), (7, .int (iI (zfor (mO P) t u))), (6, .int (iI u)), (4, .int (iI t)), (3, .int (iI k8)), (2, .int (iI m8)), (0, .ref (a 100)), (5, .int (iI (if 0 < P 1 t then P 0 1 else 0)))]) hx hb dX6_bestZero_147 rfl hl (by decide) rfl (fun ls hl => ?_)
                          refine lv_aload_n hx hb dX6_bestZero_148 rfl (lv_at hl 6 rfl) ?_
                          refine va_get (D := D) (ci := 5) (v := .ref (a 40)) (C := RX6) (T := TX6) (N := 8) hx hb hts hinX6 hown hK hP 0 rfl rfl 5 (by decide) hmw3 (fun _ h9 => h9) rfl dX6_bestZero_149 ?_
                          refine va_get (D := D) (ci := 2) (v := .int (iI ((mat (mO P) (zfor (mO P) t u)).2.2.1))) (C := RX3) (T := TX3) (N := 9) hx hb hts hinX3 hown hK hP 26 rfl rfl 3 (by decide) hmw5 (fun _ h9 => h9) rfl dX6_bestZero_152 ?_
                          refine lv_istore_n (lv' := [(2, .int (iI ((mat (mO P) (zfor (mO P) t u)).2.2.1))), (1, .int (iI (zfor (mO P) t u))), (7, .int (iI (zfor (mO P) t u))), (6, .int (iI u)), (4, .int (iI t)), (3, .int (iI k8)), (0, .ref (a 100)), (5, .int (iI (if 0 < P 1 t then P 0 1 else 0)))]) hx hb dX6_bestZero_155 rfl hl (by decide) rfl (fun ls hl => ?_)
                          refine lv_aload_n hx hb dX6_bestZero_156 rfl (lv_at hl 6 rfl) ?_
                          refine va_get (D := D) (ci := 5) (v := .ref (a 40)) (C := RX6) (T := TX6) (N := 8) hx hb hts hinX6 hown hK hP 0 rfl rfl 5 (by decide) hmw3 (fun _ h9 => h9) rfl dX6_bestZero_157 ?_
                          refine va_get (D := D) (ci := 2) (v := .int (iI ((mat (mO P) (zfor (mO P) t u)).2.2.2))) (C := RX3) (T := TX3) (N := 9) hx hb hts hinX3 hown hK hP 26 rfl rfl 4 (by decide) hmw6 (fun _ h9 => h9) rfl dX6_bestZero_160 ?_
                          refine lv_istore_n (lv' := [(3, .int (iI ((mat (mO P) (zfor (mO P) t u)).2.2.2))), (2, .int (iI ((mat (mO P) (zfor (mO P) t u)).2.2.1))), (1, .int (iI (zfor (mO P) t u))), (7, .int (iI (zfor (mO P) t u))), (6, .int (iI u)), (4, .int (iI t)), (0, .ref (a 100)), (5, .int (iI (if 0 < P 1 t then P 0 1 else 0)))]) hx hb dX6_bestZero_163 rfl hl (by decide) rfl (fun ls hl => ?_)
                          refine lv_iinc (v := iI (u + 1)) (lv' := [(6, .int (iI (u + 1))), (3, .int (iI ((mat (mO P) (zfor (mO P) t u)).2.2.2))), (2, .int (iI ((mat (mO P) (zfor (mO P) t u)).2.2.1))), (1, .int (iI (zfor (mO P) t u))), (7, .int (iI (zfor (mO P) t u))), (4, .int (iI t)), (0, .ref (a 100)), (5, .int (iI (if 0 < P 1 t then P 0 1 else 0)))]) hx hb dX6_bestZero_164 hl (k := 4) rfl (iI_add _ _) (by decide) rfl (fun ls hl => ?_)
                          refine lv_goto (tgt := 55) hx hb dX6_bestZero_167 (by decide) ?_
                          exact ih55 (u + 1) (zfor (mO P) t u) ((mat (mO P) (zfor (mO P) t u)).2.2.1) ((mat (mO P) (zfor (mO P) t u)).2.2.2) (ups (ups (ups (V0) 8 zn_12) 3 (mat (mO P) (zfor (mO P) t u)).2.2.1) 4 (mat (mO P) (zfor (mO P) t u)).2.2.2) zs_13 zt_14 zc_15 zp_16 zq_17 zr_18  (by omega) (by rw [if_pos hpz]; omega) (by first | exact hgo.trans (bzN_y rfl rfl (by omega)) | exact hgo.trans (bzN_n rfl rfl (by omega))) (by omega) (by omega) H locs (by rw [show (ups (ups (ups (V0) 8 zn_12) 3 (mat (mO P) (zfor (mO P) t u)).2.2.1) 4 (mat (mO P) (zfor (mO P) t u)).2.2.2) = (ups (ups (ups (V0) 8 zn_12) 3 (mat (mO P) (zfor (mO P) t u)).2.2.1) 4 (mat (mO P) (zfor (mO P) t u)).2.2.2) from by first | rfl | exact (ups_ups _ _ _ _).symm]; exact hP) (k_addr hD rfl) hS ls (lv_sub hl [0, 5, 1, 2, 3, 6, 7] rfl)
                        · skip
                          refine lv_aload_n hx hb dX6_bestZero_128 rfl (lv_at hl 6 rfl) ?_
                          refine va_get (D := D) (ci := 5) (v := .ref (a 40)) (C := RX6) (T := TX6) (N := 8) hx hb hts hinX6 hown hK hP 0 rfl rfl 5 (by decide) hmw3 (fun _ h9 => h9) rfl dX6_bestZero_129 ?_
                          refine va_get (D := D) (ci := 2) (v := .int (iI ((mat (mO P) (zfor (mO P) t u)).2.2.2))) (C := RX3) (T := TX3) (N := 9) hx hb hts hinX3 hown hK hP 26 rfl rfl 4 (by decide) hmw6 (fun _ h9 => h9) rfl dX6_bestZero_132 ?_
                          refine lv_iload_n hx hb dX6_bestZero_135 rfl (lv_at hl 3 rfl) ?_
                          refine k_icmp_ne (tgt := 164) hx hb dX6_bestZero_136 (by decide) (by omega) (by omega) (fun c_24 => ?_) (fun c_24 => ?_)
                          · skip
                            refine lv_iinc (v := iI (u + 1)) (lv' := [(6, .int (iI (u + 1))), (7, .int (iI (zfor (mO P) t u))), (4, .int (iI t)), (3, .int (iI k8)), (2, .int (iI m8)), (1, .int (iI b8)), (0, .ref (a 100)), (5, .int (iI (if 0 < P 1 t then P 0 1 else 0)))]) hx hb dX6_bestZero_164 hl (k := 1) rfl (iI_add _ _) (by decide) rfl (fun ls hl => ?_)
                            refine lv_goto (tgt := 55) hx hb dX6_bestZero_167 (by decide) ?_
                            exact ih55 (u + 1) b8 m8 k8 (ups (ups (ups (V0) 8 zn_12) 3 (mat (mO P) (zfor (mO P) t u)).2.2.1) 4 (mat (mO P) (zfor (mO P) t u)).2.2.2) zs_13 zt_14 zc_15 zp_16 zq_17 zr_18  (by omega) (by rw [if_pos hpz]; omega) (by first | exact hgo.trans (bzN_y rfl rfl (by omega)) | exact hgo.trans (bzN_n rfl rfl (by omega))) (by omega) (by omega) H locs (by rw [show (ups (ups (ups (V0) 8 zn_12) 3 (mat (mO P) (zfor (mO P) t u)).2.2.1) 4 (mat (mO P) (zfor (mO P) t u)).2.2.2) = (ups (ups (ups (V0) 8 zn_12) 3 (mat (mO P) (zfor (mO P) t u)).2.2.1) 4 (mat (mO P) (zfor (mO P) t u)).2.2.2) from by first | rfl | exact (ups_ups _ _ _ _).symm]; exact hP) (k_addr hD rfl) hS ls (lv_sub hl [0, 2, 3, 4, 5, 6, 7] rfl)
                          · skip
                            refine lv_iload hx hb dX6_bestZero_139 (lv_at hl 0 rfl) ?_
                            refine lv_iload_n hx hb dX6_bestZero_141 rfl (lv_at hl 5 rfl) ?_
                            refine k_icmp_ge (tgt := 164) hx hb dX6_bestZero_142 (by decide) (by omega) (by omega) (fun c_25 => ?_) (fun c_25 => ?_)
                            · skip
                              refine lv_iinc (v := iI (u + 1)) (lv' := [(6, .int (iI (u + 1))), (7, .int (iI (zfor (mO P) t u))), (4, .int (iI t)), (3, .int (iI k8)), (2, .int (iI m8)), (1, .int (iI b8)), (0, .ref (a 100)), (5, .int (iI (if 0 < P 1 t then P 0 1 else 0)))]) hx hb dX6_bestZero_164 hl (k := 1) rfl (iI_add _ _) (by decide) rfl (fun ls hl => ?_)
                              refine lv_goto (tgt := 55) hx hb dX6_bestZero_167 (by decide) ?_
                              exact ih55 (u + 1) b8 m8 k8 (ups (ups (ups (V0) 8 zn_12) 3 (mat (mO P) (zfor (mO P) t u)).2.2.1) 4 (mat (mO P) (zfor (mO P) t u)).2.2.2) zs_13 zt_14 zc_15 zp_16 zq_17 zr_18  (by omega) (by rw [if_pos hpz]; omega) (by first | exact hgo.trans (bzN_y rfl rfl (by omega)) | exact hgo.trans (bzN_n rfl rfl (by omega))) (by omega) (by omega) H locs (by rw [show (ups (ups (ups (V0) 8 zn_12) 3 (mat (mO P) (zfor (mO P) t u)).2.2.1) 4 (mat (mO P) (zfor (mO P) t u)).2.2.2) = (ups (ups (ups (V0) 8 zn_12) 3 (mat (mO P) (zfor (mO P) t u)).2.2.1) 4 (mat (mO P) (zfor (mO P) t u)).2.2.2) from by first | rfl | exact (ups_ups _ _ _ _).symm]; exact hP) (k_addr hD rfl) hS ls (lv_sub hl [0, 2, 3, 4, 5, 6, 7] rfl)
                            · skip
                              refine lv_iload hx hb dX6_bestZero_145 (lv_at hl 0 rfl) ?_
                              refine lv_istore_n (lv' := [(1, .int (iI (zfor (mO P) t u))), (7, .int (iI (zfor (mO P) t u))), (6, .int (iI u)), (4, .int (iI t)), (3, .int (iI k8)), (2, .int (iI m8)), (0, .ref (a 100)), (5, .int (iI (if 0 < P 1 t then P 0 1 else 0)))]) hx hb dX6_bestZero_147 rfl hl (by decide) rfl (fun ls hl => ?_)
                              refine lv_aload_n hx hb dX6_bestZero_148 rfl (lv_at hl 6 rfl) ?_
                              refine va_get (D := D) (ci := 5) (v := .ref (a 40)) (C := RX6) (T := TX6) (N := 8) hx hb hts hinX6 hown hK hP 0 rfl rfl 5 (by decide) hmw3 (fun _ h9 => h9) rfl dX6_bestZero_149 ?_
                              refine va_get (D := D) (ci := 2) (v := .int (iI ((mat (mO P) (zfor (mO P) t u)).2.2.1))) (C := RX3) (T := TX3) (N := 9) hx hb hts hinX3 hown hK hP 26 rfl rfl 3 (by decide) hmw5 (fun _ h9 => h9) rfl dX6_bestZero_152 ?_
                              refine lv_istore_n (lv' := [(2, .int (iI ((mat (mO P) (zfor (mO P) t u)).2.2.1))), (1, .int (iI (zfor (mO P) t u))), (7, .int (iI (zfor (mO P) t u))), (6, .int (iI u)), (4, .int (iI t)), (3, .int (iI k8)), (0, .ref (a 100)), (5, .int (iI (if 0 < P 1 t then P 0 1 else 0)))]) hx hb dX6_bestZero_155 rfl hl (by decide) rfl (fun ls hl => ?_)
                              refine lv_aload_n hx hb dX6_bestZero_156 rfl (lv_at hl 6 rfl) ?_
                              refine va_get (D := D) (ci := 5) (v := .ref (a 40)) (C := RX6) (T := TX6) (N := 8) hx hb hts hinX6 hown hK hP 0 rfl rfl 5 (by decide) hmw3 (fun _ h9 => h9) rfl dX6_bestZero_157 ?_
                              refine va_get (D := D) (ci := 2) (v := .int (iI ((mat (mO P) (zfor (mO P) t u)).2.2.2))) (C := RX3) (T := TX3) (N := 9) hx hb hts hinX3 hown hK hP 26 rfl rfl 4 (by decide) hmw6 (fun _ h9 => h9) rfl dX6_bestZero_160 ?_
                              refine lv_istore_n (lv' := [(3, .int (iI ((mat (mO P) (zfor (mO P) t u)).2.2.2))), (2, .int (iI ((mat (mO P) (zfor (mO P) t u)).2.2.1))), (1, .int (iI (zfor (mO P) t u))), (7, .int (iI (zfor (mO P) t u))), (6, .int (iI u)), (4, .int (iI t)), (0, .ref (a 100)), (5, .int (iI (if 0 < P 1 t then P 0 1 else 0)))]) hx hb dX6_bestZero_163 rfl hl (by decide) rfl (fun ls hl => ?_)
                              refine lv_iinc (v := iI (u + 1)) (lv' := [(6, .int (iI (u + 1))), (3, .int (iI ((mat (mO P) (zfor (mO P) t u)).2.2.2))), (2, .int (iI ((mat (mO P) (zfor (mO P) t u)).2.2.1))), (1, .int (iI (zfor (mO P) t u))), (7, .int (iI (zfor (mO P) t u))), (4, .int (iI t)), (0, .ref (a 100)), (5, .int (iI (if 0 < P 1 t then P 0 1 else 0)))]) hx hb dX6_bestZero_164 hl (k := 4) rfl (iI_add _ _) (by decide) rfl (fun ls hl => ?_)
                              refine lv_goto (tgt := 55) hx hb dX6_bestZero_167 (by decide) ?_
                              exact ih55 (u + 1) (zfor (mO P) t u) ((mat (mO P) (zfor (mO P) t u)).2.2.1) ((mat (mO P) (zfor (mO P) t u)).2.2.2) (ups (ups (ups (V0) 8 zn_12) 3 (mat (mO P) (zfor (mO P) t u)).2.2.1) 4 (mat (mO P) (zfor (mO P) t u)).2.2.2) zs_13 zt_14 zc_15 zp_16 zq_17 zr_18  (by omega) (by rw [if_pos hpz]; omega) (by first | exact hgo.trans (bzN_y rfl rfl (by omega)) | exact hgo.trans (bzN_n rfl rfl (by omega))) (by omega) (by omega) H locs (by rw [show (ups (ups (ups (V0) 8 zn_12) 3 (mat (mO P) (zfor (mO P) t u)).2.2.1) 4 (mat (mO P) (zfor (mO P) t u)).2.2.2) = (ups (ups (ups (V0) 8 zn_12) 3 (mat (mO P) (zfor (mO P) t u)).2.2.1) 4 (mat (mO P) (zfor (mO P) t u)).2.2.2) from by first | rfl | exact (ups_ups _ _ _ _).symm]; exact hP) (k_addr hD rfl) hS ls (lv_sub hl [0, 5, 1, 2, 3, 6, 7] rfl)
            exact loop55 ((P 0 1 - 0 : Int) + 1).toNat 0 b9 m9 k9 T0 T1 T2 T3 T4 T5 T6  (by omega) (by split <;> omega) (by rw [Int.add_zero]; exact hi2) (by omega) (by omega) H locs (hP) (k_addr hD rfl) hS ls (lv_sub hl [0, 1, 2, 3, 4, 5, 6] rfl)
          refine lv_aload_n hx hb dX6_bestZero_26 rfl (lv_at hl 4 rfl) ?_
          refine va_get (D := D) (ci := 5) (v := .ref (a 0)) (C := RX6) (T := TX6) (N := 8) hx hb hts hinX6 hown hK hP 0 rfl rfl 0 (by decide) hmw1 (fun _ h9 => h9) rfl dX6_bestZero_27 ?_
          refine va_get (D := D) (ci := 3) (v := .ref (a 1)) (C := RX4) (T := TX4) (N := 12) hx hb hts hinX4 hown hK hP 1 rfl rfl 4 (by decide) hmw7 (fun _ h9 => h9) rfl dX6_bestZero_30 ?_
          refine lv_iload hx hb dX6_bestZero_33 (lv_at hl 0 rfl) ?_
          refine k_iald hx hb hK hP 2 0 (f := P 1) rfl rfl (i := t) (by omega) dX6_bestZero_35 ?_
          refine k_if_le (tgt := 49) hx hb dX6_bestZero_36 (by decide) (by omega) (fun c_26 => ?_) (fun c_26 => ?_)
          · skip
            refine k_iconst hx hb dX6_bestZero_49 ?_
            refine lv_istore (lv' := [(5, .int (iI 0)), (4, .int (iI t)), (3, .int (iI k9)), (2, .int (iI m9)), (1, .int (iI b9)), (0, .ref (a 100))]) hx hb dX6_bestZero_50 hl (by decide) rfl (fun ls hl => ?_)
            exact join52  0 (by first | rw [if_pos (by omega)] | rw [if_neg (by omega)])  ls (lv_sub hl [1, 2, 3, 4, 5, 0] rfl)
          · skip
            refine lv_aload_n hx hb dX6_bestZero_39 rfl (lv_at hl 4 rfl) ?_
            refine va_get (D := D) (ci := 5) (v := .ref (a 0)) (C := RX6) (T := TX6) (N := 8) hx hb hts hinX6 hown hK hP 0 rfl rfl 0 (by decide) hmw1 (fun _ h9 => h9) rfl dX6_bestZero_40 ?_
            refine va_get (D := D) (ci := 3) (v := .int (iI (P 0 1))) (C := RX4) (T := TX4) (N := 12) hx hb hts hinX4 hown hK hP 1 rfl rfl 1 (by decide) hmw8 (fun _ h9 => h9) rfl dX6_bestZero_43 ?_
            refine lv_goto (tgt := 50) hx hb dX6_bestZero_46 (by decide) ?_
            refine lv_istore (lv' := [(5, .int (iI (P 0 1))), (4, .int (iI t)), (3, .int (iI k9)), (2, .int (iI m9)), (1, .int (iI b9)), (0, .ref (a 100))]) hx hb dX6_bestZero_50 hl (by decide) rfl (fun ls hl => ?_)
            exact join52  (P 0 1) (by first | rw [if_pos (by omega)] | rw [if_neg (by omega)])  ls (lv_sub hl [1, 2, 3, 4, 5, 0] rfl)
    exact loop14 ((P 0 0 - 0 : Int) + 1).toNat 0 (-1000000000) 0 0 (P 40) (P 41) (P 42) (P 43) (P 44) (P 45) (P 46)  (by omega) (by omega) (by rw [Int.zero_mul]; rfl) (by omega) (by omega) H locs (hP) (k_addr hD rfl) hS ls (lv_sub hl [0, 1, 2, 3, 4] rfl)
  exact hbody s.heap [] hP hS ls hl
set_option maxHeartbeats 4000000 in
set_option maxRecDepth 100000 in
theorem c_X6_hashTrail (l : Launch) (D : va_G) (cy : Nat → ClassId) (sz : Nat) (a : Nat → Nat) (P : Nat → Int → Int) (h9 t : Int) (hI : Inv (mO P)) (hlk : lkd P) (h0 : 0 ≤ t) (h1 : t < P 0 0) : Met l yX6_hashTrail wsX6_hashTrail { frames := 4, cells := 0, slots := 0, locals := 97 } (mPre (GG D cy) D (oblkW cy a P) sz ([.ref (a 100), .long (lI h9), .int (iI t)] : List Value)) (kQl D (oblkW cy a P) sz (fun u9 : Nat → Int → Int => oblkW cy a u9) (fun r9 u9 => r9 = mxT (mO P) (P 31) t h9 ∧ u9 = P)) 0 0 (va_A (oblkW cy a P) sz) := by
  refine kM_start (cc := cX6_hashTrail) (maxL := 8) (ret := (some .long)) (by decide) rfl (Nat.le_of_ble_eq_true rfl) ?_
  intro p e s m below meth c hx hb hr hlocks hml hts hown hsz hA hG hP hD hS hin ls hl
  have hK := hG.1
  have hl : lv_has ls 8 [(0, .ref (a 100)), (1, .long (lI h9)), (3, .int (iI t))] := hl
  have hinX4 : ∀ w ∈ u_ws RX4 TX4 12, w ∈ wsX6_hashTrail := by decide +kernel
  have hinX6 : ∀ w ∈ u_ws RX6 TX6 8, w ∈ wsX6_hashTrail := by decide +kernel
  have hmw0 := hts (.fieldLink RX6 10 "ArcPlate" "plate" "LArcPlate$Plate;") (by decide +kernel)
  have hmw1 := hts (.fieldLink RX6 150 "ArcPlate$Plate" "points" "[I") (by decide +kernel)
  have hmw2 := hts (.constantLong RX6 254 (31)) (by decide +kernel)
  have hS0 := po_S hI
  have hp := po_pts hI h0 h1
  have hepts := mO_pts P (t := t) h0 (by omega)
  have hrg := (ma_rg hI hlk.2.1 h0 (show t < 12 by omega)).1
  have h12t := mO_12lt h1
  have hbody : ∀ (H : Heap) (locs : List Loc) (hP : va_P D vwCl (oblkW cy a P) H) (hS : va_S (va_A (oblkW cy a P) sz) s.heap H locs) (ls : Array Slot) (hl : lv_has ls 8 [(0, .ref (a 100)), (1, .long (lI h9)), (3, .int (iI t))]), W p l e { frames := 4, cells := 0, slots := 0, locals := 97 } s m ([.ref (a 100), .long (lI h9), .int (iI t)] : List Value).toArray below meth c H locs 0 0 (MQ below (kQl D (oblkW cy a P) sz (fun u9 : Nat → Int → Int => oblkW cy a u9) (fun r9 u9 => r9 = mxT (mO P) (P 31) t h9 ∧ u9 = P)) ([.ref (a 100), .long (lI h9), .int (iI t)] : List Value).toArray s 0 0 (va_A (oblkW cy a P) sz)) (F0 m 0 ls []) := by
    intro H locs hP hS ls hl
    refine lv_lload_n hx hb dX6_hashTrail_0 rfl (lv_at hl 1 rfl) ?_
    refine lv_lstore (lv' := [(4, .long (lI h9)), (0, .ref (a 100)), (1, .long (lI h9)), (3, .int (iI t))]) hx hb dX6_hashTrail_1 hl (by decide) rfl (fun ls hl => ?_)
    refine k_iconst hx hb dX6_hashTrail_3 ?_
    refine lv_istore (lv' := [(6, .int (iI 0)), (4, .long (lI h9)), (0, .ref (a 100)), (1, .long (lI h9)), (3, .int (iI t))]) hx hb dX6_hashTrail_4 hl (by decide) rfl (fun ls hl => ?_)
    have loop6 : ∀ (n_1 : Nat) (w : Int) (x4 : Int) (hi0 : 0 ≤ w) (hi1 : w ≤ 9) (hex4 : x4 = mxF (trV (mO P) (P 31) t) w h9) (hn : 9 - w < (n_1 : Int)) (ls : Array Slot) (hl : lv_has ls 8 [(6, .int (iI w)), (4, .long (lI x4)), (0, .ref (a 100)), (1, .long (lI h9)), (3, .int (iI t))]), W p l e { frames := 4, cells := 0, slots := 0, locals := 97 } s m ([.ref (a 100), .long (lI h9), .int (iI t)] : List Value).toArray below meth c H locs 0 0 (MQ below (kQl D (oblkW cy a P) sz (fun u9 : Nat → Int → Int => oblkW cy a u9) (fun r9 u9 => r9 = mxT (mO P) (P 31) t h9 ∧ u9 = P)) ([.ref (a 100), .long (lI h9), .int (iI t)] : List Value).toArray s 0 0 (va_A (oblkW cy a P) sz)) (F0 m 6 ls []) := by
      intro n_1
      induction n_1 with
      | zero => intro w x4 hi0 hi1 hex4 hn ls hl; exfalso; omega
      | succ n_1 ih6 =>
        intro w x4 hi0 hi1 hex4 hn ls hl
        subst hex4
        refine lv_iload hx hb dX6_hashTrail_6 (lv_at hl 0 rfl) ?_
        refine k_bipush hx hb dX6_hashTrail_8 (by decide +kernel) ?_
        refine k_icmp_ge (tgt := 36) hx hb dX6_hashTrail_10 (by decide) (by omega) (by omega) (fun c_2 => ?_) (fun c_2 => ?_)
        · skip
          refine k_iconst hx hb dX6_hashTrail_36 ?_
          refine lv_istore (lv' := [(6, .int (iI 0)), (4, .long (lI (mxF (trV (mO P) (P 31) t) w h9))), (0, .ref (a 100)), (1, .long (lI h9)), (3, .int (iI t))]) hx hb dX6_hashTrail_37 hl (by decide) rfl (fun ls hl => ?_)
          have loop39 : ∀ (n_3 : Nat) (q : Int) (x4 : Int) (hi0 : 0 ≤ q) (hi1 : q ≤ P 1 t) (hex4 : x4 = mxF (fun k => ptV (mO P) t (k / 7) (k % 7)) (7 * q) (mxF (trV (mO P) (P 31) t) 9 h9)) (hn : P 1 t - q < (n_3 : Int)) (ls : Array Slot) (hl : lv_has ls 8 [(6, .int (iI q)), (4, .long (lI x4)), (0, .ref (a 100)), (1, .long (lI h9)), (3, .int (iI t))]), W p l e { frames := 4, cells := 0, slots := 0, locals := 97 } s m ([.ref (a 100), .long (lI h9), .int (iI t)] : List Value).toArray below meth c H locs 0 0 (MQ below (kQl D (oblkW cy a P) sz (fun u9 : Nat → Int → Int => oblkW cy a u9) (fun r9 u9 => r9 = mxT (mO P) (P 31) t h9 ∧ u9 = P)) ([.ref (a 100), .long (lI h9), .int (iI t)] : List Value).toArray s 0 0 (va_A (oblkW cy a P) sz)) (F0 m 39 ls []) := by
            intro n_3
            induction n_3 with
            | zero => intro q x4 hi0 hi1 hex4 hn ls hl; exfalso; omega
            | succ n_3 ih39 =>
              intro q x4 hi0 hi1 hex4 hn ls hl
              subst hex4
              refine lv_iload hx hb dX6_hashTrail_39 (lv_at hl 0 rfl) ?_
              refine lv_aload_n hx hb dX6_hashTrail_41 rfl (lv_at hl 2 rfl) ?_
              refine va_get (D := D) (ci := 5) (v := .ref (a 0)) (C := RX6) (T := TX6) (N := 8) hx hb hts hinX6 hown hK hP 0 rfl rfl 0 (by decide) hmw0 (fun _ h9 => h9) rfl dX6_hashTrail_42 ?_
              refine va_get (D := D) (ci := 3) (v := .ref (a 1)) (C := RX4) (T := TX4) (N := 12) hx hb hts hinX4 hown hK hP 1 rfl rfl 4 (by decide) hmw1 (fun _ h9 => h9) rfl dX6_hashTrail_45 ?_
              refine lv_iload_n hx hb dX6_hashTrail_48 rfl (lv_at hl 4 rfl) ?_
              refine k_iald hx hb hK hP 2 0 (f := P 1) rfl rfl (i := t) (by omega) dX6_hashTrail_49 ?_
              refine k_icmp_ge (tgt := 97) hx hb dX6_hashTrail_50 (by decide) (by omega) (by omega) (fun c_4 => ?_) (fun c_4 => ?_)
              · skip
                refine lv_lload hx hb dX6_hashTrail_97 (lv_at hl 1 rfl) ?_
                exact W.lret (v := lI (mxF (fun k => ptV (mO P) t (k / 7) (k % 7)) (7 * q) (mxF (trV (mO P) (P 31) t) 9 h9))) hx hb hr (fun t9 ht _ => ⟨⟨lI (mxF (fun k => ptV (mO P) t (k / 7) (k % 7)) (7 * q) (mxF (trV (mO P) (P 31) t) 9 h9)), P, rfl, ⟨(mxF (fun k => ptV (mO P) t (k / 7) (k % 7)) (7 * q) (mxF (trV (mO P) (P 31) t) 9 h9)), rfl, (⟨by unfold mxT; rw [hepts, ← show q = P 1 t by omega], rfl⟩ : (mxF (fun k => ptV (mO P) t (k / 7) (k % 7)) (7 * q) (mxF (trV (mO P) (P 31) t) 9 h9) : Int) = mxT (mO P) (P 31) t h9 ∧ P = P)⟩, by rw [ht]; exact hP, hD⟩, hS.F ht⟩) hS.2.2 dX6_hashTrail_99 hlocks
              · skip
                have hq0 := hi0
                have hq1 : q < P 1 t := by omega
                refine k_iconst hx hb dX6_hashTrail_53 ?_
                refine lv_istore (lv' := [(7, .int (iI 0)), (6, .int (iI q)), (4, .long (lI (mxF (fun k => ptV (mO P) t (k / 7) (k % 7)) (7 * q) (mxF (trV (mO P) (P 31) t) 9 h9)))), (0, .ref (a 100)), (1, .long (lI h9)), (3, .int (iI t))]) hx hb dX6_hashTrail_54 hl (by decide) rfl (fun ls hl => ?_)
                have loop56 : ∀ (n_5 : Nat) (w : Int) (x4 : Int) (hi0 : 0 ≤ w) (hi1 : w ≤ 7) (hex4 : x4 = mxF (fun k => ptV (mO P) t (k / 7) (k % 7)) (7 * q + w) (mxF (trV (mO P) (P 31) t) 9 h9)) (hn : 7 - w < (n_5 : Int)) (ls : Array Slot) (hl : lv_has ls 8 [(7, .int (iI w)), (6, .int (iI q)), (4, .long (lI x4)), (0, .ref (a 100)), (1, .long (lI h9)), (3, .int (iI t))]), W p l e { frames := 4, cells := 0, slots := 0, locals := 97 } s m ([.ref (a 100), .long (lI h9), .int (iI t)] : List Value).toArray below meth c H locs 0 0 (MQ below (kQl D (oblkW cy a P) sz (fun u9 : Nat → Int → Int => oblkW cy a u9) (fun r9 u9 => r9 = mxT (mO P) (P 31) t h9 ∧ u9 = P)) ([.ref (a 100), .long (lI h9), .int (iI t)] : List Value).toArray s 0 0 (va_A (oblkW cy a P) sz)) (F0 m 56 ls []) := by
                  intro n_5
                  induction n_5 with
                  | zero => intro w x4 hi0 hi1 hex4 hn ls hl; exfalso; omega
                  | succ n_5 ih56 =>
                    intro w x4 hi0 hi1 hex4 hn ls hl
                    subst hex4
                    refine lv_iload hx hb dX6_hashTrail_56 (lv_at hl 0 rfl) ?_
                    refine k_bipush hx hb dX6_hashTrail_58 (by decide +kernel) ?_
                    refine k_icmp_ge (tgt := 91) hx hb dX6_hashTrail_60 (by decide) (by omega) (by omega) (fun c_6 => ?_) (fun c_6 => ?_)
                    · skip
                      refine lv_iinc (v := iI (q + 1)) (lv' := [(6, .int (iI (q + 1))), (7, .int (iI w)), (4, .long (lI (mxF (fun k => ptV (mO P) t (k / 7) (k % 7)) (7 * q + w) (mxF (trV (mO P) (P 31) t) 9 h9)))), (0, .ref (a 100)), (1, .long (lI h9)), (3, .int (iI t))]) hx hb dX6_hashTrail_91 hl (k := 1) rfl (iI_add _ _) (by decide) rfl (fun ls hl => ?_)
                      refine lv_goto (tgt := 39) hx hb dX6_hashTrail_94 (by decide) ?_
                      exact ih39 (q + 1) (mxF (fun k => ptV (mO P) t (k / 7) (k % 7)) (7 * q + w) (mxF (trV (mO P) (P 31) t) 9 h9)) (by omega) (by omega) (by rw [show w = 7 by omega, show 7 * (q + 1) = 7 * q + 7 by omega]) (by omega) ls (lv_sub hl [0, 2, 3, 4, 5] rfl)
                    · skip
                      refine k_ldc2 (z := 31) hx hb hown hmw2 (by decide +kernel) dX6_hashTrail_63 ?_
                      refine lv_lload hx hb dX6_hashTrail_66 (lv_at hl 2 rfl) ?_
                      refine k_lmul hx hb dX6_hashTrail_68 ?_
                      refine lv_aload_n hx hb dX6_hashTrail_69 rfl (lv_at hl 3 rfl) ?_
                      refine va_get (D := D) (ci := 5) (v := .ref (a 0)) (C := RX6) (T := TX6) (N := 8) hx hb hts hinX6 hown hK hP 0 rfl rfl 0 (by decide) hmw0 (fun _ h9 => h9) rfl dX6_hashTrail_70 ?_
                      refine lv_iload_n hx hb dX6_hashTrail_73 rfl (lv_at hl 5 rfl) ?_
                      refine lv_iload hx hb dX6_hashTrail_74 (lv_at hl 1 rfl) ?_
                      refine lv_iload hx hb dX6_hashTrail_76 (lv_at hl 0 rfl) ?_
                      refine k_roV (As := [.int (iI t), .int (iI q), .int (iI w)]) (rest := [.long (lI (31 * (mxF (fun k => ptV (mO P) t (k / 7) (k % 7)) (7 * q + w) (mxF (trV (mO P) (P 31) t) 9 h9))))]) ⟨hx, hb, hml, hown, hts⟩ (c_X4_pointValue l D cy a P t q w hI (show 0 ≤ t by omega) (show t < P 0 0 by omega) (show 0 ≤ q by omega) (show q < P 1 t by omega) (show 0 ≤ w ∧ w ≤ 6 by omega)) gX6_hashTrail_X4_pointValue rfl ⟨rfl, rfl⟩ 3 rfl (by decide +kernel) ⟨Nat.le_of_ble_eq_true rfl, Nat.le_of_ble_eq_true rfl⟩ (GG_ok D cy) ((GG_ok D cy).2.2.2 _ _ _ _ (fun _ h => h.elim) ((GG_ok D cy).1 _ _ _ _ hS.2.1 hG)) (hP.sub (ws' := (plW cy a P)) [1, 2, 3, 4, 5, 6, 7, 8, 9] rfl) (va_recv hK hP (ci := 3) (q0 := 1) rfl rfl) hl.1 rfl (Nat.le_of_ble_eq_true rfl) ⟨Nat.le_of_ble_eq_true rfl, Nat.le_of_ble_eq_true rfl⟩ dX6_hashTrail_78 (fun r_7 hr_7 => ?_)
                      have hr_7 : r_7 = ptV (mO P) t q w := hr_7
                      subst hr_7
                      have hpb := ptV_bd (q := q) (w := w) hI h0 h12t hq0 (by omega) (by omega)
                      refine k_i2l hx hb dX6_hashTrail_81 (by omega) ?_
                      refine k_ladd hx hb dX6_hashTrail_82 ?_
                      refine lv_lstore (lv' := [(4, .long (lI ((31 * (mxF (fun k => ptV (mO P) t (k / 7) (k % 7)) (7 * q + w) (mxF (trV (mO P) (P 31) t) 9 h9))) + (ptV (mO P) t q w)))), (7, .int (iI w)), (6, .int (iI q)), (0, .ref (a 100)), (1, .long (lI h9)), (3, .int (iI t))]) hx hb dX6_hashTrail_83 hl (by decide) rfl (fun ls hl => ?_)
                      refine lv_iinc (v := iI (w + 1)) (lv' := [(7, .int (iI (w + 1))), (4, .long (lI ((31 * (mxF (fun k => ptV (mO P) t (k / 7) (k % 7)) (7 * q + w) (mxF (trV (mO P) (P 31) t) 9 h9))) + (ptV (mO P) t q w)))), (6, .int (iI q)), (0, .ref (a 100)), (1, .long (lI h9)), (3, .int (iI t))]) hx hb dX6_hashTrail_85 hl (k := 1) rfl (iI_add _ _) (by decide) rfl (fun ls hl => ?_)
                      refine lv_goto (tgt := 56) hx hb dX6_hashTrail_88 (by decide) ?_
                      exact ih56 (w + 1) ((31 * (mxF (fun k => ptV (mO P) t (k / 7) (k % 7)) (7 * q + w) (mxF (trV (mO P) (P 31) t) 9 h9))) + (ptV (mO P) t q w)) (by omega) (by omega) ((mx_at (ptV (mO P) t) _ hq0 (by omega)).symm) (by omega) ls (lv_sub hl [0, 2, 1, 3, 4, 5] rfl)
                exact loop56 ((7 - 0 : Int) + 1).toNat 0 (mxF (fun k => ptV (mO P) t (k / 7) (k % 7)) (7 * q) (mxF (trV (mO P) (P 31) t) 9 h9)) (by omega) (by omega) (by rw [Int.add_zero]) (by omega) ls (lv_sub hl [0, 1, 2, 3, 4, 5] rfl)
          exact loop39 ((P 1 t - 0 : Int) + 1).toNat 0 (mxF (trV (mO P) (P 31) t) w h9) (by omega) (by omega) (by rw [show w = 9 by omega]; rfl) (by omega) ls (lv_sub hl [0, 1, 2, 3, 4] rfl)
        · skip
          refine k_ldc2 (z := 31) hx hb hown hmw2 (by decide +kernel) dX6_hashTrail_13 ?_
          refine lv_lload hx hb dX6_hashTrail_16 (lv_at hl 1 rfl) ?_
          refine k_lmul hx hb dX6_hashTrail_18 ?_
          refine lv_aload_n hx hb dX6_hashTrail_19 rfl (lv_at hl 2 rfl) ?_
          refine lv_iload_n hx hb dX6_hashTrail_20 rfl (lv_at hl 4 rfl) ?_
          refine lv_iload hx hb dX6_hashTrail_21 (lv_at hl 0 rfl) ?_
          refine k_roV (As := [.int (iI t), .int (iI w)]) (rest := [.long (lI (31 * (mxF (trV (mO P) (P 31) t) w h9)))]) ⟨hx, hb, hml, hown, hts⟩ (c_X6_trailValue l D cy a P t w hI (show lkd P by omega) (show 0 ≤ t by omega) (show t < P 0 0 by omega) (show 0 ≤ w ∧ w ≤ 8 by omega)) gX6_hashTrail_X6_trailValue rfl ⟨rfl, rfl⟩ 2 rfl (by decide +kernel) ⟨Nat.le_of_ble_eq_true rfl, Nat.le_of_ble_eq_true rfl⟩ (GG_ok D cy) ((GG_ok D cy).2.2.2 _ _ _ _ (fun _ h => h.elim) ((GG_ok D cy).1 _ _ _ _ hS.2.1 hG)) hP (va_recv hK hP (ci := 5) (q0 := 0) rfl rfl) hl.1 rfl (Nat.le_of_ble_eq_true rfl) ⟨Nat.le_of_ble_eq_true rfl, Nat.le_of_ble_eq_true rfl⟩ dX6_hashTrail_23 (fun r_8 hr_8 => ?_)
          have hr_8 : r_8 = trV (mO P) (P 31) t w := hr_8
          subst hr_8
          have htb := trV_bd (w := w) hI h0 h12t (SO := P 31) (by omega)
          refine k_i2l hx hb dX6_hashTrail_26 (by omega) ?_
          refine k_ladd hx hb dX6_hashTrail_27 ?_
          refine lv_lstore (lv' := [(4, .long (lI ((31 * (mxF (trV (mO P) (P 31) t) w h9)) + (trV (mO P) (P 31) t w)))), (6, .int (iI w)), (0, .ref (a 100)), (1, .long (lI h9)), (3, .int (iI t))]) hx hb dX6_hashTrail_28 hl (by decide) rfl (fun ls hl => ?_)
          refine lv_iinc (v := iI (w + 1)) (lv' := [(6, .int (iI (w + 1))), (4, .long (lI ((31 * (mxF (trV (mO P) (P 31) t) w h9)) + (trV (mO P) (P 31) t w)))), (0, .ref (a 100)), (1, .long (lI h9)), (3, .int (iI t))]) hx hb dX6_hashTrail_30 hl (k := 1) rfl (iI_add _ _) (by decide) rfl (fun ls hl => ?_)
          refine lv_goto (tgt := 6) hx hb dX6_hashTrail_33 (by decide) ?_
          exact ih6 (w + 1) ((31 * (mxF (trV (mO P) (P 31) t) w h9)) + (trV (mO P) (P 31) t w)) (by omega) (by omega) ((mxF_s _ _ hi0).symm) (by omega) ls (lv_sub hl [0, 1, 2, 3, 4] rfl)
    exact loop6 ((9 - 0 : Int) + 1).toNat 0 h9 (by omega) (by omega) (rfl) (by omega) ls (lv_sub hl [0, 1, 2, 3, 4] rfl)
  exact hbody s.heap [] hP hS ls hl
set_option maxHeartbeats 4000000 in
set_option maxRecDepth 100000 in
theorem c_X6_digest (l : Launch) (D : va_G) (cy : Nat → ClassId) (sz : Nat) (a : Nat → Nat) (P : Nat → Int → Int)  (hI : Inv (mO P)) (hl0 : P 100 6 = 0 ∨ P 100 6 = 1) (hl1 : P 100 6 = 1 → lkd P) (hsv : 0 ≤ P 50 1 ∧ P 50 1 ≤ 4) (htl : 0 ≤ P 10 0 ∧ P 10 0 ≤ 150) (hst : 0 ≤ P 100 7 ∧ P 100 7 ≤ 3) : Met l yX6_digest wsX6_digest { frames := 6, cells := 0, slots := 0, locals := 148 } (mPre (GG D cy) D (obdgW cy a P) sz ([.ref (a 100)] : List Value)) (kQl D (obdgW cy a P) sz (fun u9 : Nat → Int → Int => obdgW cy a u9) (fun r9 u9 => ∃ (zZ : Nat → Int → Int), (figOK (mO P) zZ (P 0 0) ∧ maOK (mO P) (P 8 8) (zZ 31) (zZ 32) (zZ 33) ∧ zZ 30 3 = (mat (mO P) (P 8 8)).2.2.1 ∧ zZ 30 4 = (mat (mO P) (P 8 8)).2.2.2) ∧ (r9 = dgH (mO P) (P 50 1) (P 10 0) (P 100 7)) ∧ (u9 = (upr (upr (upr (upr (upr (upr (upr (upr (upr (upr (upr (upr (upr (upr (upr (upr P 21 (zZ 21)) 22 (zZ 22)) 23 (zZ 23)) 24 (zZ 24)) 25 (zZ 25)) 26 (zZ 26)) 27 (zZ 27)) 28 (zZ 28)) 30 (zZ 30)) 31 (zZ 31)) 32 (zZ 32)) 33 (zZ 33)) 34 (zZ 34)) 35 (zZ 35)) 36 (zZ 36)) 100 (ups (P 100) 6 1))))) 0 0 (va_A (obdgW cy a P) sz) := by
  refine kM_start (cc := cX6_digest) (maxL := 5) (ret := (some .long)) (by decide) rfl (Nat.le_of_ble_eq_true rfl) ?_
  intro p e s m below meth c hx hb hr hlocks hml hts hown hsz hA hG hP hD hS hin ls hl
  have hK := hG.1
  have hl : lv_has ls 5 [(0, .ref (a 100))] := hl
  have hinX2 : ∀ w ∈ u_ws RX2 TX2 2, w ∈ wsX6_digest := by decide +kernel
  have hinX4 : ∀ w ∈ u_ws RX4 TX4 12, w ∈ wsX6_digest := by decide +kernel
  have hinX5 : ∀ w ∈ u_ws RX5 TX5 6, w ∈ wsX6_digest := by decide +kernel
  have hinX6 : ∀ w ∈ u_ws RX6 TX6 8, w ∈ wsX6_digest := by decide +kernel
  have hmw0 := hts (.constantLong RX6 252 (18761)) (by decide +kernel)
  have hmw1 := hts (.constantLong RX6 254 (31)) (by decide +kernel)
  have hmw2 := hts (.fieldLink RX6 19 "ArcPlate" "history" "LArcPlate$History;") (by decide +kernel)
  have hmw3 := hts (.fieldLink RX6 245 "ArcPlate$History" "saved" "I") (by decide +kernel)
  have hmw4 := hts (.fieldLink RX6 26 "ArcPlate" "script" "LArcPlate$Script;") (by decide +kernel)
  have hmw5 := hts (.fieldLink RX6 222 "ArcPlate$Script" "length" "I") (by decide +kernel)
  have hmw6 := hts (.fieldLink RX6 51 "ArcPlate" "halt" "I") (by decide +kernel)
  have hmw7 := hts (.fieldLink RX6 10 "ArcPlate" "plate" "LArcPlate$Plate;") (by decide +kernel)
  have hmw8 := hts (.fieldLink RX6 167 "ArcPlate$Plate" "trails" "I") (by decide +kernel)
  have hmw9 := hts (.fieldLink RX6 158 "ArcPlate$Plate" "stars" "I") (by decide +kernel)
  have hmw10 := hts (.fieldLink RX6 143 "ArcPlate$Plate" "settings" "[I") (by decide +kernel)
  have hS0 := po_S hI
  have hset := po_set hI
  have hbody : ∀ (H : Heap) (locs : List Loc) (hP : va_P D vwCl (obdgW cy a P) H) (hS : va_S (va_A (obdgW cy a P) sz) s.heap H locs) (ls : Array Slot) (hl : lv_has ls 5 [(0, .ref (a 100))]), W p l e { frames := 6, cells := 0, slots := 0, locals := 148 } s m ([.ref (a 100)] : List Value).toArray below meth c H locs 0 0 (MQ below (kQl D (obdgW cy a P) sz (fun u9 : Nat → Int → Int => obdgW cy a u9) (fun r9 u9 => ∃ (zZ : Nat → Int → Int), (figOK (mO P) zZ (P 0 0) ∧ maOK (mO P) (P 8 8) (zZ 31) (zZ 32) (zZ 33) ∧ zZ 30 3 = (mat (mO P) (P 8 8)).2.2.1 ∧ zZ 30 4 = (mat (mO P) (P 8 8)).2.2.2) ∧ (r9 = dgH (mO P) (P 50 1) (P 10 0) (P 100 7)) ∧ (u9 = (upr (upr (upr (upr (upr (upr (upr (upr (upr (upr (upr (upr (upr (upr (upr (upr P 21 (zZ 21)) 22 (zZ 22)) 23 (zZ 23)) 24 (zZ 24)) 25 (zZ 25)) 26 (zZ 26)) 27 (zZ 27)) 28 (zZ 28)) 30 (zZ 30)) 31 (zZ 31)) 32 (zZ 32)) 33 (zZ 33)) 34 (zZ 34)) 35 (zZ 35)) 36 (zZ 36)) 100 (ups (P 100) 6 1))))) ([.ref (a 100)] : List Value).toArray s 0 0 (va_A (obdgW cy a P) sz)) (F0 m 0 ls []) := by
    intro H locs hP hS ls hl
    refine lv_aload_n hx hb dX6_digest_0 rfl (lv_at hl 0 rfl) ?_
    have hPc := hP.sub (ws' := (oblkW cy a P)) [0, 1, 2, 3, 4, 5, 6, 7, 8, 9, 10, 11, 12, 13, 14, 15, 16, 17, 18, 19, 20, 21, 22, 23, 24, 25] rfl
    have hDc := hD.sub (ws' := (oblkW cy a P)) [0, 1, 2, 3, 4, 5, 6, 7, 8, 9, 10, 11, 12, 13, 14, 15, 16, 17, 18, 19, 20, 21, 22, 23, 24, 25] (by decide) rfl
    have hFc := va_free (wc := (oblkW cy a P)) hD hS hA [0, 1, 2, 3, 4, 5, 6, 7, 8, 9, 10, 11, 12, 13, 14, 15, 16, 17, 18, 19, 20, 21, 22, 23, 24, 25] rfl
    refine k_muv (k_runV (As := []) (rest := []) ⟨hx, hb, hml, hown, hts⟩ (c_X6_look l D cy H.size a P hI (show P 100 6 = 0 ∨ P 100 6 = 1 by omega) (show P 100 6 = 1 → lkd P by omega)) gX6_digest_X6_look rfl ⟨rfl, rfl⟩ 0 rfl (by decide +kernel) ⟨Nat.le_of_ble_eq_true rfl, Nat.le_of_ble_eq_true rfl⟩ (GG_ok D cy) hG hS hFc hPc hDc (va_recv hK hP (ci := 5) (q0 := 0) rfl rfl) hl.1 rfl (Nat.le_of_ble_eq_true rfl) ⟨Nat.le_of_ble_eq_true rfl, Nat.le_of_ble_eq_true rfl⟩ dX6_digest_1) hFc hS (fun R_2 H1 locs1 hR_2 hP1 hD1 hS1 hk1 => ?_)
    have hR_2 : ∃ (zZ : Nat → Int → Int), (figOK (mO P) zZ (P 0 0) ∧ maOK (mO P) (P 8 8) (zZ 31) (zZ 32) (zZ 33) ∧ zZ 30 3 = (mat (mO P) (P 8 8)).2.2.1 ∧ zZ 30 4 = (mat (mO P) (P 8 8)).2.2.2) ∧ (R_2 = (upr (upr (upr (upr (upr (upr (upr (upr (upr (upr (upr (upr (upr (upr (upr (upr P 21 (zZ 21)) 22 (zZ 22)) 23 (zZ 23)) 24 (zZ 24)) 25 (zZ 25)) 26 (zZ 26)) 27 (zZ 27)) 28 (zZ 28)) 30 (zZ 30)) 31 (zZ 31)) 32 (zZ 32)) 33 (zZ 33)) 34 (zZ 34)) 35 (zZ 35)) 36 (zZ 36)) 100 (ups (P 100) 6 1))) := hR_2
    obtain ⟨zZ_3, hf_4, hR_2⟩ := hR_2
    have hf_4 : figOK (mO P) zZ_3 (P 0 0) ∧ maOK (mO P) (P 8 8) (zZ_3 31) (zZ_3 32) (zZ_3 33) ∧ zZ_3 30 3 = (mat (mO P) (P 8 8)).2.2.1 ∧ zZ_3 30 4 = (mat (mO P) (P 8 8)).2.2.2 := hf_4
    subst hR_2
    have hDn : va_D (va_A (obdgW cy a P) sz) (obdgW cy a (upr (upr (upr (upr (upr (upr (upr (upr (upr (upr (upr (upr (upr (upr (upr (upr P 21 (zZ_3 21)) 22 (zZ_3 22)) 23 (zZ_3 23)) 24 (zZ_3 24)) 25 (zZ_3 25)) 26 (zZ_3 26)) 27 (zZ_3 27)) 28 (zZ_3 28)) 30 (zZ_3 30)) 31 (zZ_3 31)) 32 (zZ_3 32)) 33 (zZ_3 33)) 34 (zZ_3 34)) 35 (zZ_3 35)) 36 (zZ_3 36)) 100 (ups (P 100) 6 1))) := k_addr hD rfl
    have hPn := k_join (ws' := (obdgW cy a (upr (upr (upr (upr (upr (upr (upr (upr (upr (upr (upr (upr (upr (upr (upr (upr P 21 (zZ_3 21)) 22 (zZ_3 22)) 23 (zZ_3 23)) 24 (zZ_3 24)) 25 (zZ_3 25)) 26 (zZ_3 26)) 27 (zZ_3 27)) 28 (zZ_3 28)) 30 (zZ_3 30)) 31 (zZ_3 31)) 32 (zZ_3 32)) 33 (zZ_3 33)) 34 (zZ_3 34)) 35 (zZ_3 35)) 36 (zZ_3 36)) 100 (ups (P 100) 6 1)))) hP hD [0, 1, 2, 3, 4, 5, 6, 7, 8, 9, 10, 11, 12, 13, 14, 15, 16, 17, 18, 19, 20, 21, 22, 23, 24, 25] [some 0, some 1, some 2, some 3, some 4, some 5, some 6, some 7, some 8, some 9, some 10, some 11, some 12, some 13, some 14, some 15, some 16, some 17, some 18, some 19, some 20, some 21, some 22, some 23, some 24, some 25, none, none, none, none, none, none] rfl hk1 hP1 rfl rfl
    clear hP hD hS hP1 hD1 hk1
    have hP := hPn
    have hD := hDn
    have hS := hS1
    clear hPn hDn hS1
    generalize H1 = H at hP hS ⊢
    generalize locs1 = locs at hS ⊢
    have hfk := hf_4
    refine k_ldc2 (z := 18761) hx hb hown hmw0 (by decide +kernel) dX6_digest_4 ?_
    refine lv_lstore_n (lv' := [(1, .long (lI 18761)), (0, .ref (a 100))]) hx hb dX6_digest_7 rfl hl (by decide) rfl (fun ls hl => ?_)
    refine k_ldc2 (z := 31) hx hb hown hmw1 (by decide +kernel) dX6_digest_8 ?_
    refine lv_lload_n hx hb dX6_digest_11 rfl (lv_at hl 0 rfl) ?_
    refine k_lmul hx hb dX6_digest_12 ?_
    refine lv_aload_n hx hb dX6_digest_13 rfl (lv_at hl 1 rfl) ?_
    refine va_get (D := D) (ci := 5) (v := .ref (a 50)) (C := RX6) (T := TX6) (N := 8) hx hb hts hinX6 hown hK hP 0 rfl rfl 1 (by decide) hmw2 (fun _ h9 => h9) rfl dX6_digest_14 ?_
    refine va_get (D := D) (ci := 1) (v := .int (iI (P 50 1))) (C := RX2) (T := TX2) (N := 2) hx hb hts hinX2 hown hK hP 26 rfl rfl 1 (by decide) hmw3 (fun _ h9 => h9) rfl dX6_digest_17 ?_
    refine k_i2l hx hb dX6_digest_20 (by omega) ?_
    refine k_ladd hx hb dX6_digest_21 ?_
    refine lv_lstore_n (lv' := [(1, .long (lI ((31 * 18761) + (P 50 1)))), (0, .ref (a 100))]) hx hb dX6_digest_22 rfl hl (by decide) rfl (fun ls hl => ?_)
    refine k_ldc2 (z := 31) hx hb hown hmw1 (by decide +kernel) dX6_digest_23 ?_
    refine lv_lload_n hx hb dX6_digest_26 rfl (lv_at hl 0 rfl) ?_
    refine k_lmul hx hb dX6_digest_27 ?_
    refine lv_aload_n hx hb dX6_digest_28 rfl (lv_at hl 1 rfl) ?_
    refine va_get (D := D) (ci := 5) (v := .ref (a 10)) (C := RX6) (T := TX6) (N := 8) hx hb hts hinX6 hown hK hP 0 rfl rfl 2 (by decide) hmw4 (fun _ h9 => h9) rfl dX6_digest_29 ?_
    refine va_get (D := D) (ci := 4) (v := .int (iI (P 10 0))) (C := RX5) (T := TX5) (N := 6) hx hb hts hinX5 hown hK hP 28 rfl rfl 0 (by decide) hmw5 (fun _ h9 => h9) rfl dX6_digest_32 ?_
    refine k_i2l hx hb dX6_digest_35 (by omega) ?_
    refine k_ladd hx hb dX6_digest_36 ?_
    refine lv_lstore_n (lv' := [(1, .long (lI ((31 * ((31 * 18761) + (P 50 1))) + (P 10 0)))), (0, .ref (a 100))]) hx hb dX6_digest_37 rfl hl (by decide) rfl (fun ls hl => ?_)
    refine k_ldc2 (z := 31) hx hb hown hmw1 (by decide +kernel) dX6_digest_38 ?_
    refine lv_lload_n hx hb dX6_digest_41 rfl (lv_at hl 0 rfl) ?_
    refine k_lmul hx hb dX6_digest_42 ?_
    refine lv_aload_n hx hb dX6_digest_43 rfl (lv_at hl 1 rfl) ?_
    refine va_get (D := D) (ci := 5) (v := .int (iI (P 100 7))) (C := RX6) (T := TX6) (N := 8) hx hb hts hinX6 hown hK hP 0 rfl rfl 7 (by decide) hmw6 (fun _ h9 => h9) rfl dX6_digest_44 ?_
    refine k_i2l hx hb dX6_digest_47 (by omega) ?_
    refine k_ladd hx hb dX6_digest_48 ?_
    refine lv_lstore_n (lv' := [(1, .long (lI ((31 * ((31 * ((31 * 18761) + (P 50 1))) + (P 10 0))) + (P 100 7)))), (0, .ref (a 100))]) hx hb dX6_digest_49 rfl hl (by decide) rfl (fun ls hl => ?_)
    refine k_iconst hx hb dX6_digest_50 ?_
    refine lv_istore_n (lv' := [(3, .int (iI 0)), (1, .long (lI ((31 * ((31 * ((31 * 18761) + (P 50 1))) + (P 10 0))) + (P 100 7)))), (0, .ref (a 100))]) hx hb dX6_digest_51 rfl hl (by decide) rfl (fun ls hl => ?_)
    have loop52 : ∀ (n_5 : Nat) (w : Int) (x1 : Int) (hi0 : 0 ≤ w) (hi1 : w ≤ 11) (hex1 : x1 = mxF (whW (mO P)) w (31 * (31 * (31 * 18761 + P 50 1) + P 10 0) + P 100 7)) (hn : 11 - w < (n_5 : Int)) (ls : Array Slot) (hl : lv_has ls 5 [(3, .int (iI w)), (1, .long (lI x1)), (0, .ref (a 100))]), W p l e { frames := 6, cells := 0, slots := 0, locals := 148 } s m ([.ref (a 100)] : List Value).toArray below meth c H locs 0 0 (MQ below (kQl D (obdgW cy a P) sz (fun u9 : Nat → Int → Int => obdgW cy a u9) (fun r9 u9 => ∃ (zZ : Nat → Int → Int), (figOK (mO P) zZ (P 0 0) ∧ maOK (mO P) (P 8 8) (zZ 31) (zZ 32) (zZ 33) ∧ zZ 30 3 = (mat (mO P) (P 8 8)).2.2.1 ∧ zZ 30 4 = (mat (mO P) (P 8 8)).2.2.2) ∧ (r9 = dgH (mO P) (P 50 1) (P 10 0) (P 100 7)) ∧ (u9 = (upr (upr (upr (upr (upr (upr (upr (upr (upr (upr (upr (upr (upr (upr (upr (upr P 21 (zZ 21)) 22 (zZ 22)) 23 (zZ 23)) 24 (zZ 24)) 25 (zZ 25)) 26 (zZ 26)) 27 (zZ 27)) 28 (zZ 28)) 30 (zZ 30)) 31 (zZ 31)) 32 (zZ 32)) 33 (zZ 33)) 34 (zZ 34)) 35 (zZ 35)) 36 (zZ 36)) 100 (ups (P 100) 6 1))))) ([.ref (a 100)] : List Value).toArray s 0 0 (va_A (obdgW cy a P) sz)) (F0 m 52 ls []) := by
      intro n_5
      induction n_5 with
      | zero => intro w x1 hi0 hi1 hex1 hn ls hl; exfalso; omega
      | succ n_5 ih52 =>
        intro w x1 hi0 hi1 hex1 hn ls hl
        subst hex1
        refine lv_iload_n hx hb dX6_digest_52 rfl (lv_at hl 0 rfl) ?_
        refine k_bipush hx hb dX6_digest_53 (by decide +kernel) ?_
        refine k_icmp_ge (tgt := 77) hx hb dX6_digest_55 (by decide) (by omega) (by omega) (fun c_6 => ?_) (fun c_6 => ?_)
        · skip
          refine k_iconst hx hb dX6_digest_77 ?_
          refine lv_istore_n (lv' := [(3, .int (iI 0)), (1, .long (lI (mxF (whW (mO P)) w (31 * (31 * (31 * 18761 + P 50 1) + P 10 0) + P 100 7)))), (0, .ref (a 100))]) hx hb dX6_digest_78 rfl hl (by decide) rfl (fun ls hl => ?_)
          have loop79 : ∀ (n_7 : Nat) (j : Int) (x1 : Int) (hi0 : 0 ≤ j) (hi1 : j ≤ 10) (hex1 : x1 = mxF (P 8) j (mxF (whW (mO P)) 11 (31 * (31 * (31 * 18761 + P 50 1) + P 10 0) + P 100 7))) (hn : 10 - j < (n_7 : Int)) (ls : Array Slot) (hl : lv_has ls 5 [(3, .int (iI j)), (1, .long (lI x1)), (0, .ref (a 100))]), W p l e { frames := 6, cells := 0, slots := 0, locals := 148 } s m ([.ref (a 100)] : List Value).toArray below meth c H locs 0 0 (MQ below (kQl D (obdgW cy a P) sz (fun u9 : Nat → Int → Int => obdgW cy a u9) (fun r9 u9 => ∃ (zZ : Nat → Int → Int), (figOK (mO P) zZ (P 0 0) ∧ maOK (mO P) (P 8 8) (zZ 31) (zZ 32) (zZ 33) ∧ zZ 30 3 = (mat (mO P) (P 8 8)).2.2.1 ∧ zZ 30 4 = (mat (mO P) (P 8 8)).2.2.2) ∧ (r9 = dgH (mO P) (P 50 1) (P 10 0) (P 100 7)) ∧ (u9 = (upr (upr (upr (upr (upr (upr (upr (upr (upr (upr (upr (upr (upr (upr (upr (upr P 21 (zZ 21)) 22 (zZ 22)) 23 (zZ 23)) 24 (zZ 24)) 25 (zZ 25)) 26 (zZ 26)) 27 (zZ 27)) 28 (zZ 28)) 30 (zZ 30)) 31 (zZ 31)) 32 (zZ 32)) 33 (zZ 33)) 34 (zZ 34)) 35 (zZ 35)) 36 (zZ 36)) 100 (ups (P 100) 6 1))))) ([.ref (a 100)] : List Value).toArray s 0 0 (va_A (obdgW cy a P) sz)) (F0 m 79 ls []) := by
            intro n_7
            induction n_7 with
            | zero => intro j x1 hi0 hi1 hex1 hn ls hl; exfalso; omega
            | succ n_7 ih79 =>
              intro j x1 hi0 hi1 hex1 hn ls hl
              subst hex1
              refine lv_iload_n hx hb dX6_digest_79 rfl (lv_at hl 0 rfl) ?_
              refine k_bipush hx hb dX6_digest_80 (by decide +kernel) ?_
              refine k_icmp_ge (tgt := 108) hx hb dX6_digest_82 (by decide) (by omega) (by omega) (fun c_8 => ?_) (fun c_8 => ?_)
              · skip
                refine k_iconst hx hb dX6_digest_108 ?_
                refine lv_istore_n (lv' := [(3, .int (iI 0)), (1, .long (lI (mxF (P 8) j (mxF (whW (mO P)) 11 (31 * (31 * (31 * 18761 + P 50 1) + P 10 0) + P 100 7))))), (0, .ref (a 100))]) hx hb dX6_digest_109 rfl hl (by decide) rfl (fun ls hl => ?_)
                have loop110 : ∀ (n_9 : Nat) (t : Int) (x1 : Int) (hi0 : 0 ≤ t) (hi1 : t ≤ P 0 0) (hex1 : x1 = mxTF (mO P) (mat (mO P) (P 8 8)).1 t (mxF (P 8) 10 (mxF (whW (mO P)) 11 (31 * (31 * (31 * 18761 + P 50 1) + P 10 0) + P 100 7)))) (hn : P 0 0 - t < (n_9 : Int)) (H : Heap) (locs : List Loc) (hP : va_P D vwCl (obdgW cy a (upr (upr (upr (upr (upr (upr (upr (upr (upr (upr (upr (upr (upr (upr (upr (upr P 21 (zZ_3 21)) 22 (zZ_3 22)) 23 (zZ_3 23)) 24 (zZ_3 24)) 25 (zZ_3 25)) 26 (zZ_3 26)) 27 (zZ_3 27)) 28 (zZ_3 28)) 30 (zZ_3 30)) 31 (zZ_3 31)) 32 (zZ_3 32)) 33 (zZ_3 33)) 34 (zZ_3 34)) 35 (zZ_3 35)) 36 (zZ_3 36)) 100 (ups (P 100) 6 1))) H) (hD : va_D (va_A (obdgW cy a P) sz) (obdgW cy a (upr (upr (upr (upr (upr (upr (upr (upr (upr (upr (upr (upr (upr (upr (upr (upr P 21 (zZ_3 21)) 22 (zZ_3 22)) 23 (zZ_3 23)) 24 (zZ_3 24)) 25 (zZ_3 25)) 26 (zZ_3 26)) 27 (zZ_3 27)) 28 (zZ_3 28)) 30 (zZ_3 30)) 31 (zZ_3 31)) 32 (zZ_3 32)) 33 (zZ_3 33)) 34 (zZ_3 34)) 35 (zZ_3 35)) 36 (zZ_3 36)) 100 (ups (P 100) 6 1)))) (hS : va_S (va_A (obdgW cy a P) sz) s.heap H locs) (ls : Array Slot) (hl : lv_has ls 5 [(3, .int (iI t)), (1, .long (lI x1)), (0, .ref (a 100))]), W p l e { frames := 6, cells := 0, slots := 0, locals := 148 } s m ([.ref (a 100)] : List Value).toArray below meth c H locs 0 0 (MQ below (kQl D (obdgW cy a P) sz (fun u9 : Nat → Int → Int => obdgW cy a u9) (fun r9 u9 => ∃ (zZ : Nat → Int → Int), (figOK (mO P) zZ (P 0 0) ∧ maOK (mO P) (P 8 8) (zZ 31) (zZ 32) (zZ 33) ∧ zZ 30 3 = (mat (mO P) (P 8 8)).2.2.1 ∧ zZ 30 4 = (mat (mO P) (P 8 8)).2.2.2) ∧ (r9 = dgH (mO P) (P 50 1) (P 10 0) (P 100 7)) ∧ (u9 = (upr (upr (upr (upr (upr (upr (upr (upr (upr (upr (upr (upr (upr (upr (upr (upr P 21 (zZ 21)) 22 (zZ 22)) 23 (zZ 23)) 24 (zZ 24)) 25 (zZ 25)) 26 (zZ 26)) 27 (zZ 27)) 28 (zZ 28)) 30 (zZ 30)) 31 (zZ 31)) 32 (zZ 32)) 33 (zZ 33)) 34 (zZ 34)) 35 (zZ 35)) 36 (zZ 36)) 100 (ups (P 100) 6 1))))) ([.ref (a 100)] : List Value).toArray s 0 0 (va_A (obdgW cy a P) sz)) (F0 m 110 ls []) := by
                  intro n_9
                  induction n_9 with
                  | zero => intro t x1 hi0 hi1 hex1 hn H locs hP hD hS ls hl; exfalso; omega
                  | succ n_9 ih110 =>
                    intro t x1 hi0 hi1 hex1 hn H locs hP hD hS ls hl
                    subst hex1
                    refine lv_iload_n hx hb dX6_digest_110 rfl (lv_at hl 0 rfl) ?_
                    refine lv_aload_n hx hb dX6_digest_111 rfl (lv_at hl 2 rfl) ?_
                    refine va_get (D := D) (ci := 5) (v := .ref (a 0)) (C := RX6) (T := TX6) (N := 8) hx hb hts hinX6 hown hK hP 0 rfl rfl 0 (by decide) hmw7 (fun _ h9 => h9) rfl dX6_digest_112 ?_
                    refine va_get (D := D) (ci := 3) (v := .int (iI (P 0 0))) (C := RX4) (T := TX4) (N := 12) hx hb hts hinX4 hown hK hP 1 rfl rfl 0 (by decide) hmw8 (fun _ h9 => h9) rfl dX6_digest_115 ?_
                    refine k_icmp_ge (tgt := 134) hx hb dX6_digest_118 (by decide) (by omega) (by omega) (fun c_10 => ?_) (fun c_10 => ?_)
                    · skip
                      refine k_iconst hx hb dX6_digest_134 ?_
                      refine lv_istore_n (lv' := [(3, .int (iI 0)), (1, .long (lI (mxTF (mO P) (mat (mO P) (P 8 8)).1 t (mxF (P 8) 10 (mxF (whW (mO P)) 11 (31 * (31 * (31 * 18761 + P 50 1) + P 10 0) + P 100 7)))))), (0, .ref (a 100))]) hx hb dX6_digest_135 rfl hl (by decide) rfl (fun ls hl => ?_)
                      have loop136 : ∀ (n_11 : Nat) (u : Int) (x1 : Int) (hi0 : 0 ≤ u) (hi1 : u ≤ P 0 1) (hex1 : x1 = mxF (fun k => stW (mO P) (k / 7) (k % 7)) (7 * u) (mxTF (mO P) (mat (mO P) (P 8 8)).1 (P 0 0) (mxF (P 8) 10 (mxF (whW (mO P)) 11 (31 * (31 * (31 * 18761 + P 50 1) + P 10 0) + P 100 7))))) (hn : P 0 1 - u < (n_11 : Int)) (ls : Array Slot) (hl : lv_has ls 5 [(3, .int (iI u)), (1, .long (lI x1)), (0, .ref (a 100))]), W p l e { frames := 6, cells := 0, slots := 0, locals := 148 } s m ([.ref (a 100)] : List Value).toArray below meth c H locs 0 0 (MQ below (kQl D (obdgW cy a P) sz (fun u9 : Nat → Int → Int => obdgW cy a u9) (fun r9 u9 => ∃ (zZ : Nat → Int → Int), (figOK (mO P) zZ (P 0 0) ∧ maOK (mO P) (P 8 8) (zZ 31) (zZ 32) (zZ 33) ∧ zZ 30 3 = (mat (mO P) (P 8 8)).2.2.1 ∧ zZ 30 4 = (mat (mO P) (P 8 8)).2.2.2) ∧ (r9 = dgH (mO P) (P 50 1) (P 10 0) (P 100 7)) ∧ (u9 = (upr (upr (upr (upr (upr (upr (upr (upr (upr (upr (upr (upr (upr (upr (upr (upr P 21 (zZ 21)) 22 (zZ 22)) 23 (zZ 23)) 24 (zZ 24)) 25 (zZ 25)) 26 (zZ 26)) 27 (zZ 27)) 28 (zZ 28)) 30 (zZ 30)) 31 (zZ 31)) 32 (zZ 32)) 33 (zZ 33)) 34 (zZ 34)) 35 (zZ 35)) 36 (zZ 36)) 100 (ups (P 100) 6 1))))) ([.ref (a 100)] : List Value).toArray s 0 0 (va_A (obdgW cy a P) sz)) (F0 m 136 ls []) := by
                        intro n_11
                        induction n_11 with
                        | zero => intro u x1 hi0 hi1 hex1 hn ls hl; exfalso; omega
                        | succ n_11 ih136 =>
                          intro u x1 hi0 hi1 hex1 hn ls hl
                          subst hex1
                          refine lv_iload_n hx hb dX6_digest_136 rfl (lv_at hl 0 rfl) ?_
                          refine lv_aload_n hx hb dX6_digest_137 rfl (lv_at hl 2 rfl) ?_
                          refine va_get (D := D) (ci := 5) (v := .ref (a 0)) (C := RX6) (T := TX6) (N := 8) hx hb hts hinX6 hown hK hP 0 rfl rfl 0 (by decide) hmw7 (fun _ h9 => h9) rfl dX6_digest_138 ?_
                          refine va_get (D := D) (ci := 3) (v := .int (iI (P 0 1))) (C := RX4) (T := TX4) (N := 12) hx hb hts hinX4 hown hK hP 1 rfl rfl 1 (by decide) hmw9 (fun _ h9 => h9) rfl dX6_digest_141 ?_
                          refine k_icmp_ge (tgt := 184) hx hb dX6_digest_144 (by decide) (by omega) (by omega) (fun c_12 => ?_) (fun c_12 => ?_)
                          · skip
                            refine lv_lload_n hx hb dX6_digest_184 rfl (lv_at hl 1 rfl) ?_
                            exact W.lret (v := lI (mxF (fun k => stW (mO P) (k / 7) (k % 7)) (7 * u) (mxTF (mO P) (mat (mO P) (P 8 8)).1 (P 0 0) (mxF (P 8) 10 (mxF (whW (mO P)) 11 (31 * (31 * (31 * 18761 + P 50 1) + P 10 0) + P 100 7)))))) hx hb hr (fun t9 ht _ => ⟨⟨lI (mxF (fun k => stW (mO P) (k / 7) (k % 7)) (7 * u) (mxTF (mO P) (mat (mO P) (P 8 8)).1 (P 0 0) (mxF (P 8) 10 (mxF (whW (mO P)) 11 (31 * (31 * (31 * 18761 + P 50 1) + P 10 0) + P 100 7))))), (upr (upr (upr (upr (upr (upr (upr (upr (upr (upr (upr (upr (upr (upr (upr (upr P 21 (zZ_3 21)) 22 (zZ_3 22)) 23 (zZ_3 23)) 24 (zZ_3 24)) 25 (zZ_3 25)) 26 (zZ_3 26)) 27 (zZ_3 27)) 28 (zZ_3 28)) 30 (zZ_3 30)) 31 (zZ_3 31)) 32 (zZ_3 32)) 33 (zZ_3 33)) 34 (zZ_3 34)) 35 (zZ_3 35)) 36 (zZ_3 36)) 100 (ups (P 100) 6 1)), rfl, ⟨(mxF (fun k => stW (mO P) (k / 7) (k % 7)) (7 * u) (mxTF (mO P) (mat (mO P) (P 8 8)).1 (P 0 0) (mxF (P 8) 10 (mxF (whW (mO P)) 11 (31 * (31 * (31 * 18761 + P 50 1) + P 10 0) + P 100 7))))), rfl, (⟨((upr (upr (upr (upr (upr (upr (upr (upr (upr (upr (upr (upr (upr (upr (upr (upr P 21 (zZ_3 21)) 22 (zZ_3 22)) 23 (zZ_3 23)) 24 (zZ_3 24)) 25 (zZ_3 25)) 26 (zZ_3 26)) 27 (zZ_3 27)) 28 (zZ_3 28)) 30 (zZ_3 30)) 31 (zZ_3 31)) 32 (zZ_3 32)) 33 (zZ_3 33)) 34 (zZ_3 34)) 35 (zZ_3 35)) 36 (zZ_3 36)) 100 (ups (P 100) 6 1))), (hfk), (by rw [dgH_mO, ← show u = P 0 1 by omega]), rfl⟩ : ∃ (zZ : Nat → Int → Int), (figOK (mO P) zZ (P 0 0) ∧ maOK (mO P) (P 8 8) (zZ 31) (zZ 32) (zZ 33) ∧ zZ 30 3 = (mat (mO P) (P 8 8)).2.2.1 ∧ zZ 30 4 = (mat (mO P) (P 8 8)).2.2.2) ∧ ((mxF (fun k => stW (mO P) (k / 7) (k % 7)) (7 * u) (mxTF (mO P) (mat (mO P) (P 8 8)).1 (P 0 0) (mxF (P 8) 10 (mxF (whW (mO P)) 11 (31 * (31 * (31 * 18761 + P 50 1) + P 10 0) + P 100 7)))) : Int) = dgH (mO P) (P 50 1) (P 10 0) (P 100 7)) ∧ ((upr (upr (upr (upr (upr (upr (upr (upr (upr (upr (upr (upr (upr (upr (upr (upr P 21 (zZ_3 21)) 22 (zZ_3 22)) 23 (zZ_3 23)) 24 (zZ_3 24)) 25 (zZ_3 25)) 26 (zZ_3 26)) 27 (zZ_3 27)) 28 (zZ_3 28)) 30 (zZ_3 30)) 31 (zZ_3 31)) 32 (zZ_3 32)) 33 (zZ_3 33)) 34 (zZ_3 34)) 35 (zZ_3 35)) 36 (zZ_3 36)) 100 (ups (P 100) 6 1)) = (upr (upr (upr (upr (upr (upr (upr (upr (upr (upr (upr (upr (upr (upr (upr (upr P 21 (zZ 21)) 22 (zZ 22)) 23 (zZ 23)) 24 (zZ 24)) 25 (zZ 25)) 26 (zZ 26)) 27 (zZ 27)) 28 (zZ 28)) 30 (zZ 30)) 31 (zZ 31)) 32 (zZ 32)) 33 (zZ 33)) 34 (zZ 34)) 35 (zZ 35)) 36 (zZ 36)) 100 (ups (P 100) 6 1))))⟩, by rw [ht]; exact hP, hD⟩, hS.F ht⟩) hS.2.2 dX6_digest_185 hlocks
                          · skip
                            have hu0 := hi0
                            have hu1 : u < P 0 1 := by omega
                            refine k_iconst hx hb dX6_digest_147 ?_
                            refine lv_istore (lv' := [(4, .int (iI 0)), (3, .int (iI u)), (1, .long (lI (mxF (fun k => stW (mO P) (k / 7) (k % 7)) (7 * u) (mxTF (mO P) (mat (mO P) (P 8 8)).1 (P 0 0) (mxF (P 8) 10 (mxF (whW (mO P)) 11 (31 * (31 * (31 * 18761 + P 50 1) + P 10 0) + P 100 7))))))), (0, .ref (a 100))]) hx hb dX6_digest_148 hl (by decide) rfl (fun ls hl => ?_)
                            have loop150 : ∀ (n_13 : Nat) (w : Int) (x1 : Int) (hi0 : 0 ≤ w) (hi1 : w ≤ 7) (hex1 : x1 = mxF (fun k => stW (mO P) (k / 7) (k % 7)) (7 * u + w) (mxTF (mO P) (mat (mO P) (P 8 8)).1 (P 0 0) (mxF (P 8) 10 (mxF (whW (mO P)) 11 (31 * (31 * (31 * 18761 + P 50 1) + P 10 0) + P 100 7))))) (hn : 7 - w < (n_13 : Int)) (ls : Array Slot) (hl : lv_has ls 5 [(4, .int (iI w)), (3, .int (iI u)), (1, .long (lI x1)), (0, .ref (a 100))]), W p l e { frames := 6, cells := 0, slots := 0, locals := 148 } s m ([.ref (a 100)] : List Value).toArray below meth c H locs 0 0 (MQ below (kQl D (obdgW cy a P) sz (fun u9 : Nat → Int → Int => obdgW cy a u9) (fun r9 u9 => ∃ (zZ : Nat → Int → Int), (figOK (mO P) zZ (P 0 0) ∧ maOK (mO P) (P 8 8) (zZ 31) (zZ 32) (zZ 33) ∧ zZ 30 3 = (mat (mO P) (P 8 8)).2.2.1 ∧ zZ 30 4 = (mat (mO P) (P 8 8)).2.2.2) ∧ (r9 = dgH (mO P) (P 50 1) (P 10 0) (P 100 7)) ∧ (u9 = (upr (upr (upr (upr (upr (upr (upr (upr (upr (upr (upr (upr (upr (upr (upr (upr P 21 (zZ 21)) 22 (zZ 22)) 23 (zZ 23)) 24 (zZ 24)) 25 (zZ 25)) 26 (zZ 26)) 27 (zZ 27)) 28 (zZ 28)) 30 (zZ 30)) 31 (zZ 31)) 32 (zZ 32)) 33 (zZ 33)) 34 (zZ 34)) 35 (zZ 35)) 36 (zZ 36)) 100 (ups (P 100) 6 1))))) ([.ref (a 100)] : List Value).toArray s 0 0 (va_A (obdgW cy a P) sz)) (F0 m 150 ls []) := by
                              intro n_13
                              induction n_13 with
                              | zero => intro w x1 hi0 hi1 hex1 hn ls hl; exfalso; omega
                              | succ n_13 ih150 =>
                                intro w x1 hi0 hi1 hex1 hn ls hl
                                subst hex1
                                refine lv_iload hx hb dX6_digest_150 (lv_at hl 0 rfl) ?_
                                refine k_bipush hx hb dX6_digest_152 (by decide +kernel) ?_
                                refine k_icmp_ge (tgt := 178) hx hb dX6_digest_154 (by decide) (by omega) (by omega) (fun c_14 => ?_) (fun c_14 => ?_)
                                · skip
                                  refine lv_iinc (v := iI (u + 1)) (lv' := [(3, .int (iI (u + 1))), (4, .int (iI w)), (1, .long (lI (mxF (fun k => stW (mO P) (k / 7) (k % 7)) (7 * u + w) (mxTF (mO P) (mat (mO P) (P 8 8)).1 (P 0 0) (mxF (P 8) 10 (mxF (whW (mO P)) 11 (31 * (31 * (31 * 18761 + P 50 1) + P 10 0) + P 100 7))))))), (0, .ref (a 100))]) hx hb dX6_digest_178 hl (k := 1) rfl (iI_add _ _) (by decide) rfl (fun ls hl => ?_)
                                  refine lv_goto (tgt := 136) hx hb dX6_digest_181 (by decide) ?_
                                  exact ih136 (u + 1) (mxF (fun k => stW (mO P) (k / 7) (k % 7)) (7 * u + w) (mxTF (mO P) (mat (mO P) (P 8 8)).1 (P 0 0) (mxF (P 8) 10 (mxF (whW (mO P)) 11 (31 * (31 * (31 * 18761 + P 50 1) + P 10 0) + P 100 7))))) (by omega) (by omega) (by rw [show w = 7 by omega, show 7 * (u + 1) = 7 * u + 7 by omega]) (by omega) ls (lv_sub hl [0, 2, 3] rfl)
                                · skip
                                  refine k_ldc2 (z := 31) hx hb hown hmw1 (by decide +kernel) dX6_digest_157 ?_
                                  refine lv_lload_n hx hb dX6_digest_160 rfl (lv_at hl 2 rfl) ?_
                                  refine k_lmul hx hb dX6_digest_161 ?_
                                  refine lv_aload_n hx hb dX6_digest_162 rfl (lv_at hl 3 rfl) ?_
                                  refine lv_iload_n hx hb dX6_digest_163 rfl (lv_at hl 1 rfl) ?_
                                  refine lv_iload hx hb dX6_digest_164 (lv_at hl 0 rfl) ?_
                                  refine k_roV (As := [.int (iI u), .int (iI w)]) (rest := [.long (lI (31 * (mxF (fun k => stW (mO P) (k / 7) (k % 7)) (7 * u + w) (mxTF (mO P) (mat (mO P) (P 8 8)).1 (P 0 0) (mxF (P 8) 10 (mxF (whW (mO P)) 11 (31 * (31 * (31 * 18761 + P 50 1) + P 10 0) + P 100 7)))))))]) ⟨hx, hb, hml, hown, hts⟩ (c_X6_starValue l D cy a (upr (upr (upr (upr (upr (upr (upr (upr (upr (upr (upr (upr (upr (upr (upr (upr P 21 (zZ_3 21)) 22 (zZ_3 22)) 23 (zZ_3 23)) 24 (zZ_3 24)) 25 (zZ_3 25)) 26 (zZ_3 26)) 27 (zZ_3 27)) 28 (zZ_3 28)) 30 (zZ_3 30)) 31 (zZ_3 31)) 32 (zZ_3 32)) 33 (zZ_3 33)) 34 (zZ_3 34)) 35 (zZ_3 35)) 36 (zZ_3 36)) 100 (ups (P 100) 6 1)) u w hI (show lkd (upr (upr (upr (upr (upr (upr (upr (upr (upr (upr (upr (upr (upr (upr (upr (upr P 21 (zZ_3 21)) 22 (zZ_3 22)) 23 (zZ_3 23)) 24 (zZ_3 24)) 25 (zZ_3 25)) 26 (zZ_3 26)) 27 (zZ_3 27)) 28 (zZ_3 28)) 30 (zZ_3 30)) 31 (zZ_3 31)) 32 (zZ_3 32)) 33 (zZ_3 33)) 34 (zZ_3 34)) 35 (zZ_3 35)) 36 (zZ_3 36)) 100 (ups (P 100) 6 1)) from hfk) (show 0 ≤ u by omega) (show u < (P 0) 1 by omega) (show 0 ≤ w ∧ w ≤ 6 by omega)) gX6_digest_X6_starValue rfl ⟨rfl, rfl⟩ 2 rfl (by decide +kernel) ⟨Nat.le_of_ble_eq_true rfl, Nat.le_of_ble_eq_true rfl⟩ (GG_ok D cy) ((GG_ok D cy).2.2.2 _ _ _ _ (fun _ h => h.elim) ((GG_ok D cy).1 _ _ _ _ hS.2.1 hG)) (hP.sub (ws' := (oblkW cy a (upr (upr (upr (upr (upr (upr (upr (upr (upr (upr (upr (upr (upr (upr (upr (upr P 21 (zZ_3 21)) 22 (zZ_3 22)) 23 (zZ_3 23)) 24 (zZ_3 24)) 25 (zZ_3 25)) 26 (zZ_3 26)) 27 (zZ_3 27)) 28 (zZ_3 28)) 30 (zZ_3 30)) 31 (zZ_3 31)) 32 (zZ_3 32)) 33 (zZ_3 33)) 34 (zZ_3 34)) 35 (zZ_3 35)) 36 (zZ_3 36)) 100 (ups (P 100) 6 1)))) [0, 1, 2, 3, 4, 5, 6, 7, 8, 9, 10, 11, 12, 13, 14, 15, 16, 17, 18, 19, 20, 21, 22, 23, 24, 25] rfl) (va_recv hK hP (ci := 5) (q0 := 0) rfl rfl) hl.1 rfl (Nat.le_of_ble_eq_true rfl) ⟨Nat.le_of_ble_eq_true rfl, Nat.le_of_ble_eq_true rfl⟩ dX6_digest_166 (fun r_15 hr_15 => ?_)
                                  have hr_15 : r_15 = stW (mO P) u w := hr_15
                                  subst hr_15
                                  have hsb := stW_bd (u := u) (w := w) hI hu0 (mO_13lt hu1) (by omega)
                                  refine k_i2l hx hb dX6_digest_169 (by omega) ?_
                                  refine k_ladd hx hb dX6_digest_170 ?_
                                  refine lv_lstore_n (lv' := [(1, .long (lI ((31 * (mxF (fun k => stW (mO P) (k / 7) (k % 7)) (7 * u + w) (mxTF (mO P) (mat (mO P) (P 8 8)).1 (P 0 0) (mxF (P 8) 10 (mxF (whW (mO P)) 11 (31 * (31 * (31 * 18761 + P 50 1) + P 10 0) + P 100 7)))))) + (stW (mO P) u w)))), (4, .int (iI w)), (3, .int (iI u)), (0, .ref (a 100))]) hx hb dX6_digest_171 rfl hl (by decide) rfl (fun ls hl => ?_)
                                  refine lv_iinc (v := iI (w + 1)) (lv' := [(4, .int (iI (w + 1))), (1, .long (lI ((31 * (mxF (fun k => stW (mO P) (k / 7) (k % 7)) (7 * u + w) (mxTF (mO P) (mat (mO P) (P 8 8)).1 (P 0 0) (mxF (P 8) 10 (mxF (whW (mO P)) 11 (31 * (31 * (31 * 18761 + P 50 1) + P 10 0) + P 100 7)))))) + (stW (mO P) u w)))), (3, .int (iI u)), (0, .ref (a 100))]) hx hb dX6_digest_172 hl (k := 1) rfl (iI_add _ _) (by decide) rfl (fun ls hl => ?_)
                                  refine lv_goto (tgt := 150) hx hb dX6_digest_175 (by decide) ?_
                                  exact ih150 (w + 1) ((31 * (mxF (fun k => stW (mO P) (k / 7) (k % 7)) (7 * u + w) (mxTF (mO P) (mat (mO P) (P 8 8)).1 (P 0 0) (mxF (P 8) 10 (mxF (whW (mO P)) 11 (31 * (31 * (31 * 18761 + P 50 1) + P 10 0) + P 100 7)))))) + (stW (mO P) u w)) (by omega) (by omega) ((mx_at (stW (mO P)) _ hu0 (by omega)).symm) (by omega) ls (lv_sub hl [0, 2, 1, 3] rfl)
                            exact loop150 ((7 - 0 : Int) + 1).toNat 0 (mxF (fun k => stW (mO P) (k / 7) (k % 7)) (7 * u) (mxTF (mO P) (mat (mO P) (P 8 8)).1 (P 0 0) (mxF (P 8) 10 (mxF (whW (mO P)) 11 (31 * (31 * (31 * 18761 + P 50 1) + P 10 0) + P 100 7))))) (by omega) (by omega) (by rw [Int.add_zero]) (by omega) ls (lv_sub hl [0, 1, 2, 3] rfl)
                      exact loop136 ((P 0 1 - 0 : Int) + 1).toNat 0 (mxTF (mO P) (mat (mO P) (P 8 8)).1 t (mxF (P 8) 10 (mxF (whW (mO P)) 11 (31 * (31 * (31 * 18761 + P 50 1) + P 10 0) + P 100 7)))) (by omega) (by omega) (by rw [show t = P 0 0 by omega]; rfl) (by omega) ls (lv_sub hl [0, 1, 2] rfl)
                    · skip
                      refine lv_aload_n hx hb dX6_digest_121 rfl (lv_at hl 2 rfl) ?_
                      refine lv_lload_n hx hb dX6_digest_122 rfl (lv_at hl 1 rfl) ?_
                      refine lv_iload_n hx hb dX6_digest_123 rfl (lv_at hl 0 rfl) ?_
                      have hPc := hP.sub (ws' := (oblkW cy a (upr (upr (upr (upr (upr (upr (upr (upr (upr (upr (upr (upr (upr (upr (upr (upr P 21 (zZ_3 21)) 22 (zZ_3 22)) 23 (zZ_3 23)) 24 (zZ_3 24)) 25 (zZ_3 25)) 26 (zZ_3 26)) 27 (zZ_3 27)) 28 (zZ_3 28)) 30 (zZ_3 30)) 31 (zZ_3 31)) 32 (zZ_3 32)) 33 (zZ_3 33)) 34 (zZ_3 34)) 35 (zZ_3 35)) 36 (zZ_3 36)) 100 (ups (P 100) 6 1)))) [0, 1, 2, 3, 4, 5, 6, 7, 8, 9, 10, 11, 12, 13, 14, 15, 16, 17, 18, 19, 20, 21, 22, 23, 24, 25] rfl
                      have hDc := hD.sub (ws' := (oblkW cy a (upr (upr (upr (upr (upr (upr (upr (upr (upr (upr (upr (upr (upr (upr (upr (upr P 21 (zZ_3 21)) 22 (zZ_3 22)) 23 (zZ_3 23)) 24 (zZ_3 24)) 25 (zZ_3 25)) 26 (zZ_3 26)) 27 (zZ_3 27)) 28 (zZ_3 28)) 30 (zZ_3 30)) 31 (zZ_3 31)) 32 (zZ_3 32)) 33 (zZ_3 33)) 34 (zZ_3 34)) 35 (zZ_3 35)) 36 (zZ_3 36)) 100 (ups (P 100) 6 1)))) [0, 1, 2, 3, 4, 5, 6, 7, 8, 9, 10, 11, 12, 13, 14, 15, 16, 17, 18, 19, 20, 21, 22, 23, 24, 25] (by decide) rfl
                      have hFc := va_free (wc := (oblkW cy a (upr (upr (upr (upr (upr (upr (upr (upr (upr (upr (upr (upr (upr (upr (upr (upr P 21 (zZ_3 21)) 22 (zZ_3 22)) 23 (zZ_3 23)) 24 (zZ_3 24)) 25 (zZ_3 25)) 26 (zZ_3 26)) 27 (zZ_3 27)) 28 (zZ_3 28)) 30 (zZ_3 30)) 31 (zZ_3 31)) 32 (zZ_3 32)) 33 (zZ_3 33)) 34 (zZ_3 34)) 35 (zZ_3 35)) 36 (zZ_3 36)) 100 (ups (P 100) 6 1)))) hD hS hA [0, 1, 2, 3, 4, 5, 6, 7, 8, 9, 10, 11, 12, 13, 14, 15, 16, 17, 18, 19, 20, 21, 22, 23, 24, 25] rfl
                      refine k_mul (k_runV (As := [.long (lI (mxTF (mO P) (mat (mO P) (P 8 8)).1 t (mxF (P 8) 10 (mxF (whW (mO P)) 11 (31 * (31 * (31 * 18761 + P 50 1) + P 10 0) + P 100 7))))), .int (iI t)]) (rest := []) ⟨hx, hb, hml, hown, hts⟩ (c_X6_hashTrail l D cy H.size a (upr (upr (upr (upr (upr (upr (upr (upr (upr (upr (upr (upr (upr (upr (upr (upr P 21 (zZ_3 21)) 22 (zZ_3 22)) 23 (zZ_3 23)) 24 (zZ_3 24)) 25 (zZ_3 25)) 26 (zZ_3 26)) 27 (zZ_3 27)) 28 (zZ_3 28)) 30 (zZ_3 30)) 31 (zZ_3 31)) 32 (zZ_3 32)) 33 (zZ_3 33)) 34 (zZ_3 34)) 35 (zZ_3 35)) 36 (zZ_3 36)) 100 (ups (P 100) 6 1)) (mxTF (mO P) (mat (mO P) (P 8 8)).1 t (mxF (P 8) 10 (mxF (whW (mO P)) 11 (31 * (31 * (31 * 18761 + P 50 1) + P 10 0) + P 100 7)))) t hI (show lkd (upr (upr (upr (upr (upr (upr (upr (upr (upr (upr (upr (upr (upr (upr (upr (upr P 21 (zZ_3 21)) 22 (zZ_3 22)) 23 (zZ_3 23)) 24 (zZ_3 24)) 25 (zZ_3 25)) 26 (zZ_3 26)) 27 (zZ_3 27)) 28 (zZ_3 28)) 30 (zZ_3 30)) 31 (zZ_3 31)) 32 (zZ_3 32)) 33 (zZ_3 33)) 34 (zZ_3 34)) 35 (zZ_3 35)) 36 (zZ_3 36)) 100 (ups (P 100) 6 1)) from hfk) (show 0 ≤ t by omega) (show t < (P 0) 0 by omega)) gX6_digest_X6_hashTrail rfl ⟨rfl, rfl⟩ 2 rfl (by decide +kernel) ⟨Nat.le_of_ble_eq_true rfl, Nat.le_of_ble_eq_true rfl⟩ (GG_ok D cy) hG hS hFc hPc hDc (va_recv hK hP (ci := 5) (q0 := 0) rfl rfl) hl.1 rfl (Nat.le_of_ble_eq_true rfl) ⟨Nat.le_of_ble_eq_true rfl, Nat.le_of_ble_eq_true rfl⟩ dX6_digest_124) hFc hS (fun r_16 R_17 H1 locs1 hR_17 hP1 hD1 hS1 hk1 => ?_)
                      have hR_17 : r_16 = mxT (mO P) ((zZ_3 31)) t (mxTF (mO P) (mat (mO P) (P 8 8)).1 t (mxF (P 8) 10 (mxF (whW (mO P)) 11 (31 * (31 * (31 * 18761 + P 50 1) + P 10 0) + P 100 7)))) ∧ R_17 = (upr (upr (upr (upr (upr (upr (upr (upr (upr (upr (upr (upr (upr (upr (upr (upr P 21 (zZ_3 21)) 22 (zZ_3 22)) 23 (zZ_3 23)) 24 (zZ_3 24)) 25 (zZ_3 25)) 26 (zZ_3 26)) 27 (zZ_3 27)) 28 (zZ_3 28)) 30 (zZ_3 30)) 31 (zZ_3 31)) 32 (zZ_3 32)) 33 (zZ_3 33)) 34 (zZ_3 34)) 35 (zZ_3 35)) 36 (zZ_3 36)) 100 (ups (P 100) 6 1)) := hR_17
                      obtain ⟨hr_16, rfl⟩ := hR_17
                      have hr_16 : r_16 = mxT (mO P) ((zZ_3 31)) t (mxTF (mO P) (mat (mO P) (P 8 8)).1 t (mxF (P 8) 10 (mxF (whW (mO P)) 11 (31 * (31 * (31 * 18761 + P 50 1) + P 10 0) + P 100 7)))) := hr_16
                      subst hr_16
                      have hDn : va_D (va_A (obdgW cy a P) sz) (obdgW cy a (upr (upr (upr (upr (upr (upr (upr (upr (upr (upr (upr (upr (upr (upr (upr (upr P 21 (zZ_3 21)) 22 (zZ_3 22)) 23 (zZ_3 23)) 24 (zZ_3 24)) 25 (zZ_3 25)) 26 (zZ_3 26)) 27 (zZ_3 27)) 28 (zZ_3 28)) 30 (zZ_3 30)) 31 (zZ_3 31)) 32 (zZ_3 32)) 33 (zZ_3 33)) 34 (zZ_3 34)) 35 (zZ_3 35)) 36 (zZ_3 36)) 100 (ups (P 100) 6 1))) := k_addr hD rfl
                      have hPn := k_join (ws' := (obdgW cy a (upr (upr (upr (upr (upr (upr (upr (upr (upr (upr (upr (upr (upr (upr (upr (upr P 21 (zZ_3 21)) 22 (zZ_3 22)) 23 (zZ_3 23)) 24 (zZ_3 24)) 25 (zZ_3 25)) 26 (zZ_3 26)) 27 (zZ_3 27)) 28 (zZ_3 28)) 30 (zZ_3 30)) 31 (zZ_3 31)) 32 (zZ_3 32)) 33 (zZ_3 33)) 34 (zZ_3 34)) 35 (zZ_3 35)) 36 (zZ_3 36)) 100 (ups (P 100) 6 1)))) hP hD [0, 1, 2, 3, 4, 5, 6, 7, 8, 9, 10, 11, 12, 13, 14, 15, 16, 17, 18, 19, 20, 21, 22, 23, 24, 25] [some 0, some 1, some 2, some 3, some 4, some 5, some 6, some 7, some 8, some 9, some 10, some 11, some 12, some 13, some 14, some 15, some 16, some 17, some 18, some 19, some 20, some 21, some 22, some 23, some 24, some 25, none, none, none, none, none, none] rfl hk1 hP1 rfl rfl
                      clear hP hD hS hP1 hD1 hk1
                      have hP := hPn
                      have hD := hDn
                      have hS := hS1
                      clear hPn hDn hS1
                      generalize H1 = H at hP hS ⊢
                      generalize locs1 = locs at hS ⊢
                      refine lv_lstore_n (lv' := [(1, .long (lI (mxT (mO P) ((zZ_3 31)) t (mxTF (mO P) (mat (mO P) (P 8 8)).1 t (mxF (P 8) 10 (mxF (whW (mO P)) 11 (31 * (31 * (31 * 18761 + P 50 1) + P 10 0) + P 100 7))))))), (3, .int (iI t)), (0, .ref (a 100))]) hx hb dX6_digest_127 rfl hl (by decide) rfl (fun ls hl => ?_)
                      refine lv_iinc (v := iI (t + 1)) (lv' := [(3, .int (iI (t + 1))), (1, .long (lI (mxT (mO P) ((zZ_3 31)) t (mxTF (mO P) (mat (mO P) (P 8 8)).1 t (mxF (P 8) 10 (mxF (whW (mO P)) 11 (31 * (31 * (31 * 18761 + P 50 1) + P 10 0) + P 100 7))))))), (0, .ref (a 100))]) hx hb dX6_digest_128 hl (k := 1) rfl (iI_add _ _) (by decide) rfl (fun ls hl => ?_)
                      refine lv_goto (tgt := 110) hx hb dX6_digest_131 (by decide) ?_
                      exact ih110 (t + 1) (mxT (mO P) ((zZ_3 31)) t (mxTF (mO P) (mat (mO P) (P 8 8)).1 t (mxF (P 8) 10 (mxF (whW (mO P)) 11 (31 * (31 * (31 * 18761 + P 50 1) + P 10 0) + P 100 7))))) (by omega) (by omega) (by rw [mxTF_s _ _ _ hi0, ← mxT_congr (hfk.2.1.1 t hi0 (by omega)).1]) (by omega) H locs (hP) (k_addr hD rfl) hS ls (lv_sub hl [0, 1, 2] rfl)
                exact loop110 ((P 0 0 - 0 : Int) + 1).toNat 0 (mxF (P 8) j (mxF (whW (mO P)) 11 (31 * (31 * (31 * 18761 + P 50 1) + P 10 0) + P 100 7))) (by omega) (by omega) (by rw [show j = 10 by omega]; rfl) (by omega) H locs (hP) (k_addr hD rfl) hS ls (lv_sub hl [0, 1, 2] rfl)
              · skip
                refine k_ldc2 (z := 31) hx hb hown hmw1 (by decide +kernel) dX6_digest_85 ?_
                refine lv_lload_n hx hb dX6_digest_88 rfl (lv_at hl 1 rfl) ?_
                refine k_lmul hx hb dX6_digest_89 ?_
                refine lv_aload_n hx hb dX6_digest_90 rfl (lv_at hl 2 rfl) ?_
                refine va_get (D := D) (ci := 5) (v := .ref (a 0)) (C := RX6) (T := TX6) (N := 8) hx hb hts hinX6 hown hK hP 0 rfl rfl 0 (by decide) hmw7 (fun _ h9 => h9) rfl dX6_digest_91 ?_
                refine va_get (D := D) (ci := 3) (v := .ref (a 8)) (C := RX4) (T := TX4) (N := 12) hx hb hts hinX4 hown hK hP 1 rfl rfl 11 (by decide) hmw10 (fun _ h9 => h9) rfl dX6_digest_94 ?_
                refine lv_iload_n hx hb dX6_digest_97 rfl (lv_at hl 0 rfl) ?_
                have hlb := inv_lo hI hi0 (show j < 10 by omega)
                rw [mO_set P (show j < 10 by omega)] at hlb
                refine k_iald hx hb hK hP 9 0 (f := P 8) rfl rfl (i := j) (by omega) dX6_digest_98 ?_
                refine k_i2l hx hb dX6_digest_99 (by omega) ?_
                refine k_ladd hx hb dX6_digest_100 ?_
                refine lv_lstore_n (lv' := [(1, .long (lI ((31 * (mxF (P 8) j (mxF (whW (mO P)) 11 (31 * (31 * (31 * 18761 + P 50 1) + P 10 0) + P 100 7)))) + (P 8 j)))), (3, .int (iI j)), (0, .ref (a 100))]) hx hb dX6_digest_101 rfl hl (by decide) rfl (fun ls hl => ?_)
                refine lv_iinc (v := iI (j + 1)) (lv' := [(3, .int (iI (j + 1))), (1, .long (lI ((31 * (mxF (P 8) j (mxF (whW (mO P)) 11 (31 * (31 * (31 * 18761 + P 50 1) + P 10 0) + P 100 7)))) + (P 8 j)))), (0, .ref (a 100))]) hx hb dX6_digest_102 hl (k := 1) rfl (iI_add _ _) (by decide) rfl (fun ls hl => ?_)
                refine lv_goto (tgt := 79) hx hb dX6_digest_105 (by decide) ?_
                exact ih79 (j + 1) ((31 * (mxF (P 8) j (mxF (whW (mO P)) 11 (31 * (31 * (31 * 18761 + P 50 1) + P 10 0) + P 100 7)))) + (P 8 j)) (by omega) (by omega) ((mxF_s _ _ hi0).symm) (by omega) ls (lv_sub hl [0, 1, 2] rfl)
          exact loop79 ((10 - 0 : Int) + 1).toNat 0 (mxF (whW (mO P)) w (31 * (31 * (31 * 18761 + P 50 1) + P 10 0) + P 100 7)) (by omega) (by omega) (by rw [show w = 11 by omega]; rfl) (by omega) ls (lv_sub hl [0, 1, 2] rfl)
        · skip
          refine k_ldc2 (z := 31) hx hb hown hmw1 (by decide +kernel) dX6_digest_58 ?_
          refine lv_lload_n hx hb dX6_digest_61 rfl (lv_at hl 1 rfl) ?_
          refine k_lmul hx hb dX6_digest_62 ?_
          refine lv_aload_n hx hb dX6_digest_63 rfl (lv_at hl 2 rfl) ?_
          refine lv_iload_n hx hb dX6_digest_64 rfl (lv_at hl 0 rfl) ?_
          refine k_roV (As := [.int (iI w)]) (rest := [.long (lI (31 * (mxF (whW (mO P)) w (31 * (31 * (31 * 18761 + P 50 1) + P 10 0) + P 100 7))))]) ⟨hx, hb, hml, hown, hts⟩ (c_X6_wholeValue l D cy a (upr (upr (upr (upr (upr (upr (upr (upr (upr (upr (upr (upr (upr (upr (upr (upr P 21 (zZ_3 21)) 22 (zZ_3 22)) 23 (zZ_3 23)) 24 (zZ_3 24)) 25 (zZ_3 25)) 26 (zZ_3 26)) 27 (zZ_3 27)) 28 (zZ_3 28)) 30 (zZ_3 30)) 31 (zZ_3 31)) 32 (zZ_3 32)) 33 (zZ_3 33)) 34 (zZ_3 34)) 35 (zZ_3 35)) 36 (zZ_3 36)) 100 (ups (P 100) 6 1)) w hI (show lkd (upr (upr (upr (upr (upr (upr (upr (upr (upr (upr (upr (upr (upr (upr (upr (upr P 21 (zZ_3 21)) 22 (zZ_3 22)) 23 (zZ_3 23)) 24 (zZ_3 24)) 25 (zZ_3 25)) 26 (zZ_3 26)) 27 (zZ_3 27)) 28 (zZ_3 28)) 30 (zZ_3 30)) 31 (zZ_3 31)) 32 (zZ_3 32)) 33 (zZ_3 33)) 34 (zZ_3 34)) 35 (zZ_3 35)) 36 (zZ_3 36)) 100 (ups (P 100) 6 1)) from hfk) (show 0 ≤ w ∧ w ≤ 10 by omega)) gX6_digest_X6_wholeValue rfl ⟨rfl, rfl⟩ 1 rfl (by decide +kernel) ⟨Nat.le_of_ble_eq_true rfl, Nat.le_of_ble_eq_true rfl⟩ (GG_ok D cy) ((GG_ok D cy).2.2.2 _ _ _ _ (fun _ h => h.elim) ((GG_ok D cy).1 _ _ _ _ hS.2.1 hG)) (hP.sub (ws' := (oblkW cy a (upr (upr (upr (upr (upr (upr (upr (upr (upr (upr (upr (upr (upr (upr (upr (upr P 21 (zZ_3 21)) 22 (zZ_3 22)) 23 (zZ_3 23)) 24 (zZ_3 24)) 25 (zZ_3 25)) 26 (zZ_3 26)) 27 (zZ_3 27)) 28 (zZ_3 28)) 30 (zZ_3 30)) 31 (zZ_3 31)) 32 (zZ_3 32)) 33 (zZ_3 33)) 34 (zZ_3 34)) 35 (zZ_3 35)) 36 (zZ_3 36)) 100 (ups (P 100) 6 1)))) [0, 1, 2, 3, 4, 5, 6, 7, 8, 9, 10, 11, 12, 13, 14, 15, 16, 17, 18, 19, 20, 21, 22, 23, 24, 25] rfl) (va_recv hK hP (ci := 5) (q0 := 0) rfl rfl) hl.1 rfl (Nat.le_of_ble_eq_true rfl) ⟨Nat.le_of_ble_eq_true rfl, Nat.le_of_ble_eq_true rfl⟩ dX6_digest_65 (fun r_18 hr_18 => ?_)
          have hr_18 : r_18 = whW (mO P) w := hr_18
          subst hr_18
          have hwb := whW_bd (w := w) hI
          refine k_i2l hx hb dX6_digest_68 (by omega) ?_
          refine k_ladd hx hb dX6_digest_69 ?_
          refine lv_lstore_n (lv' := [(1, .long (lI ((31 * (mxF (whW (mO P)) w (31 * (31 * (31 * 18761 + P 50 1) + P 10 0) + P 100 7))) + (whW (mO P) w)))), (3, .int (iI w)), (0, .ref (a 100))]) hx hb dX6_digest_70 rfl hl (by decide) rfl (fun ls hl => ?_)
          refine lv_iinc (v := iI (w + 1)) (lv' := [(3, .int (iI (w + 1))), (1, .long (lI ((31 * (mxF (whW (mO P)) w (31 * (31 * (31 * 18761 + P 50 1) + P 10 0) + P 100 7))) + (whW (mO P) w)))), (0, .ref (a 100))]) hx hb dX6_digest_71 hl (k := 1) rfl (iI_add _ _) (by decide) rfl (fun ls hl => ?_)
          refine lv_goto (tgt := 52) hx hb dX6_digest_74 (by decide) ?_
          exact ih52 (w + 1) ((31 * (mxF (whW (mO P)) w (31 * (31 * (31 * 18761 + P 50 1) + P 10 0) + P 100 7))) + (whW (mO P) w)) (by omega) (by omega) ((mxF_s _ _ hi0).symm) (by omega) ls (lv_sub hl [0, 1, 2] rfl)
    exact loop52 ((11 - 0 : Int) + 1).toNat 0 ((31 * ((31 * ((31 * 18761) + (P 50 1))) + (P 10 0))) + (P 100 7)) (by omega) (by omega) (rfl) (by omega) ls (lv_sub hl [0, 1, 2] rfl)
  exact hbody s.heap [] hP hS ls hl
