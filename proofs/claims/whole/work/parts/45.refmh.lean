set_option maxHeartbeats 4000000 in
set_option maxRecDepth 100000 in
theorem c_X7_mix (l : Launch) (D : va_G) (cy : Nat → ClassId) (sz : Nat) (a : Nat → Nat) (R : Nat → Int → Int) (v : Int)  : Met l yX7_mix wsX7_mix { frames := 0, cells := 0, slots := 0, locals := 0 } (mPre (GG D cy) D (rfW cy a R) sz ([.ref (a 0), .long (lI v)] : List Value)) (kQv D (rfW cy a R) sz (fun u9 : Nat → Int → Int => rfW cy a u9) (fun u9 => u9 = (upr R 8 (ups (R 8) 0 (31 * R 8 0 + v))))) 0 0 (va_A (rfW cy a R) sz) := by
  refine kM_start (cc := cX7_mix) (maxL := 3) (ret := none) (by decide) rfl (Nat.le_of_ble_eq_true rfl) ?_
  intro p e s m below meth c hx hb hr hlocks hml hts hown hsz hA hG hP hD hS hin ls hl
  have hK := hG.1
  have hl : lv_has ls 3 [(0, .ref (a 0)), (1, .long (lI v))] := hl
  have hinX7 : ∀ w ∈ u_ws RX7 TX7 19, w ∈ wsX7_mix := by decide +kernel
  have hmw0 := hts (.constantLong RX7 310 (31)) (by decide +kernel)
  have hmw1 := hts (.fieldLink RX7 312 "ArcPlateModel" "hash" "J") (by decide +kernel)
  have hbody : ∀ (H : Heap) (locs : List Loc) (hP : va_P D vwCl (rfW cy a R) H) (hS : va_S (va_A (rfW cy a R) sz) s.heap H locs) (ls : Array Slot) (hl : lv_has ls 3 [(0, .ref (a 0)), (1, .long (lI v))]), W p l e { frames := 0, cells := 0, slots := 0, locals := 0 } s m ([.ref (a 0), .long (lI v)] : List Value).toArray below meth c H locs 0 0 (MQ below (kQv D (rfW cy a R) sz (fun u9 : Nat → Int → Int => rfW cy a u9) (fun u9 => u9 = (upr R 8 (ups (R 8) 0 (31 * R 8 0 + v))))) ([.ref (a 0), .long (lI v)] : List Value).toArray s 0 0 (va_A (rfW cy a R) sz)) (F0 m 0 ls []) := by
    intro H locs hP hS ls hl
    refine lv_aload_n hx hb dX7_mix_0 rfl (lv_at hl 0 rfl) ?_
    refine k_ldc2 (z := 31) hx hb hown hmw0 (by decide +kernel) dX7_mix_1 ?_
    refine lv_aload_n hx hb dX7_mix_4 rfl (lv_at hl 0 rfl) ?_
    refine va_get (D := D) (ci := 6) (v := .long (lI (R 8 0))) (C := RX7) (T := TX7) (N := 19) hx hb hts hinX7 hown hK hP 0 rfl rfl 18 (by decide) hmw1 (fun _ h9 => h9) rfl dX7_mix_5 ?_
    refine k_lmul hx hb dX7_mix_8 ?_
    refine lv_lload_n hx hb dX7_mix_9 rfl (lv_at hl 1 rfl) ?_
    refine k_ladd hx hb dX7_mix_10 ?_
    refine va_put (D := D) (ci := 6) (v := .long (lI ((31 * (R 8 0)) + v))) (ty := .long) (C := RX7) (T := TX7) (N := 19) hx hb hts hinX7 tyX7 tyX7_ok nmX7 hown hK hP hD hS 0 rfl rfl 18 (by decide) hmw1 (fun _ h9 => h9) rfl (by decide +kernel) rfl rfl (Nat.le_of_ble_eq_true rfl) dX7_mix_11 (fun H locs hP hD hS => ?_)
    have hP : va_P D vwCl (rfW cy a (upr R 8 (ups (R 8) 0 ((31 * (R 8 0)) + v)))) H := hP
    have hD : va_D (va_A (rfW cy a R) sz) (rfW cy a (upr R 8 (ups (R 8) 0 ((31 * (R 8 0)) + v)))) := hD
    exact W.vret hx hb hr (fun t9 ht _ => ⟨⟨(upr R 8 (ups (R 8) 0 ((31 * (R 8 0)) + v))), rfl, (rfl : (upr R 8 (ups (R 8) 0 ((31 * (R 8 0)) + v))) = (upr R 8 (ups (R 8) 0 (31 * R 8 0 + v)))), by rw [ht]; exact hP, hD⟩, hS.F ht⟩) hS.2.2 dX7_mix_14 hlocks
  exact hbody s.heap [] hP hS ls hl
set_option maxHeartbeats 4000000 in
set_option maxRecDepth 100000 in
theorem c_X7_mixTrail (l : Launch) (D : va_G) (cy : Nat → ClassId) (sz : Nat) (a : Nat → Nat) (R : Nat → Int → Int) (t : Int) (hI : Inv (R 1)) (h0 : 0 ≤ t) (h1 : t < R 1 12) (hso : -1000000000 ≤ R 5 t ∧ R 5 t ≤ 12) : Met l yX7_mixTrail wsX7_mixTrail { frames := 8, cells := 0, slots := 0, locals := 174 } (mPre (GG D cy) D (rfW cy a R) sz ([.ref (a 0), .int (iI t)] : List Value)) (kQv D (rfW cy a R) sz (fun u9 : Nat → Int → Int => rfW cy a u9) (fun u9 => u9 = (upr R 8 (ups (R 8) 0 (mxT (R 1) (R 5) t (R 8 0)))))) 0 0 (va_A (rfW cy a R) sz) := by
  refine kM_start (cc := cX7_mixTrail) (maxL := 3) (ret := none) (by decide) rfl (Nat.le_of_ble_eq_true rfl) ?_
  intro p e s m below meth c hx hb hr hlocks hml hts hown hsz hA hG hP hD hS hin ls hl
  have hK := hG.1
  have hl : lv_has ls 3 [(0, .ref (a 0)), (1, .int (iI t))] := hl
  have h12 := inv_S12 hI
  have hp := inv_pts hI h0 h1
  have hbody : ∀ (H : Heap) (locs : List Loc) (hP : va_P D vwCl (rfW cy a R) H) (hS : va_S (va_A (rfW cy a R) sz) s.heap H locs) (ls : Array Slot) (hl : lv_has ls 3 [(0, .ref (a 0)), (1, .int (iI t))]), W p l e { frames := 8, cells := 0, slots := 0, locals := 174 } s m ([.ref (a 0), .int (iI t)] : List Value).toArray below meth c H locs 0 0 (MQ below (kQv D (rfW cy a R) sz (fun u9 : Nat → Int → Int => rfW cy a u9) (fun u9 => u9 = (upr R 8 (ups (R 8) 0 (mxT (R 1) (R 5) t (R 8 0)))))) ([.ref (a 0), .int (iI t)] : List Value).toArray s 0 0 (va_A (rfW cy a R) sz)) (F0 m 0 ls []) := by
    intro H locs hP hS ls hl
    refine k_iconst hx hb dX7_mixTrail_0 ?_
    refine lv_istore_n (lv' := [(2, .int (iI 0)), (0, .ref (a 0)), (1, .int (iI t))]) hx hb dX7_mixTrail_1 rfl hl (by decide) rfl (fun ls hl => ?_)
    have loop2 : ∀ (n_1 : Nat) (w : Int) (hi0 : 0 ≤ w) (hi1 : w ≤ 9) (hn : 9 - w < (n_1 : Int)) (H : Heap) (locs : List Loc) (hP : va_P D vwCl (rfW cy a (upr R 8 (ups (R 8) 0 (mxF (trV (R 1) (R 5) t) w (R 8 0))))) H) (hD : va_D (va_A (rfW cy a R) sz) (rfW cy a (upr R 8 (ups (R 8) 0 (mxF (trV (R 1) (R 5) t) w (R 8 0)))))) (hS : va_S (va_A (rfW cy a R) sz) s.heap H locs) (ls : Array Slot) (hl : lv_has ls 3 [(2, .int (iI w)), (0, .ref (a 0)), (1, .int (iI t))]), W p l e { frames := 8, cells := 0, slots := 0, locals := 174 } s m ([.ref (a 0), .int (iI t)] : List Value).toArray below meth c H locs 0 0 (MQ below (kQv D (rfW cy a R) sz (fun u9 : Nat → Int → Int => rfW cy a u9) (fun u9 => u9 = (upr R 8 (ups (R 8) 0 (mxT (R 1) (R 5) t (R 8 0)))))) ([.ref (a 0), .int (iI t)] : List Value).toArray s 0 0 (va_A (rfW cy a R) sz)) (F0 m 2 ls []) := by
      intro n_1
      induction n_1 with
      | zero => intro w hi0 hi1 hn H locs hP hD hS ls hl; exfalso; omega
      | succ n_1 ih2 =>
        intro w hi0 hi1 hn H locs hP hD hS ls hl
        refine lv_iload_n hx hb dX7_mixTrail_2 rfl (lv_at hl 0 rfl) ?_
        refine k_bipush hx hb dX7_mixTrail_3 (by decide +kernel) ?_
        refine k_icmp_ge (tgt := 25) hx hb dX7_mixTrail_5 (by decide) (by omega) (by omega) (fun c_2 => ?_) (fun c_2 => ?_)
        · skip
          refine k_iconst hx hb dX7_mixTrail_25 ?_
          refine lv_istore_n (lv' := [(2, .int (iI 0)), (0, .ref (a 0)), (1, .int (iI t))]) hx hb dX7_mixTrail_26 rfl hl (by decide) rfl (fun ls hl => ?_)
          have loop27 : ∀ (n_3 : Nat) (k : Int) (hi0 : 0 ≤ k) (hi1 : k ≤ 7 * pts (R 1) t) (hn : 7 * pts (R 1) t - k < (n_3 : Int)) (H : Heap) (locs : List Loc) (hP : va_P D vwCl (rfW cy a (upr R 8 (ups (R 8) 0 (mxF (fun j => ptV (R 1) t (j / 7) (j % 7)) k (mxF (trV (R 1) (R 5) t) 9 (R 8 0)))))) H) (hD : va_D (va_A (rfW cy a R) sz) (rfW cy a (upr R 8 (ups (R 8) 0 (mxF (fun j => ptV (R 1) t (j / 7) (j % 7)) k (mxF (trV (R 1) (R 5) t) 9 (R 8 0))))))) (hS : va_S (va_A (rfW cy a R) sz) s.heap H locs) (ls : Array Slot) (hl : lv_has ls 3 [(2, .int (iI k)), (0, .ref (a 0)), (1, .int (iI t))]), W p l e { frames := 8, cells := 0, slots := 0, locals := 174 } s m ([.ref (a 0), .int (iI t)] : List Value).toArray below meth c H locs 0 0 (MQ below (kQv D (rfW cy a R) sz (fun u9 : Nat → Int → Int => rfW cy a u9) (fun u9 => u9 = (upr R 8 (ups (R 8) 0 (mxT (R 1) (R 5) t (R 8 0)))))) ([.ref (a 0), .int (iI t)] : List Value).toArray s 0 0 (va_A (rfW cy a R) sz)) (F0 m 27 ls []) := by
            intro n_3
            induction n_3 with
            | zero => intro k hi0 hi1 hn H locs hP hD hS ls hl; exfalso; omega
            | succ n_3 ih27 =>
              intro k hi0 hi1 hn H locs hP hD hS ls hl
              refine lv_iload_n hx hb dX7_mixTrail_27 rfl (lv_at hl 0 rfl) ?_
              refine k_bipush hx hb dX7_mixTrail_28 (by decide +kernel) ?_
              refine lv_aload_n hx hb dX7_mixTrail_30 rfl (lv_at hl 1 rfl) ?_
              refine lv_iload_n hx hb dX7_mixTrail_31 rfl (lv_at hl 2 rfl) ?_
              refine k_roV (As := [.int (iI t)]) (rest := [.int (iI 7), .int (iI k)]) ⟨hx, hb, hml, hown, hts⟩ (c_X7_points l D cy a (upr R 8 (ups (R 8) 0 (mxF (fun j => ptV (R 1) t (j / 7) (j % 7)) k (mxF (trV (R 1) (R 5) t) 9 (R 8 0))))) t (show 0 ≤ t by omega) (show t < 12 by omega)) gX7_mixTrail_X7_points rfl ⟨rfl, rfl⟩ 1 rfl (by decide +kernel) ⟨Nat.le_of_ble_eq_true rfl, Nat.le_of_ble_eq_true rfl⟩ (GG_ok D cy) ((GG_ok D cy).2.2.2 _ _ _ _ (fun _ h => h.elim) ((GG_ok D cy).1 _ _ _ _ hS.2.1 hG)) hP (va_recv hK hP (ci := 6) (q0 := 0) rfl rfl) hl.1 rfl (Nat.le_of_ble_eq_true rfl) ⟨Nat.le_of_ble_eq_true rfl, Nat.le_of_ble_eq_true rfl⟩ dX7_mixTrail_32 (fun r_4 hr_4 => ?_)
              have hr_4 : r_4 = pts ((R 1)) t := hr_4
              subst hr_4
              refine k_imul hx hb dX7_mixTrail_35 ?_
              refine k_icmp_ge (tgt := 63) hx hb dX7_mixTrail_36 (by decide) (by omega) (by omega) (fun c_5 => ?_) (fun c_5 => ?_)
              · skip
                exact W.vret hx hb hr (fun t9 ht _ => ⟨⟨(upr R 8 (ups (R 8) 0 (mxF (fun j => ptV (R 1) t (j / 7) (j % 7)) k (mxF (trV (R 1) (R 5) t) 9 (R 8 0))))), rfl, ((by rw [show (ups (R 8) 0 (mxF (fun j => ptV (R 1) t (j / 7) (j % 7)) k (mxF (trV (R 1) (R 5) t) 9 (R 8 0)))) = (ups (R 8) 0 (mxT (R 1) (R 5) t (R 8 0))) from by rw [show k = 7 * pts (R 1) t by omega]; rfl]) : (upr R 8 (ups (R 8) 0 (mxF (fun j => ptV (R 1) t (j / 7) (j % 7)) k (mxF (trV (R 1) (R 5) t) 9 (R 8 0))))) = (upr R 8 (ups (R 8) 0 (mxT (R 1) (R 5) t (R 8 0))))), by rw [ht]; exact hP, hD⟩, hS.F ht⟩) hS.2.2 dX7_mixTrail_63 hlocks
              · skip
                refine lv_aload_n hx hb dX7_mixTrail_39 rfl (lv_at hl 1 rfl) ?_
                refine lv_aload_n hx hb dX7_mixTrail_40 rfl (lv_at hl 1 rfl) ?_
                refine lv_iload_n hx hb dX7_mixTrail_41 rfl (lv_at hl 2 rfl) ?_
                refine lv_iload_n hx hb dX7_mixTrail_42 rfl (lv_at hl 0 rfl) ?_
                refine k_bipush hx hb dX7_mixTrail_43 (by decide +kernel) ?_
                refine k_idiv hx hb dX7_mixTrail_45 (by omega) (by omega) ?_
                refine lv_iload_n hx hb dX7_mixTrail_46 rfl (lv_at hl 0 rfl) ?_
                refine k_bipush hx hb dX7_mixTrail_47 (by decide +kernel) ?_
                refine k_irem hx hb dX7_mixTrail_49 (by omega) (by omega) ?_
                refine k_roV (As := [.int (iI t), .int (iI (k / 7)), .int (iI (k % 7))]) (rest := [.ref (a 0)]) ⟨hx, hb, hml, hown, hts⟩ (c_X7_pointOf l D cy a (upr R 8 (ups (R 8) 0 (mxF (fun j => ptV (R 1) t (j / 7) (j % 7)) k (mxF (trV (R 1) (R 5) t) 9 (R 8 0))))) t (k / 7) (k % 7) hI (show 0 ≤ t by omega) (show t < (R 1) 12 by omega) (show 0 ≤ (k / 7) by omega) (show (k / 7) < pts ((R 1)) t by omega) (show 0 ≤ (k % 7) ∧ (k % 7) ≤ 6 by omega)) gX7_mixTrail_X7_pointOf rfl ⟨rfl, rfl⟩ 3 rfl (by decide +kernel) ⟨Nat.le_of_ble_eq_true rfl, Nat.le_of_ble_eq_true rfl⟩ (GG_ok D cy) ((GG_ok D cy).2.2.2 _ _ _ _ (fun _ h => h.elim) ((GG_ok D cy).1 _ _ _ _ hS.2.1 hG)) hP (va_recv hK hP (ci := 6) (q0 := 0) rfl rfl) hl.1 rfl (Nat.le_of_ble_eq_true rfl) ⟨Nat.le_of_ble_eq_true rfl, Nat.le_of_ble_eq_true rfl⟩ dX7_mixTrail_50 (fun r_6 hr_6 => ?_)
                have hr_6 : r_6 = ptV ((R 1)) t (k / 7) (k % 7) := hr_6
                subst hr_6
                have hpv := ptV_bd (q := k / 7) (w := k % 7) hI h0 h1 (by omega) (by omega) (by omega)
                refine k_i2l hx hb dX7_mixTrail_53 (by omega) ?_
                refine k_muv (k_runV (As := [.long (lI (ptV ((R 1)) t (k / 7) (k % 7)))]) (rest := []) ⟨hx, hb, hml, hown, hts⟩ (c_X7_mix l D cy H.size a (upr R 8 (ups (R 8) 0 (mxF (fun j => ptV (R 1) t (j / 7) (j % 7)) k (mxF (trV (R 1) (R 5) t) 9 (R 8 0))))) (ptV ((R 1)) t (k / 7) (k % 7)) ) gX7_mixTrail_X7_mix rfl ⟨rfl, rfl⟩ 1 rfl (by decide +kernel) ⟨Nat.le_of_ble_eq_true rfl, Nat.le_of_ble_eq_true rfl⟩ (GG_ok D cy) hG hS (k_free hD hS hA) hP hD (va_recv hK hP (ci := 6) (q0 := 0) rfl rfl) hl.1 rfl (Nat.le_of_ble_eq_true rfl) ⟨Nat.le_of_ble_eq_true rfl, Nat.le_of_ble_eq_true rfl⟩ dX7_mixTrail_54) (k_free hD hS hA) hS (fun R_8 H1 locs1 hR_8 hP1 hD1 hS1 hk1 => ?_)
                have hR_8 : R_8 = (upr (upr R 8 (ups (R 8) 0 (mxF (fun j => ptV (R 1) t (j / 7) (j % 7)) k (mxF (trV (R 1) (R 5) t) 9 (R 8 0))))) 8 (ups (ups (R 8) 0 (mxF (fun j => ptV (R 1) t (j / 7) (j % 7)) k (mxF (trV (R 1) (R 5) t) 9 (R 8 0)))) 0 (31 * (mxF (fun j => ptV (R 1) t (j / 7) (j % 7)) k (mxF (trV (R 1) (R 5) t) 9 (R 8 0))) + (ptV (R 1) t (k / 7) (k % 7))))) := hR_8
                subst hR_8
                have hDn : va_D (va_A (rfW cy a R) sz) (rfW cy a (upr R 8 (ups (ups (R 8) 0 (mxF (fun j => ptV (R 1) t (j / 7) (j % 7)) k (mxF (trV (R 1) (R 5) t) 9 (R 8 0)))) 0 (31 * (mxF (fun j => ptV (R 1) t (j / 7) (j % 7)) k (mxF (trV (R 1) (R 5) t) 9 (R 8 0))) + (ptV (R 1) t (k / 7) (k % 7)))))) := k_addr hD rfl
                have hPn : va_P D vwCl (rfW cy a (upr R 8 (ups (ups (R 8) 0 (mxF (fun j => ptV (R 1) t (j / 7) (j % 7)) k (mxF (trV (R 1) (R 5) t) 9 (R 8 0)))) 0 (31 * (mxF (fun j => ptV (R 1) t (j / 7) (j % 7)) k (mxF (trV (R 1) (R 5) t) 9 (R 8 0))) + (ptV (R 1) t (k / 7) (k % 7)))))) H1 := hP1
                clear hP hD hS hP1 hD1 hk1
                have hP := hPn
                have hD := hDn
                have hS := hS1
                clear hPn hDn hS1
                generalize H1 = H at hP hS ⊢
                generalize locs1 = locs at hS ⊢
                refine lv_iinc (v := iI (k + 1)) (lv' := [(2, .int (iI (k + 1))), (0, .ref (a 0)), (1, .int (iI t))]) hx hb dX7_mixTrail_57 hl (k := 0) rfl (iI_add _ _) (by decide) rfl (fun ls hl => ?_)
                refine lv_goto (tgt := 27) hx hb dX7_mixTrail_60 (by decide) ?_
                exact ih27 (k + 1)  (by omega) (by omega) (by omega) H locs (by rw [show (ups (R 8) 0 (mxF (fun j => ptV (R 1) t (j / 7) (j % 7)) (k + 1) (mxF (trV (R 1) (R 5) t) 9 (R 8 0)))) = (ups (ups (R 8) 0 (mxF (fun j => ptV (R 1) t (j / 7) (j % 7)) k (mxF (trV (R 1) (R 5) t) 9 (R 8 0)))) 0 (31 * (mxF (fun j => ptV (R 1) t (j / 7) (j % 7)) k (mxF (trV (R 1) (R 5) t) 9 (R 8 0))) + (ptV (R 1) t (k / 7) (k % 7)))) from by rw [ups_ups, mxF_s _ _ hi0]]; exact hP) (k_addr hD rfl) hS ls (lv_sub hl [0, 1, 2] rfl)
          exact loop27 ((7 * pts (R 1) t - 0 : Int) + 1).toNat 0  (by omega) (by omega) (by omega) H locs (by rw [show (ups (R 8) 0 (mxF (fun j => ptV (R 1) t (j / 7) (j % 7)) 0 (mxF (trV (R 1) (R 5) t) 9 (R 8 0)))) = (ups (R 8) 0 (mxF (trV (R 1) (R 5) t) w (R 8 0))) from by rw [show w = 9 by omega]; rfl]; exact hP) (k_addr hD rfl) hS ls (lv_sub hl [0, 1, 2] rfl)
        · skip
          refine lv_aload_n hx hb dX7_mixTrail_8 rfl (lv_at hl 1 rfl) ?_
          refine lv_aload_n hx hb dX7_mixTrail_9 rfl (lv_at hl 1 rfl) ?_
          refine lv_iload_n hx hb dX7_mixTrail_10 rfl (lv_at hl 2 rfl) ?_
          refine lv_iload_n hx hb dX7_mixTrail_11 rfl (lv_at hl 0 rfl) ?_
          refine k_roV (As := [.int (iI t), .int (iI w)]) (rest := [.ref (a 0)]) ⟨hx, hb, hml, hown, hts⟩ (c_X7_trailOfWhat l D cy a (upr R 8 (ups (R 8) 0 (mxF (trV (R 1) (R 5) t) w (R 8 0)))) t w hI (show 0 ≤ t by omega) (show t < (R 1) 12 by omega) (show 0 ≤ w ∧ w ≤ 8 by omega)) gX7_mixTrail_X7_trailOfWhat rfl ⟨rfl, rfl⟩ 2 rfl (by decide +kernel) ⟨Nat.le_of_ble_eq_true rfl, Nat.le_of_ble_eq_true rfl⟩ (GG_ok D cy) ((GG_ok D cy).2.2.2 _ _ _ _ (fun _ h => h.elim) ((GG_ok D cy).1 _ _ _ _ hS.2.1 hG)) hP (va_recv hK hP (ci := 6) (q0 := 0) rfl rfl) hl.1 rfl (Nat.le_of_ble_eq_true rfl) ⟨Nat.le_of_ble_eq_true rfl, Nat.le_of_ble_eq_true rfl⟩ dX7_mixTrail_12 (fun r_9 hr_9 => ?_)
          have hr_9 : r_9 = trV ((R 1)) ((R 5)) t w := hr_9
          subst hr_9
          have htv := trV_bd (SO := R 5) (w := w) hI h0 h1 hso
          refine k_i2l hx hb dX7_mixTrail_15 (by omega) ?_
          refine k_muv (k_runV (As := [.long (lI (trV ((R 1)) ((R 5)) t w))]) (rest := []) ⟨hx, hb, hml, hown, hts⟩ (c_X7_mix l D cy H.size a (upr R 8 (ups (R 8) 0 (mxF (trV (R 1) (R 5) t) w (R 8 0)))) (trV ((R 1)) ((R 5)) t w) ) gX7_mixTrail_X7_mix rfl ⟨rfl, rfl⟩ 1 rfl (by decide +kernel) ⟨Nat.le_of_ble_eq_true rfl, Nat.le_of_ble_eq_true rfl⟩ (GG_ok D cy) hG hS (k_free hD hS hA) hP hD (va_recv hK hP (ci := 6) (q0 := 0) rfl rfl) hl.1 rfl (Nat.le_of_ble_eq_true rfl) ⟨Nat.le_of_ble_eq_true rfl, Nat.le_of_ble_eq_true rfl⟩ dX7_mixTrail_16) (k_free hD hS hA) hS (fun R_11 H1 locs1 hR_11 hP1 hD1 hS1 hk1 => ?_)
          have hR_11 : R_11 = (upr (upr R 8 (ups (R 8) 0 (mxF (trV (R 1) (R 5) t) w (R 8 0)))) 8 (ups (ups (R 8) 0 (mxF (trV (R 1) (R 5) t) w (R 8 0))) 0 (31 * (mxF (trV (R 1) (R 5) t) w (R 8 0)) + (trV (R 1) (R 5) t w)))) := hR_11
          subst hR_11
          have hDn : va_D (va_A (rfW cy a R) sz) (rfW cy a (upr R 8 (ups (ups (R 8) 0 (mxF (trV (R 1) (R 5) t) w (R 8 0))) 0 (31 * (mxF (trV (R 1) (R 5) t) w (R 8 0)) + (trV (R 1) (R 5) t w))))) := k_addr hD rfl
          have hPn : va_P D vwCl (rfW cy a (upr R 8 (ups (ups (R 8) 0 (mxF (trV (R 1) (R 5) t) w (R 8 0))) 0 (31 * (mxF (trV (R 1) (R 5) t) w (R 8 0)) + (trV (R 1) (R 5) t w))))) H1 := hP1
          clear hP hD hS hP1 hD1 hk1
          have hP := hPn
          have hD := hDn
          have hS := hS1
          clear hPn hDn hS1
          generalize H1 = H at hP hS ⊢
          generalize locs1 = locs at hS ⊢
          refine lv_iinc (v := iI (w + 1)) (lv' := [(2, .int (iI (w + 1))), (0, .ref (a 0)), (1, .int (iI t))]) hx hb dX7_mixTrail_19 hl (k := 0) rfl (iI_add _ _) (by decide) rfl (fun ls hl => ?_)
          refine lv_goto (tgt := 2) hx hb dX7_mixTrail_22 (by decide) ?_
          exact ih2 (w + 1)  (by omega) (by omega) (by omega) H locs (by rw [show (ups (R 8) 0 (mxF (trV (R 1) (R 5) t) (w + 1) (R 8 0))) = (ups (ups (R 8) 0 (mxF (trV (R 1) (R 5) t) w (R 8 0))) 0 (31 * (mxF (trV (R 1) (R 5) t) w (R 8 0)) + (trV (R 1) (R 5) t w))) from by rw [ups_ups, mxF_s _ _ hi0]]; exact hP) (k_addr hD rfl) hS ls (lv_sub hl [0, 1, 2] rfl)
    exact loop2 ((9 - 0 : Int) + 1).toNat 0  (by omega) (by omega) (by omega) H locs (by rw [show (ups (R 8) 0 (mxF (trV (R 1) (R 5) t) 0 (R 8 0))) = (R 8) from ups_self _ _]; exact hP) (k_addr hD rfl) hS ls (lv_sub hl [0, 1, 2] rfl)
  exact hbody s.heap [] hP hS ls hl
