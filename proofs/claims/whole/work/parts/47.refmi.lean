set_option maxHeartbeats 4000000 in
set_option maxRecDepth 100000 in
theorem c_X7_digest (l : Launch) (D : va_G) (cy : Nat → ClassId) (sz : Nat) (a : Nat → Nat) (R : Nat → Int → Int)  (hI : Inv (R 1)) (hsc : 0 ≤ R 0 2 ∧ R 0 2 ≤ 4) (htl : 0 ≤ R 0 4 ∧ R 0 4 ≤ 150) (hst : 0 ≤ R 0 5 ∧ R 0 5 ≤ 3) : Met l yX7_digest wsX7_digest { frames := 9, cells := 0, slots := 0, locals := 196 } (mPre (GG D cy) D (rfW cy a R) sz ([.ref (a 0)] : List Value)) (kQl D (rfW cy a R) sz (fun u9 : Nat → Int → Int => rfW cy a u9) (fun r9 u9 => ∃ (zs : Int → Int) (zt : Int → Int) (zq : Int → Int) (zh : Int), (r9 = dgH (R 1) (R 0 2) (R 0 4) (R 0 5)) ∧ (u9 = (upr (upr (upr (upr (upr R 0 (ups (ups (ups (R 0) 6 0) 13 (mat (R 1) (R 1 8)).2.2.1) 14 (mat (R 1) (R 1 8)).2.2.2)) 4 (zq)) 5 (zs)) 6 (zt)) 8 (ups (R 8) 0 zh))))) 0 0 (va_A (rfW cy a R) sz) := by
  refine kM_start (cc := cX7_digest) (maxL := 2) (ret := (some .long)) (by decide) rfl (Nat.le_of_ble_eq_true rfl) ?_
  intro p e s m below meth c hx hb hr hlocks hml hts hown hsz hA hG hP hD hS hin ls hl
  have hK := hG.1
  have hl : lv_has ls 2 [(0, .ref (a 0))] := hl
  have hinX7 : ∀ w ∈ u_ws RX7 TX7 19, w ∈ wsX7_digest := by decide +kernel
  have hmw0 := hts (.fieldLink RX7 31 "ArcPlateModel" "code" "I") (by decide +kernel)
  have hmw1 := hts (.constantLong RX7 320 (18761)) (by decide +kernel)
  have hmw2 := hts (.fieldLink RX7 312 "ArcPlateModel" "hash" "J") (by decide +kernel)
  have hmw3 := hts (.fieldLink RX7 36 "ArcPlateModel" "savedCount" "I") (by decide +kernel)
  have hmw4 := hts (.fieldLink RX7 247 "ArcPlateModel" "textLength" "I") (by decide +kernel)
  have hmw5 := hts (.fieldLink RX7 301 "ArcPlateModel" "stop" "I") (by decide +kernel)
  have hmw6 := hts (.fieldLink RX7 7 "ArcPlateModel" "m" "[I") (by decide +kernel)
  have h12 := inv_S12 hI
  have hbody : ∀ (H : Heap) (locs : List Loc) (hP : va_P D vwCl (rfW cy a R) H) (hS : va_S (va_A (rfW cy a R) sz) s.heap H locs) (ls : Array Slot) (hl : lv_has ls 2 [(0, .ref (a 0))]), W p l e { frames := 9, cells := 0, slots := 0, locals := 196 } s m ([.ref (a 0)] : List Value).toArray below meth c H locs 0 0 (MQ below (kQl D (rfW cy a R) sz (fun u9 : Nat → Int → Int => rfW cy a u9) (fun r9 u9 => ∃ (zs : Int → Int) (zt : Int → Int) (zq : Int → Int) (zh : Int), (r9 = dgH (R 1) (R 0 2) (R 0 4) (R 0 5)) ∧ (u9 = (upr (upr (upr (upr (upr R 0 (ups (ups (ups (R 0) 6 0) 13 (mat (R 1) (R 1 8)).2.2.1) 14 (mat (R 1) (R 1 8)).2.2.2)) 4 (zq)) 5 (zs)) 6 (zt)) 8 (ups (R 8) 0 zh))))) ([.ref (a 0)] : List Value).toArray s 0 0 (va_A (rfW cy a R) sz)) (F0 m 0 ls []) := by
    intro H locs hP hS ls hl
    refine lv_aload_n hx hb dX7_digest_0 rfl (lv_at hl 0 rfl) ?_
    refine k_iconst hx hb dX7_digest_1 ?_
    refine va_put (D := D) (ci := 6) (v := .int (iI 0)) (ty := .int) (C := RX7) (T := TX7) (N := 19) hx hb hts hinX7 tyX7 tyX7_ok nmX7 hown hK hP hD hS 0 rfl rfl 6 (by decide) hmw0 (fun _ h9 => h9) rfl (by decide +kernel) rfl rfl (Nat.le_of_ble_eq_true rfl) dX7_digest_2 (fun H locs hP hD hS => ?_)
    have hP : va_P D vwCl (rfW cy a (upr R 0 (ups (R 0) 6 0))) H := hP
    have hD : va_D (va_A (rfW cy a R) sz) (rfW cy a (upr R 0 (ups (R 0) 6 0))) := hD
    refine lv_aload_n hx hb dX7_digest_5 rfl (lv_at hl 0 rfl) ?_
    refine k_muv (k_runV (As := []) (rest := []) ⟨hx, hb, hml, hown, hts⟩ (c_X7_match l D cy H.size a (upr R 0 (ups (R 0) 6 0)) hI) gX7_digest_X7_match rfl ⟨rfl, rfl⟩ 0 rfl (by decide +kernel) ⟨Nat.le_of_ble_eq_true rfl, Nat.le_of_ble_eq_true rfl⟩ (GG_ok D cy) hG hS (k_free hD hS hA) hP hD (va_recv hK hP (ci := 6) (q0 := 0) rfl rfl) hl.1 rfl (Nat.le_of_ble_eq_true rfl) ⟨Nat.le_of_ble_eq_true rfl, Nat.le_of_ble_eq_true rfl⟩ dX7_digest_6) (k_free hD hS hA) hS (fun R_2 H1 locs1 hR_2 hP1 hD1 hS1 hk1 => ?_)
    have hR_2 : ∃ (zs : Int → Int) (zt : Int → Int) (zq : Int → Int), (matR (R 1) ((R 1) 8) zs zt ∧ cstOK (R 1) ((R 1) 8) zq) ∧ (R_2 = (upr (upr (upr (upr (upr R 0 (ups (R 0) 6 0)) 0 (ups (ups (ups (R 0) 6 0) 13 (mat (R 1) ((R 1) 8)).2.2.1) 14 (mat (R 1) ((R 1) 8)).2.2.2)) 4 (zq)) 5 (zs)) 6 (zt))) := hR_2
    obtain ⟨zs_3, zt_4, zq_5, hf_6, hR_2⟩ := hR_2
    have hf_6 : matR ((R 1)) ((R 1) 8) zs_3 zt_4 ∧ cstOK ((R 1)) ((R 1) 8) zq_5 := hf_6
    subst hR_2
    have hDn : va_D (va_A (rfW cy a R) sz) (rfW cy a (upr (upr (upr (upr R 0 (ups (ups (ups (R 0) 6 0) 13 (mat (R 1) ((R 1) 8)).2.2.1) 14 (mat (R 1) ((R 1) 8)).2.2.2)) 4 (zq_5)) 5 (zs_3)) 6 (zt_4))) := k_addr hD rfl
    have hPn : va_P D vwCl (rfW cy a (upr (upr (upr (upr R 0 (ups (ups (ups (R 0) 6 0) 13 (mat (R 1) ((R 1) 8)).2.2.1) 14 (mat (R 1) ((R 1) 8)).2.2.2)) 4 (zq_5)) 5 (zs_3)) 6 (zt_4))) H1 := hP1
    clear hP hD hS hP1 hD1 hk1
    have hP := hPn
    have hD := hDn
    have hS := hS1
    clear hPn hDn hS1
    generalize H1 = H at hP hS ⊢
    generalize locs1 = locs at hS ⊢
    have hmt := hf_6
    have hI6 := TRok_mat hI hmt.1
    have hW := mat_ok (R 1 8) hI
    refine lv_aload_n hx hb dX7_digest_9 rfl (lv_at hl 0 rfl) ?_
    refine k_ldc2 (z := 18761) hx hb hown hmw1 (by decide +kernel) dX7_digest_10 ?_
    refine va_put (D := D) (ci := 6) (v := .long (lI 18761)) (ty := .long) (C := RX7) (T := TX7) (N := 19) hx hb hts hinX7 tyX7 tyX7_ok nmX7 hown hK hP hD hS 0 rfl rfl 18 (by decide) hmw2 (fun _ h9 => h9) rfl (by decide +kernel) rfl rfl (Nat.le_of_ble_eq_true rfl) dX7_digest_13 (fun H locs hP hD hS => ?_)
    have hP : va_P D vwCl (rfW cy a (upr (upr (upr (upr (upr R 0 (ups (ups (ups (R 0) 6 0) 13 (mat (R 1) ((R 1) 8)).2.2.1) 14 (mat (R 1) ((R 1) 8)).2.2.2)) 4 (zq_5)) 5 (zs_3)) 6 (zt_4)) 8 (ups (R 8) 0 18761))) H := hP
    have hD : va_D (va_A (rfW cy a R) sz) (rfW cy a (upr (upr (upr (upr (upr R 0 (ups (ups (ups (R 0) 6 0) 13 (mat (R 1) ((R 1) 8)).2.2.1) 14 (mat (R 1) ((R 1) 8)).2.2.2)) 4 (zq_5)) 5 (zs_3)) 6 (zt_4)) 8 (ups (R 8) 0 18761))) := hD
    refine lv_aload_n hx hb dX7_digest_16 rfl (lv_at hl 0 rfl) ?_
    refine lv_aload_n hx hb dX7_digest_17 rfl (lv_at hl 0 rfl) ?_
    refine va_get (D := D) (ci := 6) (v := .int (iI (R 0 2))) (C := RX7) (T := TX7) (N := 19) hx hb hts hinX7 hown hK hP 0 rfl rfl 2 (by decide) hmw3 (fun _ h9 => h9) rfl dX7_digest_18 ?_
    refine k_i2l hx hb dX7_digest_21 (by omega) ?_
    refine k_muv (k_runV (As := [.long (lI (R 0 2))]) (rest := []) ⟨hx, hb, hml, hown, hts⟩ (c_X7_mix l D cy H.size a (upr (upr (upr (upr (upr R 0 (ups (ups (ups (R 0) 6 0) 13 (mat (R 1) ((R 1) 8)).2.2.1) 14 (mat (R 1) ((R 1) 8)).2.2.2)) 4 (zq_5)) 5 (zs_3)) 6 (zt_4)) 8 (ups (R 8) 0 18761)) (R 0 2) ) gX7_digest_X7_mix rfl ⟨rfl, rfl⟩ 1 rfl (by decide +kernel) ⟨Nat.le_of_ble_eq_true rfl, Nat.le_of_ble_eq_true rfl⟩ (GG_ok D cy) hG hS (k_free hD hS hA) hP hD (va_recv hK hP (ci := 6) (q0 := 0) rfl rfl) hl.1 rfl (Nat.le_of_ble_eq_true rfl) ⟨Nat.le_of_ble_eq_true rfl, Nat.le_of_ble_eq_true rfl⟩ dX7_digest_22) (k_free hD hS hA) hS (fun R_8 H1 locs1 hR_8 hP1 hD1 hS1 hk1 => ?_)
    have hR_8 : R_8 = (upr (upr (upr (upr (upr (upr R 0 (ups (ups (ups (R 0) 6 0) 13 (mat (R 1) ((R 1) 8)).2.2.1) 14 (mat (R 1) ((R 1) 8)).2.2.2)) 4 (zq_5)) 5 (zs_3)) 6 (zt_4)) 8 (ups (R 8) 0 18761)) 8 (ups (ups (R 8) 0 18761) 0 (31 * 18761 + (R 0 2)))) := hR_8
    subst hR_8
    have hDn : va_D (va_A (rfW cy a R) sz) (rfW cy a (upr (upr (upr (upr (upr R 0 (ups (ups (ups (R 0) 6 0) 13 (mat (R 1) ((R 1) 8)).2.2.1) 14 (mat (R 1) ((R 1) 8)).2.2.2)) 4 (zq_5)) 5 (zs_3)) 6 (zt_4)) 8 (ups (ups (R 8) 0 18761) 0 (31 * 18761 + (R 0 2))))) := k_addr hD rfl
    have hPn : va_P D vwCl (rfW cy a (upr (upr (upr (upr (upr R 0 (ups (ups (ups (R 0) 6 0) 13 (mat (R 1) ((R 1) 8)).2.2.1) 14 (mat (R 1) ((R 1) 8)).2.2.2)) 4 (zq_5)) 5 (zs_3)) 6 (zt_4)) 8 (ups (ups (R 8) 0 18761) 0 (31 * 18761 + (R 0 2))))) H1 := hP1
    clear hP hD hS hP1 hD1 hk1
    have hP := hPn
    have hD := hDn
    have hS := hS1
    clear hPn hDn hS1
    generalize H1 = H at hP hS ⊢
    generalize locs1 = locs at hS ⊢
    refine lv_aload_n hx hb dX7_digest_25 rfl (lv_at hl 0 rfl) ?_
    refine lv_aload_n hx hb dX7_digest_26 rfl (lv_at hl 0 rfl) ?_
    refine va_get (D := D) (ci := 6) (v := .int (iI (R 0 4))) (C := RX7) (T := TX7) (N := 19) hx hb hts hinX7 hown hK hP 0 rfl rfl 4 (by decide) hmw4 (fun _ h9 => h9) rfl dX7_digest_27 ?_
    refine k_i2l hx hb dX7_digest_30 (by omega) ?_
    refine k_muv (k_runV (As := [.long (lI (R 0 4))]) (rest := []) ⟨hx, hb, hml, hown, hts⟩ (c_X7_mix l D cy H.size a (upr (upr (upr (upr (upr R 0 (ups (ups (ups (R 0) 6 0) 13 (mat (R 1) ((R 1) 8)).2.2.1) 14 (mat (R 1) ((R 1) 8)).2.2.2)) 4 (zq_5)) 5 (zs_3)) 6 (zt_4)) 8 (ups (ups (R 8) 0 18761) 0 (31 * 18761 + (R 0 2)))) (R 0 4) ) gX7_digest_X7_mix rfl ⟨rfl, rfl⟩ 1 rfl (by decide +kernel) ⟨Nat.le_of_ble_eq_true rfl, Nat.le_of_ble_eq_true rfl⟩ (GG_ok D cy) hG hS (k_free hD hS hA) hP hD (va_recv hK hP (ci := 6) (q0 := 0) rfl rfl) hl.1 rfl (Nat.le_of_ble_eq_true rfl) ⟨Nat.le_of_ble_eq_true rfl, Nat.le_of_ble_eq_true rfl⟩ dX7_digest_31) (k_free hD hS hA) hS (fun R_10 H1 locs1 hR_10 hP1 hD1 hS1 hk1 => ?_)
    have hR_10 : R_10 = (upr (upr (upr (upr (upr (upr R 0 (ups (ups (ups (R 0) 6 0) 13 (mat (R 1) ((R 1) 8)).2.2.1) 14 (mat (R 1) ((R 1) 8)).2.2.2)) 4 (zq_5)) 5 (zs_3)) 6 (zt_4)) 8 (ups (ups (R 8) 0 18761) 0 (31 * 18761 + (R 0 2)))) 8 (ups (ups (ups (R 8) 0 18761) 0 (31 * 18761 + (R 0 2))) 0 (31 * (31 * 18761 + (R 0 2)) + (R 0 4)))) := hR_10
    subst hR_10
    have hDn : va_D (va_A (rfW cy a R) sz) (rfW cy a (upr (upr (upr (upr (upr R 0 (ups (ups (ups (R 0) 6 0) 13 (mat (R 1) ((R 1) 8)).2.2.1) 14 (mat (R 1) ((R 1) 8)).2.2.2)) 4 (zq_5)) 5 (zs_3)) 6 (zt_4)) 8 (ups (ups (ups (R 8) 0 18761) 0 (31 * 18761 + (R 0 2))) 0 (31 * (31 * 18761 + (R 0 2)) + (R 0 4))))) := k_addr hD rfl
    have hPn : va_P D vwCl (rfW cy a (upr (upr (upr (upr (upr R 0 (ups (ups (ups (R 0) 6 0) 13 (mat (R 1) ((R 1) 8)).2.2.1) 14 (mat (R 1) ((R 1) 8)).2.2.2)) 4 (zq_5)) 5 (zs_3)) 6 (zt_4)) 8 (ups (ups (ups (R 8) 0 18761) 0 (31 * 18761 + (R 0 2))) 0 (31 * (31 * 18761 + (R 0 2)) + (R 0 4))))) H1 := hP1
    clear hP hD hS hP1 hD1 hk1
    have hP := hPn
    have hD := hDn
    have hS := hS1
    clear hPn hDn hS1
    generalize H1 = H at hP hS ⊢
    generalize locs1 = locs at hS ⊢
    refine lv_aload_n hx hb dX7_digest_34 rfl (lv_at hl 0 rfl) ?_
    refine lv_aload_n hx hb dX7_digest_35 rfl (lv_at hl 0 rfl) ?_
    refine va_get (D := D) (ci := 6) (v := .int (iI (R 0 5))) (C := RX7) (T := TX7) (N := 19) hx hb hts hinX7 hown hK hP 0 rfl rfl 5 (by decide) hmw5 (fun _ h9 => h9) rfl dX7_digest_36 ?_
    refine k_i2l hx hb dX7_digest_39 (by omega) ?_
    refine k_muv (k_runV (As := [.long (lI (R 0 5))]) (rest := []) ⟨hx, hb, hml, hown, hts⟩ (c_X7_mix l D cy H.size a (upr (upr (upr (upr (upr R 0 (ups (ups (ups (R 0) 6 0) 13 (mat (R 1) ((R 1) 8)).2.2.1) 14 (mat (R 1) ((R 1) 8)).2.2.2)) 4 (zq_5)) 5 (zs_3)) 6 (zt_4)) 8 (ups (ups (ups (R 8) 0 18761) 0 (31 * 18761 + (R 0 2))) 0 (31 * (31 * 18761 + (R 0 2)) + (R 0 4)))) (R 0 5) ) gX7_digest_X7_mix rfl ⟨rfl, rfl⟩ 1 rfl (by decide +kernel) ⟨Nat.le_of_ble_eq_true rfl, Nat.le_of_ble_eq_true rfl⟩ (GG_ok D cy) hG hS (k_free hD hS hA) hP hD (va_recv hK hP (ci := 6) (q0 := 0) rfl rfl) hl.1 rfl (Nat.le_of_ble_eq_true rfl) ⟨Nat.le_of_ble_eq_true rfl, Nat.le_of_ble_eq_true rfl⟩ dX7_digest_40) (k_free hD hS hA) hS (fun R_12 H1 locs1 hR_12 hP1 hD1 hS1 hk1 => ?_)
    have hR_12 : R_12 = (upr (upr (upr (upr (upr (upr R 0 (ups (ups (ups (R 0) 6 0) 13 (mat (R 1) ((R 1) 8)).2.2.1) 14 (mat (R 1) ((R 1) 8)).2.2.2)) 4 (zq_5)) 5 (zs_3)) 6 (zt_4)) 8 (ups (ups (ups (R 8) 0 18761) 0 (31 * 18761 + (R 0 2))) 0 (31 * (31 * 18761 + (R 0 2)) + (R 0 4)))) 8 (ups (ups (ups (ups (R 8) 0 18761) 0 (31 * 18761 + (R 0 2))) 0 (31 * (31 * 18761 + (R 0 2)) + (R 0 4))) 0 (31 * (31 * (31 * 18761 + (R 0 2)) + (R 0 4)) + (R 0 5)))) := hR_12
    subst hR_12
    have hDn : va_D (va_A (rfW cy a R) sz) (rfW cy a (upr (upr (upr (upr (upr R 0 (ups (ups (ups (R 0) 6 0) 13 (mat (R 1) ((R 1) 8)).2.2.1) 14 (mat (R 1) ((R 1) 8)).2.2.2)) 4 (zq_5)) 5 (zs_3)) 6 (zt_4)) 8 (ups (ups (ups (ups (R 8) 0 18761) 0 (31 * 18761 + (R 0 2))) 0 (31 * (31 * 18761 + (R 0 2)) + (R 0 4))) 0 (31 * (31 * (31 * 18761 + (R 0 2)) + (R 0 4)) + (R 0 5))))) := k_addr hD rfl
    have hPn : va_P D vwCl (rfW cy a (upr (upr (upr (upr (upr R 0 (ups (ups (ups (R 0) 6 0) 13 (mat (R 1) ((R 1) 8)).2.2.1) 14 (mat (R 1) ((R 1) 8)).2.2.2)) 4 (zq_5)) 5 (zs_3)) 6 (zt_4)) 8 (ups (ups (ups (ups (R 8) 0 18761) 0 (31 * 18761 + (R 0 2))) 0 (31 * (31 * 18761 + (R 0 2)) + (R 0 4))) 0 (31 * (31 * (31 * 18761 + (R 0 2)) + (R 0 4)) + (R 0 5))))) H1 := hP1
    clear hP hD hS hP1 hD1 hk1
    have hP := hPn
    have hD := hDn
    have hS := hS1
    clear hPn hDn hS1
    generalize H1 = H at hP hS ⊢
    generalize locs1 = locs at hS ⊢
    refine k_iconst hx hb dX7_digest_43 ?_
    refine lv_istore_n (lv' := [(1, .int (iI 0)), (0, .ref (a 0))]) hx hb dX7_digest_44 rfl hl (by decide) rfl (fun ls hl => ?_)
    have loop45 : ∀ (n_13 : Nat) (w : Int) (hi0 : 0 ≤ w) (hi1 : w ≤ 11) (hn : 11 - w < (n_13 : Int)) (H : Heap) (locs : List Loc) (hP : va_P D vwCl (rfW cy a (upr (upr (upr (upr (upr R 0 (ups (ups (ups (R 0) 6 0) 13 (mat (R 1) ((R 1) 8)).2.2.1) 14 (mat (R 1) ((R 1) 8)).2.2.2)) 4 (zq_5)) 5 (zs_3)) 6 (zt_4)) 8 (ups (R 8) 0 (mxF (whW (R 1)) w (31 * (31 * (31 * 18761 + R 0 2) + R 0 4) + R 0 5))))) H) (hD : va_D (va_A (rfW cy a R) sz) (rfW cy a (upr (upr (upr (upr (upr R 0 (ups (ups (ups (R 0) 6 0) 13 (mat (R 1) ((R 1) 8)).2.2.1) 14 (mat (R 1) ((R 1) 8)).2.2.2)) 4 (zq_5)) 5 (zs_3)) 6 (zt_4)) 8 (ups (R 8) 0 (mxF (whW (R 1)) w (31 * (31 * (31 * 18761 + R 0 2) + R 0 4) + R 0 5)))))) (hS : va_S (va_A (rfW cy a R) sz) s.heap H locs) (ls : Array Slot) (hl : lv_has ls 2 [(1, .int (iI w)), (0, .ref (a 0))]), W p l e { frames := 9, cells := 0, slots := 0, locals := 196 } s m ([.ref (a 0)] : List Value).toArray below meth c H locs 0 0 (MQ below (kQl D (rfW cy a R) sz (fun u9 : Nat → Int → Int => rfW cy a u9) (fun r9 u9 => ∃ (zs : Int → Int) (zt : Int → Int) (zq : Int → Int) (zh : Int), (r9 = dgH (R 1) (R 0 2) (R 0 4) (R 0 5)) ∧ (u9 = (upr (upr (upr (upr (upr R 0 (ups (ups (ups (R 0) 6 0) 13 (mat (R 1) (R 1 8)).2.2.1) 14 (mat (R 1) (R 1 8)).2.2.2)) 4 (zq)) 5 (zs)) 6 (zt)) 8 (ups (R 8) 0 zh))))) ([.ref (a 0)] : List Value).toArray s 0 0 (va_A (rfW cy a R) sz)) (F0 m 45 ls []) := by
      intro n_13
      induction n_13 with
      | zero => intro w hi0 hi1 hn H locs hP hD hS ls hl; exfalso; omega
      | succ n_13 ih45 =>
        intro w hi0 hi1 hn H locs hP hD hS ls hl
        refine lv_iload_n hx hb dX7_digest_45 rfl (lv_at hl 0 rfl) ?_
        refine k_bipush hx hb dX7_digest_46 (by decide +kernel) ?_
        refine k_icmp_ge (tgt := 67) hx hb dX7_digest_48 (by decide) (by omega) (by omega) (fun c_14 => ?_) (fun c_14 => ?_)
        · skip
          refine k_iconst hx hb dX7_digest_67 ?_
          refine lv_istore_n (lv' := [(1, .int (iI 0)), (0, .ref (a 0))]) hx hb dX7_digest_68 rfl hl (by decide) rfl (fun ls hl => ?_)
          have loop69 : ∀ (n_15 : Nat) (j : Int) (hi0 : 0 ≤ j) (hi1 : j ≤ 10) (hn : 10 - j < (n_15 : Int)) (H : Heap) (locs : List Loc) (hP : va_P D vwCl (rfW cy a (upr (upr (upr (upr (upr R 0 (ups (ups (ups (R 0) 6 0) 13 (mat (R 1) ((R 1) 8)).2.2.1) 14 (mat (R 1) ((R 1) 8)).2.2.2)) 4 (zq_5)) 5 (zs_3)) 6 (zt_4)) 8 (ups (R 8) 0 (mxF (R 1) j (mxF (whW (R 1)) 11 (31 * (31 * (31 * 18761 + R 0 2) + R 0 4) + R 0 5)))))) H) (hD : va_D (va_A (rfW cy a R) sz) (rfW cy a (upr (upr (upr (upr (upr R 0 (ups (ups (ups (R 0) 6 0) 13 (mat (R 1) ((R 1) 8)).2.2.1) 14 (mat (R 1) ((R 1) 8)).2.2.2)) 4 (zq_5)) 5 (zs_3)) 6 (zt_4)) 8 (ups (R 8) 0 (mxF (R 1) j (mxF (whW (R 1)) 11 (31 * (31 * (31 * 18761 + R 0 2) + R 0 4) + R 0 5))))))) (hS : va_S (va_A (rfW cy a R) sz) s.heap H locs) (ls : Array Slot) (hl : lv_has ls 2 [(1, .int (iI j)), (0, .ref (a 0))]), W p l e { frames := 9, cells := 0, slots := 0, locals := 196 } s m ([.ref (a 0)] : List Value).toArray below meth c H locs 0 0 (MQ below (kQl D (rfW cy a R) sz (fun u9 : Nat → Int → Int => rfW cy a u9) (fun r9 u9 => ∃ (zs : Int → Int) (zt : Int → Int) (zq : Int → Int) (zh : Int), (r9 = dgH (R 1) (R 0 2) (R 0 4) (R 0 5)) ∧ (u9 = (upr (upr (upr (upr (upr R 0 (ups (ups (ups (R 0) 6 0) 13 (mat (R 1) (R 1 8)).2.2.1) 14 (mat (R 1) (R 1 8)).2.2.2)) 4 (zq)) 5 (zs)) 6 (zt)) 8 (ups (R 8) 0 zh))))) ([.ref (a 0)] : List Value).toArray s 0 0 (va_A (rfW cy a R) sz)) (F0 m 69 ls []) := by
            intro n_15
            induction n_15 with
            | zero => intro j hi0 hi1 hn H locs hP hD hS ls hl; exfalso; omega
            | succ n_15 ih69 =>
              intro j hi0 hi1 hn H locs hP hD hS ls hl
              refine lv_iload_n hx hb dX7_digest_69 rfl (lv_at hl 0 rfl) ?_
              refine k_bipush hx hb dX7_digest_70 (by decide +kernel) ?_
              refine k_icmp_gt (tgt := 92) hx hb dX7_digest_72 (by decide) (by omega) (by omega) (fun c_16 => ?_) (fun c_16 => ?_)
              · skip
                refine k_iconst hx hb dX7_digest_92 ?_
                refine lv_istore_n (lv' := [(1, .int (iI 0)), (0, .ref (a 0))]) hx hb dX7_digest_93 rfl hl (by decide) rfl (fun ls hl => ?_)
                have loop94 : ∀ (n_17 : Nat) (t : Int) (hi0 : 0 ≤ t) (hi1 : t ≤ R 1 12) (hn : R 1 12 - t < (n_17 : Int)) (H : Heap) (locs : List Loc) (hP : va_P D vwCl (rfW cy a (upr (upr (upr (upr (upr R 0 (ups (ups (ups (R 0) 6 0) 13 (mat (R 1) ((R 1) 8)).2.2.1) 14 (mat (R 1) ((R 1) 8)).2.2.2)) 4 (zq_5)) 5 (zs_3)) 6 (zt_4)) 8 (ups (R 8) 0 (mxTF (R 1) (mat (R 1) (R 1 8)).1 t (mxF (R 1) 10 (mxF (whW (R 1)) 11 (31 * (31 * (31 * 18761 + R 0 2) + R 0 4) + R 0 5))))))) H) (hD : va_D (va_A (rfW cy a R) sz) (rfW cy a (upr (upr (upr (upr (upr R 0 (ups (ups (ups (R 0) 6 0) 13 (mat (R 1) ((R 1) 8)).2.2.1) 14 (mat (R 1) ((R 1) 8)).2.2.2)) 4 (zq_5)) 5 (zs_3)) 6 (zt_4)) 8 (ups (R 8) 0 (mxTF (R 1) (mat (R 1) (R 1 8)).1 t (mxF (R 1) 10 (mxF (whW (R 1)) 11 (31 * (31 * (31 * 18761 + R 0 2) + R 0 4) + R 0 5)))))))) (hS : va_S (va_A (rfW cy a R) sz) s.heap H locs) (ls : Array Slot) (hl : lv_has ls 2 [(1, .int (iI t)), (0, .ref (a 0))]), W p l e { frames := 9, cells := 0, slots := 0, locals := 196 } s m ([.ref (a 0)] : List Value).toArray below meth c H locs 0 0 (MQ below (kQl D (rfW cy a R) sz (fun u9 : Nat → Int → Int => rfW cy a u9) (fun r9 u9 => ∃ (zs : Int → Int) (zt : Int → Int) (zq : Int → Int) (zh : Int), (r9 = dgH (R 1) (R 0 2) (R 0 4) (R 0 5)) ∧ (u9 = (upr (upr (upr (upr (upr R 0 (ups (ups (ups (R 0) 6 0) 13 (mat (R 1) (R 1 8)).2.2.1) 14 (mat (R 1) (R 1 8)).2.2.2)) 4 (zq)) 5 (zs)) 6 (zt)) 8 (ups (R 8) 0 zh))))) ([.ref (a 0)] : List Value).toArray s 0 0 (va_A (rfW cy a R) sz)) (F0 m 94 ls []) := by
                  intro n_17
                  induction n_17 with
                  | zero => intro t hi0 hi1 hn H locs hP hD hS ls hl; exfalso; omega
                  | succ n_17 ih94 =>
                    intro t hi0 hi1 hn H locs hP hD hS ls hl
                    refine lv_iload_n hx hb dX7_digest_94 rfl (lv_at hl 0 rfl) ?_
                    refine lv_aload_n hx hb dX7_digest_95 rfl (lv_at hl 1 rfl) ?_
                    refine va_get (D := D) (ci := 6) (v := .ref (a 1)) (C := RX7) (T := TX7) (N := 19) hx hb hts hinX7 hown hK hP 0 rfl rfl 0 (by decide) hmw6 (fun _ h9 => h9) rfl dX7_digest_96 ?_
                    refine k_bipush hx hb dX7_digest_99 (by decide +kernel) ?_
                    refine k_iald hx hb hK hP 1 0 (f := R 1) rfl rfl (i := 12) (by omega) dX7_digest_101 ?_
                    refine k_icmp_ge (tgt := 116) hx hb dX7_digest_102 (by decide) (by omega) (by omega) (fun c_18 => ?_) (fun c_18 => ?_)
                    · skip
                      refine k_iconst hx hb dX7_digest_116 ?_
                      refine lv_istore_n (lv' := [(1, .int (iI 0)), (0, .ref (a 0))]) hx hb dX7_digest_117 rfl hl (by decide) rfl (fun ls hl => ?_)
                      have loop118 : ∀ (n_19 : Nat) (k : Int) (hi0 : 0 ≤ k) (hi1 : k ≤ 7 * R 1 13) (hn : 7 * R 1 13 - k < (n_19 : Int)) (H : Heap) (locs : List Loc) (hP : va_P D vwCl (rfW cy a (upr (upr (upr (upr (upr R 0 (ups (ups (ups (R 0) 6 0) 13 (mat (R 1) ((R 1) 8)).2.2.1) 14 (mat (R 1) ((R 1) 8)).2.2.2)) 4 (zq_5)) 5 (zs_3)) 6 (zt_4)) 8 (ups (R 8) 0 (mxF (fun j => stW (R 1) (j / 7) (j % 7)) k (mxTF (R 1) (mat (R 1) (R 1 8)).1 (R 1 12) (mxF (R 1) 10 (mxF (whW (R 1)) 11 (31 * (31 * (31 * 18761 + R 0 2) + R 0 4) + R 0 5)))))))) H) (hD : va_D (va_A (rfW cy a R) sz) (rfW cy a (upr (upr (upr (upr (upr R 0 (ups (ups (ups (R 0) 6 0) 13 (mat (R 1) ((R 1) 8)).2.2.1) 14 (mat (R 1) ((R 1) 8)).2.2.2)) 4 (zq_5)) 5 (zs_3)) 6 (zt_4)) 8 (ups (R 8) 0 (mxF (fun j => stW (R 1) (j / 7) (j % 7)) k (mxTF (R 1) (mat (R 1) (R 1 8)).1 (R 1 12) (mxF (R 1) 10 (mxF (whW (R 1)) 11 (31 * (31 * (31 * 18761 + R 0 2) + R 0 4) + R 0 5))))))))) (hS : va_S (va_A (rfW cy a R) sz) s.heap H locs) (ls : Array Slot) (hl : lv_has ls 2 [(1, .int (iI k)), (0, .ref (a 0))]), W p l e { frames := 9, cells := 0, slots := 0, locals := 196 } s m ([.ref (a 0)] : List Value).toArray below meth c H locs 0 0 (MQ below (kQl D (rfW cy a R) sz (fun u9 : Nat → Int → Int => rfW cy a u9) (fun r9 u9 => ∃ (zs : Int → Int) (zt : Int → Int) (zq : Int → Int) (zh : Int), (r9 = dgH (R 1) (R 0 2) (R 0 4) (R 0 5)) ∧ (u9 = (upr (upr (upr (upr (upr R 0 (ups (ups (ups (R 0) 6 0) 13 (mat (R 1) (R 1 8)).2.2.1) 14 (mat (R 1) (R 1 8)).2.2.2)) 4 (zq)) 5 (zs)) 6 (zt)) 8 (ups (R 8) 0 zh))))) ([.ref (a 0)] : List Value).toArray s 0 0 (va_A (rfW cy a R) sz)) (F0 m 118 ls []) := by
                        intro n_19
                        induction n_19 with
                        | zero => intro k hi0 hi1 hn H locs hP hD hS ls hl; exfalso; omega
                        | succ n_19 ih118 =>
                          intro k hi0 hi1 hn H locs hP hD hS ls hl
                          refine lv_iload_n hx hb dX7_digest_118 rfl (lv_at hl 0 rfl) ?_
                          refine k_bipush hx hb dX7_digest_119 (by decide +kernel) ?_
                          refine lv_aload_n hx hb dX7_digest_121 rfl (lv_at hl 1 rfl) ?_
                          refine va_get (D := D) (ci := 6) (v := .ref (a 1)) (C := RX7) (T := TX7) (N := 19) hx hb hts hinX7 hown hK hP 0 rfl rfl 0 (by decide) hmw6 (fun _ h9 => h9) rfl dX7_digest_122 ?_
                          refine k_bipush hx hb dX7_digest_125 (by decide +kernel) ?_
                          refine k_iald hx hb hK hP 1 0 (f := R 1) rfl rfl (i := 13) (by omega) dX7_digest_127 ?_
                          refine k_imul hx hb dX7_digest_128 ?_
                          refine k_icmp_ge (tgt := 155) hx hb dX7_digest_129 (by decide) (by omega) (by omega) (fun c_20 => ?_) (fun c_20 => ?_)
                          · skip
                            refine lv_aload_n hx hb dX7_digest_155 rfl (lv_at hl 1 rfl) ?_
                            refine va_get (D := D) (ci := 6) (v := .long (lI (mxF (fun j => stW (R 1) (j / 7) (j % 7)) k (mxTF (R 1) (mat (R 1) (R 1 8)).1 (R 1 12) (mxF (R 1) 10 (mxF (whW (R 1)) 11 (31 * (31 * (31 * 18761 + R 0 2) + R 0 4) + R 0 5))))))) (C := RX7) (T := TX7) (N := 19) hx hb hts hinX7 hown hK hP 0 rfl rfl 18 (by decide) hmw2 (fun _ h9 => h9) rfl dX7_digest_156 ?_
                            exact W.lret (v := lI (mxF (fun j => stW (R 1) (j / 7) (j % 7)) k (mxTF (R 1) (mat (R 1) (R 1 8)).1 (R 1 12) (mxF (R 1) 10 (mxF (whW (R 1)) 11 (31 * (31 * (31 * 18761 + R 0 2) + R 0 4) + R 0 5)))))) hx hb hr (fun t9 ht _ => ⟨⟨lI (mxF (fun j => stW (R 1) (j / 7) (j % 7)) k (mxTF (R 1) (mat (R 1) (R 1 8)).1 (R 1 12) (mxF (R 1) 10 (mxF (whW (R 1)) 11 (31 * (31 * (31 * 18761 + R 0 2) + R 0 4) + R 0 5))))), (upr (upr (upr (upr (upr R 0 (ups (ups (ups (R 0) 6 0) 13 (mat (R 1) ((R 1) 8)).2.2.1) 14 (mat (R 1) ((R 1) 8)).2.2.2)) 4 (zq_5)) 5 (zs_3)) 6 (zt_4)) 8 (ups (R 8) 0 (mxF (fun j => stW (R 1) (j / 7) (j % 7)) k (mxTF (R 1) (mat (R 1) (R 1 8)).1 (R 1 12) (mxF (R 1) 10 (mxF (whW (R 1)) 11 (31 * (31 * (31 * 18761 + R 0 2) + R 0 4) + R 0 5))))))), rfl, ⟨(mxF (fun j => stW (R 1) (j / 7) (j % 7)) k (mxTF (R 1) (mat (R 1) (R 1 8)).1 (R 1 12) (mxF (R 1) 10 (mxF (whW (R 1)) 11 (31 * (31 * (31 * 18761 + R 0 2) + R 0 4) + R 0 5))))), rfl, (⟨(zs_3), (zt_4), (zq_5), (dgH (R 1) (R 0 2) (R 0 4) (R 0 5)), (by rw [show k = 7 * R 1 13 by omega]; rfl), (by rw [show (ups (R 8) 0 (mxF (fun j => stW (R 1) (j / 7) (j % 7)) k (mxTF (R 1) (mat (R 1) (R 1 8)).1 (R 1 12) (mxF (R 1) 10 (mxF (whW (R 1)) 11 (31 * (31 * (31 * 18761 + R 0 2) + R 0 4) + R 0 5)))))) = (ups (R 8) 0 (dgH (R 1) (R 0 2) (R 0 4) (R 0 5))) from by rw [show k = 7 * R 1 13 by omega]; rfl])⟩ : ∃ (zs : Int → Int) (zt : Int → Int) (zq : Int → Int) (zh : Int), ((mxF (fun j => stW (R 1) (j / 7) (j % 7)) k (mxTF (R 1) (mat (R 1) (R 1 8)).1 (R 1 12) (mxF (R 1) 10 (mxF (whW (R 1)) 11 (31 * (31 * (31 * 18761 + R 0 2) + R 0 4) + R 0 5)))) : Int) = dgH (R 1) (R 0 2) (R 0 4) (R 0 5)) ∧ ((upr (upr (upr (upr (upr R 0 (ups (ups (ups (R 0) 6 0) 13 (mat (R 1) ((R 1) 8)).2.2.1) 14 (mat (R 1) ((R 1) 8)).2.2.2)) 4 (zq_5)) 5 (zs_3)) 6 (zt_4)) 8 (ups (R 8) 0 (mxF (fun j => stW (R 1) (j / 7) (j % 7)) k (mxTF (R 1) (mat (R 1) (R 1 8)).1 (R 1 12) (mxF (R 1) 10 (mxF (whW (R 1)) 11 (31 * (31 * (31 * 18761 + R 0 2) + R 0 4) + R 0 5))))))) = (upr (upr (upr (upr (upr R 0 (ups (ups (ups (R 0) 6 0) 13 (mat (R 1) (R 1 8)).2.2.1) 14 (mat (R 1) (R 1 8)).2.2.2)) 4 (zq)) 5 (zs)) 6 (zt)) 8 (ups (R 8) 0 zh))))⟩, by rw [ht]; exact hP, hD⟩, hS.F ht⟩) hS.2.2 dX7_digest_159 hlocks
                          · skip
                            refine lv_aload_n hx hb dX7_digest_132 rfl (lv_at hl 1 rfl) ?_
                            refine lv_aload_n hx hb dX7_digest_133 rfl (lv_at hl 1 rfl) ?_
                            refine lv_iload_n hx hb dX7_digest_134 rfl (lv_at hl 0 rfl) ?_
                            refine k_bipush hx hb dX7_digest_135 (by decide +kernel) ?_
                            refine k_idiv hx hb dX7_digest_137 (by omega) (by omega) ?_
                            refine lv_iload_n hx hb dX7_digest_138 rfl (lv_at hl 0 rfl) ?_
                            refine k_bipush hx hb dX7_digest_139 (by decide +kernel) ?_
                            refine k_irem hx hb dX7_digest_141 (by omega) (by omega) ?_
                            refine k_roV (As := [.int (iI (k / 7)), .int (iI (k % 7))]) (rest := [.ref (a 0)]) ⟨hx, hb, hml, hown, hts⟩ (c_X7_starOfWhat l D cy a (upr (upr (upr (upr (upr R 0 (ups (ups (ups (R 0) 6 0) 13 (mat (R 1) ((R 1) 8)).2.2.1) 14 (mat (R 1) ((R 1) 8)).2.2.2)) 4 (zq_5)) 5 (zs_3)) 6 (zt_4)) 8 (ups (R 8) 0 (mxF (fun j => stW (R 1) (j / 7) (j % 7)) k (mxTF (R 1) (mat (R 1) (R 1 8)).1 (R 1 12) (mxF (R 1) 10 (mxF (whW (R 1)) 11 (31 * (31 * (31 * 18761 + R 0 2) + R 0 4) + R 0 5))))))) (k / 7) (k % 7) hI (show 0 ≤ (k / 7) by omega) (show (k / 7) < (R 1) 13 by omega) (show 0 ≤ (k % 7) ∧ (k % 7) ≤ 6 by omega) (show TRok (zt_4) from hI6)) gX7_digest_X7_starOfWhat rfl ⟨rfl, rfl⟩ 2 rfl (by decide +kernel) ⟨Nat.le_of_ble_eq_true rfl, Nat.le_of_ble_eq_true rfl⟩ (GG_ok D cy) ((GG_ok D cy).2.2.2 _ _ _ _ (fun _ h => h.elim) ((GG_ok D cy).1 _ _ _ _ hS.2.1 hG)) hP (va_recv hK hP (ci := 6) (q0 := 0) rfl rfl) hl.1 rfl (Nat.le_of_ble_eq_true rfl) ⟨Nat.le_of_ble_eq_true rfl, Nat.le_of_ble_eq_true rfl⟩ dX7_digest_142 (fun r_21 hr_21 => ?_)
                            have hr_21 : r_21 = stV ((R 1)) (zt_4) (zq_5) (k / 7) (k % 7) := hr_21
                            subst hr_21
                            refine k_eqI (v := stV ((R 1)) (zt_4) (zq_5) (k / 7) (k % 7)) (w := stW (R 1) (k / 7) (k % 7)) (stV_mat hI hmt.1 hmt.2 (by omega) (by omega)) ?_
                            have hsb := stW_bd hI (u := k / 7) (w := k % 7) (by omega) (by omega) (by omega)
                            refine k_i2l hx hb dX7_digest_145 (by omega) ?_
                            refine k_muv (k_runV (As := [.long (lI (stW (R 1) (k / 7) (k % 7)))]) (rest := []) ⟨hx, hb, hml, hown, hts⟩ (c_X7_mix l D cy H.size a (upr (upr (upr (upr (upr R 0 (ups (ups (ups (R 0) 6 0) 13 (mat (R 1) ((R 1) 8)).2.2.1) 14 (mat (R 1) ((R 1) 8)).2.2.2)) 4 (zq_5)) 5 (zs_3)) 6 (zt_4)) 8 (ups (R 8) 0 (mxF (fun j => stW (R 1) (j / 7) (j % 7)) k (mxTF (R 1) (mat (R 1) (R 1 8)).1 (R 1 12) (mxF (R 1) 10 (mxF (whW (R 1)) 11 (31 * (31 * (31 * 18761 + R 0 2) + R 0 4) + R 0 5))))))) (stW (R 1) (k / 7) (k % 7)) ) gX7_digest_X7_mix rfl ⟨rfl, rfl⟩ 1 rfl (by decide +kernel) ⟨Nat.le_of_ble_eq_true rfl, Nat.le_of_ble_eq_true rfl⟩ (GG_ok D cy) hG hS (k_free hD hS hA) hP hD (va_recv hK hP (ci := 6) (q0 := 0) rfl rfl) hl.1 rfl (Nat.le_of_ble_eq_true rfl) ⟨Nat.le_of_ble_eq_true rfl, Nat.le_of_ble_eq_true rfl⟩ dX7_digest_146) (k_free hD hS hA) hS (fun R_23 H1 locs1 hR_23 hP1 hD1 hS1 hk1 => ?_)
                            have hR_23 : R_23 = (upr (upr (upr (upr (upr (upr R 0 (ups (ups (ups (R 0) 6 0) 13 (mat (R 1) ((R 1) 8)).2.2.1) 14 (mat (R 1) ((R 1) 8)).2.2.2)) 4 (zq_5)) 5 (zs_3)) 6 (zt_4)) 8 (ups (R 8) 0 (mxF (fun j => stW (R 1) (j / 7) (j % 7)) k (mxTF (R 1) (mat (R 1) (R 1 8)).1 (R 1 12) (mxF (R 1) 10 (mxF (whW (R 1)) 11 (31 * (31 * (31 * 18761 + R 0 2) + R 0 4) + R 0 5))))))) 8 (ups (ups (R 8) 0 (mxF (fun j => stW (R 1) (j / 7) (j % 7)) k (mxTF (R 1) (mat (R 1) (R 1 8)).1 (R 1 12) (mxF (R 1) 10 (mxF (whW (R 1)) 11 (31 * (31 * (31 * 18761 + R 0 2) + R 0 4) + R 0 5)))))) 0 (31 * (mxF (fun j => stW (R 1) (j / 7) (j % 7)) k (mxTF (R 1) (mat (R 1) (R 1 8)).1 (R 1 12) (mxF (R 1) 10 (mxF (whW (R 1)) 11 (31 * (31 * (31 * 18761 + R 0 2) + R 0 4) + R 0 5))))) + (stW (R 1) (k / 7) (k % 7))))) := hR_23
                            subst hR_23
                            have hDn : va_D (va_A (rfW cy a R) sz) (rfW cy a (upr (upr (upr (upr (upr R 0 (ups (ups (ups (R 0) 6 0) 13 (mat (R 1) ((R 1) 8)).2.2.1) 14 (mat (R 1) ((R 1) 8)).2.2.2)) 4 (zq_5)) 5 (zs_3)) 6 (zt_4)) 8 (ups (ups (R 8) 0 (mxF (fun j => stW (R 1) (j / 7) (j % 7)) k (mxTF (R 1) (mat (R 1) (R 1 8)).1 (R 1 12) (mxF (R 1) 10 (mxF (whW (R 1)) 11 (31 * (31 * (31 * 18761 + R 0 2) + R 0 4) + R 0 5)))))) 0 (31 * (mxF (fun j => stW (R 1) (j / 7) (j % 7)) k (mxTF (R 1) (mat (R 1) (R 1 8)).1 (R 1 12) (mxF (R 1) 10 (mxF (whW (R 1)) 11 (31 * (31 * (31 * 18761 + R 0 2) + R 0 4) + R 0 5))))) + (stW (R 1) (k / 7) (k % 7)))))) := k_addr hD rfl
                            have hPn : va_P D vwCl (rfW cy a (upr (upr (upr (upr (upr R 0 (ups (ups (ups (R 0) 6 0) 13 (mat (R 1) ((R 1) 8)).2.2.1) 14 (mat (R 1) ((R 1) 8)).2.2.2)) 4 (zq_5)) 5 (zs_3)) 6 (zt_4)) 8 (ups (ups (R 8) 0 (mxF (fun j => stW (R 1) (j / 7) (j % 7)) k (mxTF (R 1) (mat (R 1) (R 1 8)).1 (R 1 12) (mxF (R 1) 10 (mxF (whW (R 1)) 11 (31 * (31 * (31 * 18761 + R 0 2) + R 0 4) + R 0 5)))))) 0 (31 * (mxF (fun j => stW (R 1) (j / 7) (j % 7)) k (mxTF (R 1) (mat (R 1) (R 1 8)).1 (R 1 12) (mxF (R 1) 10 (mxF (whW (R 1)) 11 (31 * (31 * (31 * 18761 + R 0 2) + R 0 4) + R 0 5))))) + (stW (R 1) (k / 7) (k % 7)))))) H1 := hP1
                            clear hP hD hS hP1 hD1 hk1
                            have hP := hPn
                            have hD := hDn
                            have hS := hS1
                            clear hPn hDn hS1
                            generalize H1 = H at hP hS ⊢
                            generalize locs1 = locs at hS ⊢
                            refine lv_iinc (v := iI (k + 1)) (lv' := [(1, .int (iI (k + 1))), (0, .ref (a 0))]) hx hb dX7_digest_149 hl (k := 0) rfl (iI_add _ _) (by decide) rfl (fun ls hl => ?_)
                            refine lv_goto (tgt := 118) hx hb dX7_digest_152 (by decide) ?_
                            exact ih118 (k + 1)  (by omega) (by omega) (by omega) H locs (by rw [show (ups (R 8) 0 (mxF (fun j => stW (R 1) (j / 7) (j % 7)) (k + 1) (mxTF (R 1) (mat (R 1) (R 1 8)).1 (R 1 12) (mxF (R 1) 10 (mxF (whW (R 1)) 11 (31 * (31 * (31 * 18761 + R 0 2) + R 0 4) + R 0 5)))))) = (ups (ups (R 8) 0 (mxF (fun j => stW (R 1) (j / 7) (j % 7)) k (mxTF (R 1) (mat (R 1) (R 1 8)).1 (R 1 12) (mxF (R 1) 10 (mxF (whW (R 1)) 11 (31 * (31 * (31 * 18761 + R 0 2) + R 0 4) + R 0 5)))))) 0 (31 * (mxF (fun j => stW (R 1) (j / 7) (j % 7)) k (mxTF (R 1) (mat (R 1) (R 1 8)).1 (R 1 12) (mxF (R 1) 10 (mxF (whW (R 1)) 11 (31 * (31 * (31 * 18761 + R 0 2) + R 0 4) + R 0 5))))) + (stW (R 1) (k / 7) (k % 7)))) from by rw [ups_ups, mxF_s _ _ hi0]]; exact hP) (k_addr hD rfl) hS ls (lv_sub hl [0, 1] rfl)
                      exact loop118 ((7 * R 1 13 - 0 : Int) + 1).toNat 0  (by omega) (by omega) (by omega) H locs (by rw [show (ups (R 8) 0 (mxF (fun j => stW (R 1) (j / 7) (j % 7)) 0 (mxTF (R 1) (mat (R 1) (R 1 8)).1 (R 1 12) (mxF (R 1) 10 (mxF (whW (R 1)) 11 (31 * (31 * (31 * 18761 + R 0 2) + R 0 4) + R 0 5)))))) = (ups (R 8) 0 (mxTF (R 1) (mat (R 1) (R 1 8)).1 t (mxF (R 1) 10 (mxF (whW (R 1)) 11 (31 * (31 * (31 * 18761 + R 0 2) + R 0 4) + R 0 5))))) from by rw [show t = R 1 12 by omega]; rfl]; exact hP) (k_addr hD rfl) hS ls (lv_sub hl [0, 1] rfl)
                    · skip
                      refine lv_aload_n hx hb dX7_digest_105 rfl (lv_at hl 1 rfl) ?_
                      refine lv_iload_n hx hb dX7_digest_106 rfl (lv_at hl 0 rfl) ?_
                      refine k_muv (k_runV (As := [.int (iI t)]) (rest := []) ⟨hx, hb, hml, hown, hts⟩ (c_X7_mixTrail l D cy H.size a (upr (upr (upr (upr (upr R 0 (ups (ups (ups (R 0) 6 0) 13 (mat (R 1) ((R 1) 8)).2.2.1) 14 (mat (R 1) ((R 1) 8)).2.2.2)) 4 (zq_5)) 5 (zs_3)) 6 (zt_4)) 8 (ups (R 8) 0 (mxTF (R 1) (mat (R 1) (R 1 8)).1 t (mxF (R 1) 10 (mxF (whW (R 1)) 11 (31 * (31 * (31 * 18761 + R 0 2) + R 0 4) + R 0 5)))))) t hI (show 0 ≤ t by omega) (show t < (R 1) 12 by omega) (show -1000000000 ≤ zs_3 t ∧ zs_3 t ≤ 12 from by rw [(hmt.1 t hi0 (by omega)).1]; have h9 := hW.1 t hi0 (by omega); omega)) gX7_digest_X7_mixTrail rfl ⟨rfl, rfl⟩ 1 rfl (by decide +kernel) ⟨Nat.le_of_ble_eq_true rfl, Nat.le_of_ble_eq_true rfl⟩ (GG_ok D cy) hG hS (k_free hD hS hA) hP hD (va_recv hK hP (ci := 6) (q0 := 0) rfl rfl) hl.1 rfl (Nat.le_of_ble_eq_true rfl) ⟨Nat.le_of_ble_eq_true rfl, Nat.le_of_ble_eq_true rfl⟩ dX7_digest_107) (k_free hD hS hA) hS (fun R_25 H1 locs1 hR_25 hP1 hD1 hS1 hk1 => ?_)
                      have hR_25 : R_25 = (upr (upr (upr (upr (upr (upr R 0 (ups (ups (ups (R 0) 6 0) 13 (mat (R 1) ((R 1) 8)).2.2.1) 14 (mat (R 1) ((R 1) 8)).2.2.2)) 4 (zq_5)) 5 (zs_3)) 6 (zt_4)) 8 (ups (R 8) 0 (mxTF (R 1) (mat (R 1) (R 1 8)).1 t (mxF (R 1) 10 (mxF (whW (R 1)) 11 (31 * (31 * (31 * 18761 + R 0 2) + R 0 4) + R 0 5)))))) 8 (ups (ups (R 8) 0 (mxTF (R 1) (mat (R 1) (R 1 8)).1 t (mxF (R 1) 10 (mxF (whW (R 1)) 11 (31 * (31 * (31 * 18761 + R 0 2) + R 0 4) + R 0 5))))) 0 (mxT (R 1) (zs_3) t ((mxTF (R 1) (mat (R 1) (R 1 8)).1 t (mxF (R 1) 10 (mxF (whW (R 1)) 11 (31 * (31 * (31 * 18761 + R 0 2) + R 0 4) + R 0 5)))))))) := hR_25
                      subst hR_25
                      have hDn : va_D (va_A (rfW cy a R) sz) (rfW cy a (upr (upr (upr (upr (upr R 0 (ups (ups (ups (R 0) 6 0) 13 (mat (R 1) ((R 1) 8)).2.2.1) 14 (mat (R 1) ((R 1) 8)).2.2.2)) 4 (zq_5)) 5 (zs_3)) 6 (zt_4)) 8 (ups (ups (R 8) 0 (mxTF (R 1) (mat (R 1) (R 1 8)).1 t (mxF (R 1) 10 (mxF (whW (R 1)) 11 (31 * (31 * (31 * 18761 + R 0 2) + R 0 4) + R 0 5))))) 0 (mxT (R 1) (zs_3) t ((mxTF (R 1) (mat (R 1) (R 1 8)).1 t (mxF (R 1) 10 (mxF (whW (R 1)) 11 (31 * (31 * (31 * 18761 + R 0 2) + R 0 4) + R 0 5))))))))) := k_addr hD rfl
                      have hPn : va_P D vwCl (rfW cy a (upr (upr (upr (upr (upr R 0 (ups (ups (ups (R 0) 6 0) 13 (mat (R 1) ((R 1) 8)).2.2.1) 14 (mat (R 1) ((R 1) 8)).2.2.2)) 4 (zq_5)) 5 (zs_3)) 6 (zt_4)) 8 (ups (ups (R 8) 0 (mxTF (R 1) (mat (R 1) (R 1 8)).1 t (mxF (R 1) 10 (mxF (whW (R 1)) 11 (31 * (31 * (31 * 18761 + R 0 2) + R 0 4) + R 0 5))))) 0 (mxT (R 1) (zs_3) t ((mxTF (R 1) (mat (R 1) (R 1 8)).1 t (mxF (R 1) 10 (mxF (whW (R 1)) 11 (31 * (31 * (31 * 18761 + R 0 2) + R 0 4) + R 0 5))))))))) H1 := hP1
                      clear hP hD hS hP1 hD1 hk1
                      have hP := hPn
                      have hD := hDn
                      have hS := hS1
                      clear hPn hDn hS1
                      generalize H1 = H at hP hS ⊢
                      generalize locs1 = locs at hS ⊢
                      refine lv_iinc (v := iI (t + 1)) (lv' := [(1, .int (iI (t + 1))), (0, .ref (a 0))]) hx hb dX7_digest_110 hl (k := 0) rfl (iI_add _ _) (by decide) rfl (fun ls hl => ?_)
                      refine lv_goto (tgt := 94) hx hb dX7_digest_113 (by decide) ?_
                      exact ih94 (t + 1)  (by omega) (by omega) (by omega) H locs (by rw [show (ups (R 8) 0 (mxTF (R 1) (mat (R 1) (R 1 8)).1 (t + 1) (mxF (R 1) 10 (mxF (whW (R 1)) 11 (31 * (31 * (31 * 18761 + R 0 2) + R 0 4) + R 0 5))))) = (ups (ups (R 8) 0 (mxTF (R 1) (mat (R 1) (R 1 8)).1 t (mxF (R 1) 10 (mxF (whW (R 1)) 11 (31 * (31 * (31 * 18761 + R 0 2) + R 0 4) + R 0 5))))) 0 (mxT (R 1) (zs_3) t ((mxTF (R 1) (mat (R 1) (R 1 8)).1 t (mxF (R 1) 10 (mxF (whW (R 1)) 11 (31 * (31 * (31 * 18761 + R 0 2) + R 0 4) + R 0 5))))))) from by rw [ups_ups, mxTF_s _ _ _ hi0, ← mxT_congr (hmt.1 t hi0 (by omega)).1]]; exact hP) (k_addr hD rfl) hS ls (lv_sub hl [0, 1] rfl)
                exact loop94 ((R 1 12 - 0 : Int) + 1).toNat 0  (by omega) (by omega) (by omega) H locs (by rw [show (ups (R 8) 0 (mxTF (R 1) (mat (R 1) (R 1 8)).1 0 (mxF (R 1) 10 (mxF (whW (R 1)) 11 (31 * (31 * (31 * 18761 + R 0 2) + R 0 4) + R 0 5))))) = (ups (R 8) 0 (mxF (R 1) j (mxF (whW (R 1)) 11 (31 * (31 * (31 * 18761 + R 0 2) + R 0 4) + R 0 5)))) from by rw [show j = 10 by omega]; rfl]; exact hP) (k_addr hD rfl) hS ls (lv_sub hl [0, 1] rfl)
              · skip
                refine lv_aload_n hx hb dX7_digest_75 rfl (lv_at hl 1 rfl) ?_
                refine lv_aload_n hx hb dX7_digest_76 rfl (lv_at hl 1 rfl) ?_
                refine va_get (D := D) (ci := 6) (v := .ref (a 1)) (C := RX7) (T := TX7) (N := 19) hx hb hts hinX7 hown hK hP 0 rfl rfl 0 (by decide) hmw6 (fun _ h9 => h9) rfl dX7_digest_77 ?_
                refine lv_iload_n hx hb dX7_digest_80 rfl (lv_at hl 0 rfl) ?_
                refine k_iald hx hb hK hP 1 0 (f := R 1) rfl rfl (i := j) (by omega) dX7_digest_81 ?_
                have hlb := inv_lo hI hi0 (show j < 10 by omega)
                refine k_i2l hx hb dX7_digest_82 (by omega) ?_
                refine k_muv (k_runV (As := [.long (lI (R 1 j))]) (rest := []) ⟨hx, hb, hml, hown, hts⟩ (c_X7_mix l D cy H.size a (upr (upr (upr (upr (upr R 0 (ups (ups (ups (R 0) 6 0) 13 (mat (R 1) ((R 1) 8)).2.2.1) 14 (mat (R 1) ((R 1) 8)).2.2.2)) 4 (zq_5)) 5 (zs_3)) 6 (zt_4)) 8 (ups (R 8) 0 (mxF (R 1) j (mxF (whW (R 1)) 11 (31 * (31 * (31 * 18761 + R 0 2) + R 0 4) + R 0 5))))) (R 1 j) ) gX7_digest_X7_mix rfl ⟨rfl, rfl⟩ 1 rfl (by decide +kernel) ⟨Nat.le_of_ble_eq_true rfl, Nat.le_of_ble_eq_true rfl⟩ (GG_ok D cy) hG hS (k_free hD hS hA) hP hD (va_recv hK hP (ci := 6) (q0 := 0) rfl rfl) hl.1 rfl (Nat.le_of_ble_eq_true rfl) ⟨Nat.le_of_ble_eq_true rfl, Nat.le_of_ble_eq_true rfl⟩ dX7_digest_83) (k_free hD hS hA) hS (fun R_27 H1 locs1 hR_27 hP1 hD1 hS1 hk1 => ?_)
                have hR_27 : R_27 = (upr (upr (upr (upr (upr (upr R 0 (ups (ups (ups (R 0) 6 0) 13 (mat (R 1) ((R 1) 8)).2.2.1) 14 (mat (R 1) ((R 1) 8)).2.2.2)) 4 (zq_5)) 5 (zs_3)) 6 (zt_4)) 8 (ups (R 8) 0 (mxF (R 1) j (mxF (whW (R 1)) 11 (31 * (31 * (31 * 18761 + R 0 2) + R 0 4) + R 0 5))))) 8 (ups (ups (R 8) 0 (mxF (R 1) j (mxF (whW (R 1)) 11 (31 * (31 * (31 * 18761 + R 0 2) + R 0 4) + R 0 5)))) 0 (31 * (mxF (R 1) j (mxF (whW (R 1)) 11 (31 * (31 * (31 * 18761 + R 0 2) + R 0 4) + R 0 5))) + (R 1 j)))) := hR_27
                subst hR_27
                have hDn : va_D (va_A (rfW cy a R) sz) (rfW cy a (upr (upr (upr (upr (upr R 0 (ups (ups (ups (R 0) 6 0) 13 (mat (R 1) ((R 1) 8)).2.2.1) 14 (mat (R 1) ((R 1) 8)).2.2.2)) 4 (zq_5)) 5 (zs_3)) 6 (zt_4)) 8 (ups (ups (R 8) 0 (mxF (R 1) j (mxF (whW (R 1)) 11 (31 * (31 * (31 * 18761 + R 0 2) + R 0 4) + R 0 5)))) 0 (31 * (mxF (R 1) j (mxF (whW (R 1)) 11 (31 * (31 * (31 * 18761 + R 0 2) + R 0 4) + R 0 5))) + (R 1 j))))) := k_addr hD rfl
                have hPn : va_P D vwCl (rfW cy a (upr (upr (upr (upr (upr R 0 (ups (ups (ups (R 0) 6 0) 13 (mat (R 1) ((R 1) 8)).2.2.1) 14 (mat (R 1) ((R 1) 8)).2.2.2)) 4 (zq_5)) 5 (zs_3)) 6 (zt_4)) 8 (ups (ups (R 8) 0 (mxF (R 1) j (mxF (whW (R 1)) 11 (31 * (31 * (31 * 18761 + R 0 2) + R 0 4) + R 0 5)))) 0 (31 * (mxF (R 1) j (mxF (whW (R 1)) 11 (31 * (31 * (31 * 18761 + R 0 2) + R 0 4) + R 0 5))) + (R 1 j))))) H1 := hP1
                clear hP hD hS hP1 hD1 hk1
                have hP := hPn
                have hD := hDn
                have hS := hS1
                clear hPn hDn hS1
                generalize H1 = H at hP hS ⊢
                generalize locs1 = locs at hS ⊢
                refine lv_iinc (v := iI (j + 1)) (lv' := [(1, .int (iI (j + 1))), (0, .ref (a 0))]) hx hb dX7_digest_86 hl (k := 0) rfl (iI_add _ _) (by decide) rfl (fun ls hl => ?_)
                refine lv_goto (tgt := 69) hx hb dX7_digest_89 (by decide) ?_
                exact ih69 (j + 1)  (by omega) (by omega) (by omega) H locs (by rw [show (ups (R 8) 0 (mxF (R 1) (j + 1) (mxF (whW (R 1)) 11 (31 * (31 * (31 * 18761 + R 0 2) + R 0 4) + R 0 5)))) = (ups (ups (R 8) 0 (mxF (R 1) j (mxF (whW (R 1)) 11 (31 * (31 * (31 * 18761 + R 0 2) + R 0 4) + R 0 5)))) 0 (31 * (mxF (R 1) j (mxF (whW (R 1)) 11 (31 * (31 * (31 * 18761 + R 0 2) + R 0 4) + R 0 5))) + (R 1 j))) from by rw [ups_ups, mxF_s _ _ hi0]]; exact hP) (k_addr hD rfl) hS ls (lv_sub hl [0, 1] rfl)
          exact loop69 ((10 - 0 : Int) + 1).toNat 0  (by omega) (by omega) (by omega) H locs (by rw [show (ups (R 8) 0 (mxF (R 1) 0 (mxF (whW (R 1)) 11 (31 * (31 * (31 * 18761 + R 0 2) + R 0 4) + R 0 5)))) = (ups (R 8) 0 (mxF (whW (R 1)) w (31 * (31 * (31 * 18761 + R 0 2) + R 0 4) + R 0 5))) from by rw [show w = 11 by omega]; rfl]; exact hP) (k_addr hD rfl) hS ls (lv_sub hl [0, 1] rfl)
        · skip
          refine lv_aload_n hx hb dX7_digest_51 rfl (lv_at hl 1 rfl) ?_
          refine lv_aload_n hx hb dX7_digest_52 rfl (lv_at hl 1 rfl) ?_
          refine lv_iload_n hx hb dX7_digest_53 rfl (lv_at hl 0 rfl) ?_
          refine k_roV (As := [.int (iI w)]) (rest := [.ref (a 0)]) ⟨hx, hb, hml, hown, hts⟩ (c_X7_wholeOf l D cy a (upr (upr (upr (upr (upr R 0 (ups (ups (ups (R 0) 6 0) 13 (mat (R 1) ((R 1) 8)).2.2.1) 14 (mat (R 1) ((R 1) 8)).2.2.2)) 4 (zq_5)) 5 (zs_3)) 6 (zt_4)) 8 (ups (R 8) 0 (mxF (whW (R 1)) w (31 * (31 * (31 * 18761 + R 0 2) + R 0 4) + R 0 5)))) w hI (show TRok (zt_4) from hI6) (show 0 ≤ w ∧ w ≤ 10 by omega)) gX7_digest_X7_wholeOf rfl ⟨rfl, rfl⟩ 1 rfl (by decide +kernel) ⟨Nat.le_of_ble_eq_true rfl, Nat.le_of_ble_eq_true rfl⟩ (GG_ok D cy) ((GG_ok D cy).2.2.2 _ _ _ _ (fun _ h => h.elim) ((GG_ok D cy).1 _ _ _ _ hS.2.1 hG)) hP (va_recv hK hP (ci := 6) (q0 := 0) rfl rfl) hl.1 rfl (Nat.le_of_ble_eq_true rfl) ⟨Nat.le_of_ble_eq_true rfl, Nat.le_of_ble_eq_true rfl⟩ dX7_digest_54 (fun r_28 hr_28 => ?_)
          have hr_28 : r_28 = whV (R 1) (zt_4) ((((mat (R 1) ((R 1) 8)).2.2.1))) (((mat (R 1) ((R 1) 8)).2.2.2)) w := hr_28
          subst hr_28
          refine k_eqI (v := whV (R 1) (zt_4) ((((mat (R 1) ((R 1) 8)).2.2.1))) (((mat (R 1) ((R 1) 8)).2.2.2)) w) (w := whW (R 1) w) (whV_mat hI hmt.1) ?_
          have hwb := whW_bd (w := w) hI
          refine k_i2l hx hb dX7_digest_57 (by omega) ?_
          refine k_muv (k_runV (As := [.long (lI (whW (R 1) w))]) (rest := []) ⟨hx, hb, hml, hown, hts⟩ (c_X7_mix l D cy H.size a (upr (upr (upr (upr (upr R 0 (ups (ups (ups (R 0) 6 0) 13 (mat (R 1) ((R 1) 8)).2.2.1) 14 (mat (R 1) ((R 1) 8)).2.2.2)) 4 (zq_5)) 5 (zs_3)) 6 (zt_4)) 8 (ups (R 8) 0 (mxF (whW (R 1)) w (31 * (31 * (31 * 18761 + R 0 2) + R 0 4) + R 0 5)))) (whW (R 1) w) ) gX7_digest_X7_mix rfl ⟨rfl, rfl⟩ 1 rfl (by decide +kernel) ⟨Nat.le_of_ble_eq_true rfl, Nat.le_of_ble_eq_true rfl⟩ (GG_ok D cy) hG hS (k_free hD hS hA) hP hD (va_recv hK hP (ci := 6) (q0 := 0) rfl rfl) hl.1 rfl (Nat.le_of_ble_eq_true rfl) ⟨Nat.le_of_ble_eq_true rfl, Nat.le_of_ble_eq_true rfl⟩ dX7_digest_58) (k_free hD hS hA) hS (fun R_30 H1 locs1 hR_30 hP1 hD1 hS1 hk1 => ?_)
          have hR_30 : R_30 = (upr (upr (upr (upr (upr (upr R 0 (ups (ups (ups (R 0) 6 0) 13 (mat (R 1) ((R 1) 8)).2.2.1) 14 (mat (R 1) ((R 1) 8)).2.2.2)) 4 (zq_5)) 5 (zs_3)) 6 (zt_4)) 8 (ups (R 8) 0 (mxF (whW (R 1)) w (31 * (31 * (31 * 18761 + R 0 2) + R 0 4) + R 0 5)))) 8 (ups (ups (R 8) 0 (mxF (whW (R 1)) w (31 * (31 * (31 * 18761 + R 0 2) + R 0 4) + R 0 5))) 0 (31 * (mxF (whW (R 1)) w (31 * (31 * (31 * 18761 + R 0 2) + R 0 4) + R 0 5)) + (whW (R 1) w)))) := hR_30
          subst hR_30
          have hDn : va_D (va_A (rfW cy a R) sz) (rfW cy a (upr (upr (upr (upr (upr R 0 (ups (ups (ups (R 0) 6 0) 13 (mat (R 1) ((R 1) 8)).2.2.1) 14 (mat (R 1) ((R 1) 8)).2.2.2)) 4 (zq_5)) 5 (zs_3)) 6 (zt_4)) 8 (ups (ups (R 8) 0 (mxF (whW (R 1)) w (31 * (31 * (31 * 18761 + R 0 2) + R 0 4) + R 0 5))) 0 (31 * (mxF (whW (R 1)) w (31 * (31 * (31 * 18761 + R 0 2) + R 0 4) + R 0 5)) + (whW (R 1) w))))) := k_addr hD rfl
          have hPn : va_P D vwCl (rfW cy a (upr (upr (upr (upr (upr R 0 (ups (ups (ups (R 0) 6 0) 13 (mat (R 1) ((R 1) 8)).2.2.1) 14 (mat (R 1) ((R 1) 8)).2.2.2)) 4 (zq_5)) 5 (zs_3)) 6 (zt_4)) 8 (ups (ups (R 8) 0 (mxF (whW (R 1)) w (31 * (31 * (31 * 18761 + R 0 2) + R 0 4) + R 0 5))) 0 (31 * (mxF (whW (R 1)) w (31 * (31 * (31 * 18761 + R 0 2) + R 0 4) + R 0 5)) + (whW (R 1) w))))) H1 := hP1
          clear hP hD hS hP1 hD1 hk1
          have hP := hPn
          have hD := hDn
          have hS := hS1
          clear hPn hDn hS1
          generalize H1 = H at hP hS ⊢
          generalize locs1 = locs at hS ⊢
          refine lv_iinc (v := iI (w + 1)) (lv' := [(1, .int (iI (w + 1))), (0, .ref (a 0))]) hx hb dX7_digest_61 hl (k := 0) rfl (iI_add _ _) (by decide) rfl (fun ls hl => ?_)
          refine lv_goto (tgt := 45) hx hb dX7_digest_64 (by decide) ?_
          exact ih45 (w + 1)  (by omega) (by omega) (by omega) H locs (by rw [show (ups (R 8) 0 (mxF (whW (R 1)) (w + 1) (31 * (31 * (31 * 18761 + R 0 2) + R 0 4) + R 0 5))) = (ups (ups (R 8) 0 (mxF (whW (R 1)) w (31 * (31 * (31 * 18761 + R 0 2) + R 0 4) + R 0 5))) 0 (31 * (mxF (whW (R 1)) w (31 * (31 * (31 * 18761 + R 0 2) + R 0 4) + R 0 5)) + (whW (R 1) w))) from by rw [ups_ups, mxF_s _ _ hi0]]; exact hP) (k_addr hD rfl) hS ls (lv_sub hl [0, 1] rfl)
    exact loop45 ((11 - 0 : Int) + 1).toNat 0  (by omega) (by omega) (by omega) H locs (by rw [show (ups (R 8) 0 (mxF (whW (R 1)) 0 (31 * (31 * (31 * 18761 + R 0 2) + R 0 4) + R 0 5))) = (ups (ups (ups (ups (R 8) 0 18761) 0 (31 * 18761 + (R 0 2))) 0 (31 * (31 * 18761 + (R 0 2)) + (R 0 4))) 0 (31 * (31 * (31 * 18761 + (R 0 2)) + (R 0 4)) + (R 0 5))) from by (repeat rw [ups_ups]); rfl]; exact hP) (k_addr hD rfl) hS ls (lv_sub hl [0, 1] rfl)
  exact hbody s.heap [] hP hS ls hl
