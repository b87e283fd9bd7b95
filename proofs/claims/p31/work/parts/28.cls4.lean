set_option maxHeartbeats 4000000 in
set_option maxRecDepth 100000 in
theorem c_X3_pairUp (l : Launch) (D : va_G) (cy : Nat → ClassId) (sz : Nat) (a : Nat → Nat) (P : Nat → Int → Int) (z : Int) (hI : Inv (mO P)) (hz : 0 ≤ z ∧ z ≤ 359999) (hfig : figOK (mO P) P (P 0 0)) : Met l yX3_pairUp wsX3_pairUp { frames := 4, cells := 0, slots := 0, locals := 100 } (mPre (GG D cy) D (mafgplW cy a P) sz ([.ref (a 30), .ref (a 0), .ref (a 20), .int (iI z)] : List Value)) (kQv D (mafgplW cy a P) sz (fun u9 : Nat → Int → Int => mafgplW cy a u9) (fun u9 => ∃ (zn : Int) (zs : Int → Int) (zt : Int → Int) (zc : Int → Int) (zp : Int → Int) (zq : Int → Int) (zr : Int → Int), (maOK (mO P) z zs zt zc) ∧ (u9 = (upr (upr (upr (upr (upr (upr (upr P 30 (ups (ups (ups (P 30) 8 zn) 3 (mat (mO P) z).2.2.1) 4 (mat (mO P) z).2.2.2)) 31 (zs)) 32 (zt)) 33 (zc)) 34 (zp)) 35 (zq)) 36 (zr))))) 0 0 (va_A (mafgplW cy a P) sz) := by
  refine kM_start (cc := cX3_pairUp) (maxL := 9) (ret := none) (by decide) rfl (Nat.le_of_ble_eq_true rfl) ?_
  intro p e s m below meth c hx hb hr hlocks hml hts hown hsz hA hG hP hD hS hin ls hl
  have hK := hG.1
  have hl : lv_has ls 9 [(0, .ref (a 30)), (1, .ref (a 0)), (2, .ref (a 20)), (3, .int (iI z))] := hl
  have hinX3 : ∀ w ∈ u_ws RX3 TX3 9, w ∈ wsX3_pairUp := by decide +kernel
  have hinX4 : ∀ w ∈ u_ws RX4 TX4 12, w ∈ wsX3_pairUp := by decide +kernel
  have hmw0 := hts (.fieldLink RX3 84 "ArcPlate$Plate" "trails" "I") (by decide +kernel)
  have hmw1 := hts (.fieldLink RX3 87 "ArcPlate$Plate" "stars" "I") (by decide +kernel)
  have hmw2 := hts (.methodLink RX3 90 Lib.Math.min.name) (by decide +kernel)
  have hmw3 := hts (.static Lib.Math.min.name) (by decide +kernel)
  have hmw4 := hts (.initialized "java/lang/Math") (by decide +kernel)
  have hmw5 := hts (.code Lib.Math.min.name Lib.Math.min.code 2 (some .int)) (by decide +kernel)
  have hmw6 := hts (.fieldLink RX3 28 "ArcPlate$Matching" "pairTrail" "[I") (by decide +kernel)
  have hmw7 := hts (.fieldLink RX3 31 "ArcPlate$Matching" "pairStar" "[I") (by decide +kernel)
  have hmw8 := hts (.fieldLink RX3 9 "ArcPlate$Matching" "starOf" "[I") (by decide +kernel)
  have hmw9 := hts (.fieldLink RX3 15 "ArcPlate$Matching" "trailOf" "[I") (by decide +kernel)
  have hmw10 := hts (.fieldLink RX3 18 "ArcPlate$Matching" "costOf" "[I") (by decide +kernel)
  have hmw11 := hts (.fieldLink RX3 34 "ArcPlate$Matching" "pairCosts" "[I") (by decide +kernel)
  have hmw12 := hts (.fieldLink RX3 21 "ArcPlate$Matching" "matches" "I") (by decide +kernel)
  have hmw13 := hts (.fieldLink RX3 25 "ArcPlate$Matching" "sum" "I") (by decide +kernel)
  have hS0 := po_S hI
  have hset := po_set hI
  have h12 := inv_S12 hI
  have hmm12 := mO_12 P
  have hmm13 := mO_13 P
  have hbody : ∀ (H : Heap) (locs : List Loc) (hP : va_P D vwCl (mafgplW cy a P) H) (hS : va_S (va_A (mafgplW cy a P) sz) s.heap H locs) (ls : Array Slot) (hl : lv_has ls 9 [(0, .ref (a 30)), (1, .ref (a 0)), (2, .ref (a 20)), (3, .int (iI z))]), W p l e { frames := 4, cells := 0, slots := 0, locals := 100 } s m ([.ref (a 30), .ref (a 0), .ref (a 20), .int (iI z)] : List Value).toArray below meth c H locs 0 0 (MQ below (kQv D (mafgplW cy a P) sz (fun u9 : Nat → Int → Int => mafgplW cy a u9) (fun u9 => ∃ (zn : Int) (zs : Int → Int) (zt : Int → Int) (zc : Int → Int) (zp : Int → Int) (zq : Int → Int) (zr : Int → Int), (maOK (mO P) z zs zt zc) ∧ (u9 = (upr (upr (upr (upr (upr (upr (upr P 30 (ups (ups (ups (P 30) 8 zn) 3 (mat (mO P) z).2.2.1) 4 (mat (mO P) z).2.2.2)) 31 (zs)) 32 (zt)) 33 (zc)) 34 (zp)) 35 (zq)) 36 (zr))))) ([.ref (a 30), .ref (a 0), .ref (a 20), .int (iI z)] : List Value).toArray s 0 0 (va_A (mafgplW cy a P) sz)) (F0 m 0 ls []) := by
    intro H locs hP hS ls hl
    refine lv_aload_n hx hb dX3_pairUp_0 rfl (lv_at hl 0 rfl) ?_
    have hPc := hP.sub (ws' := (maW cy a P)) [0, 1, 2, 3, 4, 5, 6] rfl
    have hDc := hD.sub (ws' := (maW cy a P)) [0, 1, 2, 3, 4, 5, 6] (by decide) rfl
    have hFc := va_free (wc := (maW cy a P)) hD hS hA [0, 1, 2, 3, 4, 5, 6] rfl
    refine k_muv (k_runV (As := []) (rest := []) ⟨hx, hb, hml, hown, hts⟩ (c_X3_clearMatches l D cy H.size a P ) gX3_pairUp_X3_clearMatches rfl ⟨rfl, rfl⟩ 0 rfl (by decide +kernel) ⟨Nat.le_of_ble_eq_true rfl, Nat.le_of_ble_eq_true rfl⟩ (GG_ok D cy) hG hS hFc hPc hDc (va_recv hK hP (ci := 2) (q0 := 0) rfl rfl) hl.1 rfl (Nat.le_of_ble_eq_true rfl) ⟨Nat.le_of_ble_eq_true rfl, Nat.le_of_ble_eq_true rfl⟩ dX3_pairUp_1) hFc hS (fun R_2 H1 locs1 hR_2 hP1 hD1 hS1 hk1 => ?_)
    have hR_2 : ∃ (zs : Int → Int) (zt : Int → Int) (zc : Int → Int), (∀ k : Int, 0 ≤ k → k < 12 → zs k = -1000000000 ∧ zt k = -1000000000 ∧ zc k = -1000000000) ∧ (R_2 = (upr (upr (upr (upr P 30 (ups (ups (P 30) 3 0) 4 0)) 31 (zs)) 32 (zt)) 33 (zc))) := hR_2
    obtain ⟨zs_3, zt_4, zc_5, hf_6, hR_2⟩ := hR_2
    have hf_6 : ∀ k : Int, 0 ≤ k → k < 12 → zs_3 k = -1000000000 ∧ zt_4 k = -1000000000 ∧ zc_5 k = -1000000000 := hf_6
    subst hR_2
    have hDn : va_D (va_A (mafgplW cy a P) sz) (mafgplW cy a (upr (upr (upr (upr P 30 (ups (ups (P 30) 3 0) 4 0)) 31 (zs_3)) 32 (zt_4)) 33 (zc_5))) := k_addr hD rfl
    have hPn := k_join (ws' := (mafgplW cy a (upr (upr (upr (upr P 30 (ups (ups (P 30) 3 0) 4 0)) 31 (zs_3)) 32 (zt_4)) 33 (zc_5)))) hP hD [0, 1, 2, 3, 4, 5, 6] [some 0, some 1, some 2, some 3, some 4, some 5, some 6, none, none, none, none, none, none, none, none, none, none, none, none, none, none, none, none, none, none] rfl hk1 hP1 rfl rfl
    clear hP hD hS hP1 hD1 hk1
    have hP := hPn
    have hD := hDn
    have hS := hS1
    clear hPn hDn hS1
    generalize H1 = H at hP hS ⊢
    generalize locs1 = locs at hS ⊢
    have hclr := hf_6
    refine lv_aload_n hx hb dX3_pairUp_4 rfl (lv_at hl 0 rfl) ?_
    refine lv_aload_n hx hb dX3_pairUp_5 rfl (lv_at hl 1 rfl) ?_
    refine lv_aload_n hx hb dX3_pairUp_6 rfl (lv_at hl 2 rfl) ?_
    refine lv_iload_n hx hb dX3_pairUp_7 rfl (lv_at hl 3 rfl) ?_
    refine k_muv (k_runV (As := [.ref (a 0), .ref (a 20), .int (iI z)]) (rest := []) ⟨hx, hb, hml, hown, hts⟩ (c_X3_collectPairs l D cy H.size a (upr (upr (upr (upr P 30 (ups (ups (P 30) 3 0) 4 0)) 31 (zs_3)) 32 (zt_4)) 33 (zc_5)) z hI (show 0 ≤ z ∧ z ≤ 359999 by omega) (show figOK (mO P) (upr (upr (upr (upr P 30 (ups (ups (P 30) 3 0) 4 0)) 31 (zs_3)) 32 (zt_4)) 33 (zc_5)) ((P 0) 0) from hfig)) gX3_pairUp_X3_collectPairs rfl ⟨rfl, rfl⟩ 3 rfl (by decide +kernel) ⟨Nat.le_of_ble_eq_true rfl, Nat.le_of_ble_eq_true rfl⟩ (GG_ok D cy) hG hS (k_free hD hS hA) hP hD (va_recv hK hP (ci := 2) (q0 := 0) rfl rfl) hl.1 rfl (Nat.le_of_ble_eq_true rfl) ⟨Nat.le_of_ble_eq_true rfl, Nat.le_of_ble_eq_true rfl⟩ dX3_pairUp_8) (k_free hD hS hA) hS (fun R_8 H1 locs1 hR_8 hP1 hD1 hS1 hk1 => ?_)
    have hR_8 : ∃ (zn : Int) (zp : Int → Int) (zq : Int → Int) (zr : Int → Int), (colOK (mO P) z zn zp zq zr (12 * (P 0) 0)) ∧ (R_8 = (upr (upr (upr (upr (upr (upr (upr (upr P 30 (ups (ups (P 30) 3 0) 4 0)) 31 (zs_3)) 32 (zt_4)) 33 (zc_5)) 30 (ups ((ups (ups (P 30) 3 0) 4 0)) 8 zn)) 34 (zp)) 35 (zq)) 36 (zr))) := hR_8
    obtain ⟨zn_9, zp_10, zq_11, zr_12, hf_13, hR_8⟩ := hR_8
    have hf_13 : colOK (mO P) z zn_9 zp_10 zq_11 zr_12 (12 * (P 0) 0) := hf_13
    subst hR_8
    have hDn : va_D (va_A (mafgplW cy a P) sz) (mafgplW cy a (upr (upr (upr (upr (upr (upr (upr P 30 (ups ((ups (ups (P 30) 3 0) 4 0)) 8 zn_9)) 31 (zs_3)) 32 (zt_4)) 33 (zc_5)) 34 (zp_10)) 35 (zq_11)) 36 (zr_12))) := k_addr hD rfl
    have hPn : va_P D vwCl (mafgplW cy a (upr (upr (upr (upr (upr (upr (upr P 30 (ups ((ups (ups (P 30) 3 0) 4 0)) 8 zn_9)) 31 (zs_3)) 32 (zt_4)) 33 (zc_5)) 34 (zp_10)) 35 (zq_11)) 36 (zr_12))) H1 := hP1
    clear hP hD hS hP1 hD1 hk1
    have hP := hPn
    have hD := hDn
    have hS := hS1
    clear hPn hDn hS1
    generalize H1 = H at hP hS ⊢
    generalize locs1 = locs at hS ⊢
    have hcol := hf_13
    have hcol2 := hcol
    rw [← hmm12] at hcol2
    have hcA := colOK_A hI hcol2
    refine lv_aload_n hx hb dX3_pairUp_11 rfl (lv_at hl 1 rfl) ?_
    refine va_get (D := D) (ci := 3) (v := .int (iI (P 0 0))) (C := RX4) (T := TX4) (N := 12) hx hb hts hinX4 hown hK hP 16 rfl rfl 0 (by decide) hmw0 (fun _ h9 => h9) rfl dX3_pairUp_12 ?_
    refine lv_aload_n hx hb dX3_pairUp_15 rfl (lv_at hl 1 rfl) ?_
    refine va_get (D := D) (ci := 3) (v := .int (iI (P 0 1))) (C := RX4) (T := TX4) (N := 12) hx hb hts hinX4 hown hK hP 16 rfl rfl 1 (by decide) hmw1 (fun _ h9 => h9) rfl dX3_pairUp_16 ?_
    refine k_mmin hx hb (hml.trans hl.1.symm) hown hmw2 hmw3 hmw4 hmw5 (Nat.le_of_ble_eq_true rfl) (Nat.le_of_ble_eq_true rfl) (Nat.le_of_ble_eq_true rfl) (Nat.le_of_ble_eq_true rfl) (by omega) (by omega) dX3_pairUp_19 ?_
    refine lv_istore (lv' := [(4, .int (iI (min (P 0 0) (P 0 1)))), (0, .ref (a 30)), (1, .ref (a 0)), (2, .ref (a 20)), (3, .int (iI z))]) hx hb dX3_pairUp_22 hl (by decide) rfl (fun ls hl => ?_)
    refine k_iconst hx hb dX3_pairUp_24 ?_
    refine lv_istore (lv' := [(5, .int (iI 0)), (4, .int (iI (min (P 0 0) (P 0 1)))), (0, .ref (a 30)), (1, .ref (a 0)), (2, .ref (a 20)), (3, .int (iI z))]) hx hb dX3_pairUp_25 hl (by decide) rfl (fun ls hl => ?_)
    have loop27 : ∀ (n_14 : Nat) (j : Nat) (S1 : Int → Int) (S2 : Int → Int) (S3 : Int → Int) (x5 : Int) (hi0 : ∀ k : Int, 0 ≤ k → k < 12 → S1 k = (matS (mO P) z j).1 k ∧ S2 k = (matS (mO P) z j).2.1 k) (hi1 : ∀ u : Int, 0 ≤ u → u < 12 → (S2 u = -1000000000 → S3 u = -1000000000) ∧ (S2 u ≠ -1000000000 → S3 u = cstK (mO P) z (12 * S2 u + u))) (hi2 : tkn (matS (mO P) z j).1 (mO P 12) = (j : Int)) (hi3 : tkn (matS (mO P) z j).2.1 (mO P 13) = (j : Int)) (hi4 : (j : Int) ≤ min (P 0 0) (P 0 1)) (hex5 : x5 = (j : Int)) (hn : min (P 0 0) (P 0 1) - (j : Int) < (n_14 : Int)) (H : Heap) (locs : List Loc) (hP : va_P D vwCl (mafgplW cy a (upr (upr (upr (upr (upr (upr (upr P 30 (ups (ups (ups (P 30) 8 zn_9) 3 (matS (mO P) z j).2.2.1) 4 (matS (mO P) z j).2.2.2)) 31 (S1)) 32 (S2)) 33 (S3)) 34 (zp_10)) 35 (zq_11)) 36 (zr_12))) H) (hD : va_D (va_A (mafgplW cy a P) sz) (mafgplW cy a (upr (upr (upr (upr (upr (upr (upr P 30 (ups (ups (ups (P 30) 8 zn_9) 3 (matS (mO P) z j).2.2.1) 4 (matS (mO P) z j).2.2.2)) 31 (S1)) 32 (S2)) 33 (S3)) 34 (zp_10)) 35 (zq_11)) 36 (zr_12)))) (hS : va_S (va_A (mafgplW cy a P) sz) s.heap H locs) (ls : Array Slot) (hl : lv_has ls 9 [(5, .int (iI x5)), (4, .int (iI (min (P 0 0) (P 0 1)))), (0, .ref (a 30)), (1, .ref (a 0)), (2, .ref (a 20)), (3, .int (iI z))]), W p l e { frames := 4, cells := 0, slots := 0, locals := 100 } s m ([.ref (a 30), .ref (a 0), .ref (a 20), .int (iI z)] : List Value).toArray below meth c H locs 0 0 (MQ below (kQv D (mafgplW cy a P) sz (fun u9 : Nat → Int → Int => mafgplW cy a u9) (fun u9 => ∃ (zn : Int) (zs : Int → Int) (zt : Int → Int) (zc : Int → Int) (zp : Int → Int) (zq : Int → Int) (zr : Int → Int), (maOK (mO P) z zs zt zc) ∧ (u9 = (upr (upr (upr (upr (upr (upr (upr P 30 (ups (ups (ups (P 30) 8 zn) 3 (mat (mO P) z).2.2.1) 4 (mat (mO P) z).2.2.2)) 31 (zs)) 32 (zt)) 33 (zc)) 34 (zp)) 35 (zq)) 36 (zr))))) ([.ref (a 30), .ref (a 0), .ref (a 20), .int (iI z)] : List Value).toArray s 0 0 (va_A (mafgplW cy a P) sz)) (F0 m 27 ls []) := by
      intro n_14
      induction n_14 with
      | zero => intro j S1 S2 S3 x5 hi0 hi1 hi2 hi3 hi4 hex5 hn H locs hP hD hS ls hl; exfalso; omega
      | succ n_14 ih27 =>
        intro j S1 S2 S3 x5 hi0 hi1 hi2 hi3 hi4 hex5 hn H locs hP hD hS ls hl
        subst hex5
        have hW := matS_ok z hI j
        have hrg := matW_rg hI hW
        have hcg : pick (mO P) z S1 S2 = pick (mO P) z (matS (mO P) z j).1 (matS (mO P) z j).2.1 := pick_congr h12.1.2 (fun k a b => (hi0 k a b).1) (fun k a b => (hi0 k a b).2)
        refine lv_iload hx hb dX3_pairUp_27 (lv_at hl 0 rfl) ?_
        refine lv_iload hx hb dX3_pairUp_29 (lv_at hl 1 rfl) ?_
        refine k_icmp_ge (tgt := 128) hx hb dX3_pairUp_31 (by decide) (by omega) (by omega) (fun c_15 => ?_) (fun c_15 => ?_)
        · skip
          have hpn : pick (mO P) z (matS (mO P) z j).1 (matS (mO P) z j).2.1 = -1000000000 := full_none h12 (by omega)
          have hme := mat_of (n := j) (by omega) hpn
          exact W.vret hx hb hr (fun t9 ht _ => ⟨⟨(upr (upr (upr (upr (upr (upr (upr P 30 (ups (ups (ups (P 30) 8 zn_9) 3 (matS (mO P) z j).2.2.1) 4 (matS (mO P) z j).2.2.2)) 31 (S1)) 32 (S2)) 33 (S3)) 34 (zp_10)) 35 (zq_11)) 36 (zr_12)), rfl, (⟨(zn_9), (S1), (S2), (S3), (zp_10), (zq_11), (zr_12), (⟨fun k a b => by rw [hme]; exact hi0 k a b, hi1⟩), (by rw [show (ups (ups (ups (P 30) 8 zn_9) 3 (matS (mO P) z j).2.2.1) 4 (matS (mO P) z j).2.2.2) = (ups (ups (ups (P 30) 8 zn_9) 3 (mat (mO P) z).2.2.1) 4 (mat (mO P) z).2.2.2) from by rw [hme]])⟩ : ∃ (zn : Int) (zs : Int → Int) (zt : Int → Int) (zc : Int → Int) (zp : Int → Int) (zq : Int → Int) (zr : Int → Int), (maOK (mO P) z zs zt zc) ∧ ((upr (upr (upr (upr (upr (upr (upr P 30 (ups (ups (ups (P 30) 8 zn_9) 3 (matS (mO P) z j).2.2.1) 4 (matS (mO P) z j).2.2.2)) 31 (S1)) 32 (S2)) 33 (S3)) 34 (zp_10)) 35 (zq_11)) 36 (zr_12)) = (upr (upr (upr (upr (upr (upr (upr P 30 (ups (ups (ups (P 30) 8 zn) 3 (mat (mO P) z).2.2.1) 4 (mat (mO P) z).2.2.2)) 31 (zs)) 32 (zt)) 33 (zc)) 34 (zp)) 35 (zq)) 36 (zr)))), by rw [ht]; exact hP, hD⟩, hS.F ht⟩) hS.2.2 dX3_pairUp_128 hlocks
        · skip
          refine lv_aload_n hx hb dX3_pairUp_34 rfl (lv_at hl 2 rfl) ?_
          refine k_roV (As := []) (rest := []) ⟨hx, hb, hml, hown, hts⟩ (c_X3_bestFreePair l D cy a (upr (upr (upr (upr (upr (upr (upr P 30 (ups (ups (ups (P 30) 8 zn_9) 3 (matS (mO P) z j).2.2.1) 4 (matS (mO P) z j).2.2.2)) 31 (S1)) 32 (S2)) 33 (S3)) 34 (zp_10)) 35 (zq_11)) 36 (zr_12)) (show 0 ≤ ((zn_9)) ∧ ((zn_9)) ≤ 144 from hcA.1) (show ∀ i : Int, 0 ≤ i → i < ((zn_9)) → (0 ≤ zp_10 i ∧ zp_10 i < 12) ∧ (0 ≤ zq_11 i ∧ zq_11 i < 12) ∧ (0 ≤ zr_12 i ∧ zr_12 i ≤ 10100000) from hcA.2) (show ∀ k : Int, 0 ≤ k → k < 12 → (-1000000000 ≤ S1 k ∧ S1 k ≤ 12) ∧ (-1000000000 ≤ S2 k ∧ S2 k ≤ 12) from fun k a b => by have h9 := hrg k a b; rw [← (hi0 k a b).1, ← (hi0 k a b).2] at h9; exact h9)) gX3_pairUp_X3_bestFreePair rfl ⟨rfl, rfl⟩ 0 rfl (by decide +kernel) ⟨Nat.le_of_ble_eq_true rfl, Nat.le_of_ble_eq_true rfl⟩ (GG_ok D cy) ((GG_ok D cy).2.2.2 _ _ _ _ (fun _ h => h.elim) ((GG_ok D cy).1 _ _ _ _ hS.2.1 hG)) (hP.sub (ws' := (maW cy a (upr (upr (upr (upr (upr (upr (upr P 30 (ups (ups (ups (P 30) 8 zn_9) 3 (matS (mO P) z j).2.2.1) 4 (matS (mO P) z j).2.2.2)) 31 (S1)) 32 (S2)) 33 (S3)) 34 (zp_10)) 35 (zq_11)) 36 (zr_12)))) [0, 1, 2, 3, 4, 5, 6] rfl) (va_recv hK hP (ci := 2) (q0 := 0) rfl rfl) hl.1 rfl (Nat.le_of_ble_eq_true rfl) ⟨Nat.le_of_ble_eq_true rfl, Nat.le_of_ble_eq_true rfl⟩ dX3_pairUp_35 (fun r_16 hr_16 => ?_)
          have hr_16 : bfp (S1) (S2) (zp_10) (zq_11) (zr_12) (((zn_9))) r_16 := hr_16
          have hpk := bfp_pick hI hr_16 hcol2
          refine lv_istore (lv' := [(6, .int (iI r_16)), (5, .int (iI (j : Int))), (4, .int (iI (min (P 0 0) (P 0 1)))), (0, .ref (a 30)), (1, .ref (a 0)), (2, .ref (a 20)), (3, .int (iI z))]) hx hb dX3_pairUp_38 hl (by decide) rfl (fun ls hl => ?_)
          refine lv_iload hx hb dX3_pairUp_40 (lv_at hl 0 rfl) ?_
          refine k_if_ge (tgt := 46) hx hb dX3_pairUp_42 (by decide) (by omega) (fun c_17 => ?_) (fun c_17 => ?_)
          · skip
            have hr0 : 0 ≤ r_16 ∧ r_16 < zn_9 := by rcases hpk with ⟨h9, _⟩ | ⟨h9, _⟩; omega; exact h9
            have hpb : pick (mO P) z S1 S2 = 12 * zp_10 r_16 + zq_11 r_16 := by rcases hpk with ⟨h9, _⟩ | ⟨_, h9⟩; omega; exact h9
            have hpo := pick_ok hI (show pick (mO P) z S1 S2 ≠ -1000000000 by have h9 := hcA.2 r_16 hr0.1 hr0.2; omega)
            have hAr := hcA.2 r_16 hr0.1 hr0.2
            rw [hpb] at hpo
            have hd1 : (12 * zp_10 r_16 + zq_11 r_16) / 12 = zp_10 r_16 := by omega
            have hd2 : (12 * zp_10 r_16 + zq_11 r_16) % 12 = zq_11 r_16 := by omega
            have hgo := matS_go (M := mO P) (z := z) (n := j) (b := 12 * zp_10 r_16 + zq_11 r_16) (by rw [← hcg]; exact hpb) (by omega)
            rw [hd1, hd2] at hpo hgo
            have hck : zr_12 r_16 = cstK (mO P) z (12 * zp_10 r_16 + zq_11 r_16) := by unfold cstK; rw [hd1, hd2]; exact (hcol2.2.1 r_16 hr0.1 hr0.2).2.1.1
            rw [← hck] at hgo
            obtain ⟨j9, hj9⟩ : ∃ j9 : Nat, j9 = j + 1 := ⟨_, rfl⟩
            refine lv_aload_n hx hb dX3_pairUp_46 rfl (lv_at hl 3 rfl) ?_
            refine va_get (D := D) (ci := 2) (v := .ref (a 34)) (C := RX3) (T := TX3) (N := 9) hx hb hts hinX3 hown hK hP 0 rfl rfl 5 (by decide) hmw6 (fun _ h9 => h9) rfl dX3_pairUp_47 ?_
            refine lv_iload hx hb dX3_pairUp_50 (lv_at hl 0 rfl) ?_
            refine k_iald hx hb hK hP 4 0 (f := zp_10) rfl rfl (i := r_16) (by omega) dX3_pairUp_52 ?_
            refine lv_istore (lv' := [(7, .int (iI (zp_10 r_16))), (6, .int (iI r_16)), (5, .int (iI (j : Int))), (4, .int (iI (min (P 0 0) (P 0 1)))), (0, .ref (a 30)), (1, .ref (a 0)), (2, .ref (a 20)), (3, .int (iI z))]) hx hb dX3_pairUp_53 hl (by decide) rfl (fun ls hl => ?_)
            refine lv_aload_n hx hb dX3_pairUp_55 rfl (lv_at hl 4 rfl) ?_
            refine va_get (D := D) (ci := 2) (v := .ref (a 35)) (C := RX3) (T := TX3) (N := 9) hx hb hts hinX3 hown hK hP 0 rfl rfl 6 (by decide) hmw7 (fun _ h9 => h9) rfl dX3_pairUp_56 ?_
            refine lv_iload hx hb dX3_pairUp_59 (lv_at hl 1 rfl) ?_
            refine k_iald hx hb hK hP 5 0 (f := zq_11) rfl rfl (i := r_16) (by omega) dX3_pairUp_61 ?_
            refine lv_istore (lv' := [(8, .int (iI (zq_11 r_16))), (7, .int (iI (zp_10 r_16))), (6, .int (iI r_16)), (5, .int (iI (j : Int))), (4, .int (iI (min (P 0 0) (P 0 1)))), (0, .ref (a 30)), (1, .ref (a 0)), (2, .ref (a 20)), (3, .int (iI z))]) hx hb dX3_pairUp_62 hl (by decide) rfl (fun ls hl => ?_)
            refine lv_aload_n hx hb dX3_pairUp_64 rfl (lv_at hl 5 rfl) ?_
            refine va_get (D := D) (ci := 2) (v := .ref (a 31)) (C := RX3) (T := TX3) (N := 9) hx hb hts hinX3 hown hK hP 0 rfl rfl 0 (by decide) hmw8 (fun _ h9 => h9) rfl dX3_pairUp_65 ?_
            refine lv_iload hx hb dX3_pairUp_68 (lv_at hl 1 rfl) ?_
            refine lv_iload hx hb dX3_pairUp_70 (lv_at hl 0 rfl) ?_
            refine k_iast hx hb hK hP hD hS 1 0 (f := S1) rfl rfl (i := zp_10 r_16) (x := zq_11 r_16) (by omega) dX3_pairUp_72 (fun H locs hP hD hS => ?_)
            have hP : va_P D vwCl (mafgplW cy a (upr (upr (upr (upr (upr (upr (upr P 30 (ups (ups (ups (P 30) 8 zn_9) 3 (matS (mO P) z j).2.2.1) 4 (matS (mO P) z j).2.2.2)) 31 (ups S1 (zp_10 r_16) (zq_11 r_16))) 32 (S2)) 33 (S3)) 34 (zp_10)) 35 (zq_11)) 36 (zr_12))) H := hP
            have hD : va_D (va_A (mafgplW cy a P) sz) (mafgplW cy a (upr (upr (upr (upr (upr (upr (upr P 30 (ups (ups (ups (P 30) 8 zn_9) 3 (matS (mO P) z j).2.2.1) 4 (matS (mO P) z j).2.2.2)) 31 (ups S1 (zp_10 r_16) (zq_11 r_16))) 32 (S2)) 33 (S3)) 34 (zp_10)) 35 (zq_11)) 36 (zr_12))) := hD
            refine lv_aload_n hx hb dX3_pairUp_73 rfl (lv_at hl 5 rfl) ?_
            refine va_get (D := D) (ci := 2) (v := .ref (a 32)) (C := RX3) (T := TX3) (N := 9) hx hb hts hinX3 hown hK hP 0 rfl rfl 1 (by decide) hmw9 (fun _ h9 => h9) rfl dX3_pairUp_74 ?_
            refine lv_iload hx hb dX3_pairUp_77 (lv_at hl 0 rfl) ?_
            refine lv_iload hx hb dX3_pairUp_79 (lv_at hl 1 rfl) ?_
            refine k_iast hx hb hK hP hD hS 2 0 (f := S2) rfl rfl (i := zq_11 r_16) (x := zp_10 r_16) (by omega) dX3_pairUp_81 (fun H locs hP hD hS => ?_)
            have hP : va_P D vwCl (mafgplW cy a (upr (upr (upr (upr (upr (upr (upr P 30 (ups (ups (ups (P 30) 8 zn_9) 3 (matS (mO P) z j).2.2.1) 4 (matS (mO P) z j).2.2.2)) 31 (ups S1 (zp_10 r_16) (zq_11 r_16))) 32 (ups S2 (zq_11 r_16) (zp_10 r_16))) 33 (S3)) 34 (zp_10)) 35 (zq_11)) 36 (zr_12))) H := hP
            have hD : va_D (va_A (mafgplW cy a P) sz) (mafgplW cy a (upr (upr (upr (upr (upr (upr (upr P 30 (ups (ups (ups (P 30) 8 zn_9) 3 (matS (mO P) z j).2.2.1) 4 (matS (mO P) z j).2.2.2)) 31 (ups S1 (zp_10 r_16) (zq_11 r_16))) 32 (ups S2 (zq_11 r_16) (zp_10 r_16))) 33 (S3)) 34 (zp_10)) 35 (zq_11)) 36 (zr_12))) := hD
            refine lv_aload_n hx hb dX3_pairUp_82 rfl (lv_at hl 5 rfl) ?_
            refine va_get (D := D) (ci := 2) (v := .ref (a 33)) (C := RX3) (T := TX3) (N := 9) hx hb hts hinX3 hown hK hP 0 rfl rfl 2 (by decide) hmw10 (fun _ h9 => h9) rfl dX3_pairUp_83 ?_
            refine lv_iload hx hb dX3_pairUp_86 (lv_at hl 0 rfl) ?_
            refine lv_aload_n hx hb dX3_pairUp_88 rfl (lv_at hl 5 rfl) ?_
            refine va_get (D := D) (ci := 2) (v := .ref (a 36)) (C := RX3) (T := TX3) (N := 9) hx hb hts hinX3 hown hK hP 0 rfl rfl 7 (by decide) hmw11 (fun _ h9 => h9) rfl dX3_pairUp_89 ?_
            refine lv_iload hx hb dX3_pairUp_92 (lv_at hl 2 rfl) ?_
            refine k_iald hx hb hK hP 6 0 (f := zr_12) rfl rfl (i := r_16) (by omega) dX3_pairUp_94 ?_
            refine k_iast hx hb hK hP hD hS 3 0 (f := S3) rfl rfl (i := zq_11 r_16) (x := zr_12 r_16) (by omega) dX3_pairUp_95 (fun H locs hP hD hS => ?_)
            have hP : va_P D vwCl (mafgplW cy a (upr (upr (upr (upr (upr (upr (upr P 30 (ups (ups (ups (P 30) 8 zn_9) 3 (matS (mO P) z j).2.2.1) 4 (matS (mO P) z j).2.2.2)) 31 (ups S1 (zp_10 r_16) (zq_11 r_16))) 32 (ups S2 (zq_11 r_16) (zp_10 r_16))) 33 (ups S3 (zq_11 r_16) (zr_12 r_16))) 34 (zp_10)) 35 (zq_11)) 36 (zr_12))) H := hP
            have hD : va_D (va_A (mafgplW cy a P) sz) (mafgplW cy a (upr (upr (upr (upr (upr (upr (upr P 30 (ups (ups (ups (P 30) 8 zn_9) 3 (matS (mO P) z j).2.2.1) 4 (matS (mO P) z j).2.2.2)) 31 (ups S1 (zp_10 r_16) (zq_11 r_16))) 32 (ups S2 (zq_11 r_16) (zp_10 r_16))) 33 (ups S3 (zq_11 r_16) (zr_12 r_16))) 34 (zp_10)) 35 (zq_11)) 36 (zr_12))) := hD
            refine lv_aload_n hx hb dX3_pairUp_96 rfl (lv_at hl 5 rfl) ?_
            refine lv_dup hx hb dX3_pairUp_97 rfl ?_
            refine va_get (D := D) (ci := 2) (v := .int (iI ((matS (mO P) z j).2.2.1))) (C := RX3) (T := TX3) (N := 9) hx hb hts hinX3 hown hK hP 0 rfl rfl 3 (by decide) hmw12 (fun _ h9 => h9) rfl dX3_pairUp_98 ?_
            refine k_iconst hx hb dX3_pairUp_101 ?_
            refine k_iadd hx hb dX3_pairUp_102 ?_
            refine va_put (D := D) (ci := 2) (v := .int (iI (((matS (mO P) z j).2.2.1) + 1))) (ty := .int) (C := RX3) (T := TX3) (N := 9) hx hb hts hinX3 tyX3 tyX3_ok nmX3 hown hK hP hD hS 0 rfl rfl 3 (by decide) hmw12 (fun _ h9 => h9) rfl (by decide +kernel) rfl rfl (Nat.le_of_ble_eq_true rfl) dX3_pairUp_103 (fun H locs hP hD hS => ?_)
            have hP : va_P D vwCl (mafgplW cy a (upr (upr (upr (upr (upr (upr (upr P 30 (ups (ups (ups (ups (P 30) 8 zn_9) 3 (matS (mO P) z j).2.2.1) 4 (matS (mO P) z j).2.2.2) 3 (((matS (mO P) z j).2.2.1) + 1))) 31 (ups S1 (zp_10 r_16) (zq_11 r_16))) 32 (ups S2 (zq_11 r_16) (zp_10 r_16))) 33 (ups S3 (zq_11 r_16) (zr_12 r_16))) 34 (zp_10)) 35 (zq_11)) 36 (zr_12))) H := hP
            have hD : va_D (va_A (mafgplW cy a P) sz) (mafgplW cy a (upr (upr (upr (upr (upr (upr (upr P 30 (ups (ups (ups (ups (P 30) 8 zn_9) 3 (matS (mO P) z j).2.2.1) 4 (matS (mO P) z j).2.2.2) 3 (((matS (mO P) z j).2.2.1) + 1))) 31 (ups S1 (zp_10 r_16) (zq_11 r_16))) 32 (ups S2 (zq_11 r_16) (zp_10 r_16))) 33 (ups S3 (zq_11 r_16) (zr_12 r_16))) 34 (zp_10)) 35 (zq_11)) 36 (zr_12))) := hD
            refine lv_aload_n hx hb dX3_pairUp_106 rfl (lv_at hl 5 rfl) ?_
            refine lv_dup hx hb dX3_pairUp_107 rfl ?_
            refine va_get (D := D) (ci := 2) (v := .int (iI ((matS (mO P) z j).2.2.2))) (C := RX3) (T := TX3) (N := 9) hx hb hts hinX3 hown hK hP 0 rfl rfl 4 (by decide) hmw13 (fun _ h9 => h9) rfl dX3_pairUp_108 ?_
            refine lv_aload_n hx hb dX3_pairUp_111 rfl (lv_at hl 5 rfl) ?_
            refine va_get (D := D) (ci := 2) (v := .ref (a 36)) (C := RX3) (T := TX3) (N := 9) hx hb hts hinX3 hown hK hP 0 rfl rfl 7 (by decide) hmw11 (fun _ h9 => h9) rfl dX3_pairUp_112 ?_
            refine lv_iload hx hb dX3_pairUp_115 (lv_at hl 2 rfl) ?_
            refine k_iald hx hb hK hP 6 0 (f := zr_12) rfl rfl (i := r_16) (by omega) dX3_pairUp_117 ?_
            refine k_iadd hx hb dX3_pairUp_118 ?_
            refine va_put (D := D) (ci := 2) (v := .int (iI (((matS (mO P) z j).2.2.2) + (zr_12 r_16)))) (ty := .int) (C := RX3) (T := TX3) (N := 9) hx hb hts hinX3 tyX3 tyX3_ok nmX3 hown hK hP hD hS 0 rfl rfl 4 (by decide) hmw13 (fun _ h9 => h9) rfl (by decide +kernel) rfl rfl (Nat.le_of_ble_eq_true rfl) dX3_pairUp_119 (fun H locs hP hD hS => ?_)
            have hP : va_P D vwCl (mafgplW cy a (upr (upr (upr (upr (upr (upr (upr P 30 (ups (ups (ups (ups (ups (P 30) 8 zn_9) 3 (matS (mO P) z j).2.2.1) 4 (matS (mO P) z j).2.2.2) 3 (((matS (mO P) z j).2.2.1) + 1)) 4 (((matS (mO P) z j).2.2.2) + (zr_12 r_16)))) 31 (ups S1 (zp_10 r_16) (zq_11 r_16))) 32 (ups S2 (zq_11 r_16) (zp_10 r_16))) 33 (ups S3 (zq_11 r_16) (zr_12 r_16))) 34 (zp_10)) 35 (zq_11)) 36 (zr_12))) H := hP
            have hD : va_D (va_A (mafgplW cy a P) sz) (mafgplW cy a (upr (upr (upr (upr (upr (upr (upr P 30 (ups (ups (ups (ups (ups (P 30) 8 zn_9) 3 (matS (mO P) z j).2.2.1) 4 (matS (mO P) z j).2.2.2) 3 (((matS (mO P) z j).2.2.1) + 1)) 4 (((matS (mO P) z j).2.2.2) + (zr_12 r_16)))) 31 (ups S1 (zp_10 r_16) (zq_11 r_16))) 32 (ups S2 (zq_11 r_16) (zp_10 r_16))) 33 (ups S3 (zq_11 r_16) (zr_12 r_16))) 34 (zp_10)) 35 (zq_11)) 36 (zr_12))) := hD
            refine lv_iinc (v := iI ((j : Int) + 1)) (lv' := [(5, .int (iI ((j : Int) + 1))), (8, .int (iI (zq_11 r_16))), (7, .int (iI (zp_10 r_16))), (6, .int (iI r_16)), (4, .int (iI (min (P 0 0) (P 0 1)))), (0, .ref (a 30)), (1, .ref (a 0)), (2, .ref (a 20)), (3, .int (iI z))]) hx hb dX3_pairUp_122 hl (k := 3) rfl (iI_add _ _) (by decide) rfl (fun ls hl => ?_)
            refine lv_goto (tgt := 27) hx hb dX3_pairUp_125 (by decide) ?_
            exact ih27 j9 (ups S1 (zp_10 r_16) (zq_11 r_16)) (ups S2 (zq_11 r_16) (zp_10 r_16)) (ups S3 (zq_11 r_16) (zr_12 r_16)) ((j : Int) + 1) (by subst hj9; rw [hgo]; intro k a b; refine ⟨?_, ?_⟩; (show ups _ _ _ k = ups _ _ _ k; unfold ups; rw [(hi0 k a b).1]); (show ups _ _ _ k = ups _ _ _ k; unfold ups; rw [(hi0 k a b).2])) (fun u a b => by by_cases e9 : u = (zq_11 r_16); (rw [e9, ups_eq, ups_eq]; exact ⟨fun h9 => by omega, fun _ => hck⟩); (rw [ups_ne _ _ e9, ups_ne _ _ e9]; exact hi1 u a b)) (by subst hj9; rw [hgo]; show tkn (ups _ _ _) (mO P 12) = _; rw [tkn_ups hpo.2.1.1 hpo.2.1.2 (by rw [← (hi0 _ hpo.2.1.1 (by omega)).1]; have h9 := hpo.1.2.2.2.1; rw [hd1] at h9; exact h9) (by omega), hi2]; omega) (by subst hj9; rw [hgo]; show tkn (ups _ _ _) (mO P 13) = _; rw [tkn_ups hpo.2.2.1 hpo.2.2.2 (by rw [← (hi0 _ hpo.2.2.1 (by omega)).2]; have h9 := hpo.1.2.2.2.2.1; rw [hd2] at h9; exact h9) (by omega), hi3]; omega) (by omega) (by subst hj9; omega) (by omega) H locs (by rw [show (ups (ups (ups (P 30) 8 zn_9) 3 (matS (mO P) z j9).2.2.1) 4 (matS (mO P) z j9).2.2.2) = (ups (ups (ups (ups (ups (P 30) 8 zn_9) 3 (matS (mO P) z j).2.2.1) 4 (matS (mO P) z j).2.2.2) 3 (((matS (mO P) z j).2.2.1) + 1)) 4 (((matS (mO P) z j).2.2.2) + (zr_12 r_16))) from by subst hj9; rw [hgo]; funext k9; unfold ups; (repeat' split) <;> first | rfl | omega]; exact hP) (k_addr hD rfl) hS ls (lv_sub hl [0, 4, 5, 6, 7, 8] rfl)
          · skip
            have hpn : pick (mO P) z (matS (mO P) z j).1 (matS (mO P) z j).2.1 = -1000000000 := by rcases hpk with ⟨_, h9⟩ | ⟨h9, _⟩; (rw [← hcg]; exact h9); omega
            have hme := mat_of (n := j) (by omega) hpn
            exact W.vret hx hb hr (fun t9 ht _ => ⟨⟨(upr (upr (upr (upr (upr (upr (upr P 30 (ups (ups (ups (P 30) 8 zn_9) 3 (matS (mO P) z j).2.2.1) 4 (matS (mO P) z j).2.2.2)) 31 (S1)) 32 (S2)) 33 (S3)) 34 (zp_10)) 35 (zq_11)) 36 (zr_12)), rfl, (⟨(zn_9), (S1), (S2), (S3), (zp_10), (zq_11), (zr_12), (⟨fun k a b => by rw [hme]; exact hi0 k a b, hi1⟩), (by rw [show (ups (ups (ups (P 30) 8 zn_9) 3 (matS (mO P) z j).2.2.1) 4 (matS (mO P) z j).2.2.2) = (ups (ups (ups (P 30) 8 zn_9) 3 (mat (mO P) z).2.2.1) 4 (mat (mO P) z).2.2.2) from by rw [hme]])⟩ : ∃ (zn : Int) (zs : Int → Int) (zt : Int → Int) (zc : Int → Int) (zp : Int → Int) (zq : Int → Int) (zr : Int → Int), (maOK (mO P) z zs zt zc) ∧ ((upr (upr (upr (upr (upr (upr (upr P 30 (ups (ups (ups (P 30) 8 zn_9) 3 (matS (mO P) z j).2.2.1) 4 (matS (mO P) z j).2.2.2)) 31 (S1)) 32 (S2)) 33 (S3)) 34 (zp_10)) 35 (zq_11)) 36 (zr_12)) = (upr (upr (upr (upr (upr (upr (upr P 30 (ups (ups (ups (P 30) 8 zn) 3 (mat (mO P) z).2.2.1) 4 (mat (mO P) z).2.2.2)) 31 (zs)) 32 (zt)) 33 (zc)) 34 (zp)) 35 (zq)) 36 (zr)))), by rw [ht]; exact hP, hD⟩, hS.F ht⟩) hS.2.2 dX3_pairUp_45 hlocks
    exact loop27 ((min (P 0 0) (P 0 1) - (0 : Int) : Int) + 1).toNat 0 zs_3 zt_4 zc_5 0 (fun k a b => ⟨(hclr k a b).1, (hclr k a b).2.1⟩) (fun k a b => ⟨fun _ => (hclr k a b).2.2, fun h9 => absurd (hclr k a b).2.1 h9⟩) (tkn_0 _) (tkn_0 _) (by show (0 : Int) ≤ _; omega) (rfl) (show _ < _ by omega) H locs (by rw [show (ups (ups (ups (P 30) 8 zn_9) 3 (matS (mO P) z 0).2.2.1) 4 (matS (mO P) z 0).2.2.2) = (ups ((ups (ups (P 30) 3 0) 4 0)) 8 zn_9) from by funext k9; unfold ups; (repeat' split) <;> first | rfl | omega]; exact hP) (k_addr hD rfl) hS ls (lv_sub hl [0, 1, 2, 3, 4, 5] rfl)
  exact hbody s.heap [] hP hS ls hl
