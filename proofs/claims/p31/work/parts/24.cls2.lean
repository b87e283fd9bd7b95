set_option maxHeartbeats 4000000 in
set_option maxRecDepth 100000 in
theorem c_X4_seekPole (l : Launch) (D : va_G) (cy : Nat → ClassId) (sz : Nat) (a : Nat → Nat) (P : Nat → Int → Int) (s9 : Int) (hI : Inv (mO P)) (hs9 : 1 ≤ s9 ∧ s9 ≤ 512) : Met l yX4_seekPole wsX4_seekPole { frames := 4, cells := 0, slots := 0, locals := 102 } (mPre (GG D cy) D (plW cy a P) sz ([.ref (a 0), .int (iI s9)] : List Value)) (kQi D (plW cy a P) sz (fun u9 : Nat → Int → Int => plW cy a u9) (fun r9 u9 => ∃ (zx : Int) (zy : Int), ((srch (mO P) s9).1 = tPo (mO P) zx zy ∧ poleOK zx zy) ∧ (r9 = (srch (mO P) s9).2) ∧ (u9 = (upr P 0 (ups (ups (P 0) 2 zx) 3 zy))))) 0 0 (va_A (plW cy a P) sz) := by
  refine kM_start (cc := cX4_seekPole) (maxL := 15) (ret := (some .int)) (by decide) rfl (Nat.le_of_ble_eq_true rfl) ?_
  intro p e s m below meth c hx hb hr hlocks hml hts hown hsz hA hG hP hD hS hin ls hl
  have hK := hG.1
  have hl : lv_has ls 15 [(0, .ref (a 0)), (1, .int (iI s9))] := hl
  have hinX4 : ∀ w ∈ u_ws RX4 TX4 12, w ∈ wsX4_seekPole := by decide +kernel
  have hm0 := hts (.fieldLink RX4 54 "ArcPlate$Plate" "settings" "[I") (by decide +kernel)
  have hm1 := hts (.fieldLink RX4 18 "ArcPlate$Plate" "poleX" "I") (by decide +kernel)
  have hm2 := hts (.fieldLink RX4 21 "ArcPlate$Plate" "poleY" "I") (by decide +kernel)
  have hm3 := hts (.constant RX4 147 (1000000)) (by decide +kernel)
  have hS0 := po_S hI
  have hset := po_set hI
  have hpid := pole_id P
  have hpc0 := inv_pcost hI
  have hbody : ∀ (H : Heap) (locs : List Loc) (hP : va_P D vwCl (plW cy a P) H) (hS : va_S (va_A (plW cy a P) sz) s.heap H locs) (ls : Array Slot) (hl : lv_has ls 15 [(0, .ref (a 0)), (1, .int (iI s9))]), W p l e { frames := 4, cells := 0, slots := 0, locals := 102 } s m ([.ref (a 0), .int (iI s9)] : List Value).toArray below meth c H locs 0 0 (MQ below (kQi D (plW cy a P) sz (fun u9 : Nat → Int → Int => plW cy a u9) (fun r9 u9 => ∃ (zx : Int) (zy : Int), ((srch (mO P) s9).1 = tPo (mO P) zx zy ∧ poleOK zx zy) ∧ (r9 = (srch (mO P) s9).2) ∧ (u9 = (upr P 0 (ups (ups (P 0) 2 zx) 3 zy))))) ([.ref (a 0), .int (iI s9)] : List Value).toArray s 0 0 (va_A (plW cy a P) sz)) (F0 m 0 ls []) := by
    intro H locs hP hS ls hl
    refine k_iconst hx hb dX4_seekPole_0 ?_
    refine lv_istore_n (lv' := [(2, .int (iI 0)), (0, .ref (a 0)), (1, .int (iI s9))]) hx hb dX4_seekPole_1 rfl hl (by decide) rfl (fun ls hl => ?_)
    refine lv_iload_n hx hb dX4_seekPole_2 rfl (lv_at hl 2 rfl) ?_
    refine lv_istore_n (lv' := [(3, .int (iI s9)), (2, .int (iI 0)), (0, .ref (a 0)), (1, .int (iI s9))]) hx hb dX4_seekPole_3 rfl hl (by decide) rfl (fun ls hl => ?_)
    refine lv_aload_n hx hb dX4_seekPole_4 rfl (lv_at hl 2 rfl) ?_
    refine va_get (D := D) (ci := 3) (v := .ref (a 8)) (C := RX4) (T := TX4) (N := 12) hx hb hts hinX4 hown hK hP 0 rfl rfl 11 (by decide) hm0 (fun _ h9 => h9) rfl dX4_seekPole_5 ?_
    refine k_iconst hx hb dX4_seekPole_8 ?_
    refine k_iald hx hb hK hP 8 0 (f := P 8) rfl rfl (i := 1) (by omega) dX4_seekPole_9 ?_
    refine lv_istore (lv' := [(4, .int (iI (P 8 1))), (3, .int (iI s9)), (2, .int (iI 0)), (0, .ref (a 0)), (1, .int (iI s9))]) hx hb dX4_seekPole_10 hl (by decide) rfl (fun ls hl => ?_)
    refine lv_aload_n hx hb dX4_seekPole_12 rfl (lv_at hl 3 rfl) ?_
    refine va_get (D := D) (ci := 3) (v := .ref (a 8)) (C := RX4) (T := TX4) (N := 12) hx hb hts hinX4 hown hK hP 0 rfl rfl 11 (by decide) hm0 (fun _ h9 => h9) rfl dX4_seekPole_13 ?_
    refine k_iconst hx hb dX4_seekPole_16 ?_
    refine k_iald hx hb hK hP 8 0 (f := P 8) rfl rfl (i := 2) (by omega) dX4_seekPole_17 ?_
    refine lv_istore (lv' := [(5, .int (iI (P 8 2))), (4, .int (iI (P 8 1))), (3, .int (iI s9)), (2, .int (iI 0)), (0, .ref (a 0)), (1, .int (iI s9))]) hx hb dX4_seekPole_18 hl (by decide) rfl (fun ls hl => ?_)
    refine lv_aload_n hx hb dX4_seekPole_20 rfl (lv_at hl 4 rfl) ?_
    refine lv_aload_n hx hb dX4_seekPole_21 rfl (lv_at hl 4 rfl) ?_
    refine va_get (D := D) (ci := 3) (v := .int (iI (P 0 2))) (C := RX4) (T := TX4) (N := 12) hx hb hts hinX4 hown hK hP 0 rfl rfl 2 (by decide) hm1 (fun _ h9 => h9) rfl dX4_seekPole_22 ?_
    refine lv_aload_n hx hb dX4_seekPole_25 rfl (lv_at hl 4 rfl) ?_
    refine va_get (D := D) (ci := 3) (v := .int (iI (P 0 3))) (C := RX4) (T := TX4) (N := 12) hx hb hts hinX4 hown hK hP 0 rfl rfl 3 (by decide) hm2 (fun _ h9 => h9) rfl dX4_seekPole_26 ?_
    refine lv_iload hx hb dX4_seekPole_29 (lv_at hl 1 rfl) ?_
    refine lv_iload hx hb dX4_seekPole_31 (lv_at hl 0 rfl) ?_
    refine k_roV (As := [.int (iI (P 0 2)), .int (iI (P 0 3)), .int (iI (P 8 1)), .int (iI (P 8 2))]) (rest := []) ⟨hx, hb, hml, hown, hts⟩ (c_X4_costWith l D cy a P (P 0 2) (P 0 3) (P 8 1) (P 8 2) hI (show -100 ≤ (P 8 1) ∧ (P 8 1) ≤ 100 by omega) (show -100 ≤ (P 8 2) ∧ (P 8 2) ≤ 100 by omega) (show poleOK (P 0 2) (P 0 3) from by unfold poleOK; omega)) gX4_seekPole_X4_costWith rfl ⟨rfl, rfl⟩ 4 rfl (by decide +kernel) ⟨Nat.le_of_ble_eq_true rfl, Nat.le_of_ble_eq_true rfl⟩ (GG_ok D cy) ((GG_ok D cy).2.2.2 _ _ _ _ (fun _ h => h.elim) ((GG_ok D cy).1 _ _ _ _ hS.2.1 hG)) hP (va_recv hK hP (ci := 3) (q0 := 0) rfl rfl) hl.1 rfl (Nat.le_of_ble_eq_true rfl) ⟨Nat.le_of_ble_eq_true rfl, Nat.le_of_ble_eq_true rfl⟩ dX4_seekPole_33 (fun r_1 hr_1 => ?_)
    have hr_1 : r_1 = pcost (tPo (tDr (mO P) (P 8 1) (P 8 2)) (P 0 2) (P 0 3)) := hr_1
    subst hr_1
    refine k_eqI (v := pcost (tPo (tDr (mO P) (P 8 1) (P 8 2)) (P 0 2) (P 0 3))) (w := pcost (mO P)) (by rw [tDr_mO, hpid]) ?_
    refine lv_istore (lv' := [(6, .int (iI (pcost (mO P)))), (5, .int (iI (P 8 2))), (4, .int (iI (P 8 1))), (3, .int (iI s9)), (2, .int (iI 0)), (0, .ref (a 0)), (1, .int (iI s9))]) hx hb dX4_seekPole_36 hl (by decide) rfl (fun ls hl => ?_)
    refine k_iconst hx hb dX4_seekPole_38 ?_
    refine lv_istore (lv' := [(7, .int (iI 0)), (6, .int (iI (pcost (mO P)))), (5, .int (iI (P 8 2))), (4, .int (iI (P 8 1))), (3, .int (iI s9)), (2, .int (iI 0)), (0, .ref (a 0)), (1, .int (iI s9))]) hx hb dX4_seekPole_39 hl (by decide) rfl (fun ls hl => ?_)
    have loop41 : ∀ (n_2 : Nat) (X : Int) (Y : Int) (q : Int) (n9 : Int) (hr9 : Int) (rd : Int) (hi0 : poleOK X Y) (hi1 : hr9 = pcost (tPo (mO P) X Y)) (hi2 : 0 ≤ q ∧ q ≤ 512) (hi3 : srch (mO P) s9 = ((srch (tPo (mO P) X Y) q).1, n9 + (srch (tPo (mO P) X Y) q).2)) (hi4 : 0 ≤ rd ∧ rd + hr9 + q ≤ 119312) (hn : hr9 + q < (n_2 : Int)) (H : Heap) (locs : List Loc) (hP : va_P D vwCl (plW cy a (upr P 0 (ups (ups (P 0) 2 X) 3 Y))) H) (hD : va_D (va_A (plW cy a P) sz) (plW cy a (upr P 0 (ups (ups (P 0) 2 X) 3 Y)))) (hS : va_S (va_A (plW cy a P) sz) s.heap H locs) (ls : Array Slot) (hl : lv_has ls 15 [(7, .int (iI rd)), (6, .int (iI hr9)), (5, .int (iI (P 8 2))), (4, .int (iI (P 8 1))), (3, .int (iI q)), (2, .int (iI n9)), (0, .ref (a 0)), (1, .int (iI s9))]), W p l e { frames := 4, cells := 0, slots := 0, locals := 102 } s m ([.ref (a 0), .int (iI s9)] : List Value).toArray below meth c H locs 0 0 (MQ below (kQi D (plW cy a P) sz (fun u9 : Nat → Int → Int => plW cy a u9) (fun r9 u9 => ∃ (zx : Int) (zy : Int), ((srch (mO P) s9).1 = tPo (mO P) zx zy ∧ poleOK zx zy) ∧ (r9 = (srch (mO P) s9).2) ∧ (u9 = (upr P 0 (ups (ups (P 0) 2 zx) 3 zy))))) ([.ref (a 0), .int (iI s9)] : List Value).toArray s 0 0 (va_A (plW cy a P) sz)) (F0 m 41 ls []) := by
      intro n_2
      induction n_2 with
      | zero => intro X Y q n9 hr9 rd hi0 hi1 hi2 hi3 hi4 hn H locs hP hD hS ls hl; have hz9 := inv_pcost (inv_tPo hI hi0); exfalso; omega
      | succ n_2 ih41 =>
        intro X Y q n9 hr9 rd hi0 hi1 hi2 hi3 hi4 hn H locs hP hD hS ls hl
        have hIt := inv_tPo hI hi0
        have hpc := inv_pcost hIt
        have hXY := id hi0
        unfold poleOK at hXY
        have hpo0 := hi0
        have hhr := hi1
        have hq := hi2
        have hsr := hi3
        have hbd := hi4
        refine lv_iload hx hb dX4_seekPole_41 (lv_at hl 0 rfl) ?_
        refine k_ldc (z := 1000000) hx hb hown hm3 (by decide +kernel) dX4_seekPole_43 ?_
        refine k_icmp_ge (tgt := 203) hx hb dX4_seekPole_45 (by decide) (by omega) (by omega) (fun c_3 => ?_) (fun c_3 => ?_)
        · exfalso; omega
        · skip
          refine lv_iload_n hx hb dX4_seekPole_48 rfl (lv_at hl 4 rfl) ?_
          refine k_if_le (tgt := 203) hx hb dX4_seekPole_49 (by decide) (by omega) (fun c_4 => ?_) (fun c_4 => ?_)
          · skip
            refine lv_iload_n hx hb dX4_seekPole_203 rfl (lv_at hl 5 rfl) ?_
            exact W.iret (v := iI n9) hx hb hr (fun t9 ht _ => ⟨⟨iI n9, (upr P 0 (ups (ups (P 0) 2 X) 3 Y)), rfl, ⟨n9, rfl, (⟨(X), (Y), (by rw [hsr, srch_0 (by omega)]; exact ⟨rfl, hpo0⟩), (by rw [hsr, srch_0 (by omega)]; show n9 = n9 + 0; omega), rfl⟩ : ∃ (zx : Int) (zy : Int), ((srch (mO P) s9).1 = tPo (mO P) zx zy ∧ poleOK zx zy) ∧ ((n9 : Int) = (srch (mO P) s9).2) ∧ ((upr P 0 (ups (ups (P 0) 2 X) 3 Y)) = (upr P 0 (ups (ups (P 0) 2 zx) 3 zy))))⟩, by rw [ht]; exact hP, hD⟩, hS.F ht⟩) hS.2.2 dX4_seekPole_204 hlocks
          · skip
            refine lv_iload hx hb dX4_seekPole_52 (lv_at hl 1 rfl) ?_
            refine lv_istore (lv' := [(8, .int (iI hr9)), (7, .int (iI rd)), (6, .int (iI hr9)), (5, .int (iI (P 8 2))), (4, .int (iI (P 8 1))), (3, .int (iI q)), (2, .int (iI n9)), (0, .ref (a 0)), (1, .int (iI s9))]) hx hb dX4_seekPole_54 hl (by decide) rfl (fun ls hl => ?_)
            refine lv_aload_n hx hb dX4_seekPole_56 rfl (lv_at hl 7 rfl) ?_
            refine va_get (D := D) (ci := 3) (v := .int (iI X)) (C := RX4) (T := TX4) (N := 12) hx hb hts hinX4 hown hK hP 0 rfl rfl 2 (by decide) hm1 (fun _ h9 => h9) rfl dX4_seekPole_57 ?_
            refine lv_istore (lv' := [(9, .int (iI X)), (8, .int (iI hr9)), (7, .int (iI rd)), (6, .int (iI hr9)), (5, .int (iI (P 8 2))), (4, .int (iI (P 8 1))), (3, .int (iI q)), (2, .int (iI n9)), (0, .ref (a 0)), (1, .int (iI s9))]) hx hb dX4_seekPole_60 hl (by decide) rfl (fun ls hl => ?_)
            refine lv_aload_n hx hb dX4_seekPole_62 rfl (lv_at hl 8 rfl) ?_
            refine va_get (D := D) (ci := 3) (v := .int (iI Y)) (C := RX4) (T := TX4) (N := 12) hx hb hts hinX4 hown hK hP 0 rfl rfl 3 (by decide) hm2 (fun _ h9 => h9) rfl dX4_seekPole_63 ?_
            refine lv_istore (lv' := [(10, .int (iI Y)), (9, .int (iI X)), (8, .int (iI hr9)), (7, .int (iI rd)), (6, .int (iI hr9)), (5, .int (iI (P 8 2))), (4, .int (iI (P 8 1))), (3, .int (iI q)), (2, .int (iI n9)), (0, .ref (a 0)), (1, .int (iI s9))]) hx hb dX4_seekPole_66 hl (by decide) rfl (fun ls hl => ?_)
            refine k_iconst hx hb dX4_seekPole_68 ?_
            refine lv_istore (lv' := [(11, .int (iI 0)), (10, .int (iI Y)), (9, .int (iI X)), (8, .int (iI hr9)), (7, .int (iI rd)), (6, .int (iI hr9)), (5, .int (iI (P 8 2))), (4, .int (iI (P 8 1))), (3, .int (iI q)), (2, .int (iI n9)), (0, .ref (a 0)), (1, .int (iI s9))]) hx hb dX4_seekPole_69 hl (by decide) rfl (fun ls hl => ?_)
            have loop71 : ∀ (n_5 : Nat) (k : Int) (ls9 : Int) (gx : Int) (gy : Int) (hi0 : 0 ≤ k) (hi1 : k ≤ 9) (hi2 : lkr (tPo (mO P) X Y) q hr9 k ls9 gx gy) (hi3 : 0 ≤ ls9 ∧ ls9 ≤ hr9) (hn : 9 - k < (n_5 : Int)) (ls : Array Slot) (hl : lv_has ls 15 [(11, .int (iI k)), (10, .int (iI gy)), (9, .int (iI gx)), (8, .int (iI ls9)), (7, .int (iI rd)), (6, .int (iI hr9)), (5, .int (iI (P 8 2))), (4, .int (iI (P 8 1))), (3, .int (iI q)), (2, .int (iI n9)), (0, .ref (a 0)), (1, .int (iI s9))]), W p l e { frames := 4, cells := 0, slots := 0, locals := 102 } s m ([.ref (a 0), .int (iI s9)] : List Value).toArray below meth c H locs 0 0 (MQ below (kQi D (plW cy a P) sz (fun u9 : Nat → Int → Int => plW cy a u9) (fun r9 u9 => ∃ (zx : Int) (zy : Int), ((srch (mO P) s9).1 = tPo (mO P) zx zy ∧ poleOK zx zy) ∧ (r9 = (srch (mO P) s9).2) ∧ (u9 = (upr P 0 (ups (ups (P 0) 2 zx) 3 zy))))) ([.ref (a 0), .int (iI s9)] : List Value).toArray s 0 0 (va_A (plW cy a P) sz)) (F0 m 71 ls []) := by
              intro n_5
              induction n_5 with
              | zero => intro k ls9 gx gy hi0 hi1 hi2 hi3 hn ls hl; exfalso; omega
              | succ n_5 ih71 =>
                intro k ls9 gx gy hi0 hi1 hi2 hi3 hn ls hl
                have hkx : -512 ≤ (k % 3 - 1) * q ∧ (k % 3 - 1) * q ≤ 512 := by have h9 := mul_bd2 (u := k % 3 - 1) (f := q) (a := 1) (b := 512) (by omega) (by omega); omega
                have hky : -1024 ≤ (k / 3 - 1) * q ∧ (k / 3 - 1) * q ≤ 1024 := by have h9 := mul_bd2 (u := k / 3 - 1) (f := q) (a := 2) (b := 512) (by omega) (by omega); omega
                refine lv_iload hx hb dX4_seekPole_71 (lv_at hl 0 rfl) ?_
                refine k_bipush hx hb dX4_seekPole_73 (by decide +kernel) ?_
                refine k_icmp_ge (tgt := 168) hx hb dX4_seekPole_75 (by decide) (by omega) (by omega) (fun c_6 => ?_) (fun c_6 => ?_)
                · skip
                  have e9 : k = 9 := by omega
                  have hle := lkr_end (M := (tPo (mO P) X Y)) (s := q) (ls9 := ls9) (x := gx) (y := gy) (by rw [← hhr]; rw [e9] at hi2; exact hi2)
                  refine lv_iload hx hb dX4_seekPole_168 (lv_at hl 3 rfl) ?_
                  refine lv_iload hx hb dX4_seekPole_170 (lv_at hl 5 rfl) ?_
                  refine k_icmp_ge (tgt := 193) hx hb dX4_seekPole_172 (by decide) (by omega) (by omega) (fun c_7 => ?_) (fun c_7 => ?_)
                  · skip
                    have hno : ¬ lkOK (tPo (mO P) X Y) q := by rcases hle with ⟨_, h9⟩ | ⟨h9, _⟩; exact h9; omega
                    refine lv_iload_n hx hb dX4_seekPole_193 rfl (lv_at hl 8 rfl) ?_
                    refine k_iconst hx hb dX4_seekPole_194 ?_
                    refine k_idiv hx hb dX4_seekPole_195 (by omega) (by omega) ?_
                    refine lv_istore_n (lv' := [(3, .int (iI (q / 2))), (11, .int (iI k)), (10, .int (iI gy)), (9, .int (iI gx)), (8, .int (iI ls9)), (7, .int (iI rd)), (6, .int (iI hr9)), (5, .int (iI (P 8 2))), (4, .int (iI (P 8 1))), (2, .int (iI n9)), (0, .ref (a 0)), (1, .int (iI s9))]) hx hb dX4_seekPole_196 rfl hl (by decide) rfl (fun ls hl => ?_)
                    refine lv_iinc (v := iI (rd + 1)) (lv' := [(7, .int (iI (rd + 1))), (3, .int (iI (q / 2))), (11, .int (iI k)), (10, .int (iI gy)), (9, .int (iI gx)), (8, .int (iI ls9)), (6, .int (iI hr9)), (5, .int (iI (P 8 2))), (4, .int (iI (P 8 1))), (2, .int (iI n9)), (0, .ref (a 0)), (1, .int (iI s9))]) hx hb dX4_seekPole_197 hl (k := 5) rfl (iI_add _ _) (by decide) rfl (fun ls hl => ?_)
                    refine lv_goto (tgt := 41) hx hb dX4_seekPole_200 (by decide) ?_
                    exact ih41 X Y (q / 2) n9 hr9 (rd + 1)  (by first | exact hyes.2.2.1 | exact hpo0) (by first | (rw [hyes.2.2.2.1, tPo_tPo]) | exact hhr) (by omega) (by first | (rw [hsr, srch_n hIt (by omega) (by omega) hno]) | (rw [hsr, srch_y hIt (by omega) (by omega) hyes.2.1 hyes.2.2.2.2, tPo_tPo]; exact congrArg (Prod.mk _) (by (try dsimp only); omega))) (by omega) (by omega) H locs (hP) (k_addr hD rfl) hS ls (lv_sub hl [0, 6, 7, 8, 1, 9, 10, 11] rfl)
                  · skip
                    have hyes : ls9 < hr9 ∧ lkc (tPo (mO P) X Y) q = (gx, gy, ls9) ∧ poleOK gx gy ∧ ls9 = pcost (tPo (tPo (mO P) X Y) gx gy) ∧ lkOK (tPo (mO P) X Y) q := by rcases hle with ⟨h9, _⟩ | ⟨h9, g9⟩; omega; exact ⟨by omega, g9⟩
                    refine lv_aload_n hx hb dX4_seekPole_175 rfl (lv_at hl 10 rfl) ?_
                    refine lv_iload hx hb dX4_seekPole_176 (lv_at hl 2 rfl) ?_
                    refine lv_iload hx hb dX4_seekPole_178 (lv_at hl 1 rfl) ?_
                    refine k_muv (k_runV (As := [.int (iI gx), .int (iI gy)]) (rest := []) ⟨hx, hb, hml, hown, hts⟩ (c_X4_putPole l D cy H.size a (upr P 0 (ups (ups (P 0) 2 X) 3 Y)) gx gy ) gX4_seekPole_X4_putPole rfl ⟨rfl, rfl⟩ 2 rfl (by decide +kernel) ⟨Nat.le_of_ble_eq_true rfl, Nat.le_of_ble_eq_true rfl⟩ (GG_ok D cy) hG hS (k_free hD hS hA) hP hD (va_recv hK hP (ci := 3) (q0 := 0) rfl rfl) hl.1 rfl (Nat.le_of_ble_eq_true rfl) ⟨Nat.le_of_ble_eq_true rfl, Nat.le_of_ble_eq_true rfl⟩ dX4_seekPole_180) (k_free hD hS hA) hS (fun R_9 H1 locs1 hR_9 hP1 hD1 hS1 hk1 => ?_)
                    have hR_9 : R_9 = (upr (upr P 0 (ups (ups (P 0) 2 X) 3 Y)) 0 (ups (ups ((ups (ups (P 0) 2 X) 3 Y)) 2 gx) 3 gy)) := hR_9
                    subst hR_9
                    have hDn : va_D (va_A (plW cy a P) sz) (plW cy a (upr P 0 (ups (ups ((ups (ups (P 0) 2 X) 3 Y)) 2 gx) 3 gy))) := k_addr hD rfl
                    have hPn : va_P D vwCl (plW cy a (upr P 0 (ups (ups ((ups (ups (P 0) 2 X) 3 Y)) 2 gx) 3 gy))) H1 := hP1
                    clear hP hD hS hP1 hD1 hk1
                    have hP := hPn
                    have hD := hDn
                    have hS := hS1
                    clear hPn hDn hS1
                    generalize H1 = H at hP hS ⊢
                    generalize locs1 = locs at hS ⊢
                    refine lv_iload hx hb dX4_seekPole_183 (lv_at hl 3 rfl) ?_
                    refine lv_istore (lv' := [(6, .int (iI ls9)), (11, .int (iI k)), (10, .int (iI gy)), (9, .int (iI gx)), (8, .int (iI ls9)), (7, .int (iI rd)), (5, .int (iI (P 8 2))), (4, .int (iI (P 8 1))), (3, .int (iI q)), (2, .int (iI n9)), (0, .ref (a 0)), (1, .int (iI s9))]) hx hb dX4_seekPole_185 hl (by decide) rfl (fun ls hl => ?_)
                    refine lv_iinc (v := iI (n9 + 1)) (lv' := [(2, .int (iI (n9 + 1))), (6, .int (iI ls9)), (11, .int (iI k)), (10, .int (iI gy)), (9, .int (iI gx)), (8, .int (iI ls9)), (7, .int (iI rd)), (5, .int (iI (P 8 2))), (4, .int (iI (P 8 1))), (3, .int (iI q)), (0, .ref (a 0)), (1, .int (iI s9))]) hx hb dX4_seekPole_187 hl (k := 9) rfl (iI_add _ _) (by decide) rfl (fun ls hl => ?_)
                    refine lv_goto (tgt := 197) hx hb dX4_seekPole_190 (by decide) ?_
                    refine lv_iinc (v := iI (rd + 1)) (lv' := [(7, .int (iI (rd + 1))), (2, .int (iI (n9 + 1))), (6, .int (iI ls9)), (11, .int (iI k)), (10, .int (iI gy)), (9, .int (iI gx)), (8, .int (iI ls9)), (5, .int (iI (P 8 2))), (4, .int (iI (P 8 1))), (3, .int (iI q)), (0, .ref (a 0)), (1, .int (iI s9))]) hx hb dX4_seekPole_197 hl (k := 6) rfl (iI_add _ _) (by decide) rfl (fun ls hl => ?_)
                    refine lv_goto (tgt := 41) hx hb dX4_seekPole_200 (by decide) ?_
                    exact ih41 gx gy q (n9 + 1) ls9 (rd + 1)  (by first | exact hyes.2.2.1 | exact hpo0) (by first | (rw [hyes.2.2.2.1, tPo_tPo]) | exact hhr) (by omega) (by first | (rw [hsr, srch_n hIt (by omega) (by omega) hno]) | (rw [hsr, srch_y hIt (by omega) (by omega) hyes.2.1 hyes.2.2.2.2, tPo_tPo]; exact congrArg (Prod.mk _) (by (try dsimp only); omega))) (by omega) (by omega) H locs (by rw [show (ups (ups (P 0) 2 gx) 3 gy) = (ups (ups ((ups (ups (P 0) 2 X) 3 Y)) 2 gx) 3 gy) from by first | rfl | exact (pole_row _ _ _ _ _).symm]; exact hP) (k_addr hD rfl) hS ls (lv_sub hl [0, 2, 7, 8, 9, 1, 10, 11] rfl)
                · skip
                  refine lv_aload_n hx hb dX4_seekPole_78 rfl (lv_at hl 10 rfl) ?_
                  refine va_get (D := D) (ci := 3) (v := .int (iI X)) (C := RX4) (T := TX4) (N := 12) hx hb hts hinX4 hown hK hP 0 rfl rfl 2 (by decide) hm1 (fun _ h9 => h9) rfl dX4_seekPole_79 ?_
                  refine lv_iload hx hb dX4_seekPole_82 (lv_at hl 0 rfl) ?_
                  refine k_iconst hx hb dX4_seekPole_84 ?_
                  refine k_irem hx hb dX4_seekPole_85 (by omega) (by omega) ?_
                  refine k_iconst hx hb dX4_seekPole_86 ?_
                  refine k_isub hx hb dX4_seekPole_87 ?_
                  refine lv_iload_n hx hb dX4_seekPole_88 rfl (lv_at hl 8 rfl) ?_
                  refine k_imul hx hb dX4_seekPole_89 ?_
                  refine k_iadd hx hb dX4_seekPole_90 ?_
                  refine lv_istore (lv' := [(12, .int (iI (X + (((k % 3) - 1) * q)))), (11, .int (iI k)), (10, .int (iI gy)), (9, .int (iI gx)), (8, .int (iI ls9)), (7, .int (iI rd)), (6, .int (iI hr9)), (5, .int (iI (P 8 2))), (4, .int (iI (P 8 1))), (3, .int (iI q)), (2, .int (iI n9)), (0, .ref (a 0)), (1, .int (iI s9))]) hx hb dX4_seekPole_91 hl (by decide) rfl (fun ls hl => ?_)
                  refine lv_aload_n hx hb dX4_seekPole_93 rfl (lv_at hl 11 rfl) ?_
                  refine va_get (D := D) (ci := 3) (v := .int (iI Y)) (C := RX4) (T := TX4) (N := 12) hx hb hts hinX4 hown hK hP 0 rfl rfl 3 (by decide) hm2 (fun _ h9 => h9) rfl dX4_seekPole_94 ?_
                  refine lv_iload hx hb dX4_seekPole_97 (lv_at hl 1 rfl) ?_
                  refine k_iconst hx hb dX4_seekPole_99 ?_
                  refine k_idiv hx hb dX4_seekPole_100 (by omega) (by omega) ?_
                  refine k_iconst hx hb dX4_seekPole_101 ?_
                  refine k_isub hx hb dX4_seekPole_102 ?_
                  refine lv_iload_n hx hb dX4_seekPole_103 rfl (lv_at hl 9 rfl) ?_
                  refine k_imul hx hb dX4_seekPole_104 ?_
                  refine k_iadd hx hb dX4_seekPole_105 ?_
                  refine lv_istore (lv' := [(13, .int (iI (Y + (((k / 3) - 1) * q)))), (12, .int (iI (X + (((k % 3) - 1) * q)))), (11, .int (iI k)), (10, .int (iI gy)), (9, .int (iI gx)), (8, .int (iI ls9)), (7, .int (iI rd)), (6, .int (iI hr9)), (5, .int (iI (P 8 2))), (4, .int (iI (P 8 1))), (3, .int (iI q)), (2, .int (iI n9)), (0, .ref (a 0)), (1, .int (iI s9))]) hx hb dX4_seekPole_106 hl (by decide) rfl (fun ls hl => ?_)
                  refine lv_iload hx hb dX4_seekPole_108 (lv_at hl 2 rfl) ?_
                  refine k_iconst hx hb dX4_seekPole_110 ?_
                  refine k_icmp_eq (tgt := 139) hx hb dX4_seekPole_111 (by decide) (by omega) (by omega) (fun c_10 => ?_) (fun c_10 => ?_)
                  · skip
                    refine lv_iload hx hb dX4_seekPole_139 (lv_at hl 7 rfl) ?_
                    refine lv_istore (lv' := [(14, .int (iI hr9)), (13, .int (iI (Y + (((k / 3) - 1) * q)))), (12, .int (iI (X + (((k % 3) - 1) * q)))), (11, .int (iI k)), (10, .int (iI gy)), (9, .int (iI gx)), (8, .int (iI ls9)), (7, .int (iI rd)), (6, .int (iI hr9)), (5, .int (iI (P 8 2))), (4, .int (iI (P 8 1))), (3, .int (iI q)), (2, .int (iI n9)), (0, .ref (a 0)), (1, .int (iI s9))]) hx hb dX4_seekPole_141 hl (by decide) rfl (fun ls hl => ?_)
                    refine lv_iload hx hb dX4_seekPole_143 (lv_at hl 0 rfl) ?_
                    refine lv_iload hx hb dX4_seekPole_145 (lv_at hl 6 rfl) ?_
                    refine k_icmp_ge (tgt := 162) hx hb dX4_seekPole_147 (by decide) (by omega) (by omega) (fun c_11 => ?_) (fun c_11 => ?_)
                    · skip
                      refine lv_iinc (v := iI (k + 1)) (lv' := [(11, .int (iI (k + 1))), (14, .int (iI hr9)), (13, .int (iI (Y + (((k / 3) - 1) * q)))), (12, .int (iI (X + (((k % 3) - 1) * q)))), (10, .int (iI gy)), (9, .int (iI gx)), (8, .int (iI ls9)), (7, .int (iI rd)), (6, .int (iI hr9)), (5, .int (iI (P 8 2))), (4, .int (iI (P 8 1))), (3, .int (iI q)), (2, .int (iI n9)), (0, .ref (a 0)), (1, .int (iI s9))]) hx hb dX4_seekPole_162 hl (k := 3) rfl (iI_add _ _) (by decide) rfl (fun ls hl => ?_)
                      refine lv_goto (tgt := 71) hx hb dX4_seekPole_165 (by decide) ?_
                      exact ih71 (k + 1) ls9 gx gy  (by omega) (by omega) (by first | (exfalso; omega) | exact lkr_y hi0 hi2 ⟨by omega, (show poleOK (X + (k % 3 - 1) * q) (Y + (k / 3 - 1) * q) by assumption)⟩ (by omega) (by omega) | exact lkr_n hi0 hi2 (fun _ => by omega) | exact lkr_n hi0 hi2 (fun h9 => absurd (show k = 4 by omega) h9.1) | exact lkr_n hi0 hi2 (fun h9 => absurd h9.2 (show ¬ poleOK (X + (k % 3 - 1) * q) (Y + (k / 3 - 1) * q) by assumption))) (by first | omega | (exfalso; omega)) (by omega) ls (lv_sub hl [0, 4, 5, 6, 7, 8, 9, 10, 11, 12, 13, 14] rfl)
                    · skip
                      refine lv_iload hx hb dX4_seekPole_150 (lv_at hl 0 rfl) ?_
                      refine lv_istore (lv' := [(8, .int (iI hr9)), (14, .int (iI hr9)), (13, .int (iI (Y + (((k / 3) - 1) * q)))), (12, .int (iI (X + (((k % 3) - 1) * q)))), (11, .int (iI k)), (10, .int (iI gy)), (9, .int (iI gx)), (7, .int (iI rd)), (6, .int (iI hr9)), (5, .int (iI (P 8 2))), (4, .int (iI (P 8 1))), (3, .int (iI q)), (2, .int (iI n9)), (0, .ref (a 0)), (1, .int (iI s9))]) hx hb dX4_seekPole_152 hl (by decide) rfl (fun ls hl => ?_)
                      refine lv_iload hx hb dX4_seekPole_154 (lv_at hl 3 rfl) ?_
                      refine lv_istore (lv' := [(9, .int (iI (X + (((k % 3) - 1) * q)))), (8, .int (iI hr9)), (14, .int (iI hr9)), (13, .int (iI (Y + (((k / 3) - 1) * q)))), (12, .int (iI (X + (((k % 3) - 1) * q)))), (11, .int (iI k)), (10, .int (iI gy)), (7, .int (iI rd)), (6, .int (iI hr9)), (5, .int (iI (P 8 2))), (4, .int (iI (P 8 1))), (3, .int (iI q)), (2, .int (iI n9)), (0, .ref (a 0)), (1, .int (iI s9))]) hx hb dX4_seekPole_156 hl (by decide) rfl (fun ls hl => ?_)
                      refine lv_iload hx hb dX4_seekPole_158 (lv_at hl 3 rfl) ?_
                      refine lv_istore (lv' := [(10, .int (iI (Y + (((k / 3) - 1) * q)))), (9, .int (iI (X + (((k % 3) - 1) * q)))), (8, .int (iI hr9)), (14, .int (iI hr9)), (13, .int (iI (Y + (((k / 3) - 1) * q)))), (12, .int (iI (X + (((k % 3) - 1) * q)))), (11, .int (iI k)), (7, .int (iI rd)), (6, .int (iI hr9)), (5, .int (iI (P 8 2))), (4, .int (iI (P 8 1))), (3, .int (iI q)), (2, .int (iI n9)), (0, .ref (a 0)), (1, .int (iI s9))]) hx hb dX4_seekPole_160 hl (by decide) rfl (fun ls hl => ?_)
                      refine lv_iinc (v := iI (k + 1)) (lv' := [(11, .int (iI (k + 1))), (10, .int (iI (Y + (((k / 3) - 1) * q)))), (9, .int (iI (X + (((k % 3) - 1) * q)))), (8, .int (iI hr9)), (14, .int (iI hr9)), (13, .int (iI (Y + (((k / 3) - 1) * q)))), (12, .int (iI (X + (((k % 3) - 1) * q)))), (7, .int (iI rd)), (6, .int (iI hr9)), (5, .int (iI (P 8 2))), (4, .int (iI (P 8 1))), (3, .int (iI q)), (2, .int (iI n9)), (0, .ref (a 0)), (1, .int (iI s9))]) hx hb dX4_seekPole_162 hl (k := 6) rfl (iI_add _ _) (by decide) rfl (fun ls hl => ?_)
                      refine lv_goto (tgt := 71) hx hb dX4_seekPole_165 (by decide) ?_
                      exact ih71 (k + 1) hr9 (X + (((k % 3) - 1) * q)) (Y + (((k / 3) - 1) * q))  (by omega) (by omega) (by first | (exfalso; omega) | exact lkr_y hi0 hi2 ⟨by omega, (show poleOK (X + (k % 3 - 1) * q) (Y + (k / 3 - 1) * q) by assumption)⟩ (by omega) (by omega) | exact lkr_n hi0 hi2 (fun _ => by omega) | exact lkr_n hi0 hi2 (fun h9 => absurd (show k = 4 by omega) h9.1) | exact lkr_n hi0 hi2 (fun h9 => absurd h9.2 (show ¬ poleOK (X + (k % 3 - 1) * q) (Y + (k / 3 - 1) * q) by assumption))) (by first | omega | (exfalso; omega)) (by omega) ls (lv_sub hl [0, 1, 2, 3, 7, 8, 9, 10, 11, 12, 13, 14] rfl)
                  · skip
                    refine lv_iload hx hb dX4_seekPole_114 (lv_at hl 1 rfl) ?_
                    refine lv_iload hx hb dX4_seekPole_116 (lv_at hl 0 rfl) ?_
                    refine k_roS (As := [.int (iI (X + (((k % 3) - 1) * q))), .int (iI (Y + (((k / 3) - 1) * q)))]) (rest := []) ⟨hx, hb, hml, hown, hts⟩ (c_X4_isPole l D cy (X + (((k % 3) - 1) * q)) (Y + (((k / 3) - 1) * q)) (show -2147483648 ≤ (X + (((k % 3) - 1) * q)) ∧ (X + (((k % 3) - 1) * q)) ≤ 2147483647 by omega) (show -2147483648 ≤ (Y + (((k / 3) - 1) * q)) ∧ (Y + (((k / 3) - 1) * q)) ≤ 2147483647 by omega)) gX4_seekPole_X4_isPole rfl ⟨rfl, rfl⟩ 2 rfl (by decide +kernel) ⟨Nat.le_of_ble_eq_true rfl, Nat.le_of_ble_eq_true rfl⟩ (GG_ok D cy) ((GG_ok D cy).2.2.2 _ _ _ _ (fun _ h => h.elim) ((GG_ok D cy).1 _ _ _ _ hS.2.1 hG)) (fun k q h => by simp at h) hl.1 rfl (Nat.le_of_ble_eq_true rfl) ⟨Nat.le_of_ble_eq_true rfl, Nat.le_of_ble_eq_true rfl⟩ dX4_seekPole_118 (fun r_12 hr_12 => ?_)
                    have hr_12 : ((poleOK (X + (((k % 3) - 1) * q)) (Y + (((k / 3) - 1) * q))) ∧ r_12 = 1) ∨ (¬ (poleOK (X + (((k % 3) - 1) * q)) (Y + (((k / 3) - 1) * q))) ∧ r_12 = 0) := hr_12
                    rcases hr_12 with ⟨c_13, hr_12⟩ | ⟨c_13, hr_12⟩ <;> subst hr_12
                    · skip
                      refine k_if_eq (tgt := 139) hx hb dX4_seekPole_121 (by decide) (by omega) (fun c_14 => ?_) (fun c_14 => ?_)
                      · exfalso; omega
                      · skip
                        refine lv_aload_n hx hb dX4_seekPole_124 rfl (lv_at hl 12 rfl) ?_
                        refine lv_iload hx hb dX4_seekPole_125 (lv_at hl 1 rfl) ?_
                        refine lv_iload hx hb dX4_seekPole_127 (lv_at hl 0 rfl) ?_
                        refine lv_iload hx hb dX4_seekPole_129 (lv_at hl 9 rfl) ?_
                        refine lv_iload hx hb dX4_seekPole_131 (lv_at hl 8 rfl) ?_
                        refine k_roV (As := [.int (iI (X + (((k % 3) - 1) * q))), .int (iI (Y + (((k / 3) - 1) * q))), .int (iI (P 8 1)), .int (iI (P 8 2))]) (rest := []) ⟨hx, hb, hml, hown, hts⟩ (c_X4_costWith l D cy a (upr P 0 (ups (ups (P 0) 2 X) 3 Y)) (X + (((k % 3) - 1) * q)) (Y + (((k / 3) - 1) * q)) (P 8 1) (P 8 2) (show Inv (mO (upr P 0 (ups (ups (P 0) 2 X) 3 Y))) from by rw [mO_pole]; exact hIt) (show -100 ≤ (P 8 1) ∧ (P 8 1) ≤ 100 by omega) (show -100 ≤ (P 8 2) ∧ (P 8 2) ≤ 100 by omega) (show poleOK (X + (((k % 3) - 1) * q)) (Y + (((k / 3) - 1) * q)) from by assumption)) gX4_seekPole_X4_costWith rfl ⟨rfl, rfl⟩ 4 rfl (by decide +kernel) ⟨Nat.le_of_ble_eq_true rfl, Nat.le_of_ble_eq_true rfl⟩ (GG_ok D cy) ((GG_ok D cy).2.2.2 _ _ _ _ (fun _ h => h.elim) ((GG_ok D cy).1 _ _ _ _ hS.2.1 hG)) hP (va_recv hK hP (ci := 3) (q0 := 0) rfl rfl) hl.1 rfl (Nat.le_of_ble_eq_true rfl) ⟨Nat.le_of_ble_eq_true rfl, Nat.le_of_ble_eq_true rfl⟩ dX4_seekPole_133 (fun r_15 hr_15 => ?_)
                        have hr_15 : r_15 = pcost (tPo (tDr (mO (upr P 0 (ups (ups (P 0) 2 X) 3 Y))) (P 8 1) (P 8 2)) (X + (((k % 3) - 1) * q)) (Y + (((k / 3) - 1) * q))) := hr_15
                        subst hr_15
                        refine k_eqI (v := pcost (tPo (tDr (mO (upr P 0 (ups (ups (P 0) 2 X) 3 Y))) (P 8 1) (P 8 2)) (X + (((k % 3) - 1) * q)) (Y + (((k / 3) - 1) * q)))) (w := nbC (tPo (mO P) X Y) q k) (seek_c P X Y q k) ?_
                        have hnb : 0 ≤ nbC (tPo (mO P) X Y) q k ∧ nbC (tPo (mO P) X Y) q k ≤ 118800 := inv_pcost (inv_tPo hIt (show poleOK (X + (k % 3 - 1) * q) (Y + (k / 3 - 1) * q) by assumption))
                        refine lv_goto (tgt := 141) hx hb dX4_seekPole_136 (by decide) ?_
                        refine lv_istore (lv' := [(14, .int (iI (nbC (tPo (mO P) X Y) q k))), (13, .int (iI (Y + (((k / 3) - 1) * q)))), (12, .int (iI (X + (((k % 3) - 1) * q)))), (11, .int (iI k)), (10, .int (iI gy)), (9, .int (iI gx)), (8, .int (iI ls9)), (7, .int (iI rd)), (6, .int (iI hr9)), (5, .int (iI (P 8 2))), (4, .int (iI (P 8 1))), (3, .int (iI q)), (2, .int (iI n9)), (0, .ref (a 0)), (1, .int (iI s9))]) hx hb dX4_seekPole_141 hl (by decide) rfl (fun ls hl => ?_)
                        refine lv_iload hx hb dX4_seekPole_143 (lv_at hl 0 rfl) ?_
                        refine lv_iload hx hb dX4_seekPole_145 (lv_at hl 6 rfl) ?_
                        refine k_icmp_ge (tgt := 162) hx hb dX4_seekPole_147 (by decide) (by omega) (by omega) (fun c_16 => ?_) (fun c_16 => ?_)
                        · skip
                          refine lv_iinc (v := iI (k + 1)) (lv' := [(11, .int (iI (k + 1))), (14, .int (iI (nbC (tPo (mO P) X Y) q k))), (13, .int (iI (Y + (((k / 3) - 1) * q)))), (12, .int (iI (X + (((k % 3) - 1) * q)))), (10, .int (iI gy)), (9, .int (iI gx)), (8, .int (iI ls9)), (7, .int (iI rd)), (6, .int (iI hr9)), (5, .int (iI (P 8 2))), (4, .int (iI (P 8 1))), (3, .int (iI q)), (2, .int (iI n9)), (0, .ref (a 0)), (1, .int (iI s9))]) hx hb dX4_seekPole_162 hl (k := 3) rfl (iI_add _ _) (by decide) rfl (fun ls hl => ?_)
                          refine lv_goto (tgt := 71) hx hb dX4_seekPole_165 (by decide) ?_
                          exact ih71 (k + 1) ls9 gx gy  (by omega) (by omega) (by first | (exfalso; omega) | exact lkr_y hi0 hi2 ⟨by omega, (show poleOK (X + (k % 3 - 1) * q) (Y + (k / 3 - 1) * q) by assumption)⟩ (by omega) (by omega) | exact lkr_n hi0 hi2 (fun _ => by omega) | exact lkr_n hi0 hi2 (fun h9 => absurd (show k = 4 by omega) h9.1) | exact lkr_n hi0 hi2 (fun h9 => absurd h9.2 (show ¬ poleOK (X + (k % 3 - 1) * q) (Y + (k / 3 - 1) * q) by assumption))) (by first | omega | (exfalso; omega)) (by omega) ls (lv_sub hl [0, 4, 5, 6, 7, 8, 9, 10, 11, 12, 13, 14] rfl)
                        · skip
                          refine lv_iload hx hb dX4_seekPole_150 (lv_at hl 0 rfl) ?_
                          refine lv_istore (lv' := [(8, .int (iI (nbC (tPo (mO P) X Y) q k))), (14, .int (iI (nbC (tPo (mO P) X Y) q k))), (13, .int (iI (Y + (((k / 3) - 1) * q)))), (12, .int (iI (X + (((k % 3) - 1) * q)))), (11, .int (iI k)), (10, .int (iI gy)), (9, .int (iI gx)), (7, .int (iI rd)), (6, .int (iI hr9)), (5, .int (iI (P 8 2))), (4, .int (iI (P 8 1))), (3, .int (iI q)), (2, .int (iI n9)), (0, .ref (a 0)), (1, .int (iI s9))]) hx hb dX4_seekPole_152 hl (by decide) rfl (fun ls hl => ?_)
                          refine lv_iload hx hb dX4_seekPole_154 (lv_at hl 3 rfl) ?_
                          refine lv_istore (lv' := [(9, .int (iI (X + (((k % 3) - 1) * q)))), (8, .int (iI (nbC (tPo (mO P) X Y) q k))), (14, .int (iI (nbC (tPo (mO P) X Y) q k))), (13, .int (iI (Y + (((k / 3) - 1) * q)))), (12, .int (iI (X + (((k % 3) - 1) * q)))), (11, .int (iI k)), (10, .int (iI gy)), (7, .int (iI rd)), (6, .int (iI hr9)), (5, .int (iI (P 8 2))), (4, .int (iI (P 8 1))), (3, .int (iI q)), (2, .int (iI n9)), (0, .ref (a 0)), (1, .int (iI s9))]) hx hb dX4_seekPole_156 hl (by decide) rfl (fun ls hl => ?_)
                          refine lv_iload hx hb dX4_seekPole_158 (lv_at hl 3 rfl) ?_
                          refine lv_istore (lv' := [(10, .int (iI (Y + (((k / 3) - 1) * q)))), (9, .int (iI (X + (((k % 3) - 1) * q)))), (8, .int (iI (nbC (tPo (mO P) X Y) q k))), (14, .int (iI (nbC (tPo (mO P) X Y) q k))), (13, .int (iI (Y + (((k / 3) - 1) * q)))), (12, .int (iI (X + (((k % 3) - 1) * q)))), (11, .int (iI k)), (7, .int (iI rd)), (6, .int (iI hr9)), (5, .int (iI (P 8 2))), (4, .int (iI (P 8 1))), (3, .int (iI q)), (2, .int (iI n9)), (0, .ref (a 0)), (1, .int (iI s9))]) hx hb dX4_seekPole_160 hl (by decide) rfl (fun ls hl => ?_)
                          refine lv_iinc (v := iI (k + 1)) (lv' := [(11, .int (iI (k + 1))), (10, .int (iI (Y + (((k / 3) - 1) * q)))), (9, .int (iI (X + (((k % 3) - 1) * q)))), (8, .int (iI (nbC (tPo (mO P) X Y) q k))), (14, .int (iI (nbC (tPo (mO P) X Y) q k))), (13, .int (iI (Y + (((k / 3) - 1) * q)))), (12, .int (iI (X + (((k % 3) - 1) * q)))), (7, .int (iI rd)), (6, .int (iI hr9)), (5, .int (iI (P 8 2))), (4, .int (iI (P 8 1))), (3, .int (iI q)), (2, .int (iI n9)), (0, .ref (a 0)), (1, .int (iI s9))]) hx hb dX4_seekPole_162 hl (k := 6) rfl (iI_add _ _) (by decide) rfl (fun ls hl => ?_)
                          refine lv_goto (tgt := 71) hx hb dX4_seekPole_165 (by decide) ?_
                          exact ih71 (k + 1) (nbC (tPo (mO P) X Y) q k) (X + (((k % 3) - 1) * q)) (Y + (((k / 3) - 1) * q))  (by omega) (by omega) (by first | (exfalso; omega) | exact lkr_y hi0 hi2 ⟨by omega, (show poleOK (X + (k % 3 - 1) * q) (Y + (k / 3 - 1) * q) by assumption)⟩ (by omega) (by omega) | exact lkr_n hi0 hi2 (fun _ => by omega) | exact lkr_n hi0 hi2 (fun h9 => absurd (show k = 4 by omega) h9.1) | exact lkr_n hi0 hi2 (fun h9 => absurd h9.2 (show ¬ poleOK (X + (k % 3 - 1) * q) (Y + (k / 3 - 1) * q) by assumption))) (by first | omega | (exfalso; omega)) (by omega) ls (lv_sub hl [0, 1, 2, 3, 7, 8, 9, 10, 11, 12, 13, 14] rfl)
                    · skip
                      refine k_if_eq (tgt := 139) hx hb dX4_seekPole_121 (by decide) (by omega) (fun c_17 => ?_) (fun c_17 => ?_)
                      · skip
                        refine lv_iload hx hb dX4_seekPole_139 (lv_at hl 7 rfl) ?_
                        refine lv_istore (lv' := [(14, .int (iI hr9)), (13, .int (iI (Y + (((k / 3) - 1) * q)))), (12, .int (iI (X + (((k % 3) - 1) * q)))), (11, .int (iI k)), (10, .int (iI gy)), (9, .int (iI gx)), (8, .int (iI ls9)), (7, .int (iI rd)), (6, .int (iI hr9)), (5, .int (iI (P 8 2))), (4, .int (iI (P 8 1))), (3, .int (iI q)), (2, .int (iI n9)), (0, .ref (a 0)), (1, .int (iI s9))]) hx hb dX4_seekPole_141 hl (by decide) rfl (fun ls hl => ?_)
                        refine lv_iload hx hb dX4_seekPole_143 (lv_at hl 0 rfl) ?_
                        refine lv_iload hx hb dX4_seekPole_145 (lv_at hl 6 rfl) ?_
                        refine k_icmp_ge (tgt := 162) hx hb dX4_seekPole_147 (by decide) (by omega) (by omega) (fun c_18 => ?_) (fun c_18 => ?_)
                        · skip
                          refine lv_iinc (v := iI (k + 1)) (lv' := [(11, .int (iI (k + 1))), (14, .int (iI hr9)), (13, .int (iI (Y + (((k / 3) - 1) * q)))), (12, .int (iI (X + (((k % 3) - 1) * q)))), (10, .int (iI gy)), (9, .int (iI gx)), (8, .int (iI ls9)), (7, .int (iI rd)), (6, .int (iI hr9)), (5, .int (iI (P 8 2))), (4, .int (iI (P 8 1))), (3, .int (iI q)), (2, .int (iI n9)), (0, .ref (a 0)), (1, .int (iI s9))]) hx hb dX4_seekPole_162 hl (k := 3) rfl (iI_add _ _) (by decide) rfl (fun ls hl => ?_)
                          refine lv_goto (tgt := 71) hx hb dX4_seekPole_165 (by decide) ?_
                          exact ih71 (k + 1) ls9 gx gy  (by omega) (by omega) (by first | (exfalso; omega) | exact lkr_y hi0 hi2 ⟨by omega, (show poleOK (X + (k % 3 - 1) * q) (Y + (k / 3 - 1) * q) by assumption)⟩ (by omega) (by omega) | exact lkr_n hi0 hi2 (fun _ => by omega) | exact lkr_n hi0 hi2 (fun h9 => absurd (show k = 4 by omega) h9.1) | exact lkr_n hi0 hi2 (fun h9 => absurd h9.2 (show ¬ poleOK (X + (k % 3 - 1) * q) (Y + (k / 3 - 1) * q) by assumption))) (by first | omega | (exfalso; omega)) (by omega) ls (lv_sub hl [0, 4, 5, 6, 7, 8, 9, 10, 11, 12, 13, 14] rfl)
                        · skip
                          refine lv_iload hx hb dX4_seekPole_150 (lv_at hl 0 rfl) ?_
                          refine lv_istore (lv' := [(8, .int (iI hr9)), (14, .int (iI hr9)), (13, .int (iI (Y + (((k / 3) - 1) * q)))), (12, .int (iI (X + (((k % 3) - 1) * q)))), (11, .int (iI k)), (10, .int (iI gy)), (9, .int (iI gx)), (7, .int (iI rd)), (6, .int (iI hr9)), (5, .int (iI (P 8 2))), (4, .int (iI (P 8 1))), (3, .int (iI q)), (2, .int (iI n9)), (0, .ref (a 0)), (1, .int (iI s9))]) hx hb dX4_seekPole_152 hl (by decide) rfl (fun ls hl => ?_)
                          refine lv_iload hx hb dX4_seekPole_154 (lv_at hl 3 rfl) ?_
                          refine lv_istore (lv' := [(9, .int (iI (X + (((k % 3) - 1) * q)))), (8, .int (iI hr9)), (14, .int (iI hr9)), (13, .int (iI (Y + (((k / 3) - 1) * q)))), (12, .int (iI (X + (((k % 3) - 1) * q)))), (11, .int (iI k)), (10, .int (iI gy)), (7, .int (iI rd)), (6, .int (iI hr9)), (5, .int (iI (P 8 2))), (4, .int (iI (P 8 1))), (3, .int (iI q)), (2, .int (iI n9)), (0, .ref (a 0)), (1, .int (iI s9))]) hx hb dX4_seekPole_156 hl (by decide) rfl (fun ls hl => ?_)
                          refine lv_iload hx hb dX4_seekPole_158 (lv_at hl 3 rfl) ?_
                          refine lv_istore (lv' := [(10, .int (iI (Y + (((k / 3) - 1) * q)))), (9, .int (iI (X + (((k % 3) - 1) * q)))), (8, .int (iI hr9)), (14, .int (iI hr9)), (13, .int (iI (Y + (((k / 3) - 1) * q)))), (12, .int (iI (X + (((k % 3) - 1) * q)))), (11, .int (iI k)), (7, .int (iI rd)), (6, .int (iI hr9)), (5, .int (iI (P 8 2))), (4, .int (iI (P 8 1))), (3, .int (iI q)), (2, .int (iI n9)), (0, .ref (a 0)), (1, .int (iI s9))]) hx hb dX4_seekPole_160 hl (by decide) rfl (fun ls hl => ?_)
                          refine lv_iinc (v := iI (k + 1)) (lv' := [(11, .int (iI (k + 1))), (10, .int (iI (Y + (((k / 3) - 1) * q)))), (9, .int (iI (X + (((k % 3) - 1) * q)))), (8, .int (iI hr9)), (14, .int (iI hr9)), (13, .int (iI (Y + (((k / 3) - 1) * q)))), (12, .int (iI (X + (((k % 3) - 1) * q)))), (7, .int (iI rd)), (6, .int (iI hr9)), (5, .int (iI (P 8 2))), (4, .int (iI (P 8 1))), (3, .int (iI q)), (2, .int (iI n9)), (0, .ref (a 0)), (1, .int (iI s9))]) hx hb dX4_seekPole_162 hl (k := 6) rfl (iI_add _ _) (by decide) rfl (fun ls hl => ?_)
                          refine lv_goto (tgt := 71) hx hb dX4_seekPole_165 (by decide) ?_
                          exact ih71 (k + 1) hr9 (X + (((k % 3) - 1) * q)) (Y + (((k / 3) - 1) * q))  (by omega) (by omega) (by first | (exfalso; omega) | exact lkr_y hi0 hi2 ⟨by omega, (show poleOK (X + (k % 3 - 1) * q) (Y + (k / 3 - 1) * q) by assumption)⟩ (by omega) (by omega) | exact lkr_n hi0 hi2 (fun _ => by omega) | exact lkr_n hi0 hi2 (fun h9 => absurd (show k = 4 by omega) h9.1) | exact lkr_n hi0 hi2 (fun h9 => absurd h9.2 (show ¬ poleOK (X + (k % 3 - 1) * q) (Y + (k / 3 - 1) * q) by assumption))) (by first | omega | (exfalso; omega)) (by omega) ls (lv_sub hl [0, 1, 2, 3, 7, 8, 9, 10, 11, 12, 13, 14] rfl)
                      · exfalso; omega
            exact loop71 ((9 - 0 : Int) + 1).toNat 0 hr9 X Y  (by omega) (by omega) (lkr_0 _ _ _ _ _) (by omega) (by omega) ls (lv_sub hl [0, 1, 2, 3, 4, 5, 6, 7, 8, 9, 10, 11] rfl)
    exact loop41 (((pcost (mO P)) + s9 : Int) + 1).toNat (P 0 2) (P 0 3) s9 0 (pcost (mO P)) 0  (by unfold poleOK; omega) (by rw [hpid]) (by omega) (by rw [hpid, Int.zero_add]) (by omega) (by omega) H locs (by rw [show (ups (ups (P 0) 2 (P 0 2)) 3 (P 0 3)) = (P 0) from pole_row0 _]; exact hP) (k_addr hD rfl) hS ls (lv_sub hl [0, 1, 2, 3, 4, 5, 6, 7] rfl)
  exact hbody s.heap [] hP hS ls hl
set_option maxHeartbeats 4000000 in
set_option maxRecDepth 100000 in
theorem c_X4_copyRow (l : Launch) (D : va_G) (cy : Nat → ClassId) (sz : Nat) (b : Nat → Nat) (F : Nat → Int → Int) (n9 : Nat) (hn9 : (n9 : Int) ≤ 1000) : Met l yX4_copyRow wsX4_copyRow { frames := 1, cells := 0, slots := 0, locals := 22 } (mPre (GG D cy) D (ar2W n9 cy b F) sz ([.ref (b 0), .ref (b 10)] : List Value)) (kQv D (ar2W n9 cy b F) sz (fun u9 : Nat → Int → Int => ar2W n9 cy b u9) (fun u9 => u9 = (upr F 10 (cpyI (F 10) (F 0) 0 (n9 : Int))))) 0 0 (va_A (ar2W n9 cy b F) sz) := by
  refine kM_start (cc := cX4_copyRow) (maxL := 2) (ret := none) (by decide) rfl (Nat.le_of_ble_eq_true rfl) ?_
  intro p e s m below meth c hx hb hr hlocks hml hts hown hsz hA hG hP hD hS hin ls hl
  have hK := hG.1
  have hl : lv_has ls 2 [(0, .ref (b 0)), (1, .ref (b 10))] := hl
  have hm0 := hts (.methodLink RX4 61 Lib.Math.min.name) (by decide +kernel)
  have hm1 := hts (.static Lib.Math.min.name) (by decide +kernel)
  have hm2 := hts (.initialized "java/lang/Math") (by decide +kernel)
  have hm3 := hts (.code Lib.Math.min.name Lib.Math.min.code 2 (some .int)) (by decide +kernel)
  have hm4 := hts (.methodLink RX4 67 arraycopyName) (by decide +kernel)
  have hm5 := hts (.native arraycopyName) (by decide +kernel)
  have hm6 := hts (.static arraycopyName) (by decide +kernel)
  have hm7 := hts (.initialized "java/lang/System") (by decide +kernel)
  have hbody : ∀ (H : Heap) (locs : List Loc) (hP : va_P D vwCl (ar2W n9 cy b F) H) (hS : va_S (va_A (ar2W n9 cy b F) sz) s.heap H locs) (ls : Array Slot) (hl : lv_has ls 2 [(0, .ref (b 0)), (1, .ref (b 10))]), W p l e { frames := 1, cells := 0, slots := 0, locals := 22 } s m ([.ref (b 0), .ref (b 10)] : List Value).toArray below meth c H locs 0 0 (MQ below (kQv D (ar2W n9 cy b F) sz (fun u9 : Nat → Int → Int => ar2W n9 cy b u9) (fun u9 => u9 = (upr F 10 (cpyI (F 10) (F 0) 0 (n9 : Int))))) ([.ref (b 0), .ref (b 10)] : List Value).toArray s 0 0 (va_A (ar2W n9 cy b F) sz)) (F0 m 0 ls []) := by
    intro H locs hP hS ls hl
    refine lv_aload_n hx hb dX4_copyRow_0 rfl (lv_at hl 0 rfl) ?_
    refine k_iconst hx hb dX4_copyRow_1 ?_
    refine lv_aload_n hx hb dX4_copyRow_2 rfl (lv_at hl 1 rfl) ?_
    refine k_iconst hx hb dX4_copyRow_3 ?_
    refine lv_aload_n hx hb dX4_copyRow_4 rfl (lv_at hl 0 rfl) ?_
    refine k_alen hx hb hK hP 0 0 rfl rfl (n9 : Int) rfl dX4_copyRow_5 ?_
    refine lv_aload_n hx hb dX4_copyRow_6 rfl (lv_at hl 1 rfl) ?_
    refine k_alen hx hb hK hP 1 0 rfl rfl (n9 : Int) rfl dX4_copyRow_7 ?_
    refine k_mmin hx hb (hml.trans hl.1.symm) hown hm0 hm1 hm2 hm3 (Nat.le_of_ble_eq_true rfl) (Nat.le_of_ble_eq_true rfl) (Nat.le_of_ble_eq_true rfl) (Nat.le_of_ble_eq_true rfl) (by omega) (by omega) dX4_copyRow_8 ?_
    refine k_eqI (v := min (n9 : Int) (n9 : Int)) (w := (n9 : Int)) (by omega) ?_
    refine k_copyRow hx hb (hml.trans hl.1.symm) hown hm4 hm5 hm6 hm7 hK hP hD hS (by omega) (Nat.le_of_ble_eq_true rfl) (by decide +kernel) dX4_copyRow_11 (fun H locs hP hD hS => ?_)
    have hP : va_P D vwCl (ar2W n9 cy b (upr F 10 (cpyI (F 10) (F 0) 0 (n9 : Int)))) H := hP
    have hD : va_D (va_A (ar2W n9 cy b F) sz) (ar2W n9 cy b (upr F 10 (cpyI (F 10) (F 0) 0 (n9 : Int)))) := hD
    exact W.vret hx hb hr (fun t9 ht _ => ⟨⟨(upr F 10 (cpyI (F 10) (F 0) 0 (n9 : Int))), rfl, (rfl : (upr F 10 (cpyI (F 10) (F 0) 0 (n9 : Int))) = (upr F 10 (cpyI (F 10) (F 0) 0 (n9 : Int)))), by rw [ht]; exact hP, hD⟩, hS.F ht⟩) hS.2.2 dX4_copyRow_14 hlocks
  exact hbody s.heap [] hP hS ls hl
set_option maxHeartbeats 4000000 in
set_option maxRecDepth 100000 in
theorem c_X4_copyFrom (l : Launch) (D : va_G) (cy : Nat → ClassId) (sz : Nat) (a : Nat → Nat) (P : Nat → Int → Int)   : Met l yX4_copyFrom wsX4_copyFrom { frames := 2, cells := 0, slots := 0, locals := 43 } (mPre (GG D cy) D (pl2W cy a P) sz ([.ref (a 0), .ref (a 10)] : List Value)) (kQv D (pl2W cy a P) sz (fun u9 : Nat → Int → Int => pl2W cy a u9) (fun u9 => u9 = (upr (upr (upr (upr (upr (upr (upr (upr (upr P 0 (ups (ups (ups (ups (P 0) 0 (P 10 0)) 1 (P 10 1)) 2 (P 10 2)) 3 (P 10 3))) 1 (cpyI (P 1) (P 11) 0 12)) 2 (cpyI (P 2) (P 12) 0 144)) 3 (cpyI (P 3) (P 13) 0 144)) 4 (cpyI (P 4) (P 14) 0 144)) 5 (cpyI (P 5) (P 15) 0 12)) 6 (cpyI (P 6) (P 16) 0 12)) 7 (cpyI (P 7) (P 17) 0 12)) 8 (cpyI (P 8) (P 18) 0 10)))) 0 0 (va_A (pl2W cy a P) sz) := by
  refine kM_start (cc := cX4_copyFrom) (maxL := 2) (ret := none) (by decide) rfl (Nat.le_of_ble_eq_true rfl) ?_
  intro p e s m below meth c hx hb hr hlocks hml hts hown hsz hA hG hP hD hS hin ls hl
  have hK := hG.1
  have hl : lv_has ls 2 [(0, .ref (a 0)), (1, .ref (a 10))] := hl
  have hinX4 : ∀ w ∈ u_ws RX4 TX4 12, w ∈ wsX4_copyFrom := by decide +kernel
  have hm0 := hts (.fieldLink RX4 9 "ArcPlate$Plate" "trails" "I") (by decide +kernel)
  have hm1 := hts (.fieldLink RX4 15 "ArcPlate$Plate" "stars" "I") (by decide +kernel)
  have hm2 := hts (.fieldLink RX4 18 "ArcPlate$Plate" "poleX" "I") (by decide +kernel)
  have hm3 := hts (.fieldLink RX4 21 "ArcPlate$Plate" "poleY" "I") (by decide +kernel)
  have hm4 := hts (.fieldLink RX4 24 "ArcPlate$Plate" "points" "[I") (by decide +kernel)
  have hm5 := hts (.fieldLink RX4 28 "ArcPlate$Plate" "frames" "[I") (by decide +kernel)
  have hm6 := hts (.fieldLink RX4 31 "ArcPlate$Plate" "xs" "[I") (by decide +kernel)
  have hm7 := hts (.fieldLink RX4 34 "ArcPlate$Plate" "ys" "[I") (by decide +kernel)
  have hm8 := hts (.fieldLink RX4 37 "ArcPlate$Plate" "radii" "[I") (by decide +kernel)
  have hm9 := hts (.fieldLink RX4 40 "ArcPlate$Plate" "angles" "[I") (by decide +kernel)
  have hm10 := hts (.fieldLink RX4 43 "ArcPlate$Plate" "lights" "[I") (by decide +kernel)
  have hm11 := hts (.fieldLink RX4 54 "ArcPlate$Plate" "settings" "[I") (by decide +kernel)
  have hbody : ∀ (H : Heap) (locs : List Loc) (hP : va_P D vwCl (pl2W cy a P) H) (hS : va_S (va_A (pl2W cy a P) sz) s.heap H locs) (ls : Array Slot) (hl : lv_has ls 2 [(0, .ref (a 0)), (1, .ref (a 10))]), W p l e { frames := 2, cells := 0, slots := 0, locals := 43 } s m ([.ref (a 0), .ref (a 10)] : List Value).toArray below meth c H locs 0 0 (MQ below (kQv D (pl2W cy a P) sz (fun u9 : Nat → Int → Int => pl2W cy a u9) (fun u9 => u9 = (upr (upr (upr (upr (upr (upr (upr (upr (upr P 0 (ups (ups (ups (ups (P 0) 0 (P 10 0)) 1 (P 10 1)) 2 (P 10 2)) 3 (P 10 3))) 1 (cpyI (P 1) (P 11) 0 12)) 2 (cpyI (P 2) (P 12) 0 144)) 3 (cpyI (P 3) (P 13) 0 144)) 4 (cpyI (P 4) (P 14) 0 144)) 5 (cpyI (P 5) (P 15) 0 12)) 6 (cpyI (P 6) (P 16) 0 12)) 7 (cpyI (P 7) (P 17) 0 12)) 8 (cpyI (P 8) (P 18) 0 10)))) ([.ref (a 0), .ref (a 10)] : List Value).toArray s 0 0 (va_A (pl2W cy a P) sz)) (F0 m 0 ls []) := by
    intro H locs hP hS ls hl
    refine lv_aload_n hx hb dX4_copyFrom_0 rfl (lv_at hl 0 rfl) ?_
    refine lv_aload_n hx hb dX4_copyFrom_1 rfl (lv_at hl 1 rfl) ?_
    refine va_get (D := D) (ci := 3) (v := .int (iI (P 10 0))) (C := RX4) (T := TX4) (N := 12) hx hb hts hinX4 hown hK hP 9 rfl rfl 0 (by decide) hm0 (fun _ h9 => h9) rfl dX4_copyFrom_2 ?_
    refine va_put (D := D) (ci := 3) (v := .int (iI (P 10 0))) (ty := .int) (C := RX4) (T := TX4) (N := 12) hx hb hts hinX4 tyX4 tyX4_ok nmX4 hown hK hP hD hS 0 rfl rfl 0 (by decide) hm0 (fun _ h9 => h9) rfl (by decide +kernel) rfl rfl (Nat.le_of_ble_eq_true rfl) dX4_copyFrom_5 (fun H locs hP hD hS => ?_)
    have hP : va_P D vwCl (pl2W cy a (upr P 0 (ups (P 0) 0 (P 10 0)))) H := hP
    have hD : va_D (va_A (pl2W cy a P) sz) (pl2W cy a (upr P 0 (ups (P 0) 0 (P 10 0)))) := hD
    refine lv_aload_n hx hb dX4_copyFrom_8 rfl (lv_at hl 0 rfl) ?_
    refine lv_aload_n hx hb dX4_copyFrom_9 rfl (lv_at hl 1 rfl) ?_
    refine va_get (D := D) (ci := 3) (v := .int (iI (P 10 1))) (C := RX4) (T := TX4) (N := 12) hx hb hts hinX4 hown hK hP 9 rfl rfl 1 (by decide) hm1 (fun _ h9 => h9) rfl dX4_copyFrom_10 ?_
    refine va_put (D := D) (ci := 3) (v := .int (iI (P 10 1))) (ty := .int) (C := RX4) (T := TX4) (N := 12) hx hb hts hinX4 tyX4 tyX4_ok nmX4 hown hK hP hD hS 0 rfl rfl 1 (by decide) hm1 (fun _ h9 => h9) rfl (by decide +kernel) rfl rfl (Nat.le_of_ble_eq_true rfl) dX4_copyFrom_13 (fun H locs hP hD hS => ?_)
    have hP : va_P D vwCl (pl2W cy a (upr P 0 (ups (ups (P 0) 0 (P 10 0)) 1 (P 10 1)))) H := hP
    have hD : va_D (va_A (pl2W cy a P) sz) (pl2W cy a (upr P 0 (ups (ups (P 0) 0 (P 10 0)) 1 (P 10 1)))) := hD
    refine lv_aload_n hx hb dX4_copyFrom_16 rfl (lv_at hl 0 rfl) ?_
    refine lv_aload_n hx hb dX4_copyFrom_17 rfl (lv_at hl 1 rfl) ?_
    refine va_get (D := D) (ci := 3) (v := .int (iI (P 10 2))) (C := RX4) (T := TX4) (N := 12) hx hb hts hinX4 hown hK hP 9 rfl rfl 2 (by decide) hm2 (fun _ h9 => h9) rfl dX4_copyFrom_18 ?_
    refine va_put (D := D) (ci := 3) (v := .int (iI (P 10 2))) (ty := .int) (C := RX4) (T := TX4) (N := 12) hx hb hts hinX4 tyX4 tyX4_ok nmX4 hown hK hP hD hS 0 rfl rfl 2 (by decide) hm2 (fun _ h9 => h9) rfl (by decide +kernel) rfl rfl (Nat.le_of_ble_eq_true rfl) dX4_copyFrom_21 (fun H locs hP hD hS => ?_)
    have hP : va_P D vwCl (pl2W cy a (upr P 0 (ups (ups (ups (P 0) 0 (P 10 0)) 1 (P 10 1)) 2 (P 10 2)))) H := hP
    have hD : va_D (va_A (pl2W cy a P) sz) (pl2W cy a (upr P 0 (ups (ups (ups (P 0) 0 (P 10 0)) 1 (P 10 1)) 2 (P 10 2)))) := hD
    refine lv_aload_n hx hb dX4_copyFrom_24 rfl (lv_at hl 0 rfl) ?_
    refine lv_aload_n hx hb dX4_copyFrom_25 rfl (lv_at hl 1 rfl) ?_
    refine va_get (D := D) (ci := 3) (v := .int (iI (P 10 3))) (C := RX4) (T := TX4) (N := 12) hx hb hts hinX4 hown hK hP 9 rfl rfl 3 (by decide) hm3 (fun _ h9 => h9) rfl dX4_copyFrom_26 ?_
    refine va_put (D := D) (ci := 3) (v := .int (iI (P 10 3))) (ty := .int) (C := RX4) (T := TX4) (N := 12) hx hb hts hinX4 tyX4 tyX4_ok nmX4 hown hK hP hD hS 0 rfl rfl 3 (by decide) hm3 (fun _ h9 => h9) rfl (by decide +kernel) rfl rfl (Nat.le_of_ble_eq_true rfl) dX4_copyFrom_29 (fun H locs hP hD hS => ?_)
    have hP : va_P D vwCl (pl2W cy a (upr P 0 (ups (ups (ups (ups (P 0) 0 (P 10 0)) 1 (P 10 1)) 2 (P 10 2)) 3 (P 10 3)))) H := hP
    have hD : va_D (va_A (pl2W cy a P) sz) (pl2W cy a (upr P 0 (ups (ups (ups (ups (P 0) 0 (P 10 0)) 1 (P 10 1)) 2 (P 10 2)) 3 (P 10 3)))) := hD
    refine lv_aload_n hx hb dX4_copyFrom_32 rfl (lv_at hl 1 rfl) ?_
    refine va_get (D := D) (ci := 3) (v := .ref (a 11)) (C := RX4) (T := TX4) (N := 12) hx hb hts hinX4 hown hK hP 9 rfl rfl 4 (by decide) hm4 (fun _ h9 => h9) rfl dX4_copyFrom_33 ?_
    refine lv_aload_n hx hb dX4_copyFrom_36 rfl (lv_at hl 0 rfl) ?_
    refine va_get (D := D) (ci := 3) (v := .ref (a 1)) (C := RX4) (T := TX4) (N := 12) hx hb hts hinX4 hown hK hP 0 rfl rfl 4 (by decide) hm4 (fun _ h9 => h9) rfl dX4_copyFrom_37 ?_
    have hPc := hP.sub (ws' := (ar2W 12 cy (fun i => a (cond (Nat.ble 10 i) (i - 9) (i + 11))) (fun i => (upr P 0 (ups (ups (ups (ups (P 0) 0 (P 10 0)) 1 (P 10 1)) 2 (P 10 2)) 3 (P 10 3))) (cond (Nat.ble 10 i) (i - 9) (i + 11))))) [10, 1] rfl
    have hDc := hD.sub (ws' := (ar2W 12 cy (fun i => a (cond (Nat.ble 10 i) (i - 9) (i + 11))) (fun i => (upr P 0 (ups (ups (ups (ups (P 0) 0 (P 10 0)) 1 (P 10 1)) 2 (P 10 2)) 3 (P 10 3))) (cond (Nat.ble 10 i) (i - 9) (i + 11))))) [10, 1] (by decide) rfl
    have hFc := va_free (wc := (ar2W 12 cy (fun i => a (cond (Nat.ble 10 i) (i - 9) (i + 11))) (fun i => (upr P 0 (ups (ups (ups (ups (P 0) 0 (P 10 0)) 1 (P 10 1)) 2 (P 10 2)) 3 (P 10 3))) (cond (Nat.ble 10 i) (i - 9) (i + 11))))) hD hS hA [10, 1] rfl
    refine k_muv (k_runS (As := [.ref (a 11), .ref (a 1)]) (rest := []) ⟨hx, hb, hml, hown, hts⟩ (c_X4_copyRow l D cy H.size (fun i => a (cond (Nat.ble 10 i) (i - 9) (i + 11))) (fun i => (upr P 0 (ups (ups (ups (ups (P 0) 0 (P 10 0)) 1 (P 10 1)) 2 (P 10 2)) 3 (P 10 3))) (cond (Nat.ble 10 i) (i - 9) (i + 11))) 12 (show (12 : Int) ≤ 1000 by omega)) gX4_copyFrom_X4_copyRow rfl ⟨rfl, rfl⟩ 2 rfl (by decide +kernel) ⟨Nat.le_of_ble_eq_true rfl, Nat.le_of_ble_eq_true rfl⟩ (GG_ok D cy) hG hS hFc hPc hDc hl.1 rfl (Nat.le_of_ble_eq_true rfl) ⟨Nat.le_of_ble_eq_true rfl, Nat.le_of_ble_eq_true rfl⟩ dX4_copyFrom_40) hFc hS (fun R_2 H1 locs1 hR_2 hP1 hD1 hS1 hk1 => ?_)
    have hR_2 : R_2 = (upr (fun i => (upr P 0 (ups (ups (ups (ups (P 0) 0 (P 10 0)) 1 (P 10 1)) 2 (P 10 2)) 3 (P 10 3))) (cond (Nat.ble 10 i) (i - 9) (i + 11))) 10 (cpyI ((P 1)) ((P 11)) 0 (12 : Int))) := hR_2
    subst hR_2
    have hDn : va_D (va_A (pl2W cy a P) sz) (pl2W cy a (upr (upr P 0 (ups (ups (ups (ups (P 0) 0 (P 10 0)) 1 (P 10 1)) 2 (P 10 2)) 3 (P 10 3))) 1 (cpyI ((P 1)) ((P 11)) 0 (12 : Int)))) := k_addr hD rfl
    have hPn := k_join (ws' := (pl2W cy a (upr (upr P 0 (ups (ups (ups (ups (P 0) 0 (P 10 0)) 1 (P 10 1)) 2 (P 10 2)) 3 (P 10 3))) 1 (cpyI ((P 1)) ((P 11)) 0 (12 : Int))))) hP hD [10, 1] [none, some 1, none, none, none, none, none, none, none, none, some 0, none, none, none, none, none, none, none] rfl hk1 hP1 rfl rfl
    clear hP hD hS hP1 hD1 hk1
    have hP := hPn
    have hD := hDn
    have hS := hS1
    clear hPn hDn hS1
    generalize H1 = H at hP hS ⊢
    generalize locs1 = locs at hS ⊢
    refine lv_aload_n hx hb dX4_copyFrom_43 rfl (lv_at hl 1 rfl) ?_
    refine va_get (D := D) (ci := 3) (v := .ref (a 12)) (C := RX4) (T := TX4) (N := 12) hx hb hts hinX4 hown hK hP 9 rfl rfl 5 (by decide) hm5 (fun _ h9 => h9) rfl dX4_copyFrom_44 ?_
    refine lv_aload_n hx hb dX4_copyFrom_47 rfl (lv_at hl 0 rfl) ?_
    refine va_get (D := D) (ci := 3) (v := .ref (a 2)) (C := RX4) (T := TX4) (N := 12) hx hb hts hinX4 hown hK hP 0 rfl rfl 5 (by decide) hm5 (fun _ h9 => h9) rfl dX4_copyFrom_48 ?_
    have hPc := hP.sub (ws' := (ar2W 144 cy (fun i => a (cond (Nat.ble 10 i) (i - 8) (i + 12))) (fun i => (upr (upr P 0 (ups (ups (ups (ups (P 0) 0 (P 10 0)) 1 (P 10 1)) 2 (P 10 2)) 3 (P 10 3))) 1 (cpyI ((P 1)) ((P 11)) 0 (12 : Int))) (cond (Nat.ble 10 i) (i - 8) (i + 12))))) [11, 2] rfl
    have hDc := hD.sub (ws' := (ar2W 144 cy (fun i => a (cond (Nat.ble 10 i) (i - 8) (i + 12))) (fun i => (upr (upr P 0 (ups (ups (ups (ups (P 0) 0 (P 10 0)) 1 (P 10 1)) 2 (P 10 2)) 3 (P 10 3))) 1 (cpyI ((P 1)) ((P 11)) 0 (12 : Int))) (cond (Nat.ble 10 i) (i - 8) (i + 12))))) [11, 2] (by decide) rfl
    have hFc := va_free (wc := (ar2W 144 cy (fun i => a (cond (Nat.ble 10 i) (i - 8) (i + 12))) (fun i => (upr (upr P 0 (ups (ups (ups (ups (P 0) 0 (P 10 0)) 1 (P 10 1)) 2 (P 10 2)) 3 (P 10 3))) 1 (cpyI ((P 1)) ((P 11)) 0 (12 : Int))) (cond (Nat.ble 10 i) (i - 8) (i + 12))))) hD hS hA [11, 2] rfl
    refine k_muv (k_runS (As := [.ref (a 12), .ref (a 2)]) (rest := []) ⟨hx, hb, hml, hown, hts⟩ (c_X4_copyRow l D cy H.size (fun i => a (cond (Nat.ble 10 i) (i - 8) (i + 12))) (fun i => (upr (upr P 0 (ups (ups (ups (ups (P 0) 0 (P 10 0)) 1 (P 10 1)) 2 (P 10 2)) 3 (P 10 3))) 1 (cpyI ((P 1)) ((P 11)) 0 (12 : Int))) (cond (Nat.ble 10 i) (i - 8) (i + 12))) 144 (show (144 : Int) ≤ 1000 by omega)) gX4_copyFrom_X4_copyRow rfl ⟨rfl, rfl⟩ 2 rfl (by decide +kernel) ⟨Nat.le_of_ble_eq_true rfl, Nat.le_of_ble_eq_true rfl⟩ (GG_ok D cy) hG hS hFc hPc hDc hl.1 rfl (Nat.le_of_ble_eq_true rfl) ⟨Nat.le_of_ble_eq_true rfl, Nat.le_of_ble_eq_true rfl⟩ dX4_copyFrom_51) hFc hS (fun R_4 H1 locs1 hR_4 hP1 hD1 hS1 hk1 => ?_)
    have hR_4 : R_4 = (upr (fun i => (upr (upr P 0 (ups (ups (ups (ups (P 0) 0 (P 10 0)) 1 (P 10 1)) 2 (P 10 2)) 3 (P 10 3))) 1 (cpyI ((P 1)) ((P 11)) 0 (12 : Int))) (cond (Nat.ble 10 i) (i - 8) (i + 12))) 10 (cpyI ((P 2)) ((P 12)) 0 (144 : Int))) := hR_4
    subst hR_4
    have hDn : va_D (va_A (pl2W cy a P) sz) (pl2W cy a (upr (upr (upr P 0 (ups (ups (ups (ups (P 0) 0 (P 10 0)) 1 (P 10 1)) 2 (P 10 2)) 3 (P 10 3))) 1 (cpyI ((P 1)) ((P 11)) 0 (12 : Int))) 2 (cpyI ((P 2)) ((P 12)) 0 (144 : Int)))) := k_addr hD rfl
    have hPn := k_join (ws' := (pl2W cy a (upr (upr (upr P 0 (ups (ups (ups (ups (P 0) 0 (P 10 0)) 1 (P 10 1)) 2 (P 10 2)) 3 (P 10 3))) 1 (cpyI ((P 1)) ((P 11)) 0 (12 : Int))) 2 (cpyI ((P 2)) ((P 12)) 0 (144 : Int))))) hP hD [11, 2] [none, none, some 1, none, none, none, none, none, none, none, none, some 0, none, none, none, none, none, none] rfl hk1 hP1 rfl rfl
    clear hP hD hS hP1 hD1 hk1
    have hP := hPn
    have hD := hDn
    have hS := hS1
    clear hPn hDn hS1
    generalize H1 = H at hP hS ⊢
    generalize locs1 = locs at hS ⊢
    refine lv_aload_n hx hb dX4_copyFrom_54 rfl (lv_at hl 1 rfl) ?_
    refine va_get (D := D) (ci := 3) (v := .ref (a 13)) (C := RX4) (T := TX4) (N := 12) hx hb hts hinX4 hown hK hP 9 rfl rfl 6 (by decide) hm6 (fun _ h9 => h9) rfl dX4_copyFrom_55 ?_
    refine lv_aload_n hx hb dX4_copyFrom_58 rfl (lv_at hl 0 rfl) ?_
    refine va_get (D := D) (ci := 3) (v := .ref (a 3)) (C := RX4) (T := TX4) (N := 12) hx hb hts hinX4 hown hK hP 0 rfl rfl 6 (by decide) hm6 (fun _ h9 => h9) rfl dX4_copyFrom_59 ?_
    have hPc := hP.sub (ws' := (ar2W 144 cy (fun i => a (cond (Nat.ble 10 i) (i - 7) (i + 13))) (fun i => (upr (upr (upr P 0 (ups (ups (ups (ups (P 0) 0 (P 10 0)) 1 (P 10 1)) 2 (P 10 2)) 3 (P 10 3))) 1 (cpyI ((P 1)) ((P 11)) 0 (12 : Int))) 2 (cpyI ((P 2)) ((P 12)) 0 (144 : Int))) (cond (Nat.ble 10 i) (i - 7) (i + 13))))) [12, 3] rfl
    have hDc := hD.sub (ws' := (ar2W 144 cy (fun i => a (cond (Nat.ble 10 i) (i - 7) (i + 13))) (fun i => (upr (upr (upr P 0 (ups (ups (ups (ups (P 0) 0 (P 10 0)) 1 (P 10 1)) 2 (P 10 2)) 3 (P 10 3))) 1 (cpyI ((P 1)) ((P 11)) 0 (12 : Int))) 2 (cpyI ((P 2)) ((P 12)) 0 (144 : Int))) (cond (Nat.ble 10 i) (i - 7) (i + 13))))) [12, 3] (by decide) rfl
    have hFc := va_free (wc := (ar2W 144 cy (fun i => a (cond (Nat.ble 10 i) (i - 7) (i + 13))) (fun i => (upr (upr (upr P 0 (ups (ups (ups (ups (P 0) 0 (P 10 0)) 1 (P 10 1)) 2 (P 10 2)) 3 (P 10 3))) 1 (cpyI ((P 1)) ((P 11)) 0 (12 : Int))) 2 (cpyI ((P 2)) ((P 12)) 0 (144 : Int))) (cond (Nat.ble 10 i) (i - 7) (i + 13))))) hD hS hA [12, 3] rfl
    refine k_muv (k_runS (As := [.ref (a 13), .ref (a 3)]) (rest := []) ⟨hx, hb, hml, hown, hts⟩ (c_X4_copyRow l D cy H.size (fun i => a (cond (Nat.ble 10 i) (i - 7) (i + 13))) (fun i => (upr (upr (upr P 0 (ups (ups (ups (ups (P 0) 0 (P 10 0)) 1 (P 10 1)) 2 (P 10 2)) 3 (P 10 3))) 1 (cpyI ((P 1)) ((P 11)) 0 (12 : Int))) 2 (cpyI ((P 2)) ((P 12)) 0 (144 : Int))) (cond (Nat.ble 10 i) (i - 7) (i + 13))) 144 (show (144 : Int) ≤ 1000 by omega)) gX4_copyFrom_X4_copyRow rfl ⟨rfl, rfl⟩ 2 rfl (by decide +kernel) ⟨Nat.le_of_ble_eq_true rfl, Nat.le_of_ble_eq_true rfl⟩ (GG_ok D cy) hG hS hFc hPc hDc hl.1 rfl (Nat.le_of_ble_eq_true rfl) ⟨Nat.le_of_ble_eq_true rfl, Nat.le_of_ble_eq_true rfl⟩ dX4_copyFrom_62) hFc hS (fun R_6 H1 locs1 hR_6 hP1 hD1 hS1 hk1 => ?_)
    have hR_6 : R_6 = (upr (fun i => (upr (upr (upr P 0 (ups (ups (ups (ups (P 0) 0 (P 10 0)) 1 (P 10 1)) 2 (P 10 2)) 3 (P 10 3))) 1 (cpyI ((P 1)) ((P 11)) 0 (12 : Int))) 2 (cpyI ((P 2)) ((P 12)) 0 (144 : Int))) (cond (Nat.ble 10 i) (i - 7) (i + 13))) 10 (cpyI ((P 3)) ((P 13)) 0 (144 : Int))) := hR_6
    subst hR_6
    have hDn : va_D (va_A (pl2W cy a P) sz) (pl2W cy a (upr (upr (upr (upr P 0 (ups (ups (ups (ups (P 0) 0 (P 10 0)) 1 (P 10 1)) 2 (P 10 2)) 3 (P 10 3))) 1 (cpyI ((P 1)) ((P 11)) 0 (12 : Int))) 2 (cpyI ((P 2)) ((P 12)) 0 (144 : Int))) 3 (cpyI ((P 3)) ((P 13)) 0 (144 : Int)))) := k_addr hD rfl
    have hPn := k_join (ws' := (pl2W cy a (upr (upr (upr (upr P 0 (ups (ups (ups (ups (P 0) 0 (P 10 0)) 1 (P 10 1)) 2 (P 10 2)) 3 (P 10 3))) 1 (cpyI ((P 1)) ((P 11)) 0 (12 : Int))) 2 (cpyI ((P 2)) ((P 12)) 0 (144 : Int))) 3 (cpyI ((P 3)) ((P 13)) 0 (144 : Int))))) hP hD [12, 3] [none, none, none, some 1, none, none, none, none, none, none, none, none, some 0, none, none, none, none, none] rfl hk1 hP1 rfl rfl
    clear hP hD hS hP1 hD1 hk1
    have hP := hPn
    have hD := hDn
    have hS := hS1
    clear hPn hDn hS1
    generalize H1 = H at hP hS ⊢
    generalize locs1 = locs at hS ⊢
    refine lv_aload_n hx hb dX4_copyFrom_65 rfl (lv_at hl 1 rfl) ?_
    refine va_get (D := D) (ci := 3) (v := .ref (a 14)) (C := RX4) (T := TX4) (N := 12) hx hb hts hinX4 hown hK hP 9 rfl rfl 7 (by decide) hm7 (fun _ h9 => h9) rfl dX4_copyFrom_66 ?_
    refine lv_aload_n hx hb dX4_copyFrom_69 rfl (lv_at hl 0 rfl) ?_
    refine va_get (D := D) (ci := 3) (v := .ref (a 4)) (C := RX4) (T := TX4) (N := 12) hx hb hts hinX4 hown hK hP 0 rfl rfl 7 (by decide) hm7 (fun _ h9 => h9) rfl dX4_copyFrom_70 ?_
    have hPc := hP.sub (ws' := (ar2W 144 cy (fun i => a (cond (Nat.ble 10 i) (i - 6) (i + 14))) (fun i => (upr (upr (upr (upr P 0 (ups (ups (ups (ups (P 0) 0 (P 10 0)) 1 (P 10 1)) 2 (P 10 2)) 3 (P 10 3))) 1 (cpyI ((P 1)) ((P 11)) 0 (12 : Int))) 2 (cpyI ((P 2)) ((P 12)) 0 (144 : Int))) 3 (cpyI ((P 3)) ((P 13)) 0 (144 : Int))) (cond (Nat.ble 10 i) (i - 6) (i + 14))))) [13, 4] rfl
    have hDc := hD.sub (ws' := (ar2W 144 cy (fun i => a (cond (Nat.ble 10 i) (i - 6) (i + 14))) (fun i => (upr (upr (upr (upr P 0 (ups (ups (ups (ups (P 0) 0 (P 10 0)) 1 (P 10 1)) 2 (P 10 2)) 3 (P 10 3))) 1 (cpyI ((P 1)) ((P 11)) 0 (12 : Int))) 2 (cpyI ((P 2)) ((P 12)) 0 (144 : Int))) 3 (cpyI ((P 3)) ((P 13)) 0 (144 : Int))) (cond (Nat.ble 10 i) (i - 6) (i + 14))))) [13, 4] (by decide) rfl
    have hFc := va_free (wc := (ar2W 144 cy (fun i => a (cond (Nat.ble 10 i) (i - 6) (i + 14))) (fun i => (upr (upr (upr (upr P 0 (ups (ups (ups (ups (P 0) 0 (P 10 0)) 1 (P 10 1)) 2 (P 10 2)) 3 (P 10 3))) 1 (cpyI ((P 1)) ((P 11)) 0 (12 : Int))) 2 (cpyI ((P 2)) ((P 12)) 0 (144 : Int))) 3 (cpyI ((P 3)) ((P 13)) 0 (144 : Int))) (cond (Nat.ble 10 i) (i - 6) (i + 14))))) hD hS hA [13, 4] rfl
    refine k_muv (k_runS (As := [.ref (a 14), .ref (a 4)]) (rest := []) ⟨hx, hb, hml, hown, hts⟩ (c_X4_copyRow l D cy H.size (fun i => a (cond (Nat.ble 10 i) (i - 6) (i + 14))) (fun i => (upr (upr (upr (upr P 0 (ups (ups (ups (ups (P 0) 0 (P 10 0)) 1 (P 10 1)) 2 (P 10 2)) 3 (P 10 3))) 1 (cpyI ((P 1)) ((P 11)) 0 (12 : Int))) 2 (cpyI ((P 2)) ((P 12)) 0 (144 : Int))) 3 (cpyI ((P 3)) ((P 13)) 0 (144 : Int))) (cond (Nat.ble 10 i) (i - 6) (i + 14))) 144 (show (144 : Int) ≤ 1000 by omega)) gX4_copyFrom_X4_copyRow rfl ⟨rfl, rfl⟩ 2 rfl (by decide +kernel) ⟨Nat.le_of_ble_eq_true rfl, Nat.le_of_ble_eq_true rfl⟩ (GG_ok D cy) hG hS hFc hPc hDc hl.1 rfl (Nat.le_of_ble_eq_true rfl) ⟨Nat.le_of_ble_eq_true rfl, Nat.le_of_ble_eq_true rfl⟩ dX4_copyFrom_73) hFc hS (fun R_8 H1 locs1 hR_8 hP1 hD1 hS1 hk1 => ?_)
    have hR_8 : R_8 = (upr (fun i => (upr (upr (upr (upr P 0 (ups (ups (ups (ups (P 0) 0 (P 10 0)) 1 (P 10 1)) 2 (P 10 2)) 3 (P 10 3))) 1 (cpyI ((P 1)) ((P 11)) 0 (12 : Int))) 2 (cpyI ((P 2)) ((P 12)) 0 (144 : Int))) 3 (cpyI ((P 3)) ((P 13)) 0 (144 : Int))) (cond (Nat.ble 10 i) (i - 6) (i + 14))) 10 (cpyI ((P 4)) ((P 14)) 0 (144 : Int))) := hR_8
    subst hR_8
    have hDn : va_D (va_A (pl2W cy a P) sz) (pl2W cy a (upr (upr (upr (upr (upr P 0 (ups (ups (ups (ups (P 0) 0 (P 10 0)) 1 (P 10 1)) 2 (P 10 2)) 3 (P 10 3))) 1 (cpyI ((P 1)) ((P 11)) 0 (12 : Int))) 2 (cpyI ((P 2)) ((P 12)) 0 (144 : Int))) 3 (cpyI ((P 3)) ((P 13)) 0 (144 : Int))) 4 (cpyI ((P 4)) ((P 14)) 0 (144 : Int)))) := k_addr hD rfl
    have hPn := k_join (ws' := (pl2W cy a (upr (upr (upr (upr (upr P 0 (ups (ups (ups (ups (P 0) 0 (P 10 0)) 1 (P 10 1)) 2 (P 10 2)) 3 (P 10 3))) 1 (cpyI ((P 1)) ((P 11)) 0 (12 : Int))) 2 (cpyI ((P 2)) ((P 12)) 0 (144 : Int))) 3 (cpyI ((P 3)) ((P 13)) 0 (144 : Int))) 4 (cpyI ((P 4)) ((P 14)) 0 (144 : Int))))) hP hD [13, 4] [none, none, none, none, some 1, none, none, none, none, none, none, none, none, some 0, none, none, none, none] rfl hk1 hP1 rfl rfl
    clear hP hD hS hP1 hD1 hk1
    have hP := hPn
    have hD := hDn
    have hS := hS1
    clear hPn hDn hS1
    generalize H1 = H at hP hS ⊢
    generalize locs1 = locs at hS ⊢
    refine lv_aload_n hx hb dX4_copyFrom_76 rfl (lv_at hl 1 rfl) ?_
    refine va_get (D := D) (ci := 3) (v := .ref (a 15)) (C := RX4) (T := TX4) (N := 12) hx hb hts hinX4 hown hK hP 9 rfl rfl 8 (by decide) hm8 (fun _ h9 => h9) rfl dX4_copyFrom_77 ?_
    refine lv_aload_n hx hb dX4_copyFrom_80 rfl (lv_at hl 0 rfl) ?_
    refine va_get (D := D) (ci := 3) (v := .ref (a 5)) (C := RX4) (T := TX4) (N := 12) hx hb hts hinX4 hown hK hP 0 rfl rfl 8 (by decide) hm8 (fun _ h9 => h9) rfl dX4_copyFrom_81 ?_
    have hPc := hP.sub (ws' := (ar2W 12 cy (fun i => a (cond (Nat.ble 10 i) (i - 5) (i + 15))) (fun i => (upr (upr (upr (upr (upr P 0 (ups (ups (ups (ups (P 0) 0 (P 10 0)) 1 (P 10 1)) 2 (P 10 2)) 3 (P 10 3))) 1 (cpyI ((P 1)) ((P 11)) 0 (12 : Int))) 2 (cpyI ((P 2)) ((P 12)) 0 (144 : Int))) 3 (cpyI ((P 3)) ((P 13)) 0 (144 : Int))) 4 (cpyI ((P 4)) ((P 14)) 0 (144 : Int))) (cond (Nat.ble 10 i) (i - 5) (i + 15))))) [14, 5] rfl
    have hDc := hD.sub (ws' := (ar2W 12 cy (fun i => a (cond (Nat.ble 10 i) (i - 5) (i + 15))) (fun i => (upr (upr (upr (upr (upr P 0 (ups (ups (ups (ups (P 0) 0 (P 10 0)) 1 (P 10 1)) 2 (P 10 2)) 3 (P 10 3))) 1 (cpyI ((P 1)) ((P 11)) 0 (12 : Int))) 2 (cpyI ((P 2)) ((P 12)) 0 (144 : Int))) 3 (cpyI ((P 3)) ((P 13)) 0 (144 : Int))) 4 (cpyI ((P 4)) ((P 14)) 0 (144 : Int))) (cond (Nat.ble 10 i) (i - 5) (i + 15))))) [14, 5] (by decide) rfl
    have hFc := va_free (wc := (ar2W 12 cy (fun i => a (cond (Nat.ble 10 i) (i - 5) (i + 15))) (fun i => (upr (upr (upr (upr (upr P 0 (ups (ups (ups (ups (P 0) 0 (P 10 0)) 1 (P 10 1)) 2 (P 10 2)) 3 (P 10 3))) 1 (cpyI ((P 1)) ((P 11)) 0 (12 : Int))) 2 (cpyI ((P 2)) ((P 12)) 0 (144 : Int))) 3 (cpyI ((P 3)) ((P 13)) 0 (144 : Int))) 4 (cpyI ((P 4)) ((P 14)) 0 (144 : Int))) (cond (Nat.ble 10 i) (i - 5) (i + 15))))) hD hS hA [14, 5] rfl
    refine k_muv (k_runS (As := [.ref (a 15), .ref (a 5)]) (rest := []) ⟨hx, hb, hml, hown, hts⟩ (c_X4_copyRow l D cy H.size (fun i => a (cond (Nat.ble 10 i) (i - 5) (i + 15))) (fun i => (upr (upr (upr (upr (upr P 0 (ups (ups (ups (ups (P 0) 0 (P 10 0)) 1 (P 10 1)) 2 (P 10 2)) 3 (P 10 3))) 1 (cpyI ((P 1)) ((P 11)) 0 (12 : Int))) 2 (cpyI ((P 2)) ((P 12)) 0 (144 : Int))) 3 (cpyI ((P 3)) ((P 13)) 0 (144 : Int))) 4 (cpyI ((P 4)) ((P 14)) 0 (144 : Int))) (cond (Nat.ble 10 i) (i - 5) (i + 15))) 12 (show (12 : Int) ≤ 1000 by omega)) gX4_copyFrom_X4_copyRow rfl ⟨rfl, rfl⟩ 2 rfl (by decide +kernel) ⟨Nat.le_of_ble_eq_true rfl, Nat.le_of_ble_eq_true rfl⟩ (GG_ok D cy) hG hS hFc hPc hDc hl.1 rfl (Nat.le_of_ble_eq_true rfl) ⟨Nat.le_of_ble_eq_true rfl, Nat.le_of_ble_eq_true rfl⟩ dX4_copyFrom_84) hFc hS (fun R_10 H1 locs1 hR_10 hP1 hD1 hS1 hk1 => ?_)
    have hR_10 : R_10 = (upr (fun i => (upr (upr (upr (upr (upr P 0 (ups (ups (ups (ups (P 0) 0 (P 10 0)) 1 (P 10 1)) 2 (P 10 2)) 3 (P 10 3))) 1 (cpyI ((P 1)) ((P 11)) 0 (12 : Int))) 2 (cpyI ((P 2)) ((P 12)) 0 (144 : Int))) 3 (cpyI ((P 3)) ((P 13)) 0 (144 : Int))) 4 (cpyI ((P 4)) ((P 14)) 0 (144 : Int))) (cond (Nat.ble 10 i) (i - 5) (i + 15))) 10 (cpyI ((P 5)) ((P 15)) 0 (12 : Int))) := hR_10
    subst hR_10
    have hDn : va_D (va_A (pl2W cy a P) sz) (pl2W cy a (upr (upr (upr (upr (upr (upr P 0 (ups (ups (ups (ups (P 0) 0 (P 10 0)) 1 (P 10 1)) 2 (P 10 2)) 3 (P 10 3))) 1 (cpyI ((P 1)) ((P 11)) 0 (12 : Int))) 2 (cpyI ((P 2)) ((P 12)) 0 (144 : Int))) 3 (cpyI ((P 3)) ((P 13)) 0 (144 : Int))) 4 (cpyI ((P 4)) ((P 14)) 0 (144 : Int))) 5 (cpyI ((P 5)) ((P 15)) 0 (12 : Int)))) := k_addr hD rfl
    have hPn := k_join (ws' := (pl2W cy a (upr (upr (upr (upr (upr (upr P 0 (ups (ups (ups (ups (P 0) 0 (P 10 0)) 1 (P 10 1)) 2 (P 10 2)) 3 (P 10 3))) 1 (cpyI ((P 1)) ((P 11)) 0 (12 : Int))) 2 (cpyI ((P 2)) ((P 12)) 0 (144 : Int))) 3 (cpyI ((P 3)) ((P 13)) 0 (144 : Int))) 4 (cpyI ((P 4)) ((P 14)) 0 (144 : Int))) 5 (cpyI ((P 5)) ((P 15)) 0 (12 : Int))))) hP hD [14, 5] [none, none, none, none, none, some 1, none, none, none, none, none, none, none, none, some 0, none, none, none] rfl hk1 hP1 rfl rfl
    clear hP hD hS hP1 hD1 hk1
    have hP := hPn
    have hD := hDn
    have hS := hS1
    clear hPn hDn hS1
    generalize H1 = H at hP hS ⊢
    generalize locs1 = locs at hS ⊢
    refine lv_aload_n hx hb dX4_copyFrom_87 rfl (lv_at hl 1 rfl) ?_
    refine va_get (D := D) (ci := 3) (v := .ref (a 16)) (C := RX4) (T := TX4) (N := 12) hx hb hts hinX4 hown hK hP 9 rfl rfl 9 (by decide) hm9 (fun _ h9 => h9) rfl dX4_copyFrom_88 ?_
    refine lv_aload_n hx hb dX4_copyFrom_91 rfl (lv_at hl 0 rfl) ?_
    refine va_get (D := D) (ci := 3) (v := .ref (a 6)) (C := RX4) (T := TX4) (N := 12) hx hb hts hinX4 hown hK hP 0 rfl rfl 9 (by decide) hm9 (fun _ h9 => h9) rfl dX4_copyFrom_92 ?_
    have hPc := hP.sub (ws' := (ar2W 12 cy (fun i => a (cond (Nat.ble 10 i) (i - 4) (i + 16))) (fun i => (upr (upr (upr (upr (upr (upr P 0 (ups (ups (ups (ups (P 0) 0 (P 10 0)) 1 (P 10 1)) 2 (P 10 2)) 3 (P 10 3))) 1 (cpyI ((P 1)) ((P 11)) 0 (12 : Int))) 2 (cpyI ((P 2)) ((P 12)) 0 (144 : Int))) 3 (cpyI ((P 3)) ((P 13)) 0 (144 : Int))) 4 (cpyI ((P 4)) ((P 14)) 0 (144 : Int))) 5 (cpyI ((P 5)) ((P 15)) 0 (12 : Int))) (cond (Nat.ble 10 i) (i - 4) (i + 16))))) [15, 6] rfl
    have hDc := hD.sub (ws' := (ar2W 12 cy (fun i => a (cond (Nat.ble 10 i) (i - 4) (i + 16))) (fun i => (upr (upr (upr (upr (upr (upr P 0 (ups (ups (ups (ups (P 0) 0 (P 10 0)) 1 (P 10 1)) 2 (P 10 2)) 3 (P 10 3))) 1 (cpyI ((P 1)) ((P 11)) 0 (12 : Int))) 2 (cpyI ((P 2)) ((P 12)) 0 (144 : Int))) 3 (cpyI ((P 3)) ((P 13)) 0 (144 : Int))) 4 (cpyI ((P 4)) ((P 14)) 0 (144 : Int))) 5 (cpyI ((P 5)) ((P 15)) 0 (12 : Int))) (cond (Nat.ble 10 i) (i - 4) (i + 16))))) [15, 6] (by decide) rfl
    have hFc := va_free (wc := (ar2W 12 cy (fun i => a (cond (Nat.ble 10 i) (i - 4) (i + 16))) (fun i => (upr (upr (upr (upr (upr (upr P 0 (ups (ups (ups (ups (P 0) 0 (P 10 0)) 1 (P 10 1)) 2 (P 10 2)) 3 (P 10 3))) 1 (cpyI ((P 1)) ((P 11)) 0 (12 : Int))) 2 (cpyI ((P 2)) ((P 12)) 0 (144 : Int))) 3 (cpyI ((P 3)) ((P 13)) 0 (144 : Int))) 4 (cpyI ((P 4)) ((P 14)) 0 (144 : Int))) 5 (cpyI ((P 5)) ((P 15)) 0 (12 : Int))) (cond (Nat.ble 10 i) (i - 4) (i + 16))))) hD hS hA [15, 6] rfl
    refine k_muv (k_runS (As := [.ref (a 16), .ref (a 6)]) (rest := []) ⟨hx, hb, hml, hown, hts⟩ (c_X4_copyRow l D cy H.size (fun i => a (cond (Nat.ble 10 i) (i - 4) (i + 16))) (fun i => (upr (upr (upr (upr (upr (upr P 0 (ups (ups (ups (ups (P 0) 0 (P 10 0)) 1 (P 10 1)) 2 (P 10 2)) 3 (P 10 3))) 1 (cpyI ((P 1)) ((P 11)) 0 (12 : Int))) 2 (cpyI ((P 2)) ((P 12)) 0 (144 : Int))) 3 (cpyI ((P 3)) ((P 13)) 0 (144 : Int))) 4 (cpyI ((P 4)) ((P 14)) 0 (144 : Int))) 5 (cpyI ((P 5)) ((P 15)) 0 (12 : Int))) (cond (Nat.ble 10 i) (i - 4) (i + 16))) 12 (show (12 : Int) ≤ 1000 by omega)) gX4_copyFrom_X4_copyRow rfl ⟨rfl, rfl⟩ 2 rfl (by decide +kernel) ⟨Nat.le_of_ble_eq_true rfl, Nat.le_of_ble_eq_true rfl⟩ (GG_ok D cy) hG hS hFc hPc hDc hl.1 rfl (Nat.le_of_ble_eq_true rfl) ⟨Nat.le_of_ble_eq_true rfl, Nat.le_of_ble_eq_true rfl⟩ dX4_copyFrom_95) hFc hS (fun R_12 H1 locs1 hR_12 hP1 hD1 hS1 hk1 => ?_)
    have hR_12 : R_12 = (upr (fun i => (upr (upr (upr (upr (upr (upr P 0 (ups (ups (ups (ups (P 0) 0 (P 10 0)) 1 (P 10 1)) 2 (P 10 2)) 3 (P 10 3))) 1 (cpyI ((P 1)) ((P 11)) 0 (12 : Int))) 2 (cpyI ((P 2)) ((P 12)) 0 (144 : Int))) 3 (cpyI ((P 3)) ((P 13)) 0 (144 : Int))) 4 (cpyI ((P 4)) ((P 14)) 0 (144 : Int))) 5 (cpyI ((P 5)) ((P 15)) 0 (12 : Int))) (cond (Nat.ble 10 i) (i - 4) (i + 16))) 10 (cpyI ((P 6)) ((P 16)) 0 (12 : Int))) := hR_12
    subst hR_12
    have hDn : va_D (va_A (pl2W cy a P) sz) (pl2W cy a (upr (upr (upr (upr (upr (upr (upr P 0 (ups (ups (ups (ups (P 0) 0 (P 10 0)) 1 (P 10 1)) 2 (P 10 2)) 3 (P 10 3))) 1 (cpyI ((P 1)) ((P 11)) 0 (12 : Int))) 2 (cpyI ((P 2)) ((P 12)) 0 (144 : Int))) 3 (cpyI ((P 3)) ((P 13)) 0 (144 : Int))) 4 (cpyI ((P 4)) ((P 14)) 0 (144 : Int))) 5 (cpyI ((P 5)) ((P 15)) 0 (12 : Int))) 6 (cpyI ((P 6)) ((P 16)) 0 (12 : Int)))) := k_addr hD rfl
    have hPn := k_join (ws' := (pl2W cy a (upr (upr (upr (upr (upr (upr (upr P 0 (ups (ups (ups (ups (P 0) 0 (P 10 0)) 1 (P 10 1)) 2 (P 10 2)) 3 (P 10 3))) 1 (cpyI ((P 1)) ((P 11)) 0 (12 : Int))) 2 (cpyI ((P 2)) ((P 12)) 0 (144 : Int))) 3 (cpyI ((P 3)) ((P 13)) 0 (144 : Int))) 4 (cpyI ((P 4)) ((P 14)) 0 (144 : Int))) 5 (cpyI ((P 5)) ((P 15)) 0 (12 : Int))) 6 (cpyI ((P 6)) ((P 16)) 0 (12 : Int))))) hP hD [15, 6] [none, none, none, none, none, none, some 1, none, none, none, none, none, none, none, none, some 0, none, none] rfl hk1 hP1 rfl rfl
    clear hP hD hS hP1 hD1 hk1
    have hP := hPn
    have hD := hDn
    have hS := hS1
    clear hPn hDn hS1
    generalize H1 = H at hP hS ⊢
    generalize locs1 = locs at hS ⊢
    refine lv_aload_n hx hb dX4_copyFrom_98 rfl (lv_at hl 1 rfl) ?_
    refine va_get (D := D) (ci := 3) (v := .ref (a 17)) (C := RX4) (T := TX4) (N := 12) hx hb hts hinX4 hown hK hP 9 rfl rfl 10 (by decide) hm10 (fun _ h9 => h9) rfl dX4_copyFrom_99 ?_
    refine lv_aload_n hx hb dX4_copyFrom_102 rfl (lv_at hl 0 rfl) ?_
    refine va_get (D := D) (ci := 3) (v := .ref (a 7)) (C := RX4) (T := TX4) (N := 12) hx hb hts hinX4 hown hK hP 0 rfl rfl 10 (by decide) hm10 (fun _ h9 => h9) rfl dX4_copyFrom_103 ?_
    have hPc := hP.sub (ws' := (ar2W 12 cy (fun i => a (cond (Nat.ble 10 i) (i - 3) (i + 17))) (fun i => (upr (upr (upr (upr (upr (upr (upr P 0 (ups (ups (ups (ups (P 0) 0 (P 10 0)) 1 (P 10 1)) 2 (P 10 2)) 3 (P 10 3))) 1 (cpyI ((P 1)) ((P 11)) 0 (12 : Int))) 2 (cpyI ((P 2)) ((P 12)) 0 (144 : Int))) 3 (cpyI ((P 3)) ((P 13)) 0 (144 : Int))) 4 (cpyI ((P 4)) ((P 14)) 0 (144 : Int))) 5 (cpyI ((P 5)) ((P 15)) 0 (12 : Int))) 6 (cpyI ((P 6)) ((P 16)) 0 (12 : Int))) (cond (Nat.ble 10 i) (i - 3) (i + 17))))) [16, 7] rfl
    have hDc := hD.sub (ws' := (ar2W 12 cy (fun i => a (cond (Nat.ble 10 i) (i - 3) (i + 17))) (fun i => (upr (upr (upr (upr (upr (upr (upr P 0 (ups (ups (ups (ups (P 0) 0 (P 10 0)) 1 (P 10 1)) 2 (P 10 2)) 3 (P 10 3))) 1 (cpyI ((P 1)) ((P 11)) 0 (12 : Int))) 2 (cpyI ((P 2)) ((P 12)) 0 (144 : Int))) 3 (cpyI ((P 3)) ((P 13)) 0 (144 : Int))) 4 (cpyI ((P 4)) ((P 14)) 0 (144 : Int))) 5 (cpyI ((P 5)) ((P 15)) 0 (12 : Int))) 6 (cpyI ((P 6)) ((P 16)) 0 (12 : Int))) (cond (Nat.ble 10 i) (i - 3) (i + 17))))) [16, 7] (by decide) rfl
    have hFc := va_free (wc := (ar2W 12 cy (fun i => a (cond (Nat.ble 10 i) (i - 3) (i + 17))) (fun i => (upr (upr (upr (upr (upr (upr (upr P 0 (ups (ups (ups (ups (P 0) 0 (P 10 0)) 1 (P 10 1)) 2 (P 10 2)) 3 (P 10 3))) 1 (cpyI ((P 1)) ((P 11)) 0 (12 : Int))) 2 (cpyI ((P 2)) ((P 12)) 0 (144 : Int))) 3 (cpyI ((P 3)) ((P 13)) 0 (144 : Int))) 4 (cpyI ((P 4)) ((P 14)) 0 (144 : Int))) 5 (cpyI ((P 5)) ((P 15)) 0 (12 : Int))) 6 (cpyI ((P 6)) ((P 16)) 0 (12 : Int))) (cond (Nat.ble 10 i) (i - 3) (i + 17))))) hD hS hA [16, 7] rfl
    refine k_muv (k_runS (As := [.ref (a 17), .ref (a 7)]) (rest := []) ⟨hx, hb, hml, hown, hts⟩ (c_X4_copyRow l D cy H.size (fun i => a (cond (Nat.ble 10 i) (i - 3) (i + 17))) (fun i => (upr (upr (upr (upr (upr (upr (upr P 0 (ups (ups (ups (ups (P 0) 0 (P 10 0)) 1 (P 10 1)) 2 (P 10 2)) 3 (P 10 3))) 1 (cpyI ((P 1)) ((P 11)) 0 (12 : Int))) 2 (cpyI ((P 2)) ((P 12)) 0 (144 : Int))) 3 (cpyI ((P 3)) ((P 13)) 0 (144 : Int))) 4 (cpyI ((P 4)) ((P 14)) 0 (144 : Int))) 5 (cpyI ((P 5)) ((P 15)) 0 (12 : Int))) 6 (cpyI ((P 6)) ((P 16)) 0 (12 : Int))) (cond (Nat.ble 10 i) (i - 3) (i + 17))) 12 (show (12 : Int) ≤ 1000 by omega)) gX4_copyFrom_X4_copyRow rfl ⟨rfl, rfl⟩ 2 rfl (by decide +kernel) ⟨Nat.le_of_ble_eq_true rfl, Nat.le_of_ble_eq_true rfl⟩ (GG_ok D cy) hG hS hFc hPc hDc hl.1 rfl (Nat.le_of_ble_eq_true rfl) ⟨Nat.le_of_ble_eq_true rfl, Nat.le_of_ble_eq_true rfl⟩ dX4_copyFrom_106) hFc hS (fun R_14 H1 locs1 hR_14 hP1 hD1 hS1 hk1 => ?_)
    have hR_14 : R_14 = (upr (fun i => (upr (upr (upr (upr (upr (upr (upr P 0 (ups (ups (ups (ups (P 0) 0 (P 10 0)) 1 (P 10 1)) 2 (P 10 2)) 3 (P 10 3))) 1 (cpyI ((P 1)) ((P 11)) 0 (12 : Int))) 2 (cpyI ((P 2)) ((P 12)) 0 (144 : Int))) 3 (cpyI ((P 3)) ((P 13)) 0 (144 : Int))) 4 (cpyI ((P 4)) ((P 14)) 0 (144 : Int))) 5 (cpyI ((P 5)) ((P 15)) 0 (12 : Int))) 6 (cpyI ((P 6)) ((P 16)) 0 (12 : Int))) (cond (Nat.ble 10 i) (i - 3) (i + 17))) 10 (cpyI ((P 7)) ((P 17)) 0 (12 : Int))) := hR_14
    subst hR_14
    have hDn : va_D (va_A (pl2W cy a P) sz) (pl2W cy a (upr (upr (upr (upr (upr (upr (upr (upr P 0 (ups (ups (ups (ups (P 0) 0 (P 10 0)) 1 (P 10 1)) 2 (P 10 2)) 3 (P 10 3))) 1 (cpyI ((P 1)) ((P 11)) 0 (12 : Int))) 2 (cpyI ((P 2)) ((P 12)) 0 (144 : Int))) 3 (cpyI ((P 3)) ((P 13)) 0 (144 : Int))) 4 (cpyI ((P 4)) ((P 14)) 0 (144 : Int))) 5 (cpyI ((P 5)) ((P 15)) 0 (12 : Int))) 6 (cpyI ((P 6)) ((P 16)) 0 (12 : Int))) 7 (cpyI ((P 7)) ((P 17)) 0 (12 : Int)))) := k_addr hD rfl
    have hPn := k_join (ws' := (pl2W cy a (upr (upr (upr (upr (upr (upr (upr (upr P 0 (ups (ups (ups (ups (P 0) 0 (P 10 0)) 1 (P 10 1)) 2 (P 10 2)) 3 (P 10 3))) 1 (cpyI ((P 1)) ((P 11)) 0 (12 : Int))) 2 (cpyI ((P 2)) ((P 12)) 0 (144 : Int))) 3 (cpyI ((P 3)) ((P 13)) 0 (144 : Int))) 4 (cpyI ((P 4)) ((P 14)) 0 (144 : Int))) 5 (cpyI ((P 5)) ((P 15)) 0 (12 : Int))) 6 (cpyI ((P 6)) ((P 16)) 0 (12 : Int))) 7 (cpyI ((P 7)) ((P 17)) 0 (12 : Int))))) hP hD [16, 7] [none, none, none, none, none, none, none, some 1, none, none, none, none, none, none, none, none, some 0, none] rfl hk1 hP1 rfl rfl
    clear hP hD hS hP1 hD1 hk1
    have hP := hPn
    have hD := hDn
    have hS := hS1
    clear hPn hDn hS1
    generalize H1 = H at hP hS ⊢
    generalize locs1 = locs at hS ⊢
    refine lv_aload_n hx hb dX4_copyFrom_109 rfl (lv_at hl 1 rfl) ?_
    refine va_get (D := D) (ci := 3) (v := .ref (a 18)) (C := RX4) (T := TX4) (N := 12) hx hb hts hinX4 hown hK hP 9 rfl rfl 11 (by decide) hm11 (fun _ h9 => h9) rfl dX4_copyFrom_110 ?_
    refine lv_aload_n hx hb dX4_copyFrom_113 rfl (lv_at hl 0 rfl) ?_
    refine va_get (D := D) (ci := 3) (v := .ref (a 8)) (C := RX4) (T := TX4) (N := 12) hx hb hts hinX4 hown hK hP 0 rfl rfl 11 (by decide) hm11 (fun _ h9 => h9) rfl dX4_copyFrom_114 ?_
    have hPc := hP.sub (ws' := (ar2W 10 cy (fun i => a (cond (Nat.ble 10 i) (i - 2) (i + 18))) (fun i => (upr (upr (upr (upr (upr (upr (upr (upr P 0 (ups (ups (ups (ups (P 0) 0 (P 10 0)) 1 (P 10 1)) 2 (P 10 2)) 3 (P 10 3))) 1 (cpyI ((P 1)) ((P 11)) 0 (12 : Int))) 2 (cpyI ((P 2)) ((P 12)) 0 (144 : Int))) 3 (cpyI ((P 3)) ((P 13)) 0 (144 : Int))) 4 (cpyI ((P 4)) ((P 14)) 0 (144 : Int))) 5 (cpyI ((P 5)) ((P 15)) 0 (12 : Int))) 6 (cpyI ((P 6)) ((P 16)) 0 (12 : Int))) 7 (cpyI ((P 7)) ((P 17)) 0 (12 : Int))) (cond (Nat.ble 10 i) (i - 2) (i + 18))))) [17, 8] rfl
    have hDc := hD.sub (ws' := (ar2W 10 cy (fun i => a (cond (Nat.ble 10 i) (i - 2) (i + 18))) (fun i => (upr (upr (upr (upr (upr (upr (upr (upr P 0 (ups (ups (ups (ups (P 0) 0 (P 10 0)) 1 (P 10 1)) 2 (P 10 2)) 3 (P 10 3))) 1 (cpyI ((P 1)) ((P 11)) 0 (12 : Int))) 2 (cpyI ((P 2)) ((P 12)) 0 (144 : Int))) 3 (cpyI ((P 3)) ((P 13)) 0 (144 : Int))) 4 (cpyI ((P 4)) ((P 14)) 0 (144 : Int))) 5 (cpyI ((P 5)) ((P 15)) 0 (12 : Int))) 6 (cpyI ((P 6)) ((P 16)) 0 (12 : Int))) 7 (cpyI ((P 7)) ((P 17)) 0 (12 : Int))) (cond (Nat.ble 10 i) (i - 2) (i + 18))))) [17, 8] (by decide) rfl
    have hFc := va_free (wc := (ar2W 10 cy (fun i => a (cond (Nat.ble 10 i) (i - 2) (i + 18))) (fun i => (upr (upr (upr (upr (upr (upr (upr (upr P 0 (ups (ups (ups (ups (P 0) 0 (P 10 0)) 1 (P 10 1)) 2 (P 10 2)) 3 (P 10 3))) 1 (cpyI ((P 1)) ((P 11)) 0 (12 : Int))) 2 (cpyI ((P 2)) ((P 12)) 0 (144 : Int))) 3 (cpyI ((P 3)) ((P 13)) 0 (144 : Int))) 4 (cpyI ((P 4)) ((P 14)) 0 (144 : Int))) 5 (cpyI ((P 5)) ((P 15)) 0 (12 : Int))) 6 (cpyI ((P 6)) ((P 16)) 0 (12 : Int))) 7 (cpyI ((P 7)) ((P 17)) 0 (12 : Int))) (cond (Nat.ble 10 i) (i - 2) (i + 18))))) hD hS hA [17, 8] rfl
    refine k_muv (k_runS (As := [.ref (a 18), .ref (a 8)]) (rest := []) ⟨hx, hb, hml, hown, hts⟩ (c_X4_copyRow l D cy H.size (fun i => a (cond (Nat.ble 10 i) (i - 2) (i + 18))) (fun i => (upr (upr (upr (upr (upr (upr (upr (upr P 0 (ups (ups (ups (ups (P 0) 0 (P 10 0)) 1 (P 10 1)) 2 (P 10 2)) 3 (P 10 3))) 1 (cpyI ((P 1)) ((P 11)) 0 (12 : Int))) 2 (cpyI ((P 2)) ((P 12)) 0 (144 : Int))) 3 (cpyI ((P 3)) ((P 13)) 0 (144 : Int))) 4 (cpyI ((P 4)) ((P 14)) 0 (144 : Int))) 5 (cpyI ((P 5)) ((P 15)) 0 (12 : Int))) 6 (cpyI ((P 6)) ((P 16)) 0 (12 : Int))) 7 (cpyI ((P 7)) ((P 17)) 0 (12 : Int))) (cond (Nat.ble 10 i) (i - 2) (i + 18))) 10 (show (10 : Int) ≤ 1000 by omega)) gX4_copyFrom_X4_copyRow rfl ⟨rfl, rfl⟩ 2 rfl (by decide +kernel) ⟨Nat.le_of_ble_eq_true rfl, Nat.le_of_ble_eq_true rfl⟩ (GG_ok D cy) hG hS hFc hPc hDc hl.1 rfl (Nat.le_of_ble_eq_true rfl) ⟨Nat.le_of_ble_eq_true rfl, Nat.le_of_ble_eq_true rfl⟩ dX4_copyFrom_117) hFc hS (fun R_16 H1 locs1 hR_16 hP1 hD1 hS1 hk1 => ?_)
    have hR_16 : R_16 = (upr (fun i => (upr (upr (upr (upr (upr (upr (upr (upr P 0 (ups (ups (ups (ups (P 0) 0 (P 10 0)) 1 (P 10 1)) 2 (P 10 2)) 3 (P 10 3))) 1 (cpyI ((P 1)) ((P 11)) 0 (12 : Int))) 2 (cpyI ((P 2)) ((P 12)) 0 (144 : Int))) 3 (cpyI ((P 3)) ((P 13)) 0 (144 : Int))) 4 (cpyI ((P 4)) ((P 14)) 0 (144 : Int))) 5 (cpyI ((P 5)) ((P 15)) 0 (12 : Int))) 6 (cpyI ((P 6)) ((P 16)) 0 (12 : Int))) 7 (cpyI ((P 7)) ((P 17)) 0 (12 : Int))) (cond (Nat.ble 10 i) (i - 2) (i + 18))) 10 (cpyI ((P 8)) ((P 18)) 0 (10 : Int))) := hR_16
    subst hR_16
    have hDn : va_D (va_A (pl2W cy a P) sz) (pl2W cy a (upr (upr (upr (upr (upr (upr (upr (upr (upr P 0 (ups (ups (ups (ups (P 0) 0 (P 10 0)) 1 (P 10 1)) 2 (P 10 2)) 3 (P 10 3))) 1 (cpyI ((P 1)) ((P 11)) 0 (12 : Int))) 2 (cpyI ((P 2)) ((P 12)) 0 (144 : Int))) 3 (cpyI ((P 3)) ((P 13)) 0 (144 : Int))) 4 (cpyI ((P 4)) ((P 14)) 0 (144 : Int))) 5 (cpyI ((P 5)) ((P 15)) 0 (12 : Int))) 6 (cpyI ((P 6)) ((P 16)) 0 (12 : Int))) 7 (cpyI ((P 7)) ((P 17)) 0 (12 : Int))) 8 (cpyI ((P 8)) ((P 18)) 0 (10 : Int)))) := k_addr hD rfl
    have hPn := k_join (ws' := (pl2W cy a (upr (upr (upr (upr (upr (upr (upr (upr (upr P 0 (ups (ups (ups (ups (P 0) 0 (P 10 0)) 1 (P 10 1)) 2 (P 10 2)) 3 (P 10 3))) 1 (cpyI ((P 1)) ((P 11)) 0 (12 : Int))) 2 (cpyI ((P 2)) ((P 12)) 0 (144 : Int))) 3 (cpyI ((P 3)) ((P 13)) 0 (144 : Int))) 4 (cpyI ((P 4)) ((P 14)) 0 (144 : Int))) 5 (cpyI ((P 5)) ((P 15)) 0 (12 : Int))) 6 (cpyI ((P 6)) ((P 16)) 0 (12 : Int))) 7 (cpyI ((P 7)) ((P 17)) 0 (12 : Int))) 8 (cpyI ((P 8)) ((P 18)) 0 (10 : Int))))) hP hD [17, 8] [none, none, none, none, none, none, none, none, some 1, none, none, none, none, none, none, none, none, some 0] rfl hk1 hP1 rfl rfl
    clear hP hD hS hP1 hD1 hk1
    have hP := hPn
    have hD := hDn
    have hS := hS1
    clear hPn hDn hS1
    generalize H1 = H at hP hS ⊢
    generalize locs1 = locs at hS ⊢
    exact W.vret hx hb hr (fun t9 ht _ => ⟨⟨(upr (upr (upr (upr (upr (upr (upr (upr (upr P 0 (ups (ups (ups (ups (P 0) 0 (P 10 0)) 1 (P 10 1)) 2 (P 10 2)) 3 (P 10 3))) 1 (cpyI ((P 1)) ((P 11)) 0 (12 : Int))) 2 (cpyI ((P 2)) ((P 12)) 0 (144 : Int))) 3 (cpyI ((P 3)) ((P 13)) 0 (144 : Int))) 4 (cpyI ((P 4)) ((P 14)) 0 (144 : Int))) 5 (cpyI ((P 5)) ((P 15)) 0 (12 : Int))) 6 (cpyI ((P 6)) ((P 16)) 0 (12 : Int))) 7 (cpyI ((P 7)) ((P 17)) 0 (12 : Int))) 8 (cpyI ((P 8)) ((P 18)) 0 (10 : Int))), rfl, (rfl : (upr (upr (upr (upr (upr (upr (upr (upr (upr P 0 (ups (ups (ups (ups (P 0) 0 (P 10 0)) 1 (P 10 1)) 2 (P 10 2)) 3 (P 10 3))) 1 (cpyI ((P 1)) ((P 11)) 0 (12 : Int))) 2 (cpyI ((P 2)) ((P 12)) 0 (144 : Int))) 3 (cpyI ((P 3)) ((P 13)) 0 (144 : Int))) 4 (cpyI ((P 4)) ((P 14)) 0 (144 : Int))) 5 (cpyI ((P 5)) ((P 15)) 0 (12 : Int))) 6 (cpyI ((P 6)) ((P 16)) 0 (12 : Int))) 7 (cpyI ((P 7)) ((P 17)) 0 (12 : Int))) 8 (cpyI ((P 8)) ((P 18)) 0 (10 : Int))) = (upr (upr (upr (upr (upr (upr (upr (upr (upr P 0 (ups (ups (ups (ups (P 0) 0 (P 10 0)) 1 (P 10 1)) 2 (P 10 2)) 3 (P 10 3))) 1 (cpyI (P 1) (P 11) 0 12)) 2 (cpyI (P 2) (P 12) 0 144)) 3 (cpyI (P 3) (P 13) 0 144)) 4 (cpyI (P 4) (P 14) 0 144)) 5 (cpyI (P 5) (P 15) 0 12)) 6 (cpyI (P 6) (P 16) 0 12)) 7 (cpyI (P 7) (P 17) 0 12)) 8 (cpyI (P 8) (P 18) 0 10))), by rw [ht]; exact hP, hD⟩, hS.F ht⟩) hS.2.2 dX4_copyFrom_120 hlocks
  exact hbody s.heap [] hP hS ls hl
